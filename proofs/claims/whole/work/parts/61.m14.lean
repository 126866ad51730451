theorem sub_eq0 {a b : Int64} : a - b = 0 ↔ a = b := by
  constructor
  · intro h
    have : a - b + b = 0 + b := by rw [h]
    rwa [Int64.sub_add_cancel, Int64.zero_add] at this
  · intro h; rw [h, Int64.sub_self]
section BB
variable {D : Nat → Nat → Int32} {nv nr ns v w k b : Nat}
theorem gd_f : ∀ n, k ≤ n → gd D nv nr ns v w k b = false → gd D nv nr ns v w n b = false
  | 0, h, hf => by rw [show k = 0 by omega] at hf; exact hf
  | n + 1, h, hf => by
    by_cases e : k = n + 1
    · rw [e] at hf; exact hf
    · have ih := gd_f n (by omega) hf
      unfold gd at ih ⊢
      rw [gdA, ← Bool.and_assoc, ih]; rfl
theorem gd_s (h : gd D nv nr ns v w k b = true) : gd D nv nr ns v w (k + 1) b = (!LW D nv nr ns k || okB D nv nr ns v w k b) := by
  unfold gd at h ⊢
  rw [gdA, ← Bool.and_assoc, h, Bool.true_and]
end BB
/-- the model's marks behind k steps -/
def LDM (I : Nat → Nat → Int32) (D : Nat → Nat → Int32) (nv nr ns go k : Nat) : Prop := ∀ b, 256 - k ≤ b → b < 256 → I 87 b = b2 (ldF D nv nr ns go k b)
section LM
variable {D : Nat → Nat → Int32} {nv nr ns go k b : Nat} {I I' : Nat → Nat → Int32}
theorem LDM.st {y : Int32} (h : LDM I D nv nr ns go k) (hk : k < 256) (hy : y = b2 (ldF D nv nr ns go (k + 1) (255 - k))) : LDM (up2 I 87 (255 - k) y) D nv nr ns go (k + 1) := fun b h1 h2 => by
  by_cases eb : b = 255 - k
  · subst eb; rw [up2_s]; exact hy
  · rw [up2_e eb, ldF_o eb]; exact h b (by omega) h2
/-- the mark of b, the first c choices being looked at -/
noncomputable def wv (D : Nat → Nat → Int32) (nv nr ns go b : Nat) (ld : Nat → Bool) (c : Nat) : Bool := (decide (b = go) && LW D nv nr ns b) || decide (lf (nxB go b ld) c < c)
theorem lf_lt {P : Nat → Bool} : ∀ c, lf P (c + 1) < c + 1 ↔ (lf P c < c ∨ P c = true) := fun c => by
  have h := lf_le P c
  constructor
  · intro z
    rcases Nat.lt_or_ge (lf P c) c with y | y
    · exact Or.inl y
    · right
      by_cases q : P c = true
      · exact q
      · rw [lf, if_neg (by omega), if_neg q] at z; omega
  · rintro (z | z)
    · rw [lf, if_pos z]; omega
    · by_cases y : lf P c < c
      · rw [lf, if_pos y]; omega
      · rw [lf, if_neg y, if_pos z]; omega
theorem wv_s {ld : Nat → Bool} {c : Nat} : wv D nv nr ns go b ld (c + 1) = (wv D nv nr ns go b ld c || nxB go b ld c) := by
  unfold wv
  have e : decide (lf (nxB go b ld) (c + 1) < c + 1) = (decide (lf (nxB go b ld) c < c) || nxB go b ld c) := by
    cases hn : nxB go b ld c with
    | true => rw [Bool.or_true]; exact decide_eq_true ((lf_lt c).mpr (Or.inr hn))
    | false =>
      rw [Bool.or_false]
      by_cases z : lf (nxB go b ld) c < c
      · rw [decide_eq_true z]; exact decide_eq_true ((lf_lt c).mpr (Or.inl z))
      · rw [decide_eq_false z]; exact decide_eq_false (fun y => ((lf_lt c).mp y).elim z (fun q => by rw [hn] at q; cases q))
  rw [e, Bool.or_assoc]
end LM
/-- a closure's step: all that the set needs, the first j values being looked at -/
def NSt (D : Nat → Nat → Int32) (nr w : Nat) (s0 s : Int32) (j : Nat) : Prop := (∀ u, bt s u = true → RC D nr w u) ∧ (∀ u, bt s0 u = true → bt s u = true) ∧ ∀ z, z < j → bt s0 z = true → ∀ u, bt (nd D nr z) u = true → bt s u = true
theorem NSt.yes {D : Nat → Nat → Int32} {nr w : Nat} {s0 s : Int32} {j : Nat} (h : NSt D nr w s0 s j) (hb : bt s j = true) : NSt D nr w s0 (s ||| nd D nr j) (j + 1) := by
  refine ⟨fun u hu => ?_, fun u hu => by rw [b_or, h.2.1 u hu]; rfl, fun z hz h0 u hu => ?_⟩
  · rw [b_or, Bool.or_eq_true] at hu
    rcases hu with q | q
    · exact h.1 u q
    · exact (h.1 j hb).tl q
  · rw [b_or]
    by_cases e : z = j
    · subst e; rw [hu, Bool.or_true]
    · rw [h.2.2 z (by omega) h0 u hu]; rfl
theorem NSt.no {D : Nat → Nat → Int32} {nr w : Nat} {s0 s : Int32} {j : Nat} (h : NSt D nr w s0 s j) (hb : bt s j = false) : NSt D nr w s0 s (j + 1) := by
  refine ⟨h.1, h.2.1, fun z hz h0 u hu => ?_⟩
  by_cases e : z = j
  · subst e; rw [h.2.1 z h0] at hb; cases hb
  · exact h.2.2 z (by omega) h0 u hu
theorem l_X12_both1 {N : Nat} {S : Nat → Nat × Nat} {I : Nat → Nat → Int32} {J : Nat → Nat → Int64} {Q : Nat → Nat → Option Nat} {κ : Option Value → HP → Prop}  {D : Nat → Nat → Int32} {nv nr ns : Nat} (G1 : LDG I J D nv nr ns) {v w : Nat} (hv : v < nv) (hw : w < nv) (hn10 : nv ≤ 10) {b : Nat} {n0 : Int32} (hb : b < 256) (hk : SP E1 M_X12_both κ 297 [.ref 54, .int (nI v), .int (nI w), .int n0, .int (nI b), .int (b2 (gd D nv nr ns v w 256 b)), .retAddr 0, .retAddr 0, .retAddr 0, .retAddr 0, .retAddr 0, .retAddr 0, .retAddr 0] [] (N, S, I, J, Q) 0 0) : ∀ d : Nat, ∀ k, k + d = 256 → SP E1 M_X12_both κ 47 [.ref 54, .int (nI v), .int (nI w), .int n0, .int (nI b), .int (b2 (gd D nv nr ns v w k b)), .int (nI k), .retAddr 0, .retAddr 0, .retAddr 0, .retAddr 0, .retAddr 0, .retAddr 0] [] (N, S, I, J, Q) 0 0 := by
  intro d
  induction d with
  | zero =>
    intro k hd
    obtain rfl : k = 256 := by omega
    refine s_iload (pc' := 49) dX12_both_47 rfl rfl ?_
    refine s_sipush (pc' := 52) (v := 256) dX12_both_49 rfl (by decide) ?_
    refine s_icmpgeT (tgt := 297) dX12_both_52 (by decide) (by decide) ?_
    exact s_fg [6] rfl hk
  | succ d ih =>
    intro k hd
    refine s_iload (pc' := 49) dX12_both_47 rfl rfl ?_
    refine s_sipush (pc' := 52) (v := 256) dX12_both_49 rfl (by decide) ?_
    refine s_icmpgeF (pc' := 55) (tgt := 297) dX12_both_52 (by decide) rfl (nI_ge (b := 256) (by omega) (by decide)) ?_
    refine s_iload (pc' := 57) dX12_both_55 rfl rfl ?_
    refine s_ifeq (pc' := 60) (tgt := 297) dX12_both_57 (by decide) rfl (fun c57 => ?_) (fun c57 => ?_)
    · have hg := b2_0 c57
      refine s_fg [6] ?_ hk
      rw [hg, gd_f 256 (by omega) hg]; rfl
    · have hg := b2_1 c57
      refine s_aload_n (pc' := 61) dX12_both_60 rfl rfl ?_
      refine s_getS (pc' := 64) (b := 83) dX12_both_61 rfl (by decide) rfl (by decide) fa_X12_95_12 rfl rfl ?_
      refine s_iload (pc' := 66) dX12_both_64 rfl rfl ?_
      refine t_zald (pc' := 67) dX12_both_66 rfl sh_83 rfl (by omega) ?_
      refine s_ifne (pc' := 70) (tgt := 73) dX12_both_67 (by decide) rfl (fun c67 => ?_) (fun c67 => ?_)
      · refine s_aload_n (pc' := 74) dX12_both_73 rfl rfl ?_
        refine s_getS (pc' := 77) (b := 80) dX12_both_74 rfl (by decide) rfl (by decide) fa_X12_85_12 rfl rfl ?_
        refine s_bipush (pc' := 79) (v := 10) dX12_both_77 rfl (by decide) ?_
        refine s_iload (pc' := 81) dX12_both_79 rfl rfl ?_
        refine s_imul (pc' := 82) dX12_both_81 rfl ?_
        refine s_iload_n (pc' := 83) dX12_both_82 rfl rfl ?_
        refine s_iadd (pc' := 84) dX12_both_83 rfl ?_
        refine t_lald (pc' := 85) (q := 10 * k + v) dX12_both_84 rfl sh_80 (ix10 (by omega) (by omega)) (by omega) ?_
        refine s_aload_n (pc' := 86) dX12_both_85 rfl rfl ?_
        refine s_getS (pc' := 89) (b := 80) dX12_both_86 rfl (by decide) rfl (by decide) fa_X12_85_12 rfl rfl ?_
        refine s_bipush (pc' := 91) (v := 10) dX12_both_89 rfl (by decide) ?_
        refine s_iload (pc' := 93) dX12_both_91 rfl rfl ?_
        refine s_imul (pc' := 94) dX12_both_93 rfl ?_
        refine s_iload_n (pc' := 95) dX12_both_94 rfl rfl ?_
        refine s_iadd (pc' := 96) dX12_both_95 rfl ?_
        refine t_lald (pc' := 97) (q := 10 * b + v) dX12_both_96 rfl sh_80 (ix10 (by omega) (by omega)) (by omega) ?_
        refine s_lsub (pc' := 98) dX12_both_97 rfl ?_
        refine t_lstore (pc' := 100) (L' := [.ref 54, .int _, .int _, .int _, .int _, .int _, .int _, .long _, .retAddr _, .retAddr _, .retAddr _, .retAddr _, .retAddr _]) dX12_both_98 rfl (Nat.le_of_ble_eq_true rfl) rfl ?_
        refine s_aload_n (pc' := 101) dX12_both_100 rfl rfl ?_
        refine s_getS (pc' := 104) (b := 80) dX12_both_101 rfl (by decide) rfl (by decide) fa_X12_85_12 rfl rfl ?_
        refine s_bipush (pc' := 106) (v := 10) dX12_both_104 rfl (by decide) ?_
        refine s_iload (pc' := 108) dX12_both_106 rfl rfl ?_
        refine s_imul (pc' := 109) dX12_both_108 rfl ?_
        refine s_iload_n (pc' := 110) dX12_both_109 rfl rfl ?_
        refine s_iadd (pc' := 111) dX12_both_110 rfl ?_
        refine t_lald (pc' := 112) (q := 10 * k + w) dX12_both_111 rfl sh_80 (ix10 (by omega) (by omega)) (by omega) ?_
        refine s_aload_n (pc' := 113) dX12_both_112 rfl rfl ?_
        refine s_getS (pc' := 116) (b := 80) dX12_both_113 rfl (by decide) rfl (by decide) fa_X12_85_12 rfl rfl ?_
        refine s_bipush (pc' := 118) (v := 10) dX12_both_116 rfl (by decide) ?_
        refine s_iload (pc' := 120) dX12_both_118 rfl rfl ?_
        refine s_imul (pc' := 121) dX12_both_120 rfl ?_
        refine s_iload_n (pc' := 122) dX12_both_121 rfl rfl ?_
        refine s_iadd (pc' := 123) dX12_both_122 rfl ?_
        refine t_lald (pc' := 124) (q := 10 * b + w) dX12_both_123 rfl sh_80 (ix10 (by omega) (by omega)) (by omega) ?_
        refine s_lsub (pc' := 125) dX12_both_124 rfl ?_
        refine t_lstore (pc' := 127) (L' := [.ref 54, .int _, .int _, .int _, .int _, .int _, .int _, .long _, .retAddr _, .long _, .retAddr _, .retAddr _, .retAddr _]) dX12_both_125 rfl (Nat.le_of_ble_eq_true rfl) rfl ?_
        refine s_aload_n (pc' := 128) dX12_both_127 rfl rfl ?_
        refine s_getS (pc' := 131) (b := 80) dX12_both_128 rfl (by decide) rfl (by decide) fa_X12_85_12 rfl rfl ?_
        refine s_bipush (pc' := 133) (v := 10) dX12_both_131 rfl (by decide) ?_
        refine s_iload (pc' := 135) dX12_both_133 rfl rfl ?_
        refine s_imul (pc' := 136) dX12_both_135 rfl ?_
        refine s_iload_n (pc' := 137) dX12_both_136 rfl rfl ?_
        refine s_iadd (pc' := 138) dX12_both_137 rfl ?_
        refine t_lald (pc' := 139) (q := 10 * k + v) dX12_both_138 rfl sh_80 (ix10 (by omega) (by omega)) (by omega) ?_
        refine s_aload_n (pc' := 140) dX12_both_139 rfl rfl ?_
        refine s_getS (pc' := 143) (b := 80) dX12_both_140 rfl (by decide) rfl (by decide) fa_X12_85_12 rfl rfl ?_
        refine s_bipush (pc' := 145) (v := 10) dX12_both_143 rfl (by decide) ?_
        refine s_iload (pc' := 147) dX12_both_145 rfl rfl ?_
        refine s_imul (pc' := 148) dX12_both_147 rfl ?_
        refine s_iload_n (pc' := 149) dX12_both_148 rfl rfl ?_
        refine s_iadd (pc' := 150) dX12_both_149 rfl ?_
        refine t_lald (pc' := 151) (q := 10 * b + v) dX12_both_150 rfl sh_80 (ix10 (by omega) (by omega)) (by omega) ?_
        refine s_lcmp (pc' := 152) dX12_both_151 rfl ?_
        refine s_ifgt (pc' := 155) (tgt := 183) dX12_both_152 (by decide) rfl (fun c152 => ?_) (fun c152 => ?_)
        · refine s_iconst (pc' := 184) (v := 1) dX12_both_183 rfl (by decide) ?_
          refine s_goto (tgt := 188) dX12_both_184 (by decide) ?_
          refine t_istore (pc' := 190) (L' := [.ref 54, .int _, .int _, .int _, .int _, .int _, .int _, .long _, .retAddr _, .long _, .retAddr _, .int _, .retAddr _]) dX12_both_188 rfl (Nat.le_of_ble_eq_true rfl) rfl ?_
          refine s_aload_n (pc' := 191) dX12_both_190 rfl rfl ?_
          refine s_getS (pc' := 194) (b := 80) dX12_both_191 rfl (by decide) rfl (by decide) fa_X12_85_12 rfl rfl ?_
          refine s_bipush (pc' := 196) (v := 10) dX12_both_194 rfl (by decide) ?_
          refine s_iload (pc' := 198) dX12_both_196 rfl rfl ?_
          refine s_imul (pc' := 199) dX12_both_198 rfl ?_
          refine s_iload_n (pc' := 200) dX12_both_199 rfl rfl ?_
          refine s_iadd (pc' := 201) dX12_both_200 rfl ?_
          refine t_lald (pc' := 202) (q := 10 * k + v) dX12_both_201 rfl sh_80 (ix10 (by omega) (by omega)) (by omega) ?_
          refine s_aload_n (pc' := 203) dX12_both_202 rfl rfl ?_
          refine s_getS (pc' := 206) (b := 80) dX12_both_203 rfl (by decide) rfl (by decide) fa_X12_85_12 rfl rfl ?_
          refine s_bipush (pc' := 208) (v := 10) dX12_both_206 rfl (by decide) ?_
          refine s_iload (pc' := 210) dX12_both_208 rfl rfl ?_
          refine s_imul (pc' := 211) dX12_both_210 rfl ?_
          refine s_iload_n (pc' := 212) dX12_both_211 rfl rfl ?_
          refine s_iadd (pc' := 213) dX12_both_212 rfl ?_
          refine t_lald (pc' := 214) (q := 10 * b + v) dX12_both_213 rfl sh_80 (ix10 (by omega) (by omega)) (by omega) ?_
          refine s_lcmp (pc' := 215) dX12_both_214 rfl ?_
          refine s_iflt (pc' := 218) (tgt := 246) dX12_both_215 (by decide) rfl (fun c215 => ?_) (fun c215 => ?_)
          · refine s_iconst (pc' := 247) (v := 1) dX12_both_246 rfl (by decide) ?_
            refine s_goto (tgt := 251) dX12_both_247 (by decide) ?_
            refine t_istore (pc' := 253) (L' := [.ref 54, .int _, .int _, .int _, .int _, .int _, .int _, .long _, .retAddr _, .long _, .retAddr _, .int _, .int _]) dX12_both_251 rfl (Nat.le_of_ble_eq_true rfl) rfl ?_
            refine s_iload (pc' := 255) dX12_both_253 rfl rfl ?_
            refine s_ifeqF (pc' := 258) (tgt := 263) dX12_both_255 (by decide) rfl (by decide) ?_
            refine s_iload (pc' := 260) dX12_both_258 rfl rfl ?_
            refine s_ifeqF (pc' := 263) (tgt := 288) dX12_both_260 (by decide) rfl (by decide) ?_
            refine s_lload (pc' := 265) dX12_both_263 rfl rfl ?_
            refine s_lconst (pc' := 266) (v := 0) dX12_both_265 rfl (by decide) ?_
            refine s_lcmp (pc' := 267) dX12_both_266 rfl ?_
            refine s_ifne (pc' := 270) (tgt := 284) dX12_both_267 (by decide) rfl (fun c267 => ?_) (fun c267 => ?_)
            · refine s_iconst (pc' := 285) (v := 1) dX12_both_284 rfl (by decide) ?_
              refine s_goto (tgt := 289) dX12_both_285 (by decide) ?_
              refine t_istore (pc' := 291) (L' := [.ref 54, .int _, .int _, .int _, .int _, .int _, .int _, .long _, .retAddr _, .long _, .retAddr _, .int _, .int _]) dX12_both_289 rfl (Nat.le_of_ble_eq_true rfl) rfl ?_
              refine t_iinc (pc' := 294) (v := nI (k + 1)) (L' := [.ref 54, .int _, .int _, .int _, .int _, .int _, .int _, .long _, .retAddr _, .long _, .retAddr _, .int _, .int _]) dX12_both_291 rfl rfl (nI_inc k) rfl ?_
              refine s_goto (tgt := 47) dX12_both_294 (by decide) ?_
              rw [(G1 k (by omega)).2.2] at c67
              have hl := b2_1 (by simpa using c67)
              have a1 := (G1 k (by omega)).1 v hv
              have a2 := (G1 b hb).1 v hv
              have a3 := (G1 k (by omega)).1 w hw
              have a4 := (G1 b hb).1 w hw
              rw [lg_cmp_gt, a1, a2] at c152
              rw [lg_cmp_lt, a1, a2] at c215
              rw [Ne, lg_cmp_eq, a1, a2, sub_eq0] at c267
              simp only [Int64.lt_iff_toInt_lt, Int64.le_iff_toInt_le, ← Int64.toInt_inj] at c152 c215 c267
              have ho : okB D nv nr ns v w k b = true := by unfold okB; rw [decide_eq_true_eq]; simp only [Int64.lt_iff_toInt_lt, ← Int64.toInt_inj]; omega
              refine s_fg [7, 8, 9, 10, 11, 12] ?_ (ih (k + 1) (by omega))
              rw [gd_s hg, hl, ho]; rfl
            · refine s_lload (pc' := 272) dX12_both_270 rfl rfl ?_
              refine s_lconst (pc' := 273) (v := 0) dX12_both_272 rfl (by decide) ?_
              refine s_lcmp (pc' := 274) dX12_both_273 rfl ?_
              refine s_ifne (pc' := 277) (tgt := 284) dX12_both_274 (by decide) rfl (fun c274 => ?_) (fun c274 => ?_)
              · refine s_iconst (pc' := 285) (v := 1) dX12_both_284 rfl (by decide) ?_
                refine s_goto (tgt := 289) dX12_both_285 (by decide) ?_
                refine t_istore (pc' := 291) (L' := [.ref 54, .int _, .int _, .int _, .int _, .int _, .int _, .long _, .retAddr _, .long _, .retAddr _, .int _, .int _]) dX12_both_289 rfl (Nat.le_of_ble_eq_true rfl) rfl ?_
                refine t_iinc (pc' := 294) (v := nI (k + 1)) (L' := [.ref 54, .int _, .int _, .int _, .int _, .int _, .int _, .long _, .retAddr _, .long _, .retAddr _, .int _, .int _]) dX12_both_291 rfl rfl (nI_inc k) rfl ?_
                refine s_goto (tgt := 47) dX12_both_294 (by decide) ?_
                rw [(G1 k (by omega)).2.2] at c67
                have hl := b2_1 (by simpa using c67)
                have a1 := (G1 k (by omega)).1 v hv
                have a2 := (G1 b hb).1 v hv
                have a3 := (G1 k (by omega)).1 w hw
                have a4 := (G1 b hb).1 w hw
                rw [lg_cmp_gt, a1, a2] at c152
                rw [lg_cmp_lt, a1, a2] at c215
                rw [lg_cmp_eq, a1, a2, sub_eq0] at c267
                rw [Ne, lg_cmp_eq, a3, a4, sub_eq0] at c274
                simp only [Int64.lt_iff_toInt_lt, Int64.le_iff_toInt_le, ← Int64.toInt_inj] at c152 c215 c267 c274
                have ho : okB D nv nr ns v w k b = true := by unfold okB; rw [decide_eq_true_eq]; simp only [Int64.lt_iff_toInt_lt, ← Int64.toInt_inj]; omega
                refine s_fg [7, 8, 9, 10, 11, 12] ?_ (ih (k + 1) (by omega))
                rw [gd_s hg, hl, ho]; rfl
              · refine s_iload (pc' := 279) dX12_both_277 rfl rfl ?_
                refine s_iload (pc' := 281) dX12_both_279 rfl rfl ?_
                refine s_icmplt (pc' := 284) (tgt := 288) dX12_both_281 (by decide) rfl (fun c281 => ?_) (fun c281 => ?_)
                · refine s_iconst (pc' := 289) (v := 0) dX12_both_288 rfl (by decide) ?_
                  refine t_istore (pc' := 291) (L' := [.ref 54, .int _, .int _, .int _, .int _, .int _, .int _, .long _, .retAddr _, .long _, .retAddr _, .int _, .int _]) dX12_both_289 rfl (Nat.le_of_ble_eq_true rfl) rfl ?_
                  refine t_iinc (pc' := 294) (v := nI (k + 1)) (L' := [.ref 54, .int _, .int _, .int _, .int _, .int _, .int _, .long _, .retAddr _, .long _, .retAddr _, .int _, .int _]) dX12_both_291 rfl rfl (nI_inc k) rfl ?_
                  refine s_goto (tgt := 47) dX12_both_294 (by decide) ?_
                  rw [(G1 k (by omega)).2.2] at c67
                  have hl := b2_1 (by simpa using c67)
                  have a1 := (G1 k (by omega)).1 v hv
                  have a2 := (G1 b hb).1 v hv
                  have a3 := (G1 k (by omega)).1 w hw
                  have a4 := (G1 b hb).1 w hw
                  rw [lg_cmp_gt, a1, a2] at c152
                  rw [lg_cmp_lt, a1, a2] at c215
                  rw [lg_cmp_eq, a1, a2, sub_eq0] at c267
                  rw [lg_cmp_eq, a3, a4, sub_eq0] at c274
                  rw [nI_ltI (by omega) (by omega)] at c281
                  simp only [Int64.lt_iff_toInt_lt, Int64.le_iff_toInt_le, ← Int64.toInt_inj] at c152 c215 c267 c274
                  have ho : okB D nv nr ns v w k b = false := by unfold okB; rw [decide_eq_false_iff_not]; simp only [Int64.lt_iff_toInt_lt, ← Int64.toInt_inj]; omega
                  refine s_fg [7, 8, 9, 10, 11, 12] ?_ (ih (k + 1) (by omega))
                  rw [gd_s hg, hl, ho]; rfl
                · refine s_iconst (pc' := 285) (v := 1) dX12_both_284 rfl (by decide) ?_
                  refine s_goto (tgt := 289) dX12_both_285 (by decide) ?_
                  refine t_istore (pc' := 291) (L' := [.ref 54, .int _, .int _, .int _, .int _, .int _, .int _, .long _, .retAddr _, .long _, .retAddr _, .int _, .int _]) dX12_both_289 rfl (Nat.le_of_ble_eq_true rfl) rfl ?_
                  refine t_iinc (pc' := 294) (v := nI (k + 1)) (L' := [.ref 54, .int _, .int _, .int _, .int _, .int _, .int _, .long _, .retAddr _, .long _, .retAddr _, .int _, .int _]) dX12_both_291 rfl rfl (nI_inc k) rfl ?_
                  refine s_goto (tgt := 47) dX12_both_294 (by decide) ?_
                  rw [(G1 k (by omega)).2.2] at c67
                  have hl := b2_1 (by simpa using c67)
                  have a1 := (G1 k (by omega)).1 v hv
                  have a2 := (G1 b hb).1 v hv
                  have a3 := (G1 k (by omega)).1 w hw
                  have a4 := (G1 b hb).1 w hw
                  rw [lg_cmp_gt, a1, a2] at c152
                  rw [lg_cmp_lt, a1, a2] at c215
                  rw [lg_cmp_eq, a1, a2, sub_eq0] at c267
                  rw [lg_cmp_eq, a3, a4, sub_eq0] at c274
                  rw [nI_ltI (by omega) (by omega)] at c281
                  simp only [Int64.lt_iff_toInt_lt, Int64.le_iff_toInt_le, ← Int64.toInt_inj] at c152 c215 c267 c274
                  have ho : okB D nv nr ns v w k b = true := by unfold okB; rw [decide_eq_true_eq]; simp only [Int64.lt_iff_toInt_lt, ← Int64.toInt_inj]; omega
                  refine s_fg [7, 8, 9, 10, 11, 12] ?_ (ih (k + 1) (by omega))
                  rw [gd_s hg, hl, ho]; rfl
          · refine s_aload_n (pc' := 219) dX12_both_218 rfl rfl ?_
            refine s_getS (pc' := 222) (b := 80) dX12_both_219 rfl (by decide) rfl (by decide) fa_X12_85_12 rfl rfl ?_
            refine s_bipush (pc' := 224) (v := 10) dX12_both_222 rfl (by decide) ?_
            refine s_iload (pc' := 226) dX12_both_224 rfl rfl ?_
            refine s_imul (pc' := 227) dX12_both_226 rfl ?_
            refine s_iload_n (pc' := 228) dX12_both_227 rfl rfl ?_
            refine s_iadd (pc' := 229) dX12_both_228 rfl ?_
            refine t_lald (pc' := 230) (q := 10 * k + w) dX12_both_229 rfl sh_80 (ix10 (by omega) (by omega)) (by omega) ?_
            refine s_aload_n (pc' := 231) dX12_both_230 rfl rfl ?_
            refine s_getS (pc' := 234) (b := 80) dX12_both_231 rfl (by decide) rfl (by decide) fa_X12_85_12 rfl rfl ?_
            refine s_bipush (pc' := 236) (v := 10) dX12_both_234 rfl (by decide) ?_
            refine s_iload (pc' := 238) dX12_both_236 rfl rfl ?_
            refine s_imul (pc' := 239) dX12_both_238 rfl ?_
            refine s_iload_n (pc' := 240) dX12_both_239 rfl rfl ?_
            refine s_iadd (pc' := 241) dX12_both_240 rfl ?_
            refine t_lald (pc' := 242) (q := 10 * b + w) dX12_both_241 rfl sh_80 (ix10 (by omega) (by omega)) (by omega) ?_
            refine s_lcmp (pc' := 243) dX12_both_242 rfl ?_
            refine s_ifge (pc' := 246) (tgt := 250) dX12_both_243 (by decide) rfl (fun c243 => ?_) (fun c243 => ?_)
            · refine s_iconst (pc' := 251) (v := 0) dX12_both_250 rfl (by decide) ?_
              refine t_istore (pc' := 253) (L' := [.ref 54, .int _, .int _, .int _, .int _, .int _, .int _, .long _, .retAddr _, .long _, .retAddr _, .int _, .int _]) dX12_both_251 rfl (Nat.le_of_ble_eq_true rfl) rfl ?_
              refine s_iload (pc' := 255) dX12_both_253 rfl rfl ?_
              refine s_ifeqF (pc' := 258) (tgt := 263) dX12_both_255 (by decide) rfl (by decide) ?_
              refine s_iload (pc' := 260) dX12_both_258 rfl rfl ?_
              refine s_ifeqT (tgt := 288) dX12_both_260 (by decide) (by decide) ?_
              refine s_iconst (pc' := 289) (v := 0) dX12_both_288 rfl (by decide) ?_
              refine t_istore (pc' := 291) (L' := [.ref 54, .int _, .int _, .int _, .int _, .int _, .int _, .long _, .retAddr _, .long _, .retAddr _, .int _, .int _]) dX12_both_289 rfl (Nat.le_of_ble_eq_true rfl) rfl ?_
              refine t_iinc (pc' := 294) (v := nI (k + 1)) (L' := [.ref 54, .int _, .int _, .int _, .int _, .int _, .int _, .long _, .retAddr _, .long _, .retAddr _, .int _, .int _]) dX12_both_291 rfl rfl (nI_inc k) rfl ?_
              refine s_goto (tgt := 47) dX12_both_294 (by decide) ?_
              rw [(G1 k (by omega)).2.2] at c67
              have hl := b2_1 (by simpa using c67)
              have a1 := (G1 k (by omega)).1 v hv
              have a2 := (G1 b hb).1 v hv
              have a3 := (G1 k (by omega)).1 w hw
              have a4 := (G1 b hb).1 w hw
              rw [lg_cmp_gt, a1, a2] at c152
              rw [lg_cmp_lt, a1, a2] at c215
              rw [lg_cmp_ge, a3, a4] at c243
              simp only [Int64.lt_iff_toInt_lt, Int64.le_iff_toInt_le, ← Int64.toInt_inj] at c152 c215 c243
              have ho : okB D nv nr ns v w k b = false := by unfold okB; rw [decide_eq_false_iff_not]; simp only [Int64.lt_iff_toInt_lt, ← Int64.toInt_inj]; omega
              refine s_fg [7, 8, 9, 10, 11, 12] ?_ (ih (k + 1) (by omega))
              rw [gd_s hg, hl, ho]; rfl
            · refine s_iconst (pc' := 247) (v := 1) dX12_both_246 rfl (by decide) ?_
              refine s_goto (tgt := 251) dX12_both_247 (by decide) ?_
              refine t_istore (pc' := 253) (L' := [.ref 54, .int _, .int _, .int _, .int _, .int _, .int _, .long _, .retAddr _, .long _, .retAddr _, .int _, .int _]) dX12_both_251 rfl (Nat.le_of_ble_eq_true rfl) rfl ?_
              refine s_iload (pc' := 255) dX12_both_253 rfl rfl ?_
              refine s_ifeqF (pc' := 258) (tgt := 263) dX12_both_255 (by decide) rfl (by decide) ?_
              refine s_iload (pc' := 260) dX12_both_258 rfl rfl ?_
              refine s_ifeqF (pc' := 263) (tgt := 288) dX12_both_260 (by decide) rfl (by decide) ?_
              refine s_lload (pc' := 265) dX12_both_263 rfl rfl ?_
              refine s_lconst (pc' := 266) (v := 0) dX12_both_265 rfl (by decide) ?_
              refine s_lcmp (pc' := 267) dX12_both_266 rfl ?_
              refine s_ifne (pc' := 270) (tgt := 284) dX12_both_267 (by decide) rfl (fun c267 => ?_) (fun c267 => ?_)
              · refine s_iconst (pc' := 285) (v := 1) dX12_both_284 rfl (by decide) ?_
                refine s_goto (tgt := 289) dX12_both_285 (by decide) ?_
                refine t_istore (pc' := 291) (L' := [.ref 54, .int _, .int _, .int _, .int _, .int _, .int _, .long _, .retAddr _, .long _, .retAddr _, .int _, .int _]) dX12_both_289 rfl (Nat.le_of_ble_eq_true rfl) rfl ?_
                refine t_iinc (pc' := 294) (v := nI (k + 1)) (L' := [.ref 54, .int _, .int _, .int _, .int _, .int _, .int _, .long _, .retAddr _, .long _, .retAddr _, .int _, .int _]) dX12_both_291 rfl rfl (nI_inc k) rfl ?_
                refine s_goto (tgt := 47) dX12_both_294 (by decide) ?_
                rw [(G1 k (by omega)).2.2] at c67
                have hl := b2_1 (by simpa using c67)
                have a1 := (G1 k (by omega)).1 v hv
                have a2 := (G1 b hb).1 v hv
                have a3 := (G1 k (by omega)).1 w hw
                have a4 := (G1 b hb).1 w hw
                rw [lg_cmp_gt, a1, a2] at c152
                rw [lg_cmp_lt, a1, a2] at c215
                rw [lg_cmp_ge, a3, a4] at c243
                rw [Ne, lg_cmp_eq, a1, a2, sub_eq0] at c267
                simp only [Int64.lt_iff_toInt_lt, Int64.le_iff_toInt_le, ← Int64.toInt_inj] at c152 c215 c243 c267
                have ho : okB D nv nr ns v w k b = true := by unfold okB; rw [decide_eq_true_eq]; simp only [Int64.lt_iff_toInt_lt, ← Int64.toInt_inj]; omega
                refine s_fg [7, 8, 9, 10, 11, 12] ?_ (ih (k + 1) (by omega))
                rw [gd_s hg, hl, ho]; rfl
              · refine s_lload (pc' := 272) dX12_both_270 rfl rfl ?_
                refine s_lconst (pc' := 273) (v := 0) dX12_both_272 rfl (by decide) ?_
                refine s_lcmp (pc' := 274) dX12_both_273 rfl ?_
                refine s_ifne (pc' := 277) (tgt := 284) dX12_both_274 (by decide) rfl (fun c274 => ?_) (fun c274 => ?_)
                · refine s_iconst (pc' := 285) (v := 1) dX12_both_284 rfl (by decide) ?_
                  refine s_goto (tgt := 289) dX12_both_285 (by decide) ?_
                  refine t_istore (pc' := 291) (L' := [.ref 54, .int _, .int _, .int _, .int _, .int _, .int _, .long _, .retAddr _, .long _, .retAddr _, .int _, .int _]) dX12_both_289 rfl (Nat.le_of_ble_eq_true rfl) rfl ?_
                  refine t_iinc (pc' := 294) (v := nI (k + 1)) (L' := [.ref 54, .int _, .int _, .int _, .int _, .int _, .int _, .long _, .retAddr _, .long _, .retAddr _, .int _, .int _]) dX12_both_291 rfl rfl (nI_inc k) rfl ?_
                  refine s_goto (tgt := 47) dX12_both_294 (by decide) ?_
                  rw [(G1 k (by omega)).2.2] at c67
                  have hl := b2_1 (by simpa using c67)
                  have a1 := (G1 k (by omega)).1 v hv
                  have a2 := (G1 b hb).1 v hv
                  have a3 := (G1 k (by omega)).1 w hw
                  have a4 := (G1 b hb).1 w hw
                  rw [lg_cmp_gt, a1, a2] at c152
                  rw [lg_cmp_lt, a1, a2] at c215
                  rw [lg_cmp_ge, a3, a4] at c243
                  rw [lg_cmp_eq, a1, a2, sub_eq0] at c267
                  rw [Ne, lg_cmp_eq, a3, a4, sub_eq0] at c274
                  simp only [Int64.lt_iff_toInt_lt, Int64.le_iff_toInt_le, ← Int64.toInt_inj] at c152 c215 c243 c267 c274
                  have ho : okB D nv nr ns v w k b = true := by unfold okB; rw [decide_eq_true_eq]; simp only [Int64.lt_iff_toInt_lt, ← Int64.toInt_inj]; omega
                  refine s_fg [7, 8, 9, 10, 11, 12] ?_ (ih (k + 1) (by omega))
                  rw [gd_s hg, hl, ho]; rfl
                · refine s_iload (pc' := 279) dX12_both_277 rfl rfl ?_
                  refine s_iload (pc' := 281) dX12_both_279 rfl rfl ?_
                  refine s_icmplt (pc' := 284) (tgt := 288) dX12_both_281 (by decide) rfl (fun c281 => ?_) (fun c281 => ?_)
                  · refine s_iconst (pc' := 289) (v := 0) dX12_both_288 rfl (by decide) ?_
                    refine t_istore (pc' := 291) (L' := [.ref 54, .int _, .int _, .int _, .int _, .int _, .int _, .long _, .retAddr _, .long _, .retAddr _, .int _, .int _]) dX12_both_289 rfl (Nat.le_of_ble_eq_true rfl) rfl ?_
                    refine t_iinc (pc' := 294) (v := nI (k + 1)) (L' := [.ref 54, .int _, .int _, .int _, .int _, .int _, .int _, .long _, .retAddr _, .long _, .retAddr _, .int _, .int _]) dX12_both_291 rfl rfl (nI_inc k) rfl ?_
                    refine s_goto (tgt := 47) dX12_both_294 (by decide) ?_
                    rw [(G1 k (by omega)).2.2] at c67
                    have hl := b2_1 (by simpa using c67)
                    have a1 := (G1 k (by omega)).1 v hv
                    have a2 := (G1 b hb).1 v hv
                    have a3 := (G1 k (by omega)).1 w hw
                    have a4 := (G1 b hb).1 w hw
                    rw [lg_cmp_gt, a1, a2] at c152
                    rw [lg_cmp_lt, a1, a2] at c215
                    rw [lg_cmp_ge, a3, a4] at c243
                    rw [lg_cmp_eq, a1, a2, sub_eq0] at c267
                    rw [lg_cmp_eq, a3, a4, sub_eq0] at c274
                    rw [nI_ltI (by omega) (by omega)] at c281
                    simp only [Int64.lt_iff_toInt_lt, Int64.le_iff_toInt_le, ← Int64.toInt_inj] at c152 c215 c243 c267 c274
                    have ho : okB D nv nr ns v w k b = false := by unfold okB; rw [decide_eq_false_iff_not]; simp only [Int64.lt_iff_toInt_lt, ← Int64.toInt_inj]; omega
                    refine s_fg [7, 8, 9, 10, 11, 12] ?_ (ih (k + 1) (by omega))
                    rw [gd_s hg, hl, ho]; rfl
                  · refine s_iconst (pc' := 285) (v := 1) dX12_both_284 rfl (by decide) ?_
                    refine s_goto (tgt := 289) dX12_both_285 (by decide) ?_
                    refine t_istore (pc' := 291) (L' := [.ref 54, .int _, .int _, .int _, .int _, .int _, .int _, .long _, .retAddr _, .long _, .retAddr _, .int _, .int _]) dX12_both_289 rfl (Nat.le_of_ble_eq_true rfl) rfl ?_
                    refine t_iinc (pc' := 294) (v := nI (k + 1)) (L' := [.ref 54, .int _, .int _, .int _, .int _, .int _, .int _, .long _, .retAddr _, .long _, .retAddr _, .int _, .int _]) dX12_both_291 rfl rfl (nI_inc k) rfl ?_
                    refine s_goto (tgt := 47) dX12_both_294 (by decide) ?_
                    rw [(G1 k (by omega)).2.2] at c67
                    have hl := b2_1 (by simpa using c67)
                    have a1 := (G1 k (by omega)).1 v hv
                    have a2 := (G1 b hb).1 v hv
                    have a3 := (G1 k (by omega)).1 w hw
                    have a4 := (G1 b hb).1 w hw
                    rw [lg_cmp_gt, a1, a2] at c152
                    rw [lg_cmp_lt, a1, a2] at c215
                    rw [lg_cmp_ge, a3, a4] at c243
                    rw [lg_cmp_eq, a1, a2, sub_eq0] at c267
                    rw [lg_cmp_eq, a3, a4, sub_eq0] at c274
                    rw [nI_ltI (by omega) (by omega)] at c281
                    simp only [Int64.lt_iff_toInt_lt, Int64.le_iff_toInt_le, ← Int64.toInt_inj] at c152 c215 c243 c267 c274
                    have ho : okB D nv nr ns v w k b = true := by unfold okB; rw [decide_eq_true_eq]; simp only [Int64.lt_iff_toInt_lt, ← Int64.toInt_inj]; omega
                    refine s_fg [7, 8, 9, 10, 11, 12] ?_ (ih (k + 1) (by omega))
                    rw [gd_s hg, hl, ho]; rfl
        · refine s_aload_n (pc' := 156) dX12_both_155 rfl rfl ?_
          refine s_getS (pc' := 159) (b := 80) dX12_both_156 rfl (by decide) rfl (by decide) fa_X12_85_12 rfl rfl ?_
          refine s_bipush (pc' := 161) (v := 10) dX12_both_159 rfl (by decide) ?_
          refine s_iload (pc' := 163) dX12_both_161 rfl rfl ?_
          refine s_imul (pc' := 164) dX12_both_163 rfl ?_
          refine s_iload_n (pc' := 165) dX12_both_164 rfl rfl ?_
          refine s_iadd (pc' := 166) dX12_both_165 rfl ?_
          refine t_lald (pc' := 167) (q := 10 * k + w) dX12_both_166 rfl sh_80 (ix10 (by omega) (by omega)) (by omega) ?_
          refine s_aload_n (pc' := 168) dX12_both_167 rfl rfl ?_
          refine s_getS (pc' := 171) (b := 80) dX12_both_168 rfl (by decide) rfl (by decide) fa_X12_85_12 rfl rfl ?_
          refine s_bipush (pc' := 173) (v := 10) dX12_both_171 rfl (by decide) ?_
          refine s_iload (pc' := 175) dX12_both_173 rfl rfl ?_
          refine s_imul (pc' := 176) dX12_both_175 rfl ?_
          refine s_iload_n (pc' := 177) dX12_both_176 rfl rfl ?_
          refine s_iadd (pc' := 178) dX12_both_177 rfl ?_
          refine t_lald (pc' := 179) (q := 10 * b + w) dX12_both_178 rfl sh_80 (ix10 (by omega) (by omega)) (by omega) ?_
          refine s_lcmp (pc' := 180) dX12_both_179 rfl ?_
          refine s_ifle (pc' := 183) (tgt := 187) dX12_both_180 (by decide) rfl (fun c180 => ?_) (fun c180 => ?_)
          · refine s_iconst (pc' := 188) (v := 0) dX12_both_187 rfl (by decide) ?_
            refine t_istore (pc' := 190) (L' := [.ref 54, .int _, .int _, .int _, .int _, .int _, .int _, .long _, .retAddr _, .long _, .retAddr _, .int _, .retAddr _]) dX12_both_188 rfl (Nat.le_of_ble_eq_true rfl) rfl ?_
            refine s_aload_n (pc' := 191) dX12_both_190 rfl rfl ?_
            refine s_getS (pc' := 194) (b := 80) dX12_both_191 rfl (by decide) rfl (by decide) fa_X12_85_12 rfl rfl ?_
            refine s_bipush (pc' := 196) (v := 10) dX12_both_194 rfl (by decide) ?_
            refine s_iload (pc' := 198) dX12_both_196 rfl rfl ?_
            refine s_imul (pc' := 199) dX12_both_198 rfl ?_
            refine s_iload_n (pc' := 200) dX12_both_199 rfl rfl ?_
            refine s_iadd (pc' := 201) dX12_both_200 rfl ?_
            refine t_lald (pc' := 202) (q := 10 * k + v) dX12_both_201 rfl sh_80 (ix10 (by omega) (by omega)) (by omega) ?_
            refine s_aload_n (pc' := 203) dX12_both_202 rfl rfl ?_
            refine s_getS (pc' := 206) (b := 80) dX12_both_203 rfl (by decide) rfl (by decide) fa_X12_85_12 rfl rfl ?_
            refine s_bipush (pc' := 208) (v := 10) dX12_both_206 rfl (by decide) ?_
            refine s_iload (pc' := 210) dX12_both_208 rfl rfl ?_
            refine s_imul (pc' := 211) dX12_both_210 rfl ?_
            refine s_iload_n (pc' := 212) dX12_both_211 rfl rfl ?_
            refine s_iadd (pc' := 213) dX12_both_212 rfl ?_
            refine t_lald (pc' := 214) (q := 10 * b + v) dX12_both_213 rfl sh_80 (ix10 (by omega) (by omega)) (by omega) ?_
            refine s_lcmp (pc' := 215) dX12_both_214 rfl ?_
            refine s_iflt (pc' := 218) (tgt := 246) dX12_both_215 (by decide) rfl (fun c215 => ?_) (fun c215 => ?_)
            · refine s_iconst (pc' := 247) (v := 1) dX12_both_246 rfl (by decide) ?_
              refine s_goto (tgt := 251) dX12_both_247 (by decide) ?_
              refine t_istore (pc' := 253) (L' := [.ref 54, .int _, .int _, .int _, .int _, .int _, .int _, .long _, .retAddr _, .long _, .retAddr _, .int _, .int _]) dX12_both_251 rfl (Nat.le_of_ble_eq_true rfl) rfl ?_
              refine s_iload (pc' := 255) dX12_both_253 rfl rfl ?_
              refine s_ifeqT (tgt := 263) dX12_both_255 (by decide) (by decide) ?_
              refine s_lload (pc' := 265) dX12_both_263 rfl rfl ?_
              refine s_lconst (pc' := 266) (v := 0) dX12_both_265 rfl (by decide) ?_
              refine s_lcmp (pc' := 267) dX12_both_266 rfl ?_
              refine s_ifne (pc' := 270) (tgt := 284) dX12_both_267 (by decide) rfl (fun c267 => ?_) (fun c267 => ?_)
              · refine s_iconst (pc' := 285) (v := 1) dX12_both_284 rfl (by decide) ?_
                refine s_goto (tgt := 289) dX12_both_285 (by decide) ?_
                refine t_istore (pc' := 291) (L' := [.ref 54, .int _, .int _, .int _, .int _, .int _, .int _, .long _, .retAddr _, .long _, .retAddr _, .int _, .int _]) dX12_both_289 rfl (Nat.le_of_ble_eq_true rfl) rfl ?_
                refine t_iinc (pc' := 294) (v := nI (k + 1)) (L' := [.ref 54, .int _, .int _, .int _, .int _, .int _, .int _, .long _, .retAddr _, .long _, .retAddr _, .int _, .int _]) dX12_both_291 rfl rfl (nI_inc k) rfl ?_
                refine s_goto (tgt := 47) dX12_both_294 (by decide) ?_
                rw [(G1 k (by omega)).2.2] at c67
                have hl := b2_1 (by simpa using c67)
                have a1 := (G1 k (by omega)).1 v hv
                have a2 := (G1 b hb).1 v hv
                have a3 := (G1 k (by omega)).1 w hw
                have a4 := (G1 b hb).1 w hw
                rw [lg_cmp_gt, a1, a2] at c152
                rw [lg_cmp_le, a3, a4] at c180
                rw [lg_cmp_lt, a1, a2] at c215
                rw [Ne, lg_cmp_eq, a1, a2, sub_eq0] at c267
                simp only [Int64.lt_iff_toInt_lt, Int64.le_iff_toInt_le, ← Int64.toInt_inj] at c152 c180 c215 c267
                have ho : okB D nv nr ns v w k b = true := by unfold okB; rw [decide_eq_true_eq]; simp only [Int64.lt_iff_toInt_lt, ← Int64.toInt_inj]; omega
                refine s_fg [7, 8, 9, 10, 11, 12] ?_ (ih (k + 1) (by omega))
                rw [gd_s hg, hl, ho]; rfl
              · refine s_lload (pc' := 272) dX12_both_270 rfl rfl ?_
                refine s_lconst (pc' := 273) (v := 0) dX12_both_272 rfl (by decide) ?_
                refine s_lcmp (pc' := 274) dX12_both_273 rfl ?_
                refine s_ifne (pc' := 277) (tgt := 284) dX12_both_274 (by decide) rfl (fun c274 => ?_) (fun c274 => ?_)
                · refine s_iconst (pc' := 285) (v := 1) dX12_both_284 rfl (by decide) ?_
                  refine s_goto (tgt := 289) dX12_both_285 (by decide) ?_
                  refine t_istore (pc' := 291) (L' := [.ref 54, .int _, .int _, .int _, .int _, .int _, .int _, .long _, .retAddr _, .long _, .retAddr _, .int _, .int _]) dX12_both_289 rfl (Nat.le_of_ble_eq_true rfl) rfl ?_
                  refine t_iinc (pc' := 294) (v := nI (k + 1)) (L' := [.ref 54, .int _, .int _, .int _, .int _, .int _, .int _, .long _, .retAddr _, .long _, .retAddr _, .int _, .int _]) dX12_both_291 rfl rfl (nI_inc k) rfl ?_
                  refine s_goto (tgt := 47) dX12_both_294 (by decide) ?_
                  rw [(G1 k (by omega)).2.2] at c67
                  have hl := b2_1 (by simpa using c67)
                  have a1 := (G1 k (by omega)).1 v hv
                  have a2 := (G1 b hb).1 v hv
                  have a3 := (G1 k (by omega)).1 w hw
                  have a4 := (G1 b hb).1 w hw
                  rw [lg_cmp_gt, a1, a2] at c152
                  rw [lg_cmp_le, a3, a4] at c180
                  rw [lg_cmp_lt, a1, a2] at c215
                  rw [lg_cmp_eq, a1, a2, sub_eq0] at c267
                  rw [Ne, lg_cmp_eq, a3, a4, sub_eq0] at c274
                  simp only [Int64.lt_iff_toInt_lt, Int64.le_iff_toInt_le, ← Int64.toInt_inj] at c152 c180 c215 c267 c274
                  have ho : okB D nv nr ns v w k b = true := by unfold okB; rw [decide_eq_true_eq]; simp only [Int64.lt_iff_toInt_lt, ← Int64.toInt_inj]; omega
                  refine s_fg [7, 8, 9, 10, 11, 12] ?_ (ih (k + 1) (by omega))
                  rw [gd_s hg, hl, ho]; rfl
                · refine s_iload (pc' := 279) dX12_both_277 rfl rfl ?_
                  refine s_iload (pc' := 281) dX12_both_279 rfl rfl ?_
                  refine s_icmplt (pc' := 284) (tgt := 288) dX12_both_281 (by decide) rfl (fun c281 => ?_) (fun c281 => ?_)
                  · refine s_iconst (pc' := 289) (v := 0) dX12_both_288 rfl (by decide) ?_
                    refine t_istore (pc' := 291) (L' := [.ref 54, .int _, .int _, .int _, .int _, .int _, .int _, .long _, .retAddr _, .long _, .retAddr _, .int _, .int _]) dX12_both_289 rfl (Nat.le_of_ble_eq_true rfl) rfl ?_
                    refine t_iinc (pc' := 294) (v := nI (k + 1)) (L' := [.ref 54, .int _, .int _, .int _, .int _, .int _, .int _, .long _, .retAddr _, .long _, .retAddr _, .int _, .int _]) dX12_both_291 rfl rfl (nI_inc k) rfl ?_
                    refine s_goto (tgt := 47) dX12_both_294 (by decide) ?_
                    rw [(G1 k (by omega)).2.2] at c67
                    have hl := b2_1 (by simpa using c67)
                    have a1 := (G1 k (by omega)).1 v hv
                    have a2 := (G1 b hb).1 v hv
                    have a3 := (G1 k (by omega)).1 w hw
                    have a4 := (G1 b hb).1 w hw
                    rw [lg_cmp_gt, a1, a2] at c152
                    rw [lg_cmp_le, a3, a4] at c180
                    rw [lg_cmp_lt, a1, a2] at c215
                    rw [lg_cmp_eq, a1, a2, sub_eq0] at c267
                    rw [lg_cmp_eq, a3, a4, sub_eq0] at c274
                    rw [nI_ltI (by omega) (by omega)] at c281
                    simp only [Int64.lt_iff_toInt_lt, Int64.le_iff_toInt_le, ← Int64.toInt_inj] at c152 c180 c215 c267 c274
                    have ho : okB D nv nr ns v w k b = false := by unfold okB; rw [decide_eq_false_iff_not]; simp only [Int64.lt_iff_toInt_lt, ← Int64.toInt_inj]; omega
                    refine s_fg [7, 8, 9, 10, 11, 12] ?_ (ih (k + 1) (by omega))
                    rw [gd_s hg, hl, ho]; rfl
                  · refine s_iconst (pc' := 285) (v := 1) dX12_both_284 rfl (by decide) ?_
                    refine s_goto (tgt := 289) dX12_both_285 (by decide) ?_
                    refine t_istore (pc' := 291) (L' := [.ref 54, .int _, .int _, .int _, .int _, .int _, .int _, .long _, .retAddr _, .long _, .retAddr _, .int _, .int _]) dX12_both_289 rfl (Nat.le_of_ble_eq_true rfl) rfl ?_
                    refine t_iinc (pc' := 294) (v := nI (k + 1)) (L' := [.ref 54, .int _, .int _, .int _, .int _, .int _, .int _, .long _, .retAddr _, .long _, .retAddr _, .int _, .int _]) dX12_both_291 rfl rfl (nI_inc k) rfl ?_
                    refine s_goto (tgt := 47) dX12_both_294 (by decide) ?_
                    rw [(G1 k (by omega)).2.2] at c67
                    have hl := b2_1 (by simpa using c67)
                    have a1 := (G1 k (by omega)).1 v hv
                    have a2 := (G1 b hb).1 v hv
                    have a3 := (G1 k (by omega)).1 w hw
                    have a4 := (G1 b hb).1 w hw
                    rw [lg_cmp_gt, a1, a2] at c152
                    rw [lg_cmp_le, a3, a4] at c180
                    rw [lg_cmp_lt, a1, a2] at c215
                    rw [lg_cmp_eq, a1, a2, sub_eq0] at c267
                    rw [lg_cmp_eq, a3, a4, sub_eq0] at c274
                    rw [nI_ltI (by omega) (by omega)] at c281
                    simp only [Int64.lt_iff_toInt_lt, Int64.le_iff_toInt_le, ← Int64.toInt_inj] at c152 c180 c215 c267 c274
                    have ho : okB D nv nr ns v w k b = true := by unfold okB; rw [decide_eq_true_eq]; simp only [Int64.lt_iff_toInt_lt, ← Int64.toInt_inj]; omega
                    refine s_fg [7, 8, 9, 10, 11, 12] ?_ (ih (k + 1) (by omega))
                    rw [gd_s hg, hl, ho]; rfl
            · refine s_aload_n (pc' := 219) dX12_both_218 rfl rfl ?_
              refine s_getS (pc' := 222) (b := 80) dX12_both_219 rfl (by decide) rfl (by decide) fa_X12_85_12 rfl rfl ?_
              refine s_bipush (pc' := 224) (v := 10) dX12_both_222 rfl (by decide) ?_
              refine s_iload (pc' := 226) dX12_both_224 rfl rfl ?_
              refine s_imul (pc' := 227) dX12_both_226 rfl ?_
              refine s_iload_n (pc' := 228) dX12_both_227 rfl rfl ?_
              refine s_iadd (pc' := 229) dX12_both_228 rfl ?_
              refine t_lald (pc' := 230) (q := 10 * k + w) dX12_both_229 rfl sh_80 (ix10 (by omega) (by omega)) (by omega) ?_
              refine s_aload_n (pc' := 231) dX12_both_230 rfl rfl ?_
              refine s_getS (pc' := 234) (b := 80) dX12_both_231 rfl (by decide) rfl (by decide) fa_X12_85_12 rfl rfl ?_
              refine s_bipush (pc' := 236) (v := 10) dX12_both_234 rfl (by decide) ?_
              refine s_iload (pc' := 238) dX12_both_236 rfl rfl ?_
              refine s_imul (pc' := 239) dX12_both_238 rfl ?_
              refine s_iload_n (pc' := 240) dX12_both_239 rfl rfl ?_
              refine s_iadd (pc' := 241) dX12_both_240 rfl ?_
              refine t_lald (pc' := 242) (q := 10 * b + w) dX12_both_241 rfl sh_80 (ix10 (by omega) (by omega)) (by omega) ?_
              refine s_lcmp (pc' := 243) dX12_both_242 rfl ?_
              refine s_ifge (pc' := 246) (tgt := 250) dX12_both_243 (by decide) rfl (fun c243 => ?_) (fun c243 => ?_)
              · refine s_iconst (pc' := 251) (v := 0) dX12_both_250 rfl (by decide) ?_
                refine t_istore (pc' := 253) (L' := [.ref 54, .int _, .int _, .int _, .int _, .int _, .int _, .long _, .retAddr _, .long _, .retAddr _, .int _, .int _]) dX12_both_251 rfl (Nat.le_of_ble_eq_true rfl) rfl ?_
                refine s_iload (pc' := 255) dX12_both_253 rfl rfl ?_
                refine s_ifeqT (tgt := 263) dX12_both_255 (by decide) (by decide) ?_
                refine s_lload (pc' := 265) dX12_both_263 rfl rfl ?_
                refine s_lconst (pc' := 266) (v := 0) dX12_both_265 rfl (by decide) ?_
                refine s_lcmp (pc' := 267) dX12_both_266 rfl ?_
                refine s_ifne (pc' := 270) (tgt := 284) dX12_both_267 (by decide) rfl (fun c267 => ?_) (fun c267 => ?_)
                · refine s_iconst (pc' := 285) (v := 1) dX12_both_284 rfl (by decide) ?_
                  refine s_goto (tgt := 289) dX12_both_285 (by decide) ?_
                  refine t_istore (pc' := 291) (L' := [.ref 54, .int _, .int _, .int _, .int _, .int _, .int _, .long _, .retAddr _, .long _, .retAddr _, .int _, .int _]) dX12_both_289 rfl (Nat.le_of_ble_eq_true rfl) rfl ?_
                  refine t_iinc (pc' := 294) (v := nI (k + 1)) (L' := [.ref 54, .int _, .int _, .int _, .int _, .int _, .int _, .long _, .retAddr _, .long _, .retAddr _, .int _, .int _]) dX12_both_291 rfl rfl (nI_inc k) rfl ?_
                  refine s_goto (tgt := 47) dX12_both_294 (by decide) ?_
                  rw [(G1 k (by omega)).2.2] at c67
                  have hl := b2_1 (by simpa using c67)
                  have a1 := (G1 k (by omega)).1 v hv
                  have a2 := (G1 b hb).1 v hv
                  have a3 := (G1 k (by omega)).1 w hw
                  have a4 := (G1 b hb).1 w hw
                  rw [lg_cmp_gt, a1, a2] at c152
                  rw [lg_cmp_le, a3, a4] at c180
                  rw [lg_cmp_lt, a1, a2] at c215
                  rw [lg_cmp_ge, a3, a4] at c243
                  rw [Ne, lg_cmp_eq, a1, a2, sub_eq0] at c267
                  simp only [Int64.lt_iff_toInt_lt, Int64.le_iff_toInt_le, ← Int64.toInt_inj] at c152 c180 c215 c243 c267
                  have ho : okB D nv nr ns v w k b = true := by unfold okB; rw [decide_eq_true_eq]; simp only [Int64.lt_iff_toInt_lt, ← Int64.toInt_inj]; omega
                  refine s_fg [7, 8, 9, 10, 11, 12] ?_ (ih (k + 1) (by omega))
                  rw [gd_s hg, hl, ho]; rfl
                · refine s_lload (pc' := 272) dX12_both_270 rfl rfl ?_
                  refine s_lconst (pc' := 273) (v := 0) dX12_both_272 rfl (by decide) ?_
                  refine s_lcmp (pc' := 274) dX12_both_273 rfl ?_
                  refine s_ifne (pc' := 277) (tgt := 284) dX12_both_274 (by decide) rfl (fun c274 => ?_) (fun c274 => ?_)
                  · refine s_iconst (pc' := 285) (v := 1) dX12_both_284 rfl (by decide) ?_
                    refine s_goto (tgt := 289) dX12_both_285 (by decide) ?_
                    refine t_istore (pc' := 291) (L' := [.ref 54, .int _, .int _, .int _, .int _, .int _, .int _, .long _, .retAddr _, .long _, .retAddr _, .int _, .int _]) dX12_both_289 rfl (Nat.le_of_ble_eq_true rfl) rfl ?_
                    refine t_iinc (pc' := 294) (v := nI (k + 1)) (L' := [.ref 54, .int _, .int _, .int _, .int _, .int _, .int _, .long _, .retAddr _, .long _, .retAddr _, .int _, .int _]) dX12_both_291 rfl rfl (nI_inc k) rfl ?_
                    refine s_goto (tgt := 47) dX12_both_294 (by decide) ?_
                    rw [(G1 k (by omega)).2.2] at c67
                    have hl := b2_1 (by simpa using c67)
                    have a1 := (G1 k (by omega)).1 v hv
                    have a2 := (G1 b hb).1 v hv
                    have a3 := (G1 k (by omega)).1 w hw
                    have a4 := (G1 b hb).1 w hw
                    rw [lg_cmp_gt, a1, a2] at c152
                    rw [lg_cmp_le, a3, a4] at c180
                    rw [lg_cmp_lt, a1, a2] at c215
                    rw [lg_cmp_ge, a3, a4] at c243
                    rw [lg_cmp_eq, a1, a2, sub_eq0] at c267
                    rw [Ne, lg_cmp_eq, a3, a4, sub_eq0] at c274
                    simp only [Int64.lt_iff_toInt_lt, Int64.le_iff_toInt_le, ← Int64.toInt_inj] at c152 c180 c215 c243 c267 c274
                    have ho : okB D nv nr ns v w k b = true := by unfold okB; rw [decide_eq_true_eq]; simp only [Int64.lt_iff_toInt_lt, ← Int64.toInt_inj]; omega
                    refine s_fg [7, 8, 9, 10, 11, 12] ?_ (ih (k + 1) (by omega))
                    rw [gd_s hg, hl, ho]; rfl
                  · refine s_iload (pc' := 279) dX12_both_277 rfl rfl ?_
                    refine s_iload (pc' := 281) dX12_both_279 rfl rfl ?_
                    refine s_icmplt (pc' := 284) (tgt := 288) dX12_both_281 (by decide) rfl (fun c281 => ?_) (fun c281 => ?_)
                    · refine s_iconst (pc' := 289) (v := 0) dX12_both_288 rfl (by decide) ?_
                      refine t_istore (pc' := 291) (L' := [.ref 54, .int _, .int _, .int _, .int _, .int _, .int _, .long _, .retAddr _, .long _, .retAddr _, .int _, .int _]) dX12_both_289 rfl (Nat.le_of_ble_eq_true rfl) rfl ?_
                      refine t_iinc (pc' := 294) (v := nI (k + 1)) (L' := [.ref 54, .int _, .int _, .int _, .int _, .int _, .int _, .long _, .retAddr _, .long _, .retAddr _, .int _, .int _]) dX12_both_291 rfl rfl (nI_inc k) rfl ?_
                      refine s_goto (tgt := 47) dX12_both_294 (by decide) ?_
                      rw [(G1 k (by omega)).2.2] at c67
                      have hl := b2_1 (by simpa using c67)
                      have a1 := (G1 k (by omega)).1 v hv
                      have a2 := (G1 b hb).1 v hv
                      have a3 := (G1 k (by omega)).1 w hw
                      have a4 := (G1 b hb).1 w hw
                      rw [lg_cmp_gt, a1, a2] at c152
                      rw [lg_cmp_le, a3, a4] at c180
                      rw [lg_cmp_lt, a1, a2] at c215
                      rw [lg_cmp_ge, a3, a4] at c243
                      rw [lg_cmp_eq, a1, a2, sub_eq0] at c267
                      rw [lg_cmp_eq, a3, a4, sub_eq0] at c274
                      rw [nI_ltI (by omega) (by omega)] at c281
                      simp only [Int64.lt_iff_toInt_lt, Int64.le_iff_toInt_le, ← Int64.toInt_inj] at c152 c180 c215 c243 c267 c274
                      have ho : okB D nv nr ns v w k b = false := by unfold okB; rw [decide_eq_false_iff_not]; simp only [Int64.lt_iff_toInt_lt, ← Int64.toInt_inj]; omega
                      refine s_fg [7, 8, 9, 10, 11, 12] ?_ (ih (k + 1) (by omega))
                      rw [gd_s hg, hl, ho]; rfl
                    · refine s_iconst (pc' := 285) (v := 1) dX12_both_284 rfl (by decide) ?_
                      refine s_goto (tgt := 289) dX12_both_285 (by decide) ?_
                      refine t_istore (pc' := 291) (L' := [.ref 54, .int _, .int _, .int _, .int _, .int _, .int _, .long _, .retAddr _, .long _, .retAddr _, .int _, .int _]) dX12_both_289 rfl (Nat.le_of_ble_eq_true rfl) rfl ?_
                      refine t_iinc (pc' := 294) (v := nI (k + 1)) (L' := [.ref 54, .int _, .int _, .int _, .int _, .int _, .int _, .long _, .retAddr _, .long _, .retAddr _, .int _, .int _]) dX12_both_291 rfl rfl (nI_inc k) rfl ?_
                      refine s_goto (tgt := 47) dX12_both_294 (by decide) ?_
                      rw [(G1 k (by omega)).2.2] at c67
                      have hl := b2_1 (by simpa using c67)
                      have a1 := (G1 k (by omega)).1 v hv
                      have a2 := (G1 b hb).1 v hv
                      have a3 := (G1 k (by omega)).1 w hw
                      have a4 := (G1 b hb).1 w hw
                      rw [lg_cmp_gt, a1, a2] at c152
                      rw [lg_cmp_le, a3, a4] at c180
                      rw [lg_cmp_lt, a1, a2] at c215
                      rw [lg_cmp_ge, a3, a4] at c243
                      rw [lg_cmp_eq, a1, a2, sub_eq0] at c267
                      rw [lg_cmp_eq, a3, a4, sub_eq0] at c274
                      rw [nI_ltI (by omega) (by omega)] at c281
                      simp only [Int64.lt_iff_toInt_lt, Int64.le_iff_toInt_le, ← Int64.toInt_inj] at c152 c180 c215 c243 c267 c274
                      have ho : okB D nv nr ns v w k b = true := by unfold okB; rw [decide_eq_true_eq]; simp only [Int64.lt_iff_toInt_lt, ← Int64.toInt_inj]; omega
                      refine s_fg [7, 8, 9, 10, 11, 12] ?_ (ih (k + 1) (by omega))
                      rw [gd_s hg, hl, ho]; rfl
              · refine s_iconst (pc' := 247) (v := 1) dX12_both_246 rfl (by decide) ?_
                refine s_goto (tgt := 251) dX12_both_247 (by decide) ?_
                refine t_istore (pc' := 253) (L' := [.ref 54, .int _, .int _, .int _, .int _, .int _, .int _, .long _, .retAddr _, .long _, .retAddr _, .int _, .int _]) dX12_both_251 rfl (Nat.le_of_ble_eq_true rfl) rfl ?_
                refine s_iload (pc' := 255) dX12_both_253 rfl rfl ?_
                refine s_ifeqT (tgt := 263) dX12_both_255 (by decide) (by decide) ?_
                refine s_lload (pc' := 265) dX12_both_263 rfl rfl ?_
                refine s_lconst (pc' := 266) (v := 0) dX12_both_265 rfl (by decide) ?_
                refine s_lcmp (pc' := 267) dX12_both_266 rfl ?_
                refine s_ifne (pc' := 270) (tgt := 284) dX12_both_267 (by decide) rfl (fun c267 => ?_) (fun c267 => ?_)
                · refine s_iconst (pc' := 285) (v := 1) dX12_both_284 rfl (by decide) ?_
                  refine s_goto (tgt := 289) dX12_both_285 (by decide) ?_
                  refine t_istore (pc' := 291) (L' := [.ref 54, .int _, .int _, .int _, .int _, .int _, .int _, .long _, .retAddr _, .long _, .retAddr _, .int _, .int _]) dX12_both_289 rfl (Nat.le_of_ble_eq_true rfl) rfl ?_
                  refine t_iinc (pc' := 294) (v := nI (k + 1)) (L' := [.ref 54, .int _, .int _, .int _, .int _, .int _, .int _, .long _, .retAddr _, .long _, .retAddr _, .int _, .int _]) dX12_both_291 rfl rfl (nI_inc k) rfl ?_
                  refine s_goto (tgt := 47) dX12_both_294 (by decide) ?_
                  rw [(G1 k (by omega)).2.2] at c67
                  have hl := b2_1 (by simpa using c67)
                  have a1 := (G1 k (by omega)).1 v hv
                  have a2 := (G1 b hb).1 v hv
                  have a3 := (G1 k (by omega)).1 w hw
                  have a4 := (G1 b hb).1 w hw
                  rw [lg_cmp_gt, a1, a2] at c152
                  rw [lg_cmp_le, a3, a4] at c180
                  rw [lg_cmp_lt, a1, a2] at c215
                  rw [lg_cmp_ge, a3, a4] at c243
                  rw [Ne, lg_cmp_eq, a1, a2, sub_eq0] at c267
                  simp only [Int64.lt_iff_toInt_lt, Int64.le_iff_toInt_le, ← Int64.toInt_inj] at c152 c180 c215 c243 c267
                  have ho : okB D nv nr ns v w k b = true := by unfold okB; rw [decide_eq_true_eq]; simp only [Int64.lt_iff_toInt_lt, ← Int64.toInt_inj]; omega
                  refine s_fg [7, 8, 9, 10, 11, 12] ?_ (ih (k + 1) (by omega))
                  rw [gd_s hg, hl, ho]; rfl
                · refine s_lload (pc' := 272) dX12_both_270 rfl rfl ?_
                  refine s_lconst (pc' := 273) (v := 0) dX12_both_272 rfl (by decide) ?_
                  refine s_lcmp (pc' := 274) dX12_both_273 rfl ?_
                  refine s_ifne (pc' := 277) (tgt := 284) dX12_both_274 (by decide) rfl (fun c274 => ?_) (fun c274 => ?_)
                  · refine s_iconst (pc' := 285) (v := 1) dX12_both_284 rfl (by decide) ?_
                    refine s_goto (tgt := 289) dX12_both_285 (by decide) ?_
                    refine t_istore (pc' := 291) (L' := [.ref 54, .int _, .int _, .int _, .int _, .int _, .int _, .long _, .retAddr _, .long _, .retAddr _, .int _, .int _]) dX12_both_289 rfl (Nat.le_of_ble_eq_true rfl) rfl ?_
                    refine t_iinc (pc' := 294) (v := nI (k + 1)) (L' := [.ref 54, .int _, .int _, .int _, .int _, .int _, .int _, .long _, .retAddr _, .long _, .retAddr _, .int _, .int _]) dX12_both_291 rfl rfl (nI_inc k) rfl ?_
                    refine s_goto (tgt := 47) dX12_both_294 (by decide) ?_
                    rw [(G1 k (by omega)).2.2] at c67
                    have hl := b2_1 (by simpa using c67)
                    have a1 := (G1 k (by omega)).1 v hv
                    have a2 := (G1 b hb).1 v hv
                    have a3 := (G1 k (by omega)).1 w hw
                    have a4 := (G1 b hb).1 w hw
                    rw [lg_cmp_gt, a1, a2] at c152
                    rw [lg_cmp_le, a3, a4] at c180
                    rw [lg_cmp_lt, a1, a2] at c215
                    rw [lg_cmp_ge, a3, a4] at c243
                    rw [lg_cmp_eq, a1, a2, sub_eq0] at c267
                    rw [Ne, lg_cmp_eq, a3, a4, sub_eq0] at c274
                    simp only [Int64.lt_iff_toInt_lt, Int64.le_iff_toInt_le, ← Int64.toInt_inj] at c152 c180 c215 c243 c267 c274
                    have ho : okB D nv nr ns v w k b = true := by unfold okB; rw [decide_eq_true_eq]; simp only [Int64.lt_iff_toInt_lt, ← Int64.toInt_inj]; omega
                    refine s_fg [7, 8, 9, 10, 11, 12] ?_ (ih (k + 1) (by omega))
                    rw [gd_s hg, hl, ho]; rfl
                  · refine s_iload (pc' := 279) dX12_both_277 rfl rfl ?_
                    refine s_iload (pc' := 281) dX12_both_279 rfl rfl ?_
                    refine s_icmplt (pc' := 284) (tgt := 288) dX12_both_281 (by decide) rfl (fun c281 => ?_) (fun c281 => ?_)
                    · refine s_iconst (pc' := 289) (v := 0) dX12_both_288 rfl (by decide) ?_
                      refine t_istore (pc' := 291) (L' := [.ref 54, .int _, .int _, .int _, .int _, .int _, .int _, .long _, .retAddr _, .long _, .retAddr _, .int _, .int _]) dX12_both_289 rfl (Nat.le_of_ble_eq_true rfl) rfl ?_
                      refine t_iinc (pc' := 294) (v := nI (k + 1)) (L' := [.ref 54, .int _, .int _, .int _, .int _, .int _, .int _, .long _, .retAddr _, .long _, .retAddr _, .int _, .int _]) dX12_both_291 rfl rfl (nI_inc k) rfl ?_
                      refine s_goto (tgt := 47) dX12_both_294 (by decide) ?_
                      rw [(G1 k (by omega)).2.2] at c67
                      have hl := b2_1 (by simpa using c67)
                      have a1 := (G1 k (by omega)).1 v hv
                      have a2 := (G1 b hb).1 v hv
                      have a3 := (G1 k (by omega)).1 w hw
                      have a4 := (G1 b hb).1 w hw
                      rw [lg_cmp_gt, a1, a2] at c152
                      rw [lg_cmp_le, a3, a4] at c180
                      rw [lg_cmp_lt, a1, a2] at c215
                      rw [lg_cmp_ge, a3, a4] at c243
                      rw [lg_cmp_eq, a1, a2, sub_eq0] at c267
                      rw [lg_cmp_eq, a3, a4, sub_eq0] at c274
                      rw [nI_ltI (by omega) (by omega)] at c281
                      simp only [Int64.lt_iff_toInt_lt, Int64.le_iff_toInt_le, ← Int64.toInt_inj] at c152 c180 c215 c243 c267 c274
                      have ho : okB D nv nr ns v w k b = false := by unfold okB; rw [decide_eq_false_iff_not]; simp only [Int64.lt_iff_toInt_lt, ← Int64.toInt_inj]; omega
                      refine s_fg [7, 8, 9, 10, 11, 12] ?_ (ih (k + 1) (by omega))
                      rw [gd_s hg, hl, ho]; rfl
                    · refine s_iconst (pc' := 285) (v := 1) dX12_both_284 rfl (by decide) ?_
                      refine s_goto (tgt := 289) dX12_both_285 (by decide) ?_
                      refine t_istore (pc' := 291) (L' := [.ref 54, .int _, .int _, .int _, .int _, .int _, .int _, .long _, .retAddr _, .long _, .retAddr _, .int _, .int _]) dX12_both_289 rfl (Nat.le_of_ble_eq_true rfl) rfl ?_
                      refine t_iinc (pc' := 294) (v := nI (k + 1)) (L' := [.ref 54, .int _, .int _, .int _, .int _, .int _, .int _, .long _, .retAddr _, .long _, .retAddr _, .int _, .int _]) dX12_both_291 rfl rfl (nI_inc k) rfl ?_
                      refine s_goto (tgt := 47) dX12_both_294 (by decide) ?_
                      rw [(G1 k (by omega)).2.2] at c67
                      have hl := b2_1 (by simpa using c67)
                      have a1 := (G1 k (by omega)).1 v hv
                      have a2 := (G1 b hb).1 v hv
                      have a3 := (G1 k (by omega)).1 w hw
                      have a4 := (G1 b hb).1 w hw
                      rw [lg_cmp_gt, a1, a2] at c152
                      rw [lg_cmp_le, a3, a4] at c180
                      rw [lg_cmp_lt, a1, a2] at c215
                      rw [lg_cmp_ge, a3, a4] at c243
                      rw [lg_cmp_eq, a1, a2, sub_eq0] at c267
                      rw [lg_cmp_eq, a3, a4, sub_eq0] at c274
                      rw [nI_ltI (by omega) (by omega)] at c281
                      simp only [Int64.lt_iff_toInt_lt, Int64.le_iff_toInt_le, ← Int64.toInt_inj] at c152 c180 c215 c243 c267 c274
                      have ho : okB D nv nr ns v w k b = true := by unfold okB; rw [decide_eq_true_eq]; simp only [Int64.lt_iff_toInt_lt, ← Int64.toInt_inj]; omega
                      refine s_fg [7, 8, 9, 10, 11, 12] ?_ (ih (k + 1) (by omega))
                      rw [gd_s hg, hl, ho]; rfl
          · refine s_iconst (pc' := 184) (v := 1) dX12_both_183 rfl (by decide) ?_
            refine s_goto (tgt := 188) dX12_both_184 (by decide) ?_
            refine t_istore (pc' := 190) (L' := [.ref 54, .int _, .int _, .int _, .int _, .int _, .int _, .long _, .retAddr _, .long _, .retAddr _, .int _, .retAddr _]) dX12_both_188 rfl (Nat.le_of_ble_eq_true rfl) rfl ?_
            refine s_aload_n (pc' := 191) dX12_both_190 rfl rfl ?_
            refine s_getS (pc' := 194) (b := 80) dX12_both_191 rfl (by decide) rfl (by decide) fa_X12_85_12 rfl rfl ?_
            refine s_bipush (pc' := 196) (v := 10) dX12_both_194 rfl (by decide) ?_
            refine s_iload (pc' := 198) dX12_both_196 rfl rfl ?_
            refine s_imul (pc' := 199) dX12_both_198 rfl ?_
            refine s_iload_n (pc' := 200) dX12_both_199 rfl rfl ?_
            refine s_iadd (pc' := 201) dX12_both_200 rfl ?_
            refine t_lald (pc' := 202) (q := 10 * k + v) dX12_both_201 rfl sh_80 (ix10 (by omega) (by omega)) (by omega) ?_
            refine s_aload_n (pc' := 203) dX12_both_202 rfl rfl ?_
            refine s_getS (pc' := 206) (b := 80) dX12_both_203 rfl (by decide) rfl (by decide) fa_X12_85_12 rfl rfl ?_
            refine s_bipush (pc' := 208) (v := 10) dX12_both_206 rfl (by decide) ?_
            refine s_iload (pc' := 210) dX12_both_208 rfl rfl ?_
            refine s_imul (pc' := 211) dX12_both_210 rfl ?_
            refine s_iload_n (pc' := 212) dX12_both_211 rfl rfl ?_
            refine s_iadd (pc' := 213) dX12_both_212 rfl ?_
            refine t_lald (pc' := 214) (q := 10 * b + v) dX12_both_213 rfl sh_80 (ix10 (by omega) (by omega)) (by omega) ?_
            refine s_lcmp (pc' := 215) dX12_both_214 rfl ?_
            refine s_iflt (pc' := 218) (tgt := 246) dX12_both_215 (by decide) rfl (fun c215 => ?_) (fun c215 => ?_)
            · refine s_iconst (pc' := 247) (v := 1) dX12_both_246 rfl (by decide) ?_
              refine s_goto (tgt := 251) dX12_both_247 (by decide) ?_
              refine t_istore (pc' := 253) (L' := [.ref 54, .int _, .int _, .int _, .int _, .int _, .int _, .long _, .retAddr _, .long _, .retAddr _, .int _, .int _]) dX12_both_251 rfl (Nat.le_of_ble_eq_true rfl) rfl ?_
              refine s_iload (pc' := 255) dX12_both_253 rfl rfl ?_
              refine s_ifeqF (pc' := 258) (tgt := 263) dX12_both_255 (by decide) rfl (by decide) ?_
              refine s_iload (pc' := 260) dX12_both_258 rfl rfl ?_
              refine s_ifeqF (pc' := 263) (tgt := 288) dX12_both_260 (by decide) rfl (by decide) ?_
              refine s_lload (pc' := 265) dX12_both_263 rfl rfl ?_
              refine s_lconst (pc' := 266) (v := 0) dX12_both_265 rfl (by decide) ?_
              refine s_lcmp (pc' := 267) dX12_both_266 rfl ?_
              refine s_ifne (pc' := 270) (tgt := 284) dX12_both_267 (by decide) rfl (fun c267 => ?_) (fun c267 => ?_)
              · refine s_iconst (pc' := 285) (v := 1) dX12_both_284 rfl (by decide) ?_
                refine s_goto (tgt := 289) dX12_both_285 (by decide) ?_
                refine t_istore (pc' := 291) (L' := [.ref 54, .int _, .int _, .int _, .int _, .int _, .int _, .long _, .retAddr _, .long _, .retAddr _, .int _, .int _]) dX12_both_289 rfl (Nat.le_of_ble_eq_true rfl) rfl ?_
                refine t_iinc (pc' := 294) (v := nI (k + 1)) (L' := [.ref 54, .int _, .int _, .int _, .int _, .int _, .int _, .long _, .retAddr _, .long _, .retAddr _, .int _, .int _]) dX12_both_291 rfl rfl (nI_inc k) rfl ?_
                refine s_goto (tgt := 47) dX12_both_294 (by decide) ?_
                rw [(G1 k (by omega)).2.2] at c67
                have hl := b2_1 (by simpa using c67)
                have a1 := (G1 k (by omega)).1 v hv
                have a2 := (G1 b hb).1 v hv
                have a3 := (G1 k (by omega)).1 w hw
                have a4 := (G1 b hb).1 w hw
                rw [lg_cmp_gt, a1, a2] at c152
                rw [lg_cmp_le, a3, a4] at c180
                rw [lg_cmp_lt, a1, a2] at c215
                rw [Ne, lg_cmp_eq, a1, a2, sub_eq0] at c267
                simp only [Int64.lt_iff_toInt_lt, Int64.le_iff_toInt_le, ← Int64.toInt_inj] at c152 c180 c215 c267
                have ho : okB D nv nr ns v w k b = true := by unfold okB; rw [decide_eq_true_eq]; simp only [Int64.lt_iff_toInt_lt, ← Int64.toInt_inj]; omega
                refine s_fg [7, 8, 9, 10, 11, 12] ?_ (ih (k + 1) (by omega))
                rw [gd_s hg, hl, ho]; rfl
              · refine s_lload (pc' := 272) dX12_both_270 rfl rfl ?_
                refine s_lconst (pc' := 273) (v := 0) dX12_both_272 rfl (by decide) ?_
                refine s_lcmp (pc' := 274) dX12_both_273 rfl ?_
                refine s_ifne (pc' := 277) (tgt := 284) dX12_both_274 (by decide) rfl (fun c274 => ?_) (fun c274 => ?_)
                · refine s_iconst (pc' := 285) (v := 1) dX12_both_284 rfl (by decide) ?_
                  refine s_goto (tgt := 289) dX12_both_285 (by decide) ?_
                  refine t_istore (pc' := 291) (L' := [.ref 54, .int _, .int _, .int _, .int _, .int _, .int _, .long _, .retAddr _, .long _, .retAddr _, .int _, .int _]) dX12_both_289 rfl (Nat.le_of_ble_eq_true rfl) rfl ?_
                  refine t_iinc (pc' := 294) (v := nI (k + 1)) (L' := [.ref 54, .int _, .int _, .int _, .int _, .int _, .int _, .long _, .retAddr _, .long _, .retAddr _, .int _, .int _]) dX12_both_291 rfl rfl (nI_inc k) rfl ?_
                  refine s_goto (tgt := 47) dX12_both_294 (by decide) ?_
                  rw [(G1 k (by omega)).2.2] at c67
                  have hl := b2_1 (by simpa using c67)
                  have a1 := (G1 k (by omega)).1 v hv
                  have a2 := (G1 b hb).1 v hv
                  have a3 := (G1 k (by omega)).1 w hw
                  have a4 := (G1 b hb).1 w hw
                  rw [lg_cmp_gt, a1, a2] at c152
                  rw [lg_cmp_le, a3, a4] at c180
                  rw [lg_cmp_lt, a1, a2] at c215
                  rw [lg_cmp_eq, a1, a2, sub_eq0] at c267
                  rw [Ne, lg_cmp_eq, a3, a4, sub_eq0] at c274
                  simp only [Int64.lt_iff_toInt_lt, Int64.le_iff_toInt_le, ← Int64.toInt_inj] at c152 c180 c215 c267 c274
                  have ho : okB D nv nr ns v w k b = true := by unfold okB; rw [decide_eq_true_eq]; simp only [Int64.lt_iff_toInt_lt, ← Int64.toInt_inj]; omega
                  refine s_fg [7, 8, 9, 10, 11, 12] ?_ (ih (k + 1) (by omega))
                  rw [gd_s hg, hl, ho]; rfl
                · refine s_iload (pc' := 279) dX12_both_277 rfl rfl ?_
                  refine s_iload (pc' := 281) dX12_both_279 rfl rfl ?_
                  refine s_icmplt (pc' := 284) (tgt := 288) dX12_both_281 (by decide) rfl (fun c281 => ?_) (fun c281 => ?_)
                  · refine s_iconst (pc' := 289) (v := 0) dX12_both_288 rfl (by decide) ?_
                    refine t_istore (pc' := 291) (L' := [.ref 54, .int _, .int _, .int _, .int _, .int _, .int _, .long _, .retAddr _, .long _, .retAddr _, .int _, .int _]) dX12_both_289 rfl (Nat.le_of_ble_eq_true rfl) rfl ?_
                    refine t_iinc (pc' := 294) (v := nI (k + 1)) (L' := [.ref 54, .int _, .int _, .int _, .int _, .int _, .int _, .long _, .retAddr _, .long _, .retAddr _, .int _, .int _]) dX12_both_291 rfl rfl (nI_inc k) rfl ?_
                    refine s_goto (tgt := 47) dX12_both_294 (by decide) ?_
                    rw [(G1 k (by omega)).2.2] at c67
                    have hl := b2_1 (by simpa using c67)
                    have a1 := (G1 k (by omega)).1 v hv
                    have a2 := (G1 b hb).1 v hv
                    have a3 := (G1 k (by omega)).1 w hw
                    have a4 := (G1 b hb).1 w hw
                    rw [lg_cmp_gt, a1, a2] at c152
                    rw [lg_cmp_le, a3, a4] at c180
                    rw [lg_cmp_lt, a1, a2] at c215
                    rw [lg_cmp_eq, a1, a2, sub_eq0] at c267
                    rw [lg_cmp_eq, a3, a4, sub_eq0] at c274
                    rw [nI_ltI (by omega) (by omega)] at c281
                    simp only [Int64.lt_iff_toInt_lt, Int64.le_iff_toInt_le, ← Int64.toInt_inj] at c152 c180 c215 c267 c274
                    have ho : okB D nv nr ns v w k b = false := by unfold okB; rw [decide_eq_false_iff_not]; simp only [Int64.lt_iff_toInt_lt, ← Int64.toInt_inj]; omega
                    refine s_fg [7, 8, 9, 10, 11, 12] ?_ (ih (k + 1) (by omega))
                    rw [gd_s hg, hl, ho]; rfl
                  · refine s_iconst (pc' := 285) (v := 1) dX12_both_284 rfl (by decide) ?_
                    refine s_goto (tgt := 289) dX12_both_285 (by decide) ?_
                    refine t_istore (pc' := 291) (L' := [.ref 54, .int _, .int _, .int _, .int _, .int _, .int _, .long _, .retAddr _, .long _, .retAddr _, .int _, .int _]) dX12_both_289 rfl (Nat.le_of_ble_eq_true rfl) rfl ?_
                    refine t_iinc (pc' := 294) (v := nI (k + 1)) (L' := [.ref 54, .int _, .int _, .int _, .int _, .int _, .int _, .long _, .retAddr _, .long _, .retAddr _, .int _, .int _]) dX12_both_291 rfl rfl (nI_inc k) rfl ?_
                    refine s_goto (tgt := 47) dX12_both_294 (by decide) ?_
                    rw [(G1 k (by omega)).2.2] at c67
                    have hl := b2_1 (by simpa using c67)
                    have a1 := (G1 k (by omega)).1 v hv
                    have a2 := (G1 b hb).1 v hv
                    have a3 := (G1 k (by omega)).1 w hw
                    have a4 := (G1 b hb).1 w hw
                    rw [lg_cmp_gt, a1, a2] at c152
                    rw [lg_cmp_le, a3, a4] at c180
                    rw [lg_cmp_lt, a1, a2] at c215
                    rw [lg_cmp_eq, a1, a2, sub_eq0] at c267
                    rw [lg_cmp_eq, a3, a4, sub_eq0] at c274
                    rw [nI_ltI (by omega) (by omega)] at c281
                    simp only [Int64.lt_iff_toInt_lt, Int64.le_iff_toInt_le, ← Int64.toInt_inj] at c152 c180 c215 c267 c274
                    have ho : okB D nv nr ns v w k b = true := by unfold okB; rw [decide_eq_true_eq]; simp only [Int64.lt_iff_toInt_lt, ← Int64.toInt_inj]; omega
                    refine s_fg [7, 8, 9, 10, 11, 12] ?_ (ih (k + 1) (by omega))
                    rw [gd_s hg, hl, ho]; rfl
            · refine s_aload_n (pc' := 219) dX12_both_218 rfl rfl ?_
              refine s_getS (pc' := 222) (b := 80) dX12_both_219 rfl (by decide) rfl (by decide) fa_X12_85_12 rfl rfl ?_
              refine s_bipush (pc' := 224) (v := 10) dX12_both_222 rfl (by decide) ?_
              refine s_iload (pc' := 226) dX12_both_224 rfl rfl ?_
              refine s_imul (pc' := 227) dX12_both_226 rfl ?_
              refine s_iload_n (pc' := 228) dX12_both_227 rfl rfl ?_
              refine s_iadd (pc' := 229) dX12_both_228 rfl ?_
              refine t_lald (pc' := 230) (q := 10 * k + w) dX12_both_229 rfl sh_80 (ix10 (by omega) (by omega)) (by omega) ?_
              refine s_aload_n (pc' := 231) dX12_both_230 rfl rfl ?_
              refine s_getS (pc' := 234) (b := 80) dX12_both_231 rfl (by decide) rfl (by decide) fa_X12_85_12 rfl rfl ?_
              refine s_bipush (pc' := 236) (v := 10) dX12_both_234 rfl (by decide) ?_
              refine s_iload (pc' := 238) dX12_both_236 rfl rfl ?_
              refine s_imul (pc' := 239) dX12_both_238 rfl ?_
              refine s_iload_n (pc' := 240) dX12_both_239 rfl rfl ?_
              refine s_iadd (pc' := 241) dX12_both_240 rfl ?_
              refine t_lald (pc' := 242) (q := 10 * b + w) dX12_both_241 rfl sh_80 (ix10 (by omega) (by omega)) (by omega) ?_
              refine s_lcmp (pc' := 243) dX12_both_242 rfl ?_
              refine s_ifge (pc' := 246) (tgt := 250) dX12_both_243 (by decide) rfl (fun c243 => ?_) (fun c243 => ?_)
              · refine s_iconst (pc' := 251) (v := 0) dX12_both_250 rfl (by decide) ?_
                refine t_istore (pc' := 253) (L' := [.ref 54, .int _, .int _, .int _, .int _, .int _, .int _, .long _, .retAddr _, .long _, .retAddr _, .int _, .int _]) dX12_both_251 rfl (Nat.le_of_ble_eq_true rfl) rfl ?_
                refine s_iload (pc' := 255) dX12_both_253 rfl rfl ?_
                refine s_ifeqF (pc' := 258) (tgt := 263) dX12_both_255 (by decide) rfl (by decide) ?_
                refine s_iload (pc' := 260) dX12_both_258 rfl rfl ?_
                refine s_ifeqT (tgt := 288) dX12_both_260 (by decide) (by decide) ?_
                refine s_iconst (pc' := 289) (v := 0) dX12_both_288 rfl (by decide) ?_
                refine t_istore (pc' := 291) (L' := [.ref 54, .int _, .int _, .int _, .int _, .int _, .int _, .long _, .retAddr _, .long _, .retAddr _, .int _, .int _]) dX12_both_289 rfl (Nat.le_of_ble_eq_true rfl) rfl ?_
                refine t_iinc (pc' := 294) (v := nI (k + 1)) (L' := [.ref 54, .int _, .int _, .int _, .int _, .int _, .int _, .long _, .retAddr _, .long _, .retAddr _, .int _, .int _]) dX12_both_291 rfl rfl (nI_inc k) rfl ?_
                refine s_goto (tgt := 47) dX12_both_294 (by decide) ?_
                rw [(G1 k (by omega)).2.2] at c67
                have hl := b2_1 (by simpa using c67)
                have a1 := (G1 k (by omega)).1 v hv
                have a2 := (G1 b hb).1 v hv
                have a3 := (G1 k (by omega)).1 w hw
                have a4 := (G1 b hb).1 w hw
                rw [lg_cmp_gt, a1, a2] at c152
                rw [lg_cmp_le, a3, a4] at c180
                rw [lg_cmp_lt, a1, a2] at c215
                rw [lg_cmp_ge, a3, a4] at c243
                simp only [Int64.lt_iff_toInt_lt, Int64.le_iff_toInt_le, ← Int64.toInt_inj] at c152 c180 c215 c243
                have ho : okB D nv nr ns v w k b = false := by unfold okB; rw [decide_eq_false_iff_not]; simp only [Int64.lt_iff_toInt_lt, ← Int64.toInt_inj]; omega
                refine s_fg [7, 8, 9, 10, 11, 12] ?_ (ih (k + 1) (by omega))
                rw [gd_s hg, hl, ho]; rfl
              · refine s_iconst (pc' := 247) (v := 1) dX12_both_246 rfl (by decide) ?_
                refine s_goto (tgt := 251) dX12_both_247 (by decide) ?_
                refine t_istore (pc' := 253) (L' := [.ref 54, .int _, .int _, .int _, .int _, .int _, .int _, .long _, .retAddr _, .long _, .retAddr _, .int _, .int _]) dX12_both_251 rfl (Nat.le_of_ble_eq_true rfl) rfl ?_
                refine s_iload (pc' := 255) dX12_both_253 rfl rfl ?_
                refine s_ifeqF (pc' := 258) (tgt := 263) dX12_both_255 (by decide) rfl (by decide) ?_
                refine s_iload (pc' := 260) dX12_both_258 rfl rfl ?_
                refine s_ifeqF (pc' := 263) (tgt := 288) dX12_both_260 (by decide) rfl (by decide) ?_
                refine s_lload (pc' := 265) dX12_both_263 rfl rfl ?_
                refine s_lconst (pc' := 266) (v := 0) dX12_both_265 rfl (by decide) ?_
                refine s_lcmp (pc' := 267) dX12_both_266 rfl ?_
                refine s_ifne (pc' := 270) (tgt := 284) dX12_both_267 (by decide) rfl (fun c267 => ?_) (fun c267 => ?_)
                · refine s_iconst (pc' := 285) (v := 1) dX12_both_284 rfl (by decide) ?_
                  refine s_goto (tgt := 289) dX12_both_285 (by decide) ?_
                  refine t_istore (pc' := 291) (L' := [.ref 54, .int _, .int _, .int _, .int _, .int _, .int _, .long _, .retAddr _, .long _, .retAddr _, .int _, .int _]) dX12_both_289 rfl (Nat.le_of_ble_eq_true rfl) rfl ?_
                  refine t_iinc (pc' := 294) (v := nI (k + 1)) (L' := [.ref 54, .int _, .int _, .int _, .int _, .int _, .int _, .long _, .retAddr _, .long _, .retAddr _, .int _, .int _]) dX12_both_291 rfl rfl (nI_inc k) rfl ?_
                  refine s_goto (tgt := 47) dX12_both_294 (by decide) ?_
                  rw [(G1 k (by omega)).2.2] at c67
                  have hl := b2_1 (by simpa using c67)
                  have a1 := (G1 k (by omega)).1 v hv
                  have a2 := (G1 b hb).1 v hv
                  have a3 := (G1 k (by omega)).1 w hw
                  have a4 := (G1 b hb).1 w hw
                  rw [lg_cmp_gt, a1, a2] at c152
                  rw [lg_cmp_le, a3, a4] at c180
                  rw [lg_cmp_lt, a1, a2] at c215
                  rw [lg_cmp_ge, a3, a4] at c243
                  rw [Ne, lg_cmp_eq, a1, a2, sub_eq0] at c267
                  simp only [Int64.lt_iff_toInt_lt, Int64.le_iff_toInt_le, ← Int64.toInt_inj] at c152 c180 c215 c243 c267
                  have ho : okB D nv nr ns v w k b = true := by unfold okB; rw [decide_eq_true_eq]; simp only [Int64.lt_iff_toInt_lt, ← Int64.toInt_inj]; omega
                  refine s_fg [7, 8, 9, 10, 11, 12] ?_ (ih (k + 1) (by omega))
                  rw [gd_s hg, hl, ho]; rfl
                · refine s_lload (pc' := 272) dX12_both_270 rfl rfl ?_
                  refine s_lconst (pc' := 273) (v := 0) dX12_both_272 rfl (by decide) ?_
                  refine s_lcmp (pc' := 274) dX12_both_273 rfl ?_
                  refine s_ifne (pc' := 277) (tgt := 284) dX12_both_274 (by decide) rfl (fun c274 => ?_) (fun c274 => ?_)
                  · refine s_iconst (pc' := 285) (v := 1) dX12_both_284 rfl (by decide) ?_
                    refine s_goto (tgt := 289) dX12_both_285 (by decide) ?_
                    refine t_istore (pc' := 291) (L' := [.ref 54, .int _, .int _, .int _, .int _, .int _, .int _, .long _, .retAddr _, .long _, .retAddr _, .int _, .int _]) dX12_both_289 rfl (Nat.le_of_ble_eq_true rfl) rfl ?_
                    refine t_iinc (pc' := 294) (v := nI (k + 1)) (L' := [.ref 54, .int _, .int _, .int _, .int _, .int _, .int _, .long _, .retAddr _, .long _, .retAddr _, .int _, .int _]) dX12_both_291 rfl rfl (nI_inc k) rfl ?_
                    refine s_goto (tgt := 47) dX12_both_294 (by decide) ?_
                    rw [(G1 k (by omega)).2.2] at c67
                    have hl := b2_1 (by simpa using c67)
                    have a1 := (G1 k (by omega)).1 v hv
                    have a2 := (G1 b hb).1 v hv
                    have a3 := (G1 k (by omega)).1 w hw
                    have a4 := (G1 b hb).1 w hw
                    rw [lg_cmp_gt, a1, a2] at c152
                    rw [lg_cmp_le, a3, a4] at c180
                    rw [lg_cmp_lt, a1, a2] at c215
                    rw [lg_cmp_ge, a3, a4] at c243
                    rw [lg_cmp_eq, a1, a2, sub_eq0] at c267
                    rw [Ne, lg_cmp_eq, a3, a4, sub_eq0] at c274
                    simp only [Int64.lt_iff_toInt_lt, Int64.le_iff_toInt_le, ← Int64.toInt_inj] at c152 c180 c215 c243 c267 c274
                    have ho : okB D nv nr ns v w k b = true := by unfold okB; rw [decide_eq_true_eq]; simp only [Int64.lt_iff_toInt_lt, ← Int64.toInt_inj]; omega
                    refine s_fg [7, 8, 9, 10, 11, 12] ?_ (ih (k + 1) (by omega))
                    rw [gd_s hg, hl, ho]; rfl
                  · refine s_iload (pc' := 279) dX12_both_277 rfl rfl ?_
                    refine s_iload (pc' := 281) dX12_both_279 rfl rfl ?_
                    refine s_icmplt (pc' := 284) (tgt := 288) dX12_both_281 (by decide) rfl (fun c281 => ?_) (fun c281 => ?_)
                    · refine s_iconst (pc' := 289) (v := 0) dX12_both_288 rfl (by decide) ?_
                      refine t_istore (pc' := 291) (L' := [.ref 54, .int _, .int _, .int _, .int _, .int _, .int _, .long _, .retAddr _, .long _, .retAddr _, .int _, .int _]) dX12_both_289 rfl (Nat.le_of_ble_eq_true rfl) rfl ?_
                      refine t_iinc (pc' := 294) (v := nI (k + 1)) (L' := [.ref 54, .int _, .int _, .int _, .int _, .int _, .int _, .long _, .retAddr _, .long _, .retAddr _, .int _, .int _]) dX12_both_291 rfl rfl (nI_inc k) rfl ?_
                      refine s_goto (tgt := 47) dX12_both_294 (by decide) ?_
                      rw [(G1 k (by omega)).2.2] at c67
                      have hl := b2_1 (by simpa using c67)
                      have a1 := (G1 k (by omega)).1 v hv
                      have a2 := (G1 b hb).1 v hv
                      have a3 := (G1 k (by omega)).1 w hw
                      have a4 := (G1 b hb).1 w hw
                      rw [lg_cmp_gt, a1, a2] at c152
                      rw [lg_cmp_le, a3, a4] at c180
                      rw [lg_cmp_lt, a1, a2] at c215
                      rw [lg_cmp_ge, a3, a4] at c243
                      rw [lg_cmp_eq, a1, a2, sub_eq0] at c267
                      rw [lg_cmp_eq, a3, a4, sub_eq0] at c274
                      rw [nI_ltI (by omega) (by omega)] at c281
                      simp only [Int64.lt_iff_toInt_lt, Int64.le_iff_toInt_le, ← Int64.toInt_inj] at c152 c180 c215 c243 c267 c274
                      have ho : okB D nv nr ns v w k b = false := by unfold okB; rw [decide_eq_false_iff_not]; simp only [Int64.lt_iff_toInt_lt, ← Int64.toInt_inj]; omega
                      refine s_fg [7, 8, 9, 10, 11, 12] ?_ (ih (k + 1) (by omega))
                      rw [gd_s hg, hl, ho]; rfl
                    · refine s_iconst (pc' := 285) (v := 1) dX12_both_284 rfl (by decide) ?_
                      refine s_goto (tgt := 289) dX12_both_285 (by decide) ?_
                      refine t_istore (pc' := 291) (L' := [.ref 54, .int _, .int _, .int _, .int _, .int _, .int _, .long _, .retAddr _, .long _, .retAddr _, .int _, .int _]) dX12_both_289 rfl (Nat.le_of_ble_eq_true rfl) rfl ?_
                      refine t_iinc (pc' := 294) (v := nI (k + 1)) (L' := [.ref 54, .int _, .int _, .int _, .int _, .int _, .int _, .long _, .retAddr _, .long _, .retAddr _, .int _, .int _]) dX12_both_291 rfl rfl (nI_inc k) rfl ?_
                      refine s_goto (tgt := 47) dX12_both_294 (by decide) ?_
                      rw [(G1 k (by omega)).2.2] at c67
                      have hl := b2_1 (by simpa using c67)
                      have a1 := (G1 k (by omega)).1 v hv
                      have a2 := (G1 b hb).1 v hv
                      have a3 := (G1 k (by omega)).1 w hw
                      have a4 := (G1 b hb).1 w hw
                      rw [lg_cmp_gt, a1, a2] at c152
                      rw [lg_cmp_le, a3, a4] at c180
                      rw [lg_cmp_lt, a1, a2] at c215
                      rw [lg_cmp_ge, a3, a4] at c243
                      rw [lg_cmp_eq, a1, a2, sub_eq0] at c267
                      rw [lg_cmp_eq, a3, a4, sub_eq0] at c274
                      rw [nI_ltI (by omega) (by omega)] at c281
                      simp only [Int64.lt_iff_toInt_lt, Int64.le_iff_toInt_le, ← Int64.toInt_inj] at c152 c180 c215 c243 c267 c274
                      have ho : okB D nv nr ns v w k b = true := by unfold okB; rw [decide_eq_true_eq]; simp only [Int64.lt_iff_toInt_lt, ← Int64.toInt_inj]; omega
                      refine s_fg [7, 8, 9, 10, 11, 12] ?_ (ih (k + 1) (by omega))
                      rw [gd_s hg, hl, ho]; rfl
      · refine s_goto (tgt := 291) dX12_both_70 (by decide) ?_
        refine t_iinc (pc' := 294) (v := nI (k + 1)) (L' := [.ref 54, .int _, .int _, .int _, .int _, .int _, .int _, .retAddr _, .retAddr _, .retAddr _, .retAddr _, .retAddr _, .retAddr _]) dX12_both_291 rfl rfl (nI_inc k) rfl ?_
        refine s_goto (tgt := 47) dX12_both_294 (by decide) ?_
        rw [(G1 k (by omega)).2.2] at c67
        have hl := b2_0 (by simpa using c67)
        refine s_fg [7, 8, 9, 10, 11, 12] ?_ (ih (k + 1) (by omega))
        rw [gd_s hg, hl, hg]; rfl
theorem l_X12_both2 {N : Nat} {S : Nat → Nat × Nat} {I : Nat → Nat → Int32} {J : Nat → Nat → Int64} {Q : Nat → Nat → Option Nat} {κ : Option Value → HP → Prop}  {D : Nat → Nat → Int32} {nv nr ns : Nat} (G1 : LDG I J D nv nr ns) {v w : Nat} (hv : v < nv) (hw : w < nv) (hn10 : nv ≤ 10) (hk : κ (some (.int (nI (cntB (gd D nv nr ns v w 256) 256)))) (N, S, I, J, Q)) : ∀ d : Nat, ∀ k, k + d = 256 → SP E1 M_X12_both κ 27 [.ref 54, .int (nI v), .int (nI w), .int (nI (cntB (gd D nv nr ns v w 256) k)), .int (nI k), .retAddr 0, .retAddr 0, .retAddr 0, .retAddr 0, .retAddr 0, .retAddr 0, .retAddr 0, .retAddr 0] [] (N, S, I, J, Q) 0 0 := by
  intro d
  induction d with
  | zero =>
    intro k hd
    obtain rfl : k = 256 := by omega
    refine s_iload (pc' := 29) dX12_both_27 rfl rfl ?_
    refine s_sipush (pc' := 32) (v := 256) dX12_both_29 rfl (by decide) ?_
    refine s_icmpgeT (tgt := 316) dX12_both_32 (by decide) (by decide) ?_
    refine s_iload_n (pc' := 317) dX12_both_316 rfl rfl ?_
    exact s_iret dX12_both_317 rfl (by decide) (by decide) hk
  | succ d ih =>
    intro k hd
    refine s_iload (pc' := 29) dX12_both_27 rfl rfl ?_
    refine s_sipush (pc' := 32) (v := 256) dX12_both_29 rfl (by decide) ?_
    refine s_icmpgeF (pc' := 35) (tgt := 316) dX12_both_32 (by decide) rfl (nI_ge (b := 256) (by omega) (by decide)) ?_
    refine s_aload_n (pc' := 36) dX12_both_35 rfl rfl ?_
    refine s_getS (pc' := 39) (b := 83) dX12_both_36 rfl (by decide) rfl (by decide) fa_X12_95_12 rfl rfl ?_
    refine s_iload (pc' := 41) dX12_both_39 rfl rfl ?_
    refine t_zald (pc' := 42) dX12_both_41 rfl sh_83 rfl (by omega) ?_
    refine t_istore (pc' := 44) (L' := [.ref 54, .int _, .int _, .int _, .int _, .int _, .retAddr _, .retAddr _, .retAddr _, .retAddr _, .retAddr _, .retAddr _, .retAddr _]) dX12_both_42 rfl (Nat.le_of_ble_eq_true rfl) rfl ?_
    refine s_iconst (pc' := 45) (v := 0) dX12_both_44 rfl (by decide) ?_
    refine t_istore (pc' := 47) (L' := [.ref 54, .int _, .int _, .int _, .int _, .int _, .int _, .retAddr _, .retAddr _, .retAddr _, .retAddr _, .retAddr _, .retAddr _]) dX12_both_45 rfl (Nat.le_of_ble_eq_true rfl) rfl ?_
    refine s_eq ?_ rfl rfl (l_X12_both1 G1 hv hw hn10 (b := k) (n0 := nI (cntB (gd D nv nr ns v w 256) k)) (by omega) ?_ 256 0 rfl)
    · rw [(G1 k (by omega)).2.2]; unfold gd; rw [gdA, Bool.and_true]; rfl
    refine s_iload_n (pc' := 298) dX12_both_297 rfl rfl ?_
    refine s_iload (pc' := 300) dX12_both_298 rfl rfl ?_
    refine s_ifeq (pc' := 303) (tgt := 307) dX12_both_300 (by decide) rfl (fun c300 => ?_) (fun c300 => ?_)
    · refine s_iconst (pc' := 308) (v := 0) dX12_both_307 rfl (by decide) ?_
      refine s_iadd (pc' := 309) dX12_both_308 rfl ?_
      refine t_istore_n (pc' := 310) (L' := [.ref 54, .int _, .int _, .int _, .int _, .int _, .retAddr _, .retAddr _, .retAddr _, .retAddr _, .retAddr _, .retAddr _, .retAddr _]) dX12_both_309 rfl (Nat.le_of_ble_eq_true rfl) rfl ?_
      refine t_iinc (pc' := 313) (v := nI (k + 1)) (L' := [.ref 54, .int _, .int _, .int _, .int _, .int _, .retAddr _, .retAddr _, .retAddr _, .retAddr _, .retAddr _, .retAddr _, .retAddr _]) dX12_both_310 rfl rfl (nI_inc k) rfl ?_
      refine s_goto (tgt := 27) dX12_both_313 (by decide) ?_
      refine s_fg [5] ?_ (ih (k + 1) (by omega))
      rw [cnt_s0 (b2_0 c300), show nI (cntB (gd D nv nr ns v w 256) k) + 0 = nI (cntB (gd D nv nr ns v w 256) k) from Int32.add_zero _]; rfl
    · refine s_iconst (pc' := 304) (v := 1) dX12_both_303 rfl (by decide) ?_
      refine s_goto (tgt := 308) dX12_both_304 (by decide) ?_
      refine s_iadd (pc' := 309) dX12_both_308 rfl ?_
      refine t_istore_n (pc' := 310) (L' := [.ref 54, .int _, .int _, .int _, .int _, .int _, .retAddr _, .retAddr _, .retAddr _, .retAddr _, .retAddr _, .retAddr _, .retAddr _]) dX12_both_309 rfl (Nat.le_of_ble_eq_true rfl) rfl ?_
      refine t_iinc (pc' := 313) (v := nI (k + 1)) (L' := [.ref 54, .int _, .int _, .int _, .int _, .int _, .retAddr _, .retAddr _, .retAddr _, .retAddr _, .retAddr _, .retAddr _, .retAddr _]) dX12_both_310 rfl rfl (nI_inc k) rfl ?_
      refine s_goto (tgt := 27) dX12_both_313 (by decide) ?_
      refine s_fg [5] ?_ (ih (k + 1) (by omega))
      rw [cnt_s1 (b2_1 c300), nI_1]; rfl
theorem c_X12_both {N : Nat} {S : Nat → Nat × Nat} {I : Nat → Nat → Int32} {J : Nat → Nat → Int64} {Q : Nat → Nat → Option Nat} {κ : Option Value → HP → Prop} {D : Nat → Nat → Int32} {nv nr ns md : Nat} (M : MOD I J D nv nr ns) (hm : D 75 3 = nI md) (hmd : md < 256) {x y : Int32} (k1 : ((∀ j, j < nv → x ≠ nI j) ∨ (∀ j, j < nv → y ≠ nI j)) → κ (some (.int (-1))) (N, S, I, J, Q)) (k2 : ∀ v w, v < nv → w < nv → x = nI v → y = nI w → ∀ I' J', MQu I I' J J' D nv nr ns → κ (some (.int (nI (cntB (gd D nv nr ns v w 256) 256)))) (N, S, I', J', Q)) : CT E1 M_X12_both [.ref 54, .int x, .int y] (N, S, I, J, Q) κ := by
  refine ofSP mk_X12_both (Nat.le_of_ble_eq_true rfl) (L := [.ref 54, .int _, .int _, .retAddr _, .retAddr _, .retAddr _, .retAddr _, .retAddr _, .retAddr _, .retAddr _, .retAddr _, .retAddr _, .retAddr _]) rfl ?_
  refine s_aload_n (pc' := 1) dX12_both_0 rfl rfl ?_
  refine s_iload_n (pc' := 2) dX12_both_1 rfl rfl ?_
  refine s_callV (pc' := 5) (As := [.int _]) dX12_both_2 rfl mk_X12_isValue ml_X12_170 im_X12_isValue se_X12_X12_X12_isValue sh_54 (by decide) rfl rfl rfl ⟨Nat.le_of_ble_eq_true rfl, Nat.le_of_ble_eq_true rfl, Nat.le_of_ble_eq_true rfl, Nat.le_of_ble_eq_true rfl⟩ (Nat.le_of_ble_eq_true rfl) (c_X12_isValue (M.2.1.vn M.1) (by have := M.2.1.nv; omega) (fun j2 hj2 e2 => ?_) (fun n2 => ?_))
  · subst e2
    refine s_ifeqF (pc' := 8) (tgt := 16) dX12_both_5 (by decide) rfl (by decide) ?_
    refine s_aload_n (pc' := 9) dX12_both_8 rfl rfl ?_
    refine s_iload_n (pc' := 10) dX12_both_9 rfl rfl ?_
    refine s_callV (pc' := 13) (As := [.int _]) dX12_both_10 rfl mk_X12_isValue ml_X12_170 im_X12_isValue se_X12_X12_X12_isValue sh_54 (by decide) rfl rfl rfl ⟨Nat.le_of_ble_eq_true rfl, Nat.le_of_ble_eq_true rfl, Nat.le_of_ble_eq_true rfl, Nat.le_of_ble_eq_true rfl⟩ (Nat.le_of_ble_eq_true rfl) (c_X12_isValue (M.2.1.vn M.1) (by have := M.2.1.nv; omega) (fun j10 hj10 e10 => ?_) (fun n10 => ?_))
    · subst e10
      refine s_ifneT (tgt := 18) dX12_both_13 (by decide) (by decide) ?_
      refine s_aload_n (pc' := 19) dX12_both_18 rfl rfl ?_
      refine s_callV (pc' := 22) (As := []) dX12_both_19 rfl mk_X12_lay ml_X12_208 im_X12_lay se_X12_X12_X12_lay sh_54 (by decide) rfl rfl rfl ⟨Nat.le_of_ble_eq_true rfl, Nat.le_of_ble_eq_true rfl, Nat.le_of_ble_eq_true rfl, Nat.le_of_ble_eq_true rfl⟩ (Nat.le_of_ble_eq_true rfl) (e_lay M (fun I1 J1 h1 => ?_))
      have hD1 := h1.1.da M.1
      have G1 := h1.2.2.2.g M.2.1 M.2.2.1
      have e75 : I1 75 3 = nI md := by rw [hD1 75 (by decide) (by decide)]; exact hm
      refine s_iconst (pc' := 23) (v := 0) dX12_both_22 rfl (by decide) ?_
      refine t_istore_n (pc' := 24) (L' := [.ref 54, .int _, .int _, .int _, .retAddr _, .retAddr _, .retAddr _, .retAddr _, .retAddr _, .retAddr _, .retAddr _, .retAddr _, .retAddr _]) dX12_both_23 rfl (Nat.le_of_ble_eq_true rfl) rfl ?_
      refine s_iconst (pc' := 25) (v := 0) dX12_both_24 rfl (by decide) ?_
      refine t_istore (pc' := 27) (L' := [.ref 54, .int _, .int _, .int _, .int _, .retAddr _, .retAddr _, .retAddr _, .retAddr _, .retAddr _, .retAddr _, .retAddr _, .retAddr _]) dX12_both_25 rfl (Nat.le_of_ble_eq_true rfl) rfl ?_
      exact l_X12_both2 G1 hj2 hj10 M.2.1.nv (k2 j2 j10 hj2 hj10 rfl rfl I1 J1 h1.mq) 256 0 rfl
    · refine s_ifneF (pc' := 16) (tgt := 18) dX12_both_13 (by decide) rfl (by decide) ?_
      refine s_iconst (pc' := 17) (v := -1) dX12_both_16 rfl (by decide) ?_
      exact s_iret dX12_both_17 rfl (by decide) (by decide) (k1 (Or.inr n10))
  · refine s_ifeqT (tgt := 16) dX12_both_5 (by decide) (by decide) ?_
    refine s_iconst (pc' := 17) (v := -1) dX12_both_16 rfl (by decide) ?_
    exact s_iret dX12_both_17 rfl (by decide) (by decide) (k1 (Or.inl n2))
theorem l_X12_needs1 {N : Nat} {S : Nat → Nat × Nat} {I : Nat → Nat → Int32} {J : Nat → Nat → Int64} {Q : Nat → Nat → Option Nat} {κ : Option Value → HP → Prop}  {D : Nat → Nat → Int32} {nr w : Nat} (hN : ∀ v, v < 10 → I 77 v = nd D nr v) {s0 x y kk : Int32} (hk : ∀ s, NSt D nr w s0 s 10 → SP E1 M_X12_needs κ 79 [.ref 54, .int x, .int y, .int s, .int kk, .retAddr 0] [] (N, S, I, J, Q) 0 0) : ∀ d : Nat, ∀ j s, j + d = 10 → NSt D nr w s0 s j → SP E1 M_X12_needs κ 42 [.ref 54, .int x, .int y, .int s, .int kk, .int (nI j)] [] (N, S, I, J, Q) 0 0 := by
  intro d
  induction d with
  | zero =>
    intro j s hd hP
    obtain rfl : j = 10 := by omega
    refine s_iload (pc' := 44) dX12_needs_42 rfl rfl ?_
    refine s_bipush (pc' := 46) (v := 10) dX12_needs_44 rfl (by decide) ?_
    refine s_icmpgeT (tgt := 79) dX12_needs_46 (by decide) (by decide) ?_
    exact s_fg [5] rfl (hk s hP)
  | succ d ih =>
    intro j s hd hP
    refine s_iload (pc' := 44) dX12_needs_42 rfl rfl ?_
    refine s_bipush (pc' := 46) (v := 10) dX12_needs_44 rfl (by decide) ?_
    refine s_icmpgeF (pc' := 49) (tgt := 79) dX12_needs_46 (by decide) rfl (nI_ge (b := 10) (by omega) (by decide)) ?_
    refine s_iload_n (pc' := 50) dX12_needs_49 rfl rfl ?_
    refine s_iload_n (pc' := 51) dX12_needs_50 rfl rfl ?_
    refine s_iload (pc' := 53) dX12_needs_51 rfl rfl ?_
    refine s_ishr (pc' := 54) dX12_needs_53 rfl ?_
    refine s_iconst (pc' := 55) (v := 1) dX12_needs_54 rfl (by decide) ?_
    refine s_iand (pc' := 56) dX12_needs_55 rfl ?_
    refine s_iconst (pc' := 57) (v := 1) dX12_needs_56 rfl (by decide) ?_
    refine s_icmpne (pc' := 60) (tgt := 70) dX12_needs_57 (by decide) rfl (fun c57 => ?_) (fun c57 => ?_)
    · refine s_iconst (pc' := 71) (v := 0) dX12_needs_70 rfl (by decide) ?_
      refine s_ior (pc' := 72) dX12_needs_71 rfl ?_
      refine t_istore_n (pc' := 73) (L' := [.ref 54, .int _, .int _, .int _, .int _, .int _]) dX12_needs_72 rfl (Nat.le_of_ble_eq_true rfl) rfl ?_
      refine t_iinc (pc' := 76) (v := nI (j + 1)) (L' := [.ref 54, .int _, .int _, .int _, .int _, .int _]) dX12_needs_73 rfl rfl (nI_inc j) rfl ?_
      refine s_goto (tgt := 42) dX12_needs_76 (by decide) ?_
      refine s_eq ?_ rfl rfl (ih (j + 1) s (by omega) (hP.no (bitI_f (by omega) c57)))
      rw [or_z]
    · refine s_aload_n (pc' := 61) dX12_needs_60 rfl rfl ?_
      refine s_getS (pc' := 64) (b := 77) dX12_needs_61 rfl (by decide) rfl (by decide) fa_X12_76_12 rfl rfl ?_
      refine s_iload (pc' := 66) dX12_needs_64 rfl rfl ?_
      refine t_iald (pc' := 67) dX12_needs_66 rfl sh_77 rfl (by omega) ?_
      refine s_goto (tgt := 71) dX12_needs_67 (by decide) ?_
      refine s_ior (pc' := 72) dX12_needs_71 rfl ?_
      refine t_istore_n (pc' := 73) (L' := [.ref 54, .int _, .int _, .int _, .int _, .int _]) dX12_needs_72 rfl (Nat.le_of_ble_eq_true rfl) rfl ?_
      refine t_iinc (pc' := 76) (v := nI (j + 1)) (L' := [.ref 54, .int _, .int _, .int _, .int _, .int _]) dX12_needs_73 rfl rfl (nI_inc j) rfl ?_
      refine s_goto (tgt := 42) dX12_needs_76 (by decide) ?_
      rw [hN j (by omega)]
      exact ih (j + 1) _ (by omega) (hP.yes ((bitI_1 (by omega)).mp (by simpa [bitI] using c57)))
theorem l_X12_needs2 {N : Nat} {S : Nat → Nat × Nat} {I : Nat → Nat → Int32} {J : Nat → Nat → Int64} {Q : Nat → Nat → Option Nat} {κ : Option Value → HP → Prop}  {D : Nat → Nat → Int32} {nr w : Nat} (hN : ∀ v, v < 10 → I 77 v = nd D nr v) {x y : Int32} (hlt : ∀ z, RC D nr w z → z < 10) (hk : ∀ s, (∀ u, bt s u = true → RC D nr w u) → (∀ u, u < 10 → pth D nr w 10 u → bt s u = true) → SP E1 M_X12_needs κ 85 [.ref 54, .int x, .int y, .int s, .retAddr 0, .retAddr 0] [] (N, S, I, J, Q) 0 0) : ∀ d : Nat, ∀ k s, k + d = 10 → (∀ u, bt s u = true → RC D nr w u) → (∀ u, u < 10 → pth D nr w k u → bt s u = true) → SP E1 M_X12_needs κ 32 [.ref 54, .int x, .int y, .int s, .int (nI k), .retAddr 0] [] (N, S, I, J, Q) 0 0 := by
  intro d
  induction d with
  | zero =>
    intro k s hd h1 h2
    obtain rfl : k = 10 := by omega
    refine s_iload (pc' := 34) dX12_needs_32 rfl rfl ?_
    refine s_bipush (pc' := 36) (v := 10) dX12_needs_34 rfl (by decide) ?_
    refine s_icmpgeT (tgt := 85) dX12_needs_36 (by decide) (by decide) ?_
    exact s_fg [4] rfl (hk s h1 h2)
  | succ d ih =>
    intro k s hd h1 h2
    refine s_iload (pc' := 34) dX12_needs_32 rfl rfl ?_
    refine s_bipush (pc' := 36) (v := 10) dX12_needs_34 rfl (by decide) ?_
    refine s_icmpgeF (pc' := 39) (tgt := 85) dX12_needs_36 (by decide) rfl (nI_ge (b := 10) (by omega) (by decide)) ?_
    refine s_iconst (pc' := 40) (v := 0) dX12_needs_39 rfl (by decide) ?_
    refine t_istore (pc' := 42) (L' := [.ref 54, .int _, .int _, .int _, .int _, .int _]) dX12_needs_40 rfl (Nat.le_of_ble_eq_true rfl) rfl ?_
    refine l_X12_needs1 hN (w := w) (s0 := s) (fun s2 hs => ?_) 10 0 s rfl ⟨h1, fun _ h => h, fun z hz => by omega⟩
    refine t_iinc (pc' := 82) (v := nI (k + 1)) (L' := [.ref 54, .int _, .int _, .int _, .int _, .retAddr _]) dX12_needs_79 rfl rfl (nI_inc k) rfl ?_
    refine s_goto (tgt := 32) dX12_needs_82 (by decide) ?_
    exact ih (k + 1) s2 (by omega) hs.1 (fun u hu hp => by
      rcases hp with q | ⟨z, q1, q2⟩
      · exact hs.2.1 u (h2 u hu q)
      · by_cases hz : z < 10
        · exact hs.2.2 z hz (h2 z hz q1) u q2
        · exact absurd (hlt z (pth_RC _ _ q1)) (by omega))
theorem c_X12_needs {N : Nat} {S : Nat → Nat × Nat} {I : Nat → Nat → Int32} {J : Nat → Nat → Int64} {Q : Nat → Nat → Option Nat} {κ : Option Value → HP → Prop} {D : Nat → Nat → Int32} {nv nr ns md : Nat} (M : MOD I J D nv nr ns) (hm : D 75 3 = nI md) (hmd : md < 256) (hC : CB D nv nr) {x y : Int32} (k1 : ((∀ j, j < nv → x ≠ nI j) ∨ (∀ j, j < nv → y ≠ nI j)) → κ (some (.int (-1))) (N, S, I, J, Q)) (k2 : ∀ w v, w < nv → v < nv → x = nI w → y = nI v → ∀ s : Int32, (∀ u, u < 10 → (bt s u = true ↔ RC D nr w u)) → ∀ I', F77 I I' → κ (some (.int (bitI s (nI v)))) (N, S, I', J, Q)) : CT E1 M_X12_needs [.ref 54, .int x, .int y] (N, S, I, J, Q) κ := by
  refine ofSP mk_X12_needs (Nat.le_of_ble_eq_true rfl) (L := [.ref 54, .int _, .int _, .retAddr _, .retAddr _, .retAddr _]) rfl ?_
  refine s_aload_n (pc' := 1) dX12_needs_0 rfl rfl ?_
  refine s_iload_n (pc' := 2) dX12_needs_1 rfl rfl ?_
  refine s_callV (pc' := 5) (As := [.int _]) dX12_needs_2 rfl mk_X12_isValue ml_X12_170 im_X12_isValue se_X12_X12_X12_isValue sh_54 (by decide) rfl rfl rfl ⟨Nat.le_of_ble_eq_true rfl, Nat.le_of_ble_eq_true rfl, Nat.le_of_ble_eq_true rfl, Nat.le_of_ble_eq_true rfl⟩ (Nat.le_of_ble_eq_true rfl) (c_X12_isValue (M.2.1.vn M.1) (by have := M.2.1.nv; omega) (fun j2 hj2 e2 => ?_) (fun n2 => ?_))
  · subst e2
    refine s_ifeqF (pc' := 8) (tgt := 16) dX12_needs_5 (by decide) rfl (by decide) ?_
    refine s_aload_n (pc' := 9) dX12_needs_8 rfl rfl ?_
    refine s_iload_n (pc' := 10) dX12_needs_9 rfl rfl ?_
    refine s_callV (pc' := 13) (As := [.int _]) dX12_needs_10 rfl mk_X12_isValue ml_X12_170 im_X12_isValue se_X12_X12_X12_isValue sh_54 (by decide) rfl rfl rfl ⟨Nat.le_of_ble_eq_true rfl, Nat.le_of_ble_eq_true rfl, Nat.le_of_ble_eq_true rfl, Nat.le_of_ble_eq_true rfl⟩ (Nat.le_of_ble_eq_true rfl) (c_X12_isValue (M.2.1.vn M.1) (by have := M.2.1.nv; omega) (fun j10 hj10 e10 => ?_) (fun n10 => ?_))
    · subst e10
      refine s_ifneT (tgt := 18) dX12_needs_13 (by decide) (by decide) ?_
      have hn10 := M.2.1.nv
      refine s_aload_n (pc' := 19) dX12_needs_18 rfl rfl ?_
      refine s_callV (pc' := 22) (As := []) dX12_needs_19 rfl mk_X12_findNeeds ml_X12_197 im_X12_findNeeds se_X12_X12_X12_findNeeds sh_54 (by decide) rfl rfl rfl ⟨Nat.le_of_ble_eq_true rfl, Nat.le_of_ble_eq_true rfl, Nat.le_of_ble_eq_true rfl, Nat.le_of_ble_eq_true rfl⟩ (Nat.le_of_ble_eq_true rfl) (c_X12_findNeeds M.1 M.2.1 (fun I1 hn1 => ?_))
      refine s_aload_n (pc' := 23) dX12_needs_22 rfl rfl ?_
      refine s_getS (pc' := 26) (b := 77) dX12_needs_23 rfl (by decide) rfl (by decide) fa_X12_76_12 rfl rfl ?_
      refine s_iload_n (pc' := 27) dX12_needs_26 rfl rfl ?_
      refine t_iald (pc' := 28) dX12_needs_27 rfl sh_77 rfl (by omega) ?_
      refine t_istore_n (pc' := 29) (L' := [.ref 54, .int _, .int _, .int _, .retAddr _, .retAddr _]) dX12_needs_28 rfl (Nat.le_of_ble_eq_true rfl) rfl ?_
      refine s_iconst (pc' := 30) (v := 0) dX12_needs_29 rfl (by decide) ?_
      refine t_istore (pc' := 32) (L' := [.ref 54, .int _, .int _, .int _, .int _, .retAddr _]) dX12_needs_30 rfl (Nat.le_of_ble_eq_true rfl) rfl ?_
      rw [hn1.2 j2 (by omega)]
      refine l_X12_needs2 (w := j2) hn1.2 (fun z hz => by have := RC.lt M.2.1 hz; omega) (fun s g1 g2 => ?_) 10 0 _ rfl (fun u hu => RC.one hu) (fun u hu hp => hp)
      refine s_iload_n (pc' := 86) dX12_needs_85 rfl rfl ?_
      refine s_iload_n (pc' := 87) dX12_needs_86 rfl rfl ?_
      refine s_ishr (pc' := 88) dX12_needs_87 rfl ?_
      refine s_iconst (pc' := 89) (v := 1) dX12_needs_88 rfl (by decide) ?_
      refine s_iand (pc' := 90) dX12_needs_89 rfl ?_
      exact s_iret dX12_needs_90 rfl (by decide) (by decide) (k2 j2 j10 hj2 hj10 rfl rfl s (fun u hu => ⟨g1 u, fun hr => g2 u (by have := RC.lt M.2.1 hr; omega) (pth_mono (RC_pth M.2.1 hC hj2 hr) 10 (by omega))⟩) I1 hn1.1)
    · refine s_ifneF (pc' := 16) (tgt := 18) dX12_needs_13 (by decide) rfl (by decide) ?_
      refine s_iconst (pc' := 17) (v := -1) dX12_needs_16 rfl (by decide) ?_
      exact s_iret dX12_needs_17 rfl (by decide) (by decide) (k1 (Or.inr n10))
  · refine s_ifeqT (tgt := 16) dX12_needs_5 (by decide) (by decide) ?_
    refine s_iconst (pc' := 17) (v := -1) dX12_needs_16 rfl (by decide) ?_
    exact s_iret dX12_needs_17 rfl (by decide) (by decide) (k1 (Or.inl n2))
theorem nI_m1l {k : Nat} (hk : k ≤ 1000) : (nI k - 1).toInt64.toInt = (k : Int) - 1 := by
  rw [Int32.toInt_toInt64]
  exact pk_sub_toInt (a := k) (b := 1) (by omega) (by decide)
theorem inR_ix {x : Int32} {k : Nat} (h : inR x 0 ((k : Int) - 1)) : ∃ j, j < k ∧ x = nI j := by
  obtain ⟨n, e1, e2, -⟩ := toNat_of h (Int.le_refl 0)
  exact ⟨n, by have := h.2; omega, e1⟩
theorem inR_nix {x : Int32} {k : Nat} (hk : k ≤ 1000) (h : ¬ inR x 0 ((k : Int) - 1)) : ∀ j, j < k → x ≠ nI j := fun j hj e => h (by rw [e]; unfold inR; rw [nI_toInt (by omega)]; omega)
theorem c_X12_ring {N : Nat} {S : Nat → Nat × Nat} {I : Nat → Nat → Int32} {J : Nat → Nat → Int64} {Q : Nat → Nat → Option Nat} {κ : Option Value → HP → Prop} {x : Int32} {kk : Nat} (hk : I 54 31 = nI kk) (hk10 : kk ≤ 10) (k1 : ∀ j, j < kk → x = nI j → κ (some (.int (I 79 j))) (N, S, I, J, Q)) (k2 : (∀ j, j < kk → x ≠ nI j) → κ (some (.int (-1))) (N, S, I, J, Q)) : CT E1 M_X12_ring [.ref 54, .int x] (N, S, I, J, Q) κ := by
  refine ofSP mk_X12_ring (Nat.le_of_ble_eq_true rfl) (L := [.ref 54, .int _]) rfl ?_
  refine s_iload_n (pc' := 1) dX12_ring_0 rfl rfl ?_
  refine s_i2l (pc' := 2) dX12_ring_1 rfl ?_
  refine s_lconst (pc' := 3) (v := 0) dX12_ring_2 rfl (by decide) ?_
  refine s_aload_n (pc' := 4) dX12_ring_3 rfl rfl ?_
  refine t_getI (pc' := 7) dX12_ring_4 rfl sh_54 (by decide) fa_X12_200_12 rfl ?_
  refine s_iconst (pc' := 8) (v := 1) dX12_ring_7 rfl (by decide) ?_
  refine s_isub (pc' := 9) dX12_ring_8 rfl ?_
  refine s_i2l (pc' := 10) dX12_ring_9 rfl ?_
  refine s_callS (pc' := 13) (As := [.long _, .long _, .long _]) dX12_ring_10 rfl mk_X12_isIn ml_X12_135 sm_X12_isIn rfl rfl ⟨Nat.le_of_ble_eq_true rfl, Nat.le_of_ble_eq_true rfl, Nat.le_of_ble_eq_true rfl, Nat.le_of_ble_eq_true rfl⟩ (Nat.le_of_ble_eq_true rfl) (c_isInR (a' := 0) (b' := (kk : Int) - 1) rfl (by rw [hk]; exact nI_m1l (by omega)) (fun i10 => ?_) (fun i10 => ?_))
  · refine s_ifeqF (pc' := 16) (tgt := 25) dX12_ring_13 (by decide) rfl (by decide) ?_
    obtain ⟨j, hj, ej⟩ := inR_ix i10
    subst ej
    refine s_aload_n (pc' := 17) dX12_ring_16 rfl rfl ?_
    refine s_getS (pc' := 20) (b := 79) dX12_ring_17 rfl (by decide) rfl (by decide) fa_X12_82_12 rfl rfl ?_
    refine s_iload_n (pc' := 21) dX12_ring_20 rfl rfl ?_
    refine t_iald (pc' := 22) dX12_ring_21 rfl sh_79 rfl (by omega) ?_
    refine s_goto (tgt := 26) dX12_ring_22 (by decide) ?_
    exact s_iret dX12_ring_26 rfl (by decide) (by decide) (k1 j hj rfl)
  · refine s_ifeqT (tgt := 25) dX12_ring_13 (by decide) (by decide) ?_
    refine s_iconst (pc' := 26) (v := -1) dX12_ring_25 rfl (by decide) ?_
    exact s_iret dX12_ring_26 rfl (by decide) (by decide) (k2 (inR_nix (by omega) i10))
