/-! ===== rule, typed, row: the model ===== -/
section RDS
variable {how of b : Int32}
theorem rdS_00 (h : how ≤ 2) : rdS how of (-1) = 0 := by
  unfold rdS; rw [if_neg (Int32.not_lt.mpr h), if_pos (by decide)]; rfl
theorem rdS_10 (h : ¬ how ≤ 2) : rdS how of (-1) = (1 : Int32) <<< (of &&& 31) := by
  unfold rdS; rw [if_pos (Int32.not_le.mp h), if_pos (by decide), Int32.or_zero]
theorem rdS_01 (h : how ≤ 2) (hb : ¬ b < 0) : rdS how of b = 0 ||| (1 : Int32) <<< (b &&& 31) := by
  unfold rdS; rw [if_neg (Int32.not_lt.mpr h), if_neg hb]
theorem rdS_11 (h : ¬ how ≤ 2) (hb : ¬ b < 0) : rdS how of b = (1 : Int32) <<< (of &&& 31) ||| (1 : Int32) <<< (b &&& 31) := by
  unfold rdS; rw [if_pos (Int32.not_le.mp h), if_neg hb]
end RDS
set_option maxHeartbeats 200000 in
theorem c_X12_adds {N : Nat} {S : Nat → Nat × Nat} {I : Nat → Nat → Int32} {J : Nat → Nat → Int64} {Q : Nat → Nat → Option Nat} {κ : Option Value → HP → Prop} {D : Nat → Nat → Int32} {nv nr ns kn : Nat} (hD : DA I D) (hW : DW D nv nr ns) (hR : ∀ w, w < nv → RKP D nv nr w) (hk6 : kn ≤ 6) {aim more amt by_ ty le : Int32} (k1 : (∀ a ra so am b fa, ¬ RGO nv nr (I 54 25) kn aim more amt by_ a ra so am b fa) → κ (some (.int (-1))) (N, S, up2 I 54 24 1, J, Q)) (k2 : ∀ a ra so am b fa, RGO nv nr (I 54 25) kn aim more amt by_ a ra so am b fa → nr = 30 → κ (some (.int (-1))) (N, S, up2 I 54 24 2, J, Q)) (k3 : ∀ a ra so am b fa, RGO nv nr (I 54 25) kn aim more amt by_ a ra so am b fa → nr < 30 → kn ≤ 3 → ∀ m r, MNR D nr a (rdS (I 54 25) (I 54 26) b) m → RNG D nr a (rdS (I 54 25) (I 54 26) b) m r → ∀ I', RGI I I' D nr a (rdS (I 54 25) (I 54 26) b) m m r → κ (some (.int (-1))) (N, S, up2 I' 54 24 4, J, Q)) (k4 : ∀ a ra so am b fa, RGO nv nr (I 54 25) kn aim more amt by_ a ra so am b fa → nr < 30 → (kn ≤ 3 → ∀ v, v < 10 → bt (rdS (I 54 25) (I 54 26) b) v = true → dst D nr a v = 100) → ∀ I', (∀ c, c ≠ 77 → c ≠ 78 → I' c = I c) → κ (some (.int (nI nr))) (N, S, up2 (up2 (nwD I' nr (nI kn) (nI a) (nI ra) (nI so) ty le am b fa (I 54 25) (I 54 26) (I 54 27)) 54 37 0) 54 24 0, J, Q)) : CT E1 M_X12_adds [.ref 54, .int (nI kn), .int aim, .int more, .int amt, .int by_, .int ty, .int le] (N, S, I, J, Q) κ := by
  refine ofSP mk_X12_adds (Nat.le_of_ble_eq_true rfl) (L := [.ref 54, .int _, .int _, .int _, .int _, .int _, .int _, .int _, .retAddr _, .retAddr _, .retAddr _, .retAddr _]) rfl ?_
  refine s_iload_n (pc' := 1) dX12_adds_0 rfl rfl ?_
  refine s_iconst (pc' := 2) (v := 3) dX12_adds_1 rfl (by decide) ?_
  refine s_icmpgt (pc' := 5) (tgt := 9) dX12_adds_2 (by decide) rfl (fun c2 => ?_) (fun c2 => ?_)
  · refine s_iconst (pc' := 10) (v := 0) dX12_adds_9 rfl (by decide) ?_
    refine t_istore (pc' := 12) (L' := [.ref 54, .int _, .int _, .int _, .int _, .int _, .int _, .int _, .int _, .retAddr _, .retAddr _, .retAddr _]) dX12_adds_10 rfl (Nat.le_of_ble_eq_true rfl) rfl ?_
    have kv : 3 < kn := (nI_ltI (a := 3) (by decide) (by omega)).mp c2
    refine s_iload_n (pc' := 13) dX12_adds_12 rfl rfl ?_
    refine s_iflt (pc' := 16) (tgt := 50) dX12_adds_13 (by decide) rfl (fun c13 => ?_) (fun c13 => ?_)
    · refine s_iconst (pc' := 51) (v := 0) dX12_adds_50 rfl (by decide) ?_
      refine t_istore (pc' := 53) (L' := [.ref 54, .int _, .int _, .int _, .int _, .int _, .int _, .int _, .int _, .int _, .retAddr _, .retAddr _]) dX12_adds_51 rfl (Nat.le_of_ble_eq_true rfl) rfl ?_
      refine s_iload (pc' := 55) dX12_adds_53 rfl rfl ?_
      refine s_ifeqT (tgt := 101) dX12_adds_55 (by decide) (by decide) ?_
      refine s_iconst (pc' := 102) (v := 0) dX12_adds_101 rfl (by decide) ?_
      refine t_istore (pc' := 104) (L' := [.ref 54, .int _, .int _, .int _, .int _, .int _, .int _, .int _, .int _, .int _, .retAddr _, .retAddr _]) dX12_adds_102 rfl (Nat.le_of_ble_eq_true rfl) rfl ?_
      refine s_iload (pc' := 106) dX12_adds_104 rfl rfl ?_
      refine s_ifeqT (tgt := 172) dX12_adds_106 (by decide) (by decide) ?_
      refine s_iconst (pc' := 173) (v := 0) dX12_adds_172 rfl (by decide) ?_
      refine t_istore (pc' := 175) (L' := [.ref 54, .int _, .int _, .int _, .int _, .int _, .int _, .int _, .int _, .int _, .retAddr _, .retAddr _]) dX12_adds_173 rfl (Nat.le_of_ble_eq_true rfl) rfl ?_
      refine s_iload (pc' := 177) dX12_adds_175 rfl rfl ?_
      refine s_ifeqT (tgt := 193) dX12_adds_177 (by decide) (by decide) ?_
      refine s_aload_n (pc' := 194) dX12_adds_193 rfl rfl ?_
      refine s_iconst (pc' := 195) (v := 1) dX12_adds_194 rfl (by decide) ?_
      refine s_callV (pc' := 198) (As := [.int _]) dX12_adds_195 rfl mk_X12_refused ml_X12_149 im_X12_refused se_X12_X12_X12_refused sh_54 (by decide) rfl rfl rfl ⟨Nat.le_of_ble_eq_true rfl, Nat.le_of_ble_eq_true rfl, Nat.le_of_ble_eq_true rfl, Nat.le_of_ble_eq_true rfl⟩ (Nat.le_of_ble_eq_true rfl) (c_X12_refused ?_)
      exact s_iret dX12_adds_198 rfl (by decide) (by decide) (k1 (fun a ra so am b fa g => (g.f hW.nv).1 c13))
    · refine s_iload_n (pc' := 17) dX12_adds_16 rfl rfl ?_
      refine s_bipush (pc' := 19) (v := 16) dX12_adds_17 rfl (by decide) ?_
      refine s_irem (pc' := 20) dX12_adds_19 rfl (by decide) ?_
      refine s_i2l (pc' := 21) dX12_adds_20 rfl ?_
      refine s_lconst (pc' := 22) (v := 0) dX12_adds_21 rfl (by decide) ?_
      refine s_ldc2 (pc' := 25) dX12_adds_22 rfl kl_X12_186 ?_
      refine s_callS (pc' := 28) (As := [.long _, .long _, .long _]) dX12_adds_25 rfl mk_X12_isIn ml_X12_135 sm_X12_isIn rfl rfl ⟨Nat.le_of_ble_eq_true rfl, Nat.le_of_ble_eq_true rfl, Nat.le_of_ble_eq_true rfl, Nat.le_of_ble_eq_true rfl⟩ (Nat.le_of_ble_eq_true rfl) (c_isInR (a' := 0) (b' := 9) rfl rfl (fun i25 => ?_) (fun i25 => ?_))
      · refine s_ifeqF (pc' := 31) (tgt := 50) dX12_adds_28 (by decide) rfl (by decide) ?_
        refine s_iload_n (pc' := 32) dX12_adds_31 rfl rfl ?_
        refine s_bipush (pc' := 34) (v := 16) dX12_adds_32 rfl (by decide) ?_
        refine s_idiv (pc' := 35) dX12_adds_34 rfl (by decide) ?_
        refine s_i2l (pc' := 36) dX12_adds_35 rfl ?_
        refine s_lconst (pc' := 37) (v := 0) dX12_adds_36 rfl (by decide) ?_
        refine s_ldc2 (pc' := 40) dX12_adds_37 rfl kl_X12_188 ?_
        refine s_callS (pc' := 43) (As := [.long _, .long _, .long _]) dX12_adds_40 rfl mk_X12_isIn ml_X12_135 sm_X12_isIn rfl rfl ⟨Nat.le_of_ble_eq_true rfl, Nat.le_of_ble_eq_true rfl, Nat.le_of_ble_eq_true rfl, Nat.le_of_ble_eq_true rfl⟩ (Nat.le_of_ble_eq_true rfl) (c_isInR (a' := 0) (b' := 20) rfl rfl (fun i40 => ?_) (fun i40 => ?_))
        · refine s_ifeqF (pc' := 46) (tgt := 50) dX12_adds_43 (by decide) rfl (by decide) ?_
          refine s_iconst (pc' := 47) (v := 1) dX12_adds_46 rfl (by decide) ?_
          refine s_goto (tgt := 51) dX12_adds_47 (by decide) ?_
          refine t_istore (pc' := 53) (L' := [.ref 54, .int _, .int _, .int _, .int _, .int _, .int _, .int _, .int _, .int _, .retAddr _, .retAddr _]) dX12_adds_51 rfl (Nat.le_of_ble_eq_true rfl) rfl ?_
          refine s_iload (pc' := 55) dX12_adds_53 rfl rfl ?_
          refine s_ifeqF (pc' := 58) (tgt := 101) dX12_adds_55 (by decide) rfl (by decide) ?_
          refine s_iload (pc' := 60) dX12_adds_58 rfl rfl ?_
          refine s_ifeqT (tgt := 74) dX12_adds_60 (by decide) (by decide) ?_
          refine s_iload_n (pc' := 75) dX12_adds_74 rfl rfl ?_
          refine s_iconst (pc' := 76) (v := 4) dX12_adds_75 rfl (by decide) ?_
          refine s_icmpne (pc' := 79) (tgt := 90) dX12_adds_76 (by decide) rfl (fun c76 => ?_) (fun c76 => ?_)
          · have k4n : kn ≠ 4 := fun z => c76 (by rw [z]; rfl)
            refine s_iload_n (pc' := 91) dX12_adds_90 rfl rfl ?_
            refine s_callS (pc' := 94) (As := [.int _]) dX12_adds_91 rfl mk_X12_isChoice ml_X12_160 sm_X12_isChoice rfl rfl ⟨Nat.le_of_ble_eq_true rfl, Nat.le_of_ble_eq_true rfl, Nat.le_of_ble_eq_true rfl, Nat.le_of_ble_eq_true rfl⟩ (Nat.le_of_ble_eq_true rfl) (c_X12_isChoice (fun j91 hj91 e91 => ?_) (fun n91 => ?_))
            · subst e91
              refine s_ifeqF (pc' := 97) (tgt := 101) dX12_adds_94 (by decide) rfl (by decide) ?_
              refine s_iconst (pc' := 98) (v := 1) dX12_adds_97 rfl (by decide) ?_
              refine s_goto (tgt := 102) dX12_adds_98 (by decide) ?_
              refine t_istore (pc' := 104) (L' := [.ref 54, .int _, .int _, .int _, .int _, .int _, .int _, .int _, .int _, .int _, .retAddr _, .retAddr _]) dX12_adds_102 rfl (Nat.le_of_ble_eq_true rfl) rfl ?_
              refine s_iload (pc' := 106) dX12_adds_104 rfl rfl ?_
              refine s_ifeqF (pc' := 109) (tgt := 172) dX12_adds_106 (by decide) rfl (by decide) ?_
              refine s_iload (pc' := 111) dX12_adds_109 rfl rfl ?_
              refine s_ifeqT (tgt := 168) dX12_adds_111 (by decide) (by decide) ?_
              refine s_iconst (pc' := 169) (v := 1) dX12_adds_168 rfl (by decide) ?_
              refine s_goto (tgt := 173) dX12_adds_169 (by decide) ?_
              refine t_istore (pc' := 175) (L' := [.ref 54, .int _, .int _, .int _, .int _, .int _, .int _, .int _, .int _, .int _, .retAddr _, .retAddr _]) dX12_adds_173 rfl (Nat.le_of_ble_eq_true rfl) rfl ?_
              refine s_iload (pc' := 177) dX12_adds_175 rfl rfl ?_
              refine s_ifeqF (pc' := 180) (tgt := 193) dX12_adds_177 (by decide) rfl (by decide) ?_
              refine s_iload_n (pc' := 181) dX12_adds_180 rfl rfl ?_
              refine s_iconst (pc' := 182) (v := 4) dX12_adds_181 rfl (by decide) ?_
              refine s_icmpneT (tgt := 199) dX12_adds_182 (by decide) c76 ?_
              refine s_aload_n (pc' := 200) dX12_adds_199 rfl rfl ?_
              refine s_getS (pc' := 203) (b := 75) dX12_adds_200 rfl (by decide) rfl (by decide) fa_X12_70_12 rfl rfl ?_
              refine s_iconst (pc' := 204) (v := 1) dX12_adds_203 rfl (by decide) ?_
              refine t_iald (pc' := 205) (q := 1) dX12_adds_204 rfl sh_75 rfl (by decide) ?_
              refine s_bipush (pc' := 207) (v := 30) dX12_adds_205 rfl (by decide) ?_
              refine s_icmpne (pc' := 210) (tgt := 216) dX12_adds_207 (by decide) rfl (fun c207 => ?_) (fun c207 => ?_)
              · have n30 : nr < 30 := by have := hW.nr; have : nr ≠ 30 := fun z => c207 (by rw [hW.rn hD, z]; rfl); omega
                refine s_aload_n (pc' := 217) dX12_adds_216 rfl rfl ?_
                refine t_getI (pc' := 220) dX12_adds_217 rfl sh_54 (by decide) fa_X12_164_12 rfl ?_
                refine s_iconst (pc' := 221) (v := 2) dX12_adds_220 rfl (by decide) ?_
                refine s_icmple (pc' := 224) (tgt := 233) dX12_adds_221 (by decide) rfl (fun c221 => ?_) (fun c221 => ?_)
                · refine s_iconst (pc' := 234) (v := 0) dX12_adds_233 rfl (by decide) ?_
                  refine t_istore (pc' := 236) (L' := [.ref 54, .int _, .int _, .int _, .int _, .int _, .int _, .int _, .int _, .int _, .int _, .retAddr _]) dX12_adds_234 rfl (Nat.le_of_ble_eq_true rfl) rfl ?_
                  refine s_iload (pc' := 238) dX12_adds_236 rfl rfl ?_
                  refine s_ifeqT (tgt := 258) dX12_adds_238 (by decide) (by decide) ?_
                  refine s_iload (pc' := 260) dX12_adds_258 rfl rfl ?_
                  refine s_ifeqT (tgt := 279) dX12_adds_260 (by decide) (by decide) ?_
                  refine s_aload_n (pc' := 280) dX12_adds_279 rfl rfl ?_
                  refine s_getS (pc' := 283) (b := 75) dX12_adds_280 rfl (by decide) rfl (by decide) fa_X12_70_12 rfl rfl ?_
                  refine s_iconst (pc' := 284) (v := 1) dX12_adds_283 rfl (by decide) ?_
                  refine t_iald (pc' := 285) (q := 1) dX12_adds_284 rfl sh_75 rfl (by decide) ?_
                  rw [hW.rn hD]
                  refine t_istore (pc' := 287) (L' := [.ref 54, .int _, .int _, .int _, .int _, .int _, .int _, .int _, .int _, .int _, .int _, .int _]) dX12_adds_285 rfl (Nat.le_of_ble_eq_true rfl) rfl ?_
                  refine s_aload_n (pc' := 288) dX12_adds_287 rfl rfl ?_
                  refine s_getS (pc' := 291) (b := 75) dX12_adds_288 rfl (by decide) rfl (by decide) fa_X12_70_12 rfl rfl ?_
                  refine s_iconst (pc' := 292) (v := 1) dX12_adds_291 rfl (by decide) ?_
                  refine s_dup2 (pc' := 293) dX12_adds_292 rfl rfl rfl ?_
                  refine t_iald (pc' := 294) (q := 1) dX12_adds_293 rfl sh_75 rfl (by decide) ?_
                  rw [hW.rn hD]
                  refine s_iconst (pc' := 295) (v := 1) dX12_adds_294 rfl (by decide) ?_
                  refine s_iadd (pc' := 296) dX12_adds_295 rfl ?_
                  rw [nI_1]
                  refine t_iast (pc' := 297) (q := 1) dX12_adds_296 rfl sh_75 rfl (by decide) ?_
                  refine s_aload_n (pc' := 298) dX12_adds_297 rfl rfl ?_
                  refine s_getS (pc' := 301) (b := 60) dX12_adds_298 rfl (by decide) rfl (by decide) fa_X12_25_12 rfl rfl ?_
                  refine s_iload (pc' := 303) dX12_adds_301 rfl rfl ?_
                  refine s_iload_n (pc' := 304) dX12_adds_303 rfl rfl ?_
                  refine t_iast (pc' := 305) dX12_adds_304 rfl sh_60 rfl n30 ?_
                  refine s_aload_n (pc' := 306) dX12_adds_305 rfl rfl ?_
                  refine s_getS (pc' := 309) (b := 61) dX12_adds_306 rfl (by decide) rfl (by decide) fa_X12_28_12 rfl rfl ?_
                  refine s_iload (pc' := 311) dX12_adds_309 rfl rfl ?_
                  refine s_iload_n (pc' := 312) dX12_adds_311 rfl rfl ?_
                  refine t_iast (pc' := 313) dX12_adds_312 rfl sh_61 rfl n30 ?_
                  refine s_aload_n (pc' := 314) dX12_adds_313 rfl rfl ?_
                  refine s_getS (pc' := 317) (b := 62) dX12_adds_314 rfl (by decide) rfl (by decide) fa_X12_31_12 rfl rfl ?_
                  refine s_iload (pc' := 319) dX12_adds_317 rfl rfl ?_
                  refine s_iload_n (pc' := 320) dX12_adds_319 rfl rfl ?_
                  refine s_bipush (pc' := 322) (v := 16) dX12_adds_320 rfl (by decide) ?_
                  refine s_irem (pc' := 323) dX12_adds_322 rfl (by decide) ?_
                  refine t_iast (pc' := 324) dX12_adds_323 rfl sh_62 rfl n30 ?_
                  refine s_aload_n (pc' := 325) dX12_adds_324 rfl rfl ?_
                  refine s_getS (pc' := 328) (b := 63) dX12_adds_325 rfl (by decide) rfl (by decide) fa_X12_34_12 rfl rfl ?_
                  refine s_iload (pc' := 330) dX12_adds_328 rfl rfl ?_
                  refine s_iload_n (pc' := 331) dX12_adds_330 rfl rfl ?_
                  refine s_bipush (pc' := 333) (v := 16) dX12_adds_331 rfl (by decide) ?_
                  refine s_idiv (pc' := 334) dX12_adds_333 rfl (by decide) ?_
                  refine t_iast (pc' := 335) dX12_adds_334 rfl sh_63 rfl n30 ?_
                  refine s_aload_n (pc' := 336) dX12_adds_335 rfl rfl ?_
                  refine s_getS (pc' := 339) (b := 64) dX12_adds_336 rfl (by decide) rfl (by decide) fa_X12_37_12 rfl rfl ?_
                  refine s_iload (pc' := 341) dX12_adds_339 rfl rfl ?_
                  refine s_iload (pc' := 343) dX12_adds_341 rfl rfl ?_
                  refine t_iast (pc' := 344) dX12_adds_343 rfl sh_64 rfl n30 ?_
                  refine s_aload_n (pc' := 345) dX12_adds_344 rfl rfl ?_
                  refine s_getS (pc' := 348) (b := 65) dX12_adds_345 rfl (by decide) rfl (by decide) fa_X12_40_12 rfl rfl ?_
                  refine s_iload (pc' := 350) dX12_adds_348 rfl rfl ?_
                  refine s_iload (pc' := 352) dX12_adds_350 rfl rfl ?_
                  refine t_iast (pc' := 353) dX12_adds_352 rfl sh_65 rfl n30 ?_
                  refine s_aload_n (pc' := 354) dX12_adds_353 rfl rfl ?_
                  refine s_getS (pc' := 357) (b := 66) dX12_adds_354 rfl (by decide) rfl (by decide) fa_X12_43_12 rfl rfl ?_
                  refine s_iload (pc' := 359) dX12_adds_357 rfl rfl ?_
                  refine s_iload (pc' := 361) dX12_adds_359 rfl rfl ?_
                  refine s_ifeqT (tgt := 369) dX12_adds_361 (by decide) (by decide) ?_
                  refine s_iconst (pc' := 370) (v := 0) dX12_adds_369 rfl (by decide) ?_
                  refine t_iast (pc' := 371) dX12_adds_370 rfl sh_66 rfl n30 ?_
                  refine s_aload_n (pc' := 372) dX12_adds_371 rfl rfl ?_
                  refine s_getS (pc' := 375) (b := 67) dX12_adds_372 rfl (by decide) rfl (by decide) fa_X12_46_12 rfl rfl ?_
                  refine s_iload (pc' := 377) dX12_adds_375 rfl rfl ?_
                  refine s_iload (pc' := 379) dX12_adds_377 rfl rfl ?_
                  refine s_ifeqT (tgt := 395) dX12_adds_379 (by decide) (by decide) ?_
                  refine s_iconst (pc' := 396) (v := -1) dX12_adds_395 rfl (by decide) ?_
                  refine t_iast (pc' := 397) dX12_adds_396 rfl sh_67 rfl n30 ?_
                  refine s_aload_n (pc' := 398) dX12_adds_397 rfl rfl ?_
                  refine s_getS (pc' := 401) (b := 68) dX12_adds_398 rfl (by decide) rfl (by decide) fa_X12_49_12 rfl rfl ?_
                  refine s_iload (pc' := 403) dX12_adds_401 rfl rfl ?_
                  refine s_iload (pc' := 405) dX12_adds_403 rfl rfl ?_
                  refine s_ifeqT (tgt := 421) dX12_adds_405 (by decide) (by decide) ?_
                  refine s_iconst (pc' := 422) (v := 0) dX12_adds_421 rfl (by decide) ?_
                  refine t_iast (pc' := 423) dX12_adds_422 rfl sh_68 rfl n30 ?_
                  refine s_aload_n (pc' := 424) dX12_adds_423 rfl rfl ?_
                  refine s_getS (pc' := 427) (b := 69) dX12_adds_424 rfl (by decide) rfl (by decide) fa_X12_52_12 rfl rfl ?_
                  refine s_iload (pc' := 429) dX12_adds_427 rfl rfl ?_
                  refine s_aload_n (pc' := 430) dX12_adds_429 rfl rfl ?_
                  refine t_getI (pc' := 433) dX12_adds_430 rfl sh_54 (by decide) fa_X12_164_12 rfl ?_
                  refine t_iast (pc' := 434) dX12_adds_433 rfl sh_69 rfl n30 ?_
                  refine s_aload_n (pc' := 435) dX12_adds_434 rfl rfl ?_
                  refine s_getS (pc' := 438) (b := 70) dX12_adds_435 rfl (by decide) rfl (by decide) fa_X12_55_12 rfl rfl ?_
                  refine s_iload (pc' := 440) dX12_adds_438 rfl rfl ?_
                  refine s_aload_n (pc' := 441) dX12_adds_440 rfl rfl ?_
                  refine t_getI (pc' := 444) dX12_adds_441 rfl sh_54 (by decide) fa_X12_167_12 rfl ?_
                  refine t_iast (pc' := 445) dX12_adds_444 rfl sh_70 rfl n30 ?_
                  refine s_aload_n (pc' := 446) dX12_adds_445 rfl rfl ?_
                  refine s_getS (pc' := 449) (b := 71) dX12_adds_446 rfl (by decide) rfl (by decide) fa_X12_58_12 rfl rfl ?_
                  refine s_iload (pc' := 451) dX12_adds_449 rfl rfl ?_
                  refine s_aload_n (pc' := 452) dX12_adds_451 rfl rfl ?_
                  refine t_getI (pc' := 455) dX12_adds_452 rfl sh_54 (by decide) fa_X12_177_12 rfl ?_
                  refine t_iast (pc' := 456) dX12_adds_455 rfl sh_71 rfl n30 ?_
                  refine s_aload_n (pc' := 457) dX12_adds_456 rfl rfl ?_
                  refine s_iconst (pc' := 458) (v := 0) dX12_adds_457 rfl (by decide) ?_
                  refine t_putI (pc' := 461) dX12_adds_458 rfl sh_54 (by decide) fa_X12_153_12 (Or.inl rfl) rfl rfl rfl ?_
                  refine s_aload_n (pc' := 462) dX12_adds_461 rfl rfl ?_
                  refine s_iload (pc' := 464) dX12_adds_462 rfl rfl ?_
                  refine s_callV (pc' := 467) (As := [.int _]) dX12_adds_464 rfl mk_X12_done ml_X12_157 im_X12_done se_X12_X12_X12_done sh_54 (by decide) rfl rfl rfl ⟨Nat.le_of_ble_eq_true rfl, Nat.le_of_ble_eq_true rfl, Nat.le_of_ble_eq_true rfl, Nat.le_of_ble_eq_true rfl⟩ (Nat.le_of_ble_eq_true rfl) (c_X12_done ?_)
                  exact s_iret dX12_adds_467 rfl (by decide) (by decide) (by
  obtain ⟨ra, so, e1, e2, g⟩ := (RGO.mk (am := 0) (b := -1) (fa := 0) hW.nv hW.nr c13 i25 i40 rfl (Or.inr ⟨kv, rfl, rfl, rfl, Or.inr ⟨by omega, hj91⟩⟩))
  have q := k4 _ ra so _ _ _ g n30 (fun z => absurd z (by omega)) I (fun _ _ _ => rfl)
  rw [← e1, ← e2] at q
  unfold nwD at q
  simp (disch := decide) only [up2_d]
  exact q)
                · refine s_iconst (pc' := 225) (v := 1) dX12_adds_224 rfl (by decide) ?_
                  refine s_aload_n (pc' := 226) dX12_adds_225 rfl rfl ?_
                  refine t_getI (pc' := 229) dX12_adds_226 rfl sh_54 (by decide) fa_X12_167_12 rfl ?_
                  refine s_ishl (pc' := 230) dX12_adds_229 rfl ?_
                  refine s_goto (tgt := 234) dX12_adds_230 (by decide) ?_
                  refine t_istore (pc' := 236) (L' := [.ref 54, .int _, .int _, .int _, .int _, .int _, .int _, .int _, .int _, .int _, .int _, .retAddr _]) dX12_adds_234 rfl (Nat.le_of_ble_eq_true rfl) rfl ?_
                  refine s_iload (pc' := 238) dX12_adds_236 rfl rfl ?_
                  refine s_ifeqT (tgt := 258) dX12_adds_238 (by decide) (by decide) ?_
                  refine s_iload (pc' := 260) dX12_adds_258 rfl rfl ?_
                  refine s_ifeqT (tgt := 279) dX12_adds_260 (by decide) (by decide) ?_
                  refine s_aload_n (pc' := 280) dX12_adds_279 rfl rfl ?_
                  refine s_getS (pc' := 283) (b := 75) dX12_adds_280 rfl (by decide) rfl (by decide) fa_X12_70_12 rfl rfl ?_
                  refine s_iconst (pc' := 284) (v := 1) dX12_adds_283 rfl (by decide) ?_
                  refine t_iald (pc' := 285) (q := 1) dX12_adds_284 rfl sh_75 rfl (by decide) ?_
                  rw [hW.rn hD]
                  refine t_istore (pc' := 287) (L' := [.ref 54, .int _, .int _, .int _, .int _, .int _, .int _, .int _, .int _, .int _, .int _, .int _]) dX12_adds_285 rfl (Nat.le_of_ble_eq_true rfl) rfl ?_
                  refine s_aload_n (pc' := 288) dX12_adds_287 rfl rfl ?_
                  refine s_getS (pc' := 291) (b := 75) dX12_adds_288 rfl (by decide) rfl (by decide) fa_X12_70_12 rfl rfl ?_
                  refine s_iconst (pc' := 292) (v := 1) dX12_adds_291 rfl (by decide) ?_
                  refine s_dup2 (pc' := 293) dX12_adds_292 rfl rfl rfl ?_
                  refine t_iald (pc' := 294) (q := 1) dX12_adds_293 rfl sh_75 rfl (by decide) ?_
                  rw [hW.rn hD]
                  refine s_iconst (pc' := 295) (v := 1) dX12_adds_294 rfl (by decide) ?_
                  refine s_iadd (pc' := 296) dX12_adds_295 rfl ?_
                  rw [nI_1]
                  refine t_iast (pc' := 297) (q := 1) dX12_adds_296 rfl sh_75 rfl (by decide) ?_
                  refine s_aload_n (pc' := 298) dX12_adds_297 rfl rfl ?_
                  refine s_getS (pc' := 301) (b := 60) dX12_adds_298 rfl (by decide) rfl (by decide) fa_X12_25_12 rfl rfl ?_
                  refine s_iload (pc' := 303) dX12_adds_301 rfl rfl ?_
                  refine s_iload_n (pc' := 304) dX12_adds_303 rfl rfl ?_
                  refine t_iast (pc' := 305) dX12_adds_304 rfl sh_60 rfl n30 ?_
                  refine s_aload_n (pc' := 306) dX12_adds_305 rfl rfl ?_
                  refine s_getS (pc' := 309) (b := 61) dX12_adds_306 rfl (by decide) rfl (by decide) fa_X12_28_12 rfl rfl ?_
                  refine s_iload (pc' := 311) dX12_adds_309 rfl rfl ?_
                  refine s_iload_n (pc' := 312) dX12_adds_311 rfl rfl ?_
                  refine t_iast (pc' := 313) dX12_adds_312 rfl sh_61 rfl n30 ?_
                  refine s_aload_n (pc' := 314) dX12_adds_313 rfl rfl ?_
                  refine s_getS (pc' := 317) (b := 62) dX12_adds_314 rfl (by decide) rfl (by decide) fa_X12_31_12 rfl rfl ?_
                  refine s_iload (pc' := 319) dX12_adds_317 rfl rfl ?_
                  refine s_iload_n (pc' := 320) dX12_adds_319 rfl rfl ?_
                  refine s_bipush (pc' := 322) (v := 16) dX12_adds_320 rfl (by decide) ?_
                  refine s_irem (pc' := 323) dX12_adds_322 rfl (by decide) ?_
                  refine t_iast (pc' := 324) dX12_adds_323 rfl sh_62 rfl n30 ?_
                  refine s_aload_n (pc' := 325) dX12_adds_324 rfl rfl ?_
                  refine s_getS (pc' := 328) (b := 63) dX12_adds_325 rfl (by decide) rfl (by decide) fa_X12_34_12 rfl rfl ?_
                  refine s_iload (pc' := 330) dX12_adds_328 rfl rfl ?_
                  refine s_iload_n (pc' := 331) dX12_adds_330 rfl rfl ?_
                  refine s_bipush (pc' := 333) (v := 16) dX12_adds_331 rfl (by decide) ?_
                  refine s_idiv (pc' := 334) dX12_adds_333 rfl (by decide) ?_
                  refine t_iast (pc' := 335) dX12_adds_334 rfl sh_63 rfl n30 ?_
                  refine s_aload_n (pc' := 336) dX12_adds_335 rfl rfl ?_
                  refine s_getS (pc' := 339) (b := 64) dX12_adds_336 rfl (by decide) rfl (by decide) fa_X12_37_12 rfl rfl ?_
                  refine s_iload (pc' := 341) dX12_adds_339 rfl rfl ?_
                  refine s_iload (pc' := 343) dX12_adds_341 rfl rfl ?_
                  refine t_iast (pc' := 344) dX12_adds_343 rfl sh_64 rfl n30 ?_
                  refine s_aload_n (pc' := 345) dX12_adds_344 rfl rfl ?_
                  refine s_getS (pc' := 348) (b := 65) dX12_adds_345 rfl (by decide) rfl (by decide) fa_X12_40_12 rfl rfl ?_
                  refine s_iload (pc' := 350) dX12_adds_348 rfl rfl ?_
                  refine s_iload (pc' := 352) dX12_adds_350 rfl rfl ?_
                  refine t_iast (pc' := 353) dX12_adds_352 rfl sh_65 rfl n30 ?_
                  refine s_aload_n (pc' := 354) dX12_adds_353 rfl rfl ?_
                  refine s_getS (pc' := 357) (b := 66) dX12_adds_354 rfl (by decide) rfl (by decide) fa_X12_43_12 rfl rfl ?_
                  refine s_iload (pc' := 359) dX12_adds_357 rfl rfl ?_
                  refine s_iload (pc' := 361) dX12_adds_359 rfl rfl ?_
                  refine s_ifeqT (tgt := 369) dX12_adds_361 (by decide) (by decide) ?_
                  refine s_iconst (pc' := 370) (v := 0) dX12_adds_369 rfl (by decide) ?_
                  refine t_iast (pc' := 371) dX12_adds_370 rfl sh_66 rfl n30 ?_
                  refine s_aload_n (pc' := 372) dX12_adds_371 rfl rfl ?_
                  refine s_getS (pc' := 375) (b := 67) dX12_adds_372 rfl (by decide) rfl (by decide) fa_X12_46_12 rfl rfl ?_
                  refine s_iload (pc' := 377) dX12_adds_375 rfl rfl ?_
                  refine s_iload (pc' := 379) dX12_adds_377 rfl rfl ?_
                  refine s_ifeqT (tgt := 395) dX12_adds_379 (by decide) (by decide) ?_
                  refine s_iconst (pc' := 396) (v := -1) dX12_adds_395 rfl (by decide) ?_
                  refine t_iast (pc' := 397) dX12_adds_396 rfl sh_67 rfl n30 ?_
                  refine s_aload_n (pc' := 398) dX12_adds_397 rfl rfl ?_
                  refine s_getS (pc' := 401) (b := 68) dX12_adds_398 rfl (by decide) rfl (by decide) fa_X12_49_12 rfl rfl ?_
                  refine s_iload (pc' := 403) dX12_adds_401 rfl rfl ?_
                  refine s_iload (pc' := 405) dX12_adds_403 rfl rfl ?_
                  refine s_ifeqT (tgt := 421) dX12_adds_405 (by decide) (by decide) ?_
                  refine s_iconst (pc' := 422) (v := 0) dX12_adds_421 rfl (by decide) ?_
                  refine t_iast (pc' := 423) dX12_adds_422 rfl sh_68 rfl n30 ?_
                  refine s_aload_n (pc' := 424) dX12_adds_423 rfl rfl ?_
                  refine s_getS (pc' := 427) (b := 69) dX12_adds_424 rfl (by decide) rfl (by decide) fa_X12_52_12 rfl rfl ?_
                  refine s_iload (pc' := 429) dX12_adds_427 rfl rfl ?_
                  refine s_aload_n (pc' := 430) dX12_adds_429 rfl rfl ?_
                  refine t_getI (pc' := 433) dX12_adds_430 rfl sh_54 (by decide) fa_X12_164_12 rfl ?_
                  refine t_iast (pc' := 434) dX12_adds_433 rfl sh_69 rfl n30 ?_
                  refine s_aload_n (pc' := 435) dX12_adds_434 rfl rfl ?_
                  refine s_getS (pc' := 438) (b := 70) dX12_adds_435 rfl (by decide) rfl (by decide) fa_X12_55_12 rfl rfl ?_
                  refine s_iload (pc' := 440) dX12_adds_438 rfl rfl ?_
                  refine s_aload_n (pc' := 441) dX12_adds_440 rfl rfl ?_
                  refine t_getI (pc' := 444) dX12_adds_441 rfl sh_54 (by decide) fa_X12_167_12 rfl ?_
                  refine t_iast (pc' := 445) dX12_adds_444 rfl sh_70 rfl n30 ?_
                  refine s_aload_n (pc' := 446) dX12_adds_445 rfl rfl ?_
                  refine s_getS (pc' := 449) (b := 71) dX12_adds_446 rfl (by decide) rfl (by decide) fa_X12_58_12 rfl rfl ?_
                  refine s_iload (pc' := 451) dX12_adds_449 rfl rfl ?_
                  refine s_aload_n (pc' := 452) dX12_adds_451 rfl rfl ?_
                  refine t_getI (pc' := 455) dX12_adds_452 rfl sh_54 (by decide) fa_X12_177_12 rfl ?_
                  refine t_iast (pc' := 456) dX12_adds_455 rfl sh_71 rfl n30 ?_
                  refine s_aload_n (pc' := 457) dX12_adds_456 rfl rfl ?_
                  refine s_iconst (pc' := 458) (v := 0) dX12_adds_457 rfl (by decide) ?_
                  refine t_putI (pc' := 461) dX12_adds_458 rfl sh_54 (by decide) fa_X12_153_12 (Or.inl rfl) rfl rfl rfl ?_
                  refine s_aload_n (pc' := 462) dX12_adds_461 rfl rfl ?_
                  refine s_iload (pc' := 464) dX12_adds_462 rfl rfl ?_
                  refine s_callV (pc' := 467) (As := [.int _]) dX12_adds_464 rfl mk_X12_done ml_X12_157 im_X12_done se_X12_X12_X12_done sh_54 (by decide) rfl rfl rfl ⟨Nat.le_of_ble_eq_true rfl, Nat.le_of_ble_eq_true rfl, Nat.le_of_ble_eq_true rfl, Nat.le_of_ble_eq_true rfl⟩ (Nat.le_of_ble_eq_true rfl) (c_X12_done ?_)
                  exact s_iret dX12_adds_467 rfl (by decide) (by decide) (by
  obtain ⟨ra, so, e1, e2, g⟩ := (RGO.mk (am := 0) (b := -1) (fa := 0) hW.nv hW.nr c13 i25 i40 rfl (Or.inr ⟨kv, rfl, rfl, rfl, Or.inr ⟨by omega, hj91⟩⟩))
  have q := k4 _ ra so _ _ _ g n30 (fun z => absurd z (by omega)) I (fun _ _ _ => rfl)
  rw [← e1, ← e2] at q
  unfold nwD at q
  simp (disch := decide) only [up2_d]
  exact q)
              · refine s_aload_n (pc' := 211) dX12_adds_210 rfl rfl ?_
                refine s_iconst (pc' := 212) (v := 2) dX12_adds_211 rfl (by decide) ?_
                refine s_callV (pc' := 215) (As := [.int _]) dX12_adds_212 rfl mk_X12_refused ml_X12_149 im_X12_refused se_X12_X12_X12_refused sh_54 (by decide) rfl rfl rfl ⟨Nat.le_of_ble_eq_true rfl, Nat.le_of_ble_eq_true rfl, Nat.le_of_ble_eq_true rfl, Nat.le_of_ble_eq_true rfl⟩ (Nat.le_of_ble_eq_true rfl) (c_X12_refused ?_)
                exact s_iret dX12_adds_215 rfl (by decide) (by decide) (by obtain ⟨ra, so, e1, e2, g⟩ := (RGO.mk (am := 0) (b := -1) (fa := 0) hW.nv hW.nr c13 i25 i40 rfl (Or.inr ⟨kv, rfl, rfl, rfl, Or.inr ⟨by omega, hj91⟩⟩)); exact k2 _ ra so _ _ _ g (by have z : I 75 1 = nI 30 := (by first | exact c207 | exact Decidable.not_not.mp c207); rw [hW.rn hD] at z; exact ixe z (by have := hW.nr; omega) (by decide)))
            · refine s_ifeqT (tgt := 101) dX12_adds_94 (by decide) (by decide) ?_
              refine s_iconst (pc' := 102) (v := 0) dX12_adds_101 rfl (by decide) ?_
              refine t_istore (pc' := 104) (L' := [.ref 54, .int _, .int _, .int _, .int _, .int _, .int _, .int _, .int _, .int _, .retAddr _, .retAddr _]) dX12_adds_102 rfl (Nat.le_of_ble_eq_true rfl) rfl ?_
              refine s_iload (pc' := 106) dX12_adds_104 rfl rfl ?_
              refine s_ifeqT (tgt := 172) dX12_adds_106 (by decide) (by decide) ?_
              refine s_iconst (pc' := 173) (v := 0) dX12_adds_172 rfl (by decide) ?_
              refine t_istore (pc' := 175) (L' := [.ref 54, .int _, .int _, .int _, .int _, .int _, .int _, .int _, .int _, .int _, .retAddr _, .retAddr _]) dX12_adds_173 rfl (Nat.le_of_ble_eq_true rfl) rfl ?_
              refine s_iload (pc' := 177) dX12_adds_175 rfl rfl ?_
              refine s_ifeqT (tgt := 193) dX12_adds_177 (by decide) (by decide) ?_
              refine s_aload_n (pc' := 194) dX12_adds_193 rfl rfl ?_
              refine s_iconst (pc' := 195) (v := 1) dX12_adds_194 rfl (by decide) ?_
              refine s_callV (pc' := 198) (As := [.int _]) dX12_adds_195 rfl mk_X12_refused ml_X12_149 im_X12_refused se_X12_X12_X12_refused sh_54 (by decide) rfl rfl rfl ⟨Nat.le_of_ble_eq_true rfl, Nat.le_of_ble_eq_true rfl, Nat.le_of_ble_eq_true rfl, Nat.le_of_ble_eq_true rfl⟩ (Nat.le_of_ble_eq_true rfl) (c_X12_refused ?_)
              exact s_iret dX12_adds_198 rfl (by decide) (by decide) (k1 (fun a ra so am b fa g => by obtain ⟨j, j1, j2⟩ := (g.f hW.nv).2.2.2.2.2.1 (by omega); exact n91 j j1 j2))
          · have k4e : kn = 4 := (nI_eq (b := 4) (by omega) (by decide)).mp (by first | exact c76 | exact Decidable.not_not.mp c76)
            refine s_aload_n (pc' := 80) dX12_adds_79 rfl rfl ?_
            refine s_iload_n (pc' := 81) dX12_adds_80 rfl rfl ?_
            refine s_callV (pc' := 84) (As := [.int _]) dX12_adds_81 rfl mk_X12_isRule ml_X12_190 im_X12_isRule se_X12_X12_X12_isRule sh_54 (by decide) rfl rfl rfl ⟨Nat.le_of_ble_eq_true rfl, Nat.le_of_ble_eq_true rfl, Nat.le_of_ble_eq_true rfl, Nat.le_of_ble_eq_true rfl⟩ (Nat.le_of_ble_eq_true rfl) (c_X12_isRule (hW.rn hD) (by have := hW.nr; omega) (fun j81 hj81 e81 => ?_) (fun n81 => ?_))
            · subst e81
              refine s_ifeqF (pc' := 87) (tgt := 101) dX12_adds_84 (by decide) rfl (by decide) ?_
              refine s_goto (tgt := 97) dX12_adds_87 (by decide) ?_
              refine s_iconst (pc' := 98) (v := 1) dX12_adds_97 rfl (by decide) ?_
              refine s_goto (tgt := 102) dX12_adds_98 (by decide) ?_
              refine t_istore (pc' := 104) (L' := [.ref 54, .int _, .int _, .int _, .int _, .int _, .int _, .int _, .int _, .int _, .retAddr _, .retAddr _]) dX12_adds_102 rfl (Nat.le_of_ble_eq_true rfl) rfl ?_
              refine s_iload (pc' := 106) dX12_adds_104 rfl rfl ?_
              refine s_ifeqF (pc' := 109) (tgt := 172) dX12_adds_106 (by decide) rfl (by decide) ?_
              refine s_iload (pc' := 111) dX12_adds_109 rfl rfl ?_
              refine s_ifeqT (tgt := 168) dX12_adds_111 (by decide) (by decide) ?_
              refine s_iconst (pc' := 169) (v := 1) dX12_adds_168 rfl (by decide) ?_
              refine s_goto (tgt := 173) dX12_adds_169 (by decide) ?_
              refine t_istore (pc' := 175) (L' := [.ref 54, .int _, .int _, .int _, .int _, .int _, .int _, .int _, .int _, .int _, .retAddr _, .retAddr _]) dX12_adds_173 rfl (Nat.le_of_ble_eq_true rfl) rfl ?_
              refine s_iload (pc' := 177) dX12_adds_175 rfl rfl ?_
              refine s_ifeqF (pc' := 180) (tgt := 193) dX12_adds_177 (by decide) rfl (by decide) ?_
              refine s_iload_n (pc' := 181) dX12_adds_180 rfl rfl ?_
              refine s_iconst (pc' := 182) (v := 4) dX12_adds_181 rfl (by decide) ?_
              refine s_icmpneF (pc' := 185) (tgt := 199) dX12_adds_182 (by decide) rfl (by rw [k4e]; rfl) ?_
              refine s_aload_n (pc' := 186) dX12_adds_185 rfl rfl ?_
              refine t_getI (pc' := 189) dX12_adds_186 rfl sh_54 (by decide) fa_X12_164_12 rfl ?_
              refine s_iconst (pc' := 190) (v := 2) dX12_adds_189 rfl (by decide) ?_
              refine s_icmple (pc' := 193) (tgt := 199) dX12_adds_190 (by decide) rfl (fun c190 => ?_) (fun c190 => ?_)
              · refine s_aload_n (pc' := 200) dX12_adds_199 rfl rfl ?_
                refine s_getS (pc' := 203) (b := 75) dX12_adds_200 rfl (by decide) rfl (by decide) fa_X12_70_12 rfl rfl ?_
                refine s_iconst (pc' := 204) (v := 1) dX12_adds_203 rfl (by decide) ?_
                refine t_iald (pc' := 205) (q := 1) dX12_adds_204 rfl sh_75 rfl (by decide) ?_
                refine s_bipush (pc' := 207) (v := 30) dX12_adds_205 rfl (by decide) ?_
                refine s_icmpne (pc' := 210) (tgt := 216) dX12_adds_207 (by decide) rfl (fun c207 => ?_) (fun c207 => ?_)
                · have n30 : nr < 30 := by have := hW.nr; have : nr ≠ 30 := fun z => c207 (by rw [hW.rn hD, z]; rfl); omega
                  refine s_aload_n (pc' := 217) dX12_adds_216 rfl rfl ?_
                  refine t_getI (pc' := 220) dX12_adds_217 rfl sh_54 (by decide) fa_X12_164_12 rfl ?_
                  refine s_iconst (pc' := 221) (v := 2) dX12_adds_220 rfl (by decide) ?_
                  refine s_icmpleT (tgt := 233) dX12_adds_221 (by decide) c190 ?_
                  refine s_iconst (pc' := 234) (v := 0) dX12_adds_233 rfl (by decide) ?_
                  refine t_istore (pc' := 236) (L' := [.ref 54, .int _, .int _, .int _, .int _, .int _, .int _, .int _, .int _, .int _, .int _, .retAddr _]) dX12_adds_234 rfl (Nat.le_of_ble_eq_true rfl) rfl ?_
                  refine s_iload (pc' := 238) dX12_adds_236 rfl rfl ?_
                  refine s_ifeqT (tgt := 258) dX12_adds_238 (by decide) (by decide) ?_
                  refine s_iload (pc' := 260) dX12_adds_258 rfl rfl ?_
                  refine s_ifeqT (tgt := 279) dX12_adds_260 (by decide) (by decide) ?_
                  refine s_aload_n (pc' := 280) dX12_adds_279 rfl rfl ?_
                  refine s_getS (pc' := 283) (b := 75) dX12_adds_280 rfl (by decide) rfl (by decide) fa_X12_70_12 rfl rfl ?_
                  refine s_iconst (pc' := 284) (v := 1) dX12_adds_283 rfl (by decide) ?_
                  refine t_iald (pc' := 285) (q := 1) dX12_adds_284 rfl sh_75 rfl (by decide) ?_
                  rw [hW.rn hD]
                  refine t_istore (pc' := 287) (L' := [.ref 54, .int _, .int _, .int _, .int _, .int _, .int _, .int _, .int _, .int _, .int _, .int _]) dX12_adds_285 rfl (Nat.le_of_ble_eq_true rfl) rfl ?_
                  refine s_aload_n (pc' := 288) dX12_adds_287 rfl rfl ?_
                  refine s_getS (pc' := 291) (b := 75) dX12_adds_288 rfl (by decide) rfl (by decide) fa_X12_70_12 rfl rfl ?_
                  refine s_iconst (pc' := 292) (v := 1) dX12_adds_291 rfl (by decide) ?_
                  refine s_dup2 (pc' := 293) dX12_adds_292 rfl rfl rfl ?_
                  refine t_iald (pc' := 294) (q := 1) dX12_adds_293 rfl sh_75 rfl (by decide) ?_
                  rw [hW.rn hD]
                  refine s_iconst (pc' := 295) (v := 1) dX12_adds_294 rfl (by decide) ?_
                  refine s_iadd (pc' := 296) dX12_adds_295 rfl ?_
                  rw [nI_1]
                  refine t_iast (pc' := 297) (q := 1) dX12_adds_296 rfl sh_75 rfl (by decide) ?_
                  refine s_aload_n (pc' := 298) dX12_adds_297 rfl rfl ?_
                  refine s_getS (pc' := 301) (b := 60) dX12_adds_298 rfl (by decide) rfl (by decide) fa_X12_25_12 rfl rfl ?_
                  refine s_iload (pc' := 303) dX12_adds_301 rfl rfl ?_
                  refine s_iload_n (pc' := 304) dX12_adds_303 rfl rfl ?_
                  refine t_iast (pc' := 305) dX12_adds_304 rfl sh_60 rfl n30 ?_
                  refine s_aload_n (pc' := 306) dX12_adds_305 rfl rfl ?_
                  refine s_getS (pc' := 309) (b := 61) dX12_adds_306 rfl (by decide) rfl (by decide) fa_X12_28_12 rfl rfl ?_
                  refine s_iload (pc' := 311) dX12_adds_309 rfl rfl ?_
                  refine s_iload_n (pc' := 312) dX12_adds_311 rfl rfl ?_
                  refine t_iast (pc' := 313) dX12_adds_312 rfl sh_61 rfl n30 ?_
                  refine s_aload_n (pc' := 314) dX12_adds_313 rfl rfl ?_
                  refine s_getS (pc' := 317) (b := 62) dX12_adds_314 rfl (by decide) rfl (by decide) fa_X12_31_12 rfl rfl ?_
                  refine s_iload (pc' := 319) dX12_adds_317 rfl rfl ?_
                  refine s_iload_n (pc' := 320) dX12_adds_319 rfl rfl ?_
                  refine s_bipush (pc' := 322) (v := 16) dX12_adds_320 rfl (by decide) ?_
                  refine s_irem (pc' := 323) dX12_adds_322 rfl (by decide) ?_
                  refine t_iast (pc' := 324) dX12_adds_323 rfl sh_62 rfl n30 ?_
                  refine s_aload_n (pc' := 325) dX12_adds_324 rfl rfl ?_
                  refine s_getS (pc' := 328) (b := 63) dX12_adds_325 rfl (by decide) rfl (by decide) fa_X12_34_12 rfl rfl ?_
                  refine s_iload (pc' := 330) dX12_adds_328 rfl rfl ?_
                  refine s_iload_n (pc' := 331) dX12_adds_330 rfl rfl ?_
                  refine s_bipush (pc' := 333) (v := 16) dX12_adds_331 rfl (by decide) ?_
                  refine s_idiv (pc' := 334) dX12_adds_333 rfl (by decide) ?_
                  refine t_iast (pc' := 335) dX12_adds_334 rfl sh_63 rfl n30 ?_
                  refine s_aload_n (pc' := 336) dX12_adds_335 rfl rfl ?_
                  refine s_getS (pc' := 339) (b := 64) dX12_adds_336 rfl (by decide) rfl (by decide) fa_X12_37_12 rfl rfl ?_
                  refine s_iload (pc' := 341) dX12_adds_339 rfl rfl ?_
                  refine s_iload (pc' := 343) dX12_adds_341 rfl rfl ?_
                  refine t_iast (pc' := 344) dX12_adds_343 rfl sh_64 rfl n30 ?_
                  refine s_aload_n (pc' := 345) dX12_adds_344 rfl rfl ?_
                  refine s_getS (pc' := 348) (b := 65) dX12_adds_345 rfl (by decide) rfl (by decide) fa_X12_40_12 rfl rfl ?_
                  refine s_iload (pc' := 350) dX12_adds_348 rfl rfl ?_
                  refine s_iload (pc' := 352) dX12_adds_350 rfl rfl ?_
                  refine t_iast (pc' := 353) dX12_adds_352 rfl sh_65 rfl n30 ?_
                  refine s_aload_n (pc' := 354) dX12_adds_353 rfl rfl ?_
                  refine s_getS (pc' := 357) (b := 66) dX12_adds_354 rfl (by decide) rfl (by decide) fa_X12_43_12 rfl rfl ?_
                  refine s_iload (pc' := 359) dX12_adds_357 rfl rfl ?_
                  refine s_iload (pc' := 361) dX12_adds_359 rfl rfl ?_
                  refine s_ifeqT (tgt := 369) dX12_adds_361 (by decide) (by decide) ?_
                  refine s_iconst (pc' := 370) (v := 0) dX12_adds_369 rfl (by decide) ?_
                  refine t_iast (pc' := 371) dX12_adds_370 rfl sh_66 rfl n30 ?_
                  refine s_aload_n (pc' := 372) dX12_adds_371 rfl rfl ?_
                  refine s_getS (pc' := 375) (b := 67) dX12_adds_372 rfl (by decide) rfl (by decide) fa_X12_46_12 rfl rfl ?_
                  refine s_iload (pc' := 377) dX12_adds_375 rfl rfl ?_
                  refine s_iload (pc' := 379) dX12_adds_377 rfl rfl ?_
                  refine s_ifeqT (tgt := 395) dX12_adds_379 (by decide) (by decide) ?_
                  refine s_iconst (pc' := 396) (v := -1) dX12_adds_395 rfl (by decide) ?_
                  refine t_iast (pc' := 397) dX12_adds_396 rfl sh_67 rfl n30 ?_
                  refine s_aload_n (pc' := 398) dX12_adds_397 rfl rfl ?_
                  refine s_getS (pc' := 401) (b := 68) dX12_adds_398 rfl (by decide) rfl (by decide) fa_X12_49_12 rfl rfl ?_
                  refine s_iload (pc' := 403) dX12_adds_401 rfl rfl ?_
                  refine s_iload (pc' := 405) dX12_adds_403 rfl rfl ?_
                  refine s_ifeqT (tgt := 421) dX12_adds_405 (by decide) (by decide) ?_
                  refine s_iconst (pc' := 422) (v := 0) dX12_adds_421 rfl (by decide) ?_
                  refine t_iast (pc' := 423) dX12_adds_422 rfl sh_68 rfl n30 ?_
                  refine s_aload_n (pc' := 424) dX12_adds_423 rfl rfl ?_
                  refine s_getS (pc' := 427) (b := 69) dX12_adds_424 rfl (by decide) rfl (by decide) fa_X12_52_12 rfl rfl ?_
                  refine s_iload (pc' := 429) dX12_adds_427 rfl rfl ?_
                  refine s_aload_n (pc' := 430) dX12_adds_429 rfl rfl ?_
                  refine t_getI (pc' := 433) dX12_adds_430 rfl sh_54 (by decide) fa_X12_164_12 rfl ?_
                  refine t_iast (pc' := 434) dX12_adds_433 rfl sh_69 rfl n30 ?_
                  refine s_aload_n (pc' := 435) dX12_adds_434 rfl rfl ?_
                  refine s_getS (pc' := 438) (b := 70) dX12_adds_435 rfl (by decide) rfl (by decide) fa_X12_55_12 rfl rfl ?_
                  refine s_iload (pc' := 440) dX12_adds_438 rfl rfl ?_
                  refine s_aload_n (pc' := 441) dX12_adds_440 rfl rfl ?_
                  refine t_getI (pc' := 444) dX12_adds_441 rfl sh_54 (by decide) fa_X12_167_12 rfl ?_
                  refine t_iast (pc' := 445) dX12_adds_444 rfl sh_70 rfl n30 ?_
                  refine s_aload_n (pc' := 446) dX12_adds_445 rfl rfl ?_
                  refine s_getS (pc' := 449) (b := 71) dX12_adds_446 rfl (by decide) rfl (by decide) fa_X12_58_12 rfl rfl ?_
                  refine s_iload (pc' := 451) dX12_adds_449 rfl rfl ?_
                  refine s_aload_n (pc' := 452) dX12_adds_451 rfl rfl ?_
                  refine t_getI (pc' := 455) dX12_adds_452 rfl sh_54 (by decide) fa_X12_177_12 rfl ?_
                  refine t_iast (pc' := 456) dX12_adds_455 rfl sh_71 rfl n30 ?_
                  refine s_aload_n (pc' := 457) dX12_adds_456 rfl rfl ?_
                  refine s_iconst (pc' := 458) (v := 0) dX12_adds_457 rfl (by decide) ?_
                  refine t_putI (pc' := 461) dX12_adds_458 rfl sh_54 (by decide) fa_X12_153_12 (Or.inl rfl) rfl rfl rfl ?_
                  refine s_aload_n (pc' := 462) dX12_adds_461 rfl rfl ?_
                  refine s_iload (pc' := 464) dX12_adds_462 rfl rfl ?_
                  refine s_callV (pc' := 467) (As := [.int _]) dX12_adds_464 rfl mk_X12_done ml_X12_157 im_X12_done se_X12_X12_X12_done sh_54 (by decide) rfl rfl rfl ⟨Nat.le_of_ble_eq_true rfl, Nat.le_of_ble_eq_true rfl, Nat.le_of_ble_eq_true rfl, Nat.le_of_ble_eq_true rfl⟩ (Nat.le_of_ble_eq_true rfl) (c_X12_done ?_)
                  exact s_iret dX12_adds_467 rfl (by decide) (by decide) (by
  obtain ⟨ra, so, e1, e2, g⟩ := (RGO.mk (am := 0) (b := -1) (fa := 0) hW.nv hW.nr c13 i25 i40 rfl (Or.inr ⟨kv, rfl, rfl, rfl, Or.inl ⟨k4e, hj81, Int32.not_lt.mpr c190⟩⟩))
  have q := k4 _ ra so _ _ _ g n30 (fun z => absurd z (by omega)) I (fun _ _ _ => rfl)
  rw [← e1, ← e2] at q
  unfold nwD at q
  simp (disch := decide) only [up2_d]
  exact q)
                · refine s_aload_n (pc' := 211) dX12_adds_210 rfl rfl ?_
                  refine s_iconst (pc' := 212) (v := 2) dX12_adds_211 rfl (by decide) ?_
                  refine s_callV (pc' := 215) (As := [.int _]) dX12_adds_212 rfl mk_X12_refused ml_X12_149 im_X12_refused se_X12_X12_X12_refused sh_54 (by decide) rfl rfl rfl ⟨Nat.le_of_ble_eq_true rfl, Nat.le_of_ble_eq_true rfl, Nat.le_of_ble_eq_true rfl, Nat.le_of_ble_eq_true rfl⟩ (Nat.le_of_ble_eq_true rfl) (c_X12_refused ?_)
                  exact s_iret dX12_adds_215 rfl (by decide) (by decide) (by obtain ⟨ra, so, e1, e2, g⟩ := (RGO.mk (am := 0) (b := -1) (fa := 0) hW.nv hW.nr c13 i25 i40 rfl (Or.inr ⟨kv, rfl, rfl, rfl, Or.inl ⟨k4e, hj81, Int32.not_lt.mpr c190⟩⟩)); exact k2 _ ra so _ _ _ g (by have z : I 75 1 = nI 30 := (by first | exact c207 | exact Decidable.not_not.mp c207); rw [hW.rn hD] at z; exact ixe z (by have := hW.nr; omega) (by decide)))
              · refine s_aload_n (pc' := 194) dX12_adds_193 rfl rfl ?_
                refine s_iconst (pc' := 195) (v := 1) dX12_adds_194 rfl (by decide) ?_
                refine s_callV (pc' := 198) (As := [.int _]) dX12_adds_195 rfl mk_X12_refused ml_X12_149 im_X12_refused se_X12_X12_X12_refused sh_54 (by decide) rfl rfl rfl ⟨Nat.le_of_ble_eq_true rfl, Nat.le_of_ble_eq_true rfl, Nat.le_of_ble_eq_true rfl, Nat.le_of_ble_eq_true rfl⟩ (Nat.le_of_ble_eq_true rfl) (c_X12_refused ?_)
                exact s_iret dX12_adds_198 rfl (by decide) (by decide) (k1 (fun a ra so am b fa g => (g.f hW.nv).2.2.2.2.2.2.2.2 k4e (Int32.not_le.mp c190)))
            · refine s_ifeqT (tgt := 101) dX12_adds_84 (by decide) (by decide) ?_
              refine s_iconst (pc' := 102) (v := 0) dX12_adds_101 rfl (by decide) ?_
              refine t_istore (pc' := 104) (L' := [.ref 54, .int _, .int _, .int _, .int _, .int _, .int _, .int _, .int _, .int _, .retAddr _, .retAddr _]) dX12_adds_102 rfl (Nat.le_of_ble_eq_true rfl) rfl ?_
              refine s_iload (pc' := 106) dX12_adds_104 rfl rfl ?_
              refine s_ifeqT (tgt := 172) dX12_adds_106 (by decide) (by decide) ?_
              refine s_iconst (pc' := 173) (v := 0) dX12_adds_172 rfl (by decide) ?_
              refine t_istore (pc' := 175) (L' := [.ref 54, .int _, .int _, .int _, .int _, .int _, .int _, .int _, .int _, .int _, .retAddr _, .retAddr _]) dX12_adds_173 rfl (Nat.le_of_ble_eq_true rfl) rfl ?_
              refine s_iload (pc' := 177) dX12_adds_175 rfl rfl ?_
              refine s_ifeqT (tgt := 193) dX12_adds_177 (by decide) (by decide) ?_
              refine s_aload_n (pc' := 194) dX12_adds_193 rfl rfl ?_
              refine s_iconst (pc' := 195) (v := 1) dX12_adds_194 rfl (by decide) ?_
              refine s_callV (pc' := 198) (As := [.int _]) dX12_adds_195 rfl mk_X12_refused ml_X12_149 im_X12_refused se_X12_X12_X12_refused sh_54 (by decide) rfl rfl rfl ⟨Nat.le_of_ble_eq_true rfl, Nat.le_of_ble_eq_true rfl, Nat.le_of_ble_eq_true rfl, Nat.le_of_ble_eq_true rfl⟩ (Nat.le_of_ble_eq_true rfl) (c_X12_refused ?_)
              exact s_iret dX12_adds_198 rfl (by decide) (by decide) (k1 (fun a ra so am b fa g => by obtain ⟨j, j1, j2⟩ := (g.f hW.nv).2.2.2.2.1 k4e; exact n81 j j1 j2))
        · refine s_ifeqT (tgt := 50) dX12_adds_43 (by decide) (by decide) ?_
          refine s_iconst (pc' := 51) (v := 0) dX12_adds_50 rfl (by decide) ?_
          refine t_istore (pc' := 53) (L' := [.ref 54, .int _, .int _, .int _, .int _, .int _, .int _, .int _, .int _, .int _, .retAddr _, .retAddr _]) dX12_adds_51 rfl (Nat.le_of_ble_eq_true rfl) rfl ?_
          refine s_iload (pc' := 55) dX12_adds_53 rfl rfl ?_
          refine s_ifeqT (tgt := 101) dX12_adds_55 (by decide) (by decide) ?_
          refine s_iconst (pc' := 102) (v := 0) dX12_adds_101 rfl (by decide) ?_
          refine t_istore (pc' := 104) (L' := [.ref 54, .int _, .int _, .int _, .int _, .int _, .int _, .int _, .int _, .int _, .retAddr _, .retAddr _]) dX12_adds_102 rfl (Nat.le_of_ble_eq_true rfl) rfl ?_
          refine s_iload (pc' := 106) dX12_adds_104 rfl rfl ?_
          refine s_ifeqT (tgt := 172) dX12_adds_106 (by decide) (by decide) ?_
          refine s_iconst (pc' := 173) (v := 0) dX12_adds_172 rfl (by decide) ?_
          refine t_istore (pc' := 175) (L' := [.ref 54, .int _, .int _, .int _, .int _, .int _, .int _, .int _, .int _, .int _, .retAddr _, .retAddr _]) dX12_adds_173 rfl (Nat.le_of_ble_eq_true rfl) rfl ?_
          refine s_iload (pc' := 177) dX12_adds_175 rfl rfl ?_
          refine s_ifeqT (tgt := 193) dX12_adds_177 (by decide) (by decide) ?_
          refine s_aload_n (pc' := 194) dX12_adds_193 rfl rfl ?_
          refine s_iconst (pc' := 195) (v := 1) dX12_adds_194 rfl (by decide) ?_
          refine s_callV (pc' := 198) (As := [.int _]) dX12_adds_195 rfl mk_X12_refused ml_X12_149 im_X12_refused se_X12_X12_X12_refused sh_54 (by decide) rfl rfl rfl ⟨Nat.le_of_ble_eq_true rfl, Nat.le_of_ble_eq_true rfl, Nat.le_of_ble_eq_true rfl, Nat.le_of_ble_eq_true rfl⟩ (Nat.le_of_ble_eq_true rfl) (c_X12_refused ?_)
          exact s_iret dX12_adds_198 rfl (by decide) (by decide) (k1 (fun a ra so am b fa g => i40 (g.f hW.nv).2.2.1))
      · refine s_ifeqT (tgt := 50) dX12_adds_28 (by decide) (by decide) ?_
        refine s_iconst (pc' := 51) (v := 0) dX12_adds_50 rfl (by decide) ?_
        refine t_istore (pc' := 53) (L' := [.ref 54, .int _, .int _, .int _, .int _, .int _, .int _, .int _, .int _, .int _, .retAddr _, .retAddr _]) dX12_adds_51 rfl (Nat.le_of_ble_eq_true rfl) rfl ?_
        refine s_iload (pc' := 55) dX12_adds_53 rfl rfl ?_
        refine s_ifeqT (tgt := 101) dX12_adds_55 (by decide) (by decide) ?_
        refine s_iconst (pc' := 102) (v := 0) dX12_adds_101 rfl (by decide) ?_
        refine t_istore (pc' := 104) (L' := [.ref 54, .int _, .int _, .int _, .int _, .int _, .int _, .int _, .int _, .int _, .retAddr _, .retAddr _]) dX12_adds_102 rfl (Nat.le_of_ble_eq_true rfl) rfl ?_
        refine s_iload (pc' := 106) dX12_adds_104 rfl rfl ?_
        refine s_ifeqT (tgt := 172) dX12_adds_106 (by decide) (by decide) ?_
        refine s_iconst (pc' := 173) (v := 0) dX12_adds_172 rfl (by decide) ?_
        refine t_istore (pc' := 175) (L' := [.ref 54, .int _, .int _, .int _, .int _, .int _, .int _, .int _, .int _, .int _, .retAddr _, .retAddr _]) dX12_adds_173 rfl (Nat.le_of_ble_eq_true rfl) rfl ?_
        refine s_iload (pc' := 177) dX12_adds_175 rfl rfl ?_
        refine s_ifeqT (tgt := 193) dX12_adds_177 (by decide) (by decide) ?_
        refine s_aload_n (pc' := 194) dX12_adds_193 rfl rfl ?_
        refine s_iconst (pc' := 195) (v := 1) dX12_adds_194 rfl (by decide) ?_
        refine s_callV (pc' := 198) (As := [.int _]) dX12_adds_195 rfl mk_X12_refused ml_X12_149 im_X12_refused se_X12_X12_X12_refused sh_54 (by decide) rfl rfl rfl ⟨Nat.le_of_ble_eq_true rfl, Nat.le_of_ble_eq_true rfl, Nat.le_of_ble_eq_true rfl, Nat.le_of_ble_eq_true rfl⟩ (Nat.le_of_ble_eq_true rfl) (c_X12_refused ?_)
        exact s_iret dX12_adds_198 rfl (by decide) (by decide) (k1 (fun a ra so am b fa g => i25 (g.f hW.nv).2.1))
  · refine s_iconst (pc' := 6) (v := 1) dX12_adds_5 rfl (by decide) ?_
    refine s_goto (tgt := 10) dX12_adds_6 (by decide) ?_
    refine t_istore (pc' := 12) (L' := [.ref 54, .int _, .int _, .int _, .int _, .int _, .int _, .int _, .int _, .retAddr _, .retAddr _, .retAddr _]) dX12_adds_10 rfl (Nat.le_of_ble_eq_true rfl) rfl ?_
    have kv : kn ≤ 3 := Nat.le_of_not_lt (fun z => c2 (nI_lt (a := 3) z (by omega)))
    refine s_iload_n (pc' := 13) dX12_adds_12 rfl rfl ?_
    refine s_iflt (pc' := 16) (tgt := 50) dX12_adds_13 (by decide) rfl (fun c13 => ?_) (fun c13 => ?_)
    · refine s_iconst (pc' := 51) (v := 0) dX12_adds_50 rfl (by decide) ?_
      refine t_istore (pc' := 53) (L' := [.ref 54, .int _, .int _, .int _, .int _, .int _, .int _, .int _, .int _, .int _, .retAddr _, .retAddr _]) dX12_adds_51 rfl (Nat.le_of_ble_eq_true rfl) rfl ?_
      refine s_iload (pc' := 55) dX12_adds_53 rfl rfl ?_
      refine s_ifeqT (tgt := 101) dX12_adds_55 (by decide) (by decide) ?_
      refine s_iconst (pc' := 102) (v := 0) dX12_adds_101 rfl (by decide) ?_
      refine t_istore (pc' := 104) (L' := [.ref 54, .int _, .int _, .int _, .int _, .int _, .int _, .int _, .int _, .int _, .retAddr _, .retAddr _]) dX12_adds_102 rfl (Nat.le_of_ble_eq_true rfl) rfl ?_
      refine s_iload (pc' := 106) dX12_adds_104 rfl rfl ?_
      refine s_ifeqT (tgt := 172) dX12_adds_106 (by decide) (by decide) ?_
      refine s_iconst (pc' := 173) (v := 0) dX12_adds_172 rfl (by decide) ?_
      refine t_istore (pc' := 175) (L' := [.ref 54, .int _, .int _, .int _, .int _, .int _, .int _, .int _, .int _, .int _, .retAddr _, .retAddr _]) dX12_adds_173 rfl (Nat.le_of_ble_eq_true rfl) rfl ?_
      refine s_iload (pc' := 177) dX12_adds_175 rfl rfl ?_
      refine s_ifeqT (tgt := 193) dX12_adds_177 (by decide) (by decide) ?_
      refine s_aload_n (pc' := 194) dX12_adds_193 rfl rfl ?_
      refine s_iconst (pc' := 195) (v := 1) dX12_adds_194 rfl (by decide) ?_
      refine s_callV (pc' := 198) (As := [.int _]) dX12_adds_195 rfl mk_X12_refused ml_X12_149 im_X12_refused se_X12_X12_X12_refused sh_54 (by decide) rfl rfl rfl ⟨Nat.le_of_ble_eq_true rfl, Nat.le_of_ble_eq_true rfl, Nat.le_of_ble_eq_true rfl, Nat.le_of_ble_eq_true rfl⟩ (Nat.le_of_ble_eq_true rfl) (c_X12_refused ?_)
      exact s_iret dX12_adds_198 rfl (by decide) (by decide) (k1 (fun a ra so am b fa g => (g.f hW.nv).1 c13))
    · refine s_iload_n (pc' := 17) dX12_adds_16 rfl rfl ?_
      refine s_bipush (pc' := 19) (v := 16) dX12_adds_17 rfl (by decide) ?_
      refine s_irem (pc' := 20) dX12_adds_19 rfl (by decide) ?_
      refine s_i2l (pc' := 21) dX12_adds_20 rfl ?_
      refine s_lconst (pc' := 22) (v := 0) dX12_adds_21 rfl (by decide) ?_
      refine s_ldc2 (pc' := 25) dX12_adds_22 rfl kl_X12_186 ?_
      refine s_callS (pc' := 28) (As := [.long _, .long _, .long _]) dX12_adds_25 rfl mk_X12_isIn ml_X12_135 sm_X12_isIn rfl rfl ⟨Nat.le_of_ble_eq_true rfl, Nat.le_of_ble_eq_true rfl, Nat.le_of_ble_eq_true rfl, Nat.le_of_ble_eq_true rfl⟩ (Nat.le_of_ble_eq_true rfl) (c_isInR (a' := 0) (b' := 9) rfl rfl (fun i25 => ?_) (fun i25 => ?_))
      · refine s_ifeqF (pc' := 31) (tgt := 50) dX12_adds_28 (by decide) rfl (by decide) ?_
        refine s_iload_n (pc' := 32) dX12_adds_31 rfl rfl ?_
        refine s_bipush (pc' := 34) (v := 16) dX12_adds_32 rfl (by decide) ?_
        refine s_idiv (pc' := 35) dX12_adds_34 rfl (by decide) ?_
        refine s_i2l (pc' := 36) dX12_adds_35 rfl ?_
        refine s_lconst (pc' := 37) (v := 0) dX12_adds_36 rfl (by decide) ?_
        refine s_ldc2 (pc' := 40) dX12_adds_37 rfl kl_X12_188 ?_
        refine s_callS (pc' := 43) (As := [.long _, .long _, .long _]) dX12_adds_40 rfl mk_X12_isIn ml_X12_135 sm_X12_isIn rfl rfl ⟨Nat.le_of_ble_eq_true rfl, Nat.le_of_ble_eq_true rfl, Nat.le_of_ble_eq_true rfl, Nat.le_of_ble_eq_true rfl⟩ (Nat.le_of_ble_eq_true rfl) (c_isInR (a' := 0) (b' := 20) rfl rfl (fun i40 => ?_) (fun i40 => ?_))
        · refine s_ifeqF (pc' := 46) (tgt := 50) dX12_adds_43 (by decide) rfl (by decide) ?_
          refine s_iconst (pc' := 47) (v := 1) dX12_adds_46 rfl (by decide) ?_
          refine s_goto (tgt := 51) dX12_adds_47 (by decide) ?_
          refine t_istore (pc' := 53) (L' := [.ref 54, .int _, .int _, .int _, .int _, .int _, .int _, .int _, .int _, .int _, .retAddr _, .retAddr _]) dX12_adds_51 rfl (Nat.le_of_ble_eq_true rfl) rfl ?_
          refine s_iload (pc' := 55) dX12_adds_53 rfl rfl ?_
          refine s_ifeqF (pc' := 58) (tgt := 101) dX12_adds_55 (by decide) rfl (by decide) ?_
          refine s_iload (pc' := 60) dX12_adds_58 rfl rfl ?_
          refine s_ifeqF (pc' := 63) (tgt := 74) dX12_adds_60 (by decide) rfl (by decide) ?_
          refine s_aload_n (pc' := 64) dX12_adds_63 rfl rfl ?_
          refine s_iload_n (pc' := 65) dX12_adds_64 rfl rfl ?_
          refine s_callV (pc' := 68) (As := [.int _]) dX12_adds_65 rfl mk_X12_isValue ml_X12_170 im_X12_isValue se_X12_X12_X12_isValue sh_54 (by decide) rfl rfl rfl ⟨Nat.le_of_ble_eq_true rfl, Nat.le_of_ble_eq_true rfl, Nat.le_of_ble_eq_true rfl, Nat.le_of_ble_eq_true rfl⟩ (Nat.le_of_ble_eq_true rfl) (c_X12_isValue (hW.vn hD) (by have := hW.nv; omega) (fun j65 hj65 e65 => ?_) (fun n65 => ?_))
          · subst e65
            refine s_ifeqF (pc' := 71) (tgt := 101) dX12_adds_68 (by decide) rfl (by decide) ?_
            refine s_goto (tgt := 97) dX12_adds_71 (by decide) ?_
            refine s_iconst (pc' := 98) (v := 1) dX12_adds_97 rfl (by decide) ?_
            refine s_goto (tgt := 102) dX12_adds_98 (by decide) ?_
            refine t_istore (pc' := 104) (L' := [.ref 54, .int _, .int _, .int _, .int _, .int _, .int _, .int _, .int _, .int _, .retAddr _, .retAddr _]) dX12_adds_102 rfl (Nat.le_of_ble_eq_true rfl) rfl ?_
            refine s_iload (pc' := 106) dX12_adds_104 rfl rfl ?_
            refine s_ifeqF (pc' := 109) (tgt := 172) dX12_adds_106 (by decide) rfl (by decide) ?_
            refine s_iload (pc' := 111) dX12_adds_109 rfl rfl ?_
            refine s_ifeqF (pc' := 114) (tgt := 168) dX12_adds_111 (by decide) rfl (by decide) ?_
            refine s_iload (pc' := 116) dX12_adds_114 rfl rfl ?_
            refine s_i2l (pc' := 117) dX12_adds_116 rfl ?_
            refine s_ldc2 (pc' := 120) dX12_adds_117 rfl kl_X12_173 ?_
            refine s_ldc2 (pc' := 123) dX12_adds_120 rfl kl_X12_175 ?_
            refine s_callS (pc' := 126) (As := [.long _, .long _, .long _]) dX12_adds_123 rfl mk_X12_isIn ml_X12_135 sm_X12_isIn rfl rfl ⟨Nat.le_of_ble_eq_true rfl, Nat.le_of_ble_eq_true rfl, Nat.le_of_ble_eq_true rfl, Nat.le_of_ble_eq_true rfl⟩ (Nat.le_of_ble_eq_true rfl) (c_isInR (a' := -1000) (b' := 1000) rfl rfl (fun i123 => ?_) (fun i123 => ?_))
            · refine s_ifeqF (pc' := 129) (tgt := 172) dX12_adds_126 (by decide) rfl (by decide) ?_
              refine s_iload (pc' := 131) dX12_adds_129 rfl rfl ?_
              refine s_iconst (pc' := 132) (v := -1) dX12_adds_131 rfl (by decide) ?_
              refine s_icmpeq (pc' := 135) (tgt := 168) dX12_adds_132 (by decide) rfl (fun c132 => ?_) (fun c132 => ?_)
              · refine s_iconst (pc' := 169) (v := 1) dX12_adds_168 rfl (by decide) ?_
                refine s_goto (tgt := 173) dX12_adds_169 (by decide) ?_
                refine t_istore (pc' := 175) (L' := [.ref 54, .int _, .int _, .int _, .int _, .int _, .int _, .int _, .int _, .int _, .retAddr _, .retAddr _]) dX12_adds_173 rfl (Nat.le_of_ble_eq_true rfl) rfl ?_
                refine s_iload (pc' := 177) dX12_adds_175 rfl rfl ?_
                refine s_ifeqF (pc' := 180) (tgt := 193) dX12_adds_177 (by decide) rfl (by decide) ?_
                refine s_iload_n (pc' := 181) dX12_adds_180 rfl rfl ?_
                refine s_iconst (pc' := 182) (v := 4) dX12_adds_181 rfl (by decide) ?_
                refine s_icmpneT (tgt := 199) dX12_adds_182 (by decide) (fun z => by have := (nI_eq (b := 4) (by omega) (by decide)).mp z; omega) ?_
                refine s_aload_n (pc' := 200) dX12_adds_199 rfl rfl ?_
                refine s_getS (pc' := 203) (b := 75) dX12_adds_200 rfl (by decide) rfl (by decide) fa_X12_70_12 rfl rfl ?_
                refine s_iconst (pc' := 204) (v := 1) dX12_adds_203 rfl (by decide) ?_
                refine t_iald (pc' := 205) (q := 1) dX12_adds_204 rfl sh_75 rfl (by decide) ?_
                refine s_bipush (pc' := 207) (v := 30) dX12_adds_205 rfl (by decide) ?_
                refine s_icmpne (pc' := 210) (tgt := 216) dX12_adds_207 (by decide) rfl (fun c207 => ?_) (fun c207 => ?_)
                · have n30 : nr < 30 := by have := hW.nr; have : nr ≠ 30 := fun z => c207 (by rw [hW.rn hD, z]; rfl); omega
                  refine s_aload_n (pc' := 217) dX12_adds_216 rfl rfl ?_
                  refine t_getI (pc' := 220) dX12_adds_217 rfl sh_54 (by decide) fa_X12_164_12 rfl ?_
                  refine s_iconst (pc' := 221) (v := 2) dX12_adds_220 rfl (by decide) ?_
                  refine s_icmple (pc' := 224) (tgt := 233) dX12_adds_221 (by decide) rfl (fun c221 => ?_) (fun c221 => ?_)
                  · refine s_iconst (pc' := 234) (v := 0) dX12_adds_233 rfl (by decide) ?_
                    refine t_istore (pc' := 236) (L' := [.ref 54, .int _, .int _, .int _, .int _, .int _, .int _, .int _, .int _, .int _, .int _, .retAddr _]) dX12_adds_234 rfl (Nat.le_of_ble_eq_true rfl) rfl ?_
                    refine s_iload (pc' := 238) dX12_adds_236 rfl rfl ?_
                    refine s_ifeqF (pc' := 241) (tgt := 258) dX12_adds_238 (by decide) rfl (by decide) ?_
                    
                    refine s_iload (pc' := 243) dX12_adds_241 rfl rfl ?_
                    refine s_ifltT (tgt := 258) dX12_adds_243 (by decide) (by rw [show by_ = -1 from by first | exact c132 | exact Decidable.not_not.mp c132]; decide) ?_
                    refine s_iload (pc' := 260) dX12_adds_258 rfl rfl ?_
                    refine s_ifeqF (pc' := 263) (tgt := 279) dX12_adds_260 (by decide) rfl (by decide) ?_
                    refine s_aload_n (pc' := 264) dX12_adds_263 rfl rfl ?_
                    refine s_iload_n (pc' := 265) dX12_adds_264 rfl rfl ?_
                    refine s_iload (pc' := 267) dX12_adds_265 rfl rfl ?_
                    refine s_callV (pc' := 270) (As := [.int _, .int _]) dX12_adds_267 rfl mk_X12_isRing ml_X12_193 im_X12_isRing se_X12_X12_X12_isRing sh_54 (by decide) rfl rfl rfl ⟨Nat.le_of_ble_eq_true rfl, Nat.le_of_ble_eq_true rfl, Nat.le_of_ble_eq_true rfl, Nat.le_of_ble_eq_true rfl⟩ (Nat.le_of_ble_eq_true rfl) (c_X12_isRing (hR _ hj65) hD hW (fun hno I1 f1 => ?_) (fun m r hm hrg I1 hri => ?_))
                    · have e54 : I1 54 = I 54 := f1 54 (by decide) (by decide)
                      have e751 : I1 75 1 = nI nr := by rw [f1 75 (by decide) (by decide)]; exact hW.rn hD
                      refine s_ifeqT (tgt := 279) dX12_adds_270 (by decide) (by decide) ?_
                      refine s_aload_n (pc' := 280) dX12_adds_279 rfl rfl ?_
                      refine s_getS (pc' := 283) (b := 75) dX12_adds_280 rfl (by decide) rfl (by decide) fa_X12_70_12 rfl rfl ?_
                      refine s_iconst (pc' := 284) (v := 1) dX12_adds_283 rfl (by decide) ?_
                      refine t_iald (pc' := 285) (q := 1) dX12_adds_284 rfl sh_75 rfl (by decide) ?_
                      rw [e751]
                      refine t_istore (pc' := 287) (L' := [.ref 54, .int _, .int _, .int _, .int _, .int _, .int _, .int _, .int _, .int _, .int _, .int _]) dX12_adds_285 rfl (Nat.le_of_ble_eq_true rfl) rfl ?_
                      refine s_aload_n (pc' := 288) dX12_adds_287 rfl rfl ?_
                      refine s_getS (pc' := 291) (b := 75) dX12_adds_288 rfl (by decide) rfl (by decide) fa_X12_70_12 rfl rfl ?_
                      refine s_iconst (pc' := 292) (v := 1) dX12_adds_291 rfl (by decide) ?_
                      refine s_dup2 (pc' := 293) dX12_adds_292 rfl rfl rfl ?_
                      refine t_iald (pc' := 294) (q := 1) dX12_adds_293 rfl sh_75 rfl (by decide) ?_
                      rw [e751]
                      refine s_iconst (pc' := 295) (v := 1) dX12_adds_294 rfl (by decide) ?_
                      refine s_iadd (pc' := 296) dX12_adds_295 rfl ?_
                      rw [nI_1]
                      refine t_iast (pc' := 297) (q := 1) dX12_adds_296 rfl sh_75 rfl (by decide) ?_
                      refine s_aload_n (pc' := 298) dX12_adds_297 rfl rfl ?_
                      refine s_getS (pc' := 301) (b := 60) dX12_adds_298 rfl (by decide) rfl (by decide) fa_X12_25_12 rfl rfl ?_
                      refine s_iload (pc' := 303) dX12_adds_301 rfl rfl ?_
                      refine s_iload_n (pc' := 304) dX12_adds_303 rfl rfl ?_
                      refine t_iast (pc' := 305) dX12_adds_304 rfl sh_60 rfl n30 ?_
                      refine s_aload_n (pc' := 306) dX12_adds_305 rfl rfl ?_
                      refine s_getS (pc' := 309) (b := 61) dX12_adds_306 rfl (by decide) rfl (by decide) fa_X12_28_12 rfl rfl ?_
                      refine s_iload (pc' := 311) dX12_adds_309 rfl rfl ?_
                      refine s_iload_n (pc' := 312) dX12_adds_311 rfl rfl ?_
                      refine t_iast (pc' := 313) dX12_adds_312 rfl sh_61 rfl n30 ?_
                      refine s_aload_n (pc' := 314) dX12_adds_313 rfl rfl ?_
                      refine s_getS (pc' := 317) (b := 62) dX12_adds_314 rfl (by decide) rfl (by decide) fa_X12_31_12 rfl rfl ?_
                      refine s_iload (pc' := 319) dX12_adds_317 rfl rfl ?_
                      refine s_iload_n (pc' := 320) dX12_adds_319 rfl rfl ?_
                      refine s_bipush (pc' := 322) (v := 16) dX12_adds_320 rfl (by decide) ?_
                      refine s_irem (pc' := 323) dX12_adds_322 rfl (by decide) ?_
                      refine t_iast (pc' := 324) dX12_adds_323 rfl sh_62 rfl n30 ?_
                      refine s_aload_n (pc' := 325) dX12_adds_324 rfl rfl ?_
                      refine s_getS (pc' := 328) (b := 63) dX12_adds_325 rfl (by decide) rfl (by decide) fa_X12_34_12 rfl rfl ?_
                      refine s_iload (pc' := 330) dX12_adds_328 rfl rfl ?_
                      refine s_iload_n (pc' := 331) dX12_adds_330 rfl rfl ?_
                      refine s_bipush (pc' := 333) (v := 16) dX12_adds_331 rfl (by decide) ?_
                      refine s_idiv (pc' := 334) dX12_adds_333 rfl (by decide) ?_
                      refine t_iast (pc' := 335) dX12_adds_334 rfl sh_63 rfl n30 ?_
                      refine s_aload_n (pc' := 336) dX12_adds_335 rfl rfl ?_
                      refine s_getS (pc' := 339) (b := 64) dX12_adds_336 rfl (by decide) rfl (by decide) fa_X12_37_12 rfl rfl ?_
                      refine s_iload (pc' := 341) dX12_adds_339 rfl rfl ?_
                      refine s_iload (pc' := 343) dX12_adds_341 rfl rfl ?_
                      refine t_iast (pc' := 344) dX12_adds_343 rfl sh_64 rfl n30 ?_
                      refine s_aload_n (pc' := 345) dX12_adds_344 rfl rfl ?_
                      refine s_getS (pc' := 348) (b := 65) dX12_adds_345 rfl (by decide) rfl (by decide) fa_X12_40_12 rfl rfl ?_
                      refine s_iload (pc' := 350) dX12_adds_348 rfl rfl ?_
                      refine s_iload (pc' := 352) dX12_adds_350 rfl rfl ?_
                      refine t_iast (pc' := 353) dX12_adds_352 rfl sh_65 rfl n30 ?_
                      refine s_aload_n (pc' := 354) dX12_adds_353 rfl rfl ?_
                      refine s_getS (pc' := 357) (b := 66) dX12_adds_354 rfl (by decide) rfl (by decide) fa_X12_43_12 rfl rfl ?_
                      refine s_iload (pc' := 359) dX12_adds_357 rfl rfl ?_
                      refine s_iload (pc' := 361) dX12_adds_359 rfl rfl ?_
                      refine s_ifeqF (pc' := 364) (tgt := 369) dX12_adds_361 (by decide) rfl (by decide) ?_
                      refine s_iload (pc' := 366) dX12_adds_364 rfl rfl ?_
                      refine s_goto (tgt := 370) dX12_adds_366 (by decide) ?_
                      refine t_iast (pc' := 371) dX12_adds_370 rfl sh_66 rfl n30 ?_
                      refine s_aload_n (pc' := 372) dX12_adds_371 rfl rfl ?_
                      refine s_getS (pc' := 375) (b := 67) dX12_adds_372 rfl (by decide) rfl (by decide) fa_X12_46_12 rfl rfl ?_
                      refine s_iload (pc' := 377) dX12_adds_375 rfl rfl ?_
                      refine s_iload (pc' := 379) dX12_adds_377 rfl rfl ?_
                      refine s_ifeqF (pc' := 382) (tgt := 395) dX12_adds_379 (by decide) rfl (by decide) ?_
                      refine s_iload (pc' := 384) dX12_adds_382 rfl rfl ?_
                      refine s_ifltT (tgt := 395) dX12_adds_384 (by decide) (by rw [show by_ = -1 from by first | exact c132 | exact Decidable.not_not.mp c132]; decide) ?_
                      refine s_iconst (pc' := 396) (v := -1) dX12_adds_395 rfl (by decide) ?_
                      refine t_iast (pc' := 397) dX12_adds_396 rfl sh_67 rfl n30 ?_
                      refine s_aload_n (pc' := 398) dX12_adds_397 rfl rfl ?_
                      refine s_getS (pc' := 401) (b := 68) dX12_adds_398 rfl (by decide) rfl (by decide) fa_X12_49_12 rfl rfl ?_
                      refine s_iload (pc' := 403) dX12_adds_401 rfl rfl ?_
                      refine s_iload (pc' := 405) dX12_adds_403 rfl rfl ?_
                      refine s_ifeqF (pc' := 408) (tgt := 421) dX12_adds_405 (by decide) rfl (by decide) ?_
                      refine s_iload (pc' := 410) dX12_adds_408 rfl rfl ?_
                      refine s_ifltT (tgt := 421) dX12_adds_410 (by decide) (by rw [show by_ = -1 from by first | exact c132 | exact Decidable.not_not.mp c132]; decide) ?_
                      refine s_iconst (pc' := 422) (v := 0) dX12_adds_421 rfl (by decide) ?_
                      refine t_iast (pc' := 423) dX12_adds_422 rfl sh_68 rfl n30 ?_
                      refine s_aload_n (pc' := 424) dX12_adds_423 rfl rfl ?_
                      refine s_getS (pc' := 427) (b := 69) dX12_adds_424 rfl (by decide) rfl (by decide) fa_X12_52_12 rfl rfl ?_
                      refine s_iload (pc' := 429) dX12_adds_427 rfl rfl ?_
                      refine s_aload_n (pc' := 430) dX12_adds_429 rfl rfl ?_
                      refine t_getI (pc' := 433) dX12_adds_430 rfl sh_54 (by decide) fa_X12_164_12 rfl ?_
                      refine t_iast (pc' := 434) dX12_adds_433 rfl sh_69 rfl n30 ?_
                      refine s_aload_n (pc' := 435) dX12_adds_434 rfl rfl ?_
                      refine s_getS (pc' := 438) (b := 70) dX12_adds_435 rfl (by decide) rfl (by decide) fa_X12_55_12 rfl rfl ?_
                      refine s_iload (pc' := 440) dX12_adds_438 rfl rfl ?_
                      refine s_aload_n (pc' := 441) dX12_adds_440 rfl rfl ?_
                      refine t_getI (pc' := 444) dX12_adds_441 rfl sh_54 (by decide) fa_X12_167_12 rfl ?_
                      refine t_iast (pc' := 445) dX12_adds_444 rfl sh_70 rfl n30 ?_
                      refine s_aload_n (pc' := 446) dX12_adds_445 rfl rfl ?_
                      refine s_getS (pc' := 449) (b := 71) dX12_adds_446 rfl (by decide) rfl (by decide) fa_X12_58_12 rfl rfl ?_
                      refine s_iload (pc' := 451) dX12_adds_449 rfl rfl ?_
                      refine s_aload_n (pc' := 452) dX12_adds_451 rfl rfl ?_
                      refine t_getI (pc' := 455) dX12_adds_452 rfl sh_54 (by decide) fa_X12_177_12 rfl ?_
                      refine t_iast (pc' := 456) dX12_adds_455 rfl sh_71 rfl n30 ?_
                      refine s_aload_n (pc' := 457) dX12_adds_456 rfl rfl ?_
                      refine s_iconst (pc' := 458) (v := 0) dX12_adds_457 rfl (by decide) ?_
                      refine t_putI (pc' := 461) dX12_adds_458 rfl sh_54 (by decide) fa_X12_153_12 (Or.inl rfl) rfl rfl rfl ?_
                      refine s_aload_n (pc' := 462) dX12_adds_461 rfl rfl ?_
                      refine s_iload (pc' := 464) dX12_adds_462 rfl rfl ?_
                      refine s_callV (pc' := 467) (As := [.int _]) dX12_adds_464 rfl mk_X12_done ml_X12_157 im_X12_done se_X12_X12_X12_done sh_54 (by decide) rfl rfl rfl ⟨Nat.le_of_ble_eq_true rfl, Nat.le_of_ble_eq_true rfl, Nat.le_of_ble_eq_true rfl, Nat.le_of_ble_eq_true rfl⟩ (Nat.le_of_ble_eq_true rfl) (c_X12_done ?_)
                      exact s_iret dX12_adds_467 rfl (by decide) (by decide) (by
  obtain ⟨ra, so, e1, e2, g⟩ := (RGO.mk (am := amt) (b := -1) (fa := 0) hW.nv hW.nr c13 i25 i40 rfl (Or.inl ⟨kv, hj65, i123, rfl, Or.inl ⟨by first | exact c132 | exact Decidable.not_not.mp c132, rfl, rfl⟩⟩))
  have q := k4 _ ra so _ _ _ g n30 (fun _ => by rw [(rdS_00 c221)]; exact hno) I1 f1
  rw [← e1, ← e2] at q
  unfold nwD at q
  simp (disch := decide) only [up2_d]
  rw [e54]
  exact q)
                    · refine s_ifeqF (pc' := 273) (tgt := 279) dX12_adds_270 (by decide) rfl (by decide) ?_
                      refine s_aload_n (pc' := 274) dX12_adds_273 rfl rfl ?_
                      refine s_iconst (pc' := 275) (v := 4) dX12_adds_274 rfl (by decide) ?_
                      refine s_callV (pc' := 278) (As := [.int _]) dX12_adds_275 rfl mk_X12_refused ml_X12_149 im_X12_refused se_X12_X12_X12_refused sh_54 (by decide) rfl rfl rfl ⟨Nat.le_of_ble_eq_true rfl, Nat.le_of_ble_eq_true rfl, Nat.le_of_ble_eq_true rfl, Nat.le_of_ble_eq_true rfl⟩ (Nat.le_of_ble_eq_true rfl) (c_X12_refused ?_)
                      exact s_iret dX12_adds_278 rfl (by decide) (by decide) (by obtain ⟨ra, so, e1, e2, g⟩ := (RGO.mk (am := amt) (b := -1) (fa := 0) hW.nv hW.nr c13 i25 i40 rfl (Or.inl ⟨kv, hj65, i123, rfl, Or.inl ⟨by first | exact c132 | exact Decidable.not_not.mp c132, rfl, rfl⟩⟩)); exact k3 _ ra so _ _ _ g n30 kv m r (by rw [(rdS_00 c221)]; exact hm) (by rw [(rdS_00 c221)]; exact hrg) I1 (by rw [(rdS_00 c221)]; exact hri))
                  · refine s_iconst (pc' := 225) (v := 1) dX12_adds_224 rfl (by decide) ?_
                    refine s_aload_n (pc' := 226) dX12_adds_225 rfl rfl ?_
                    refine t_getI (pc' := 229) dX12_adds_226 rfl sh_54 (by decide) fa_X12_167_12 rfl ?_
                    refine s_ishl (pc' := 230) dX12_adds_229 rfl ?_
                    refine s_goto (tgt := 234) dX12_adds_230 (by decide) ?_
                    refine t_istore (pc' := 236) (L' := [.ref 54, .int _, .int _, .int _, .int _, .int _, .int _, .int _, .int _, .int _, .int _, .retAddr _]) dX12_adds_234 rfl (Nat.le_of_ble_eq_true rfl) rfl ?_
                    refine s_iload (pc' := 238) dX12_adds_236 rfl rfl ?_
                    refine s_ifeqF (pc' := 241) (tgt := 258) dX12_adds_238 (by decide) rfl (by decide) ?_
                    
                    refine s_iload (pc' := 243) dX12_adds_241 rfl rfl ?_
                    refine s_ifltT (tgt := 258) dX12_adds_243 (by decide) (by rw [show by_ = -1 from by first | exact c132 | exact Decidable.not_not.mp c132]; decide) ?_
                    refine s_iload (pc' := 260) dX12_adds_258 rfl rfl ?_
                    refine s_ifeqF (pc' := 263) (tgt := 279) dX12_adds_260 (by decide) rfl (by decide) ?_
                    refine s_aload_n (pc' := 264) dX12_adds_263 rfl rfl ?_
                    refine s_iload_n (pc' := 265) dX12_adds_264 rfl rfl ?_
                    refine s_iload (pc' := 267) dX12_adds_265 rfl rfl ?_
                    refine s_callV (pc' := 270) (As := [.int _, .int _]) dX12_adds_267 rfl mk_X12_isRing ml_X12_193 im_X12_isRing se_X12_X12_X12_isRing sh_54 (by decide) rfl rfl rfl ⟨Nat.le_of_ble_eq_true rfl, Nat.le_of_ble_eq_true rfl, Nat.le_of_ble_eq_true rfl, Nat.le_of_ble_eq_true rfl⟩ (Nat.le_of_ble_eq_true rfl) (c_X12_isRing (hR _ hj65) hD hW (fun hno I1 f1 => ?_) (fun m r hm hrg I1 hri => ?_))
                    · have e54 : I1 54 = I 54 := f1 54 (by decide) (by decide)
                      have e751 : I1 75 1 = nI nr := by rw [f1 75 (by decide) (by decide)]; exact hW.rn hD
                      refine s_ifeqT (tgt := 279) dX12_adds_270 (by decide) (by decide) ?_
                      refine s_aload_n (pc' := 280) dX12_adds_279 rfl rfl ?_
                      refine s_getS (pc' := 283) (b := 75) dX12_adds_280 rfl (by decide) rfl (by decide) fa_X12_70_12 rfl rfl ?_
                      refine s_iconst (pc' := 284) (v := 1) dX12_adds_283 rfl (by decide) ?_
                      refine t_iald (pc' := 285) (q := 1) dX12_adds_284 rfl sh_75 rfl (by decide) ?_
                      rw [e751]
                      refine t_istore (pc' := 287) (L' := [.ref 54, .int _, .int _, .int _, .int _, .int _, .int _, .int _, .int _, .int _, .int _, .int _]) dX12_adds_285 rfl (Nat.le_of_ble_eq_true rfl) rfl ?_
                      refine s_aload_n (pc' := 288) dX12_adds_287 rfl rfl ?_
                      refine s_getS (pc' := 291) (b := 75) dX12_adds_288 rfl (by decide) rfl (by decide) fa_X12_70_12 rfl rfl ?_
                      refine s_iconst (pc' := 292) (v := 1) dX12_adds_291 rfl (by decide) ?_
                      refine s_dup2 (pc' := 293) dX12_adds_292 rfl rfl rfl ?_
                      refine t_iald (pc' := 294) (q := 1) dX12_adds_293 rfl sh_75 rfl (by decide) ?_
                      rw [e751]
                      refine s_iconst (pc' := 295) (v := 1) dX12_adds_294 rfl (by decide) ?_
                      refine s_iadd (pc' := 296) dX12_adds_295 rfl ?_
                      rw [nI_1]
                      refine t_iast (pc' := 297) (q := 1) dX12_adds_296 rfl sh_75 rfl (by decide) ?_
                      refine s_aload_n (pc' := 298) dX12_adds_297 rfl rfl ?_
                      refine s_getS (pc' := 301) (b := 60) dX12_adds_298 rfl (by decide) rfl (by decide) fa_X12_25_12 rfl rfl ?_
                      refine s_iload (pc' := 303) dX12_adds_301 rfl rfl ?_
                      refine s_iload_n (pc' := 304) dX12_adds_303 rfl rfl ?_
                      refine t_iast (pc' := 305) dX12_adds_304 rfl sh_60 rfl n30 ?_
                      refine s_aload_n (pc' := 306) dX12_adds_305 rfl rfl ?_
                      refine s_getS (pc' := 309) (b := 61) dX12_adds_306 rfl (by decide) rfl (by decide) fa_X12_28_12 rfl rfl ?_
                      refine s_iload (pc' := 311) dX12_adds_309 rfl rfl ?_
                      refine s_iload_n (pc' := 312) dX12_adds_311 rfl rfl ?_
                      refine t_iast (pc' := 313) dX12_adds_312 rfl sh_61 rfl n30 ?_
                      refine s_aload_n (pc' := 314) dX12_adds_313 rfl rfl ?_
                      refine s_getS (pc' := 317) (b := 62) dX12_adds_314 rfl (by decide) rfl (by decide) fa_X12_31_12 rfl rfl ?_
                      refine s_iload (pc' := 319) dX12_adds_317 rfl rfl ?_
                      refine s_iload_n (pc' := 320) dX12_adds_319 rfl rfl ?_
                      refine s_bipush (pc' := 322) (v := 16) dX12_adds_320 rfl (by decide) ?_
                      refine s_irem (pc' := 323) dX12_adds_322 rfl (by decide) ?_
                      refine t_iast (pc' := 324) dX12_adds_323 rfl sh_62 rfl n30 ?_
                      refine s_aload_n (pc' := 325) dX12_adds_324 rfl rfl ?_
                      refine s_getS (pc' := 328) (b := 63) dX12_adds_325 rfl (by decide) rfl (by decide) fa_X12_34_12 rfl rfl ?_
                      refine s_iload (pc' := 330) dX12_adds_328 rfl rfl ?_
                      refine s_iload_n (pc' := 331) dX12_adds_330 rfl rfl ?_
                      refine s_bipush (pc' := 333) (v := 16) dX12_adds_331 rfl (by decide) ?_
                      refine s_idiv (pc' := 334) dX12_adds_333 rfl (by decide) ?_
                      refine t_iast (pc' := 335) dX12_adds_334 rfl sh_63 rfl n30 ?_
                      refine s_aload_n (pc' := 336) dX12_adds_335 rfl rfl ?_
                      refine s_getS (pc' := 339) (b := 64) dX12_adds_336 rfl (by decide) rfl (by decide) fa_X12_37_12 rfl rfl ?_
                      refine s_iload (pc' := 341) dX12_adds_339 rfl rfl ?_
                      refine s_iload (pc' := 343) dX12_adds_341 rfl rfl ?_
                      refine t_iast (pc' := 344) dX12_adds_343 rfl sh_64 rfl n30 ?_
                      refine s_aload_n (pc' := 345) dX12_adds_344 rfl rfl ?_
                      refine s_getS (pc' := 348) (b := 65) dX12_adds_345 rfl (by decide) rfl (by decide) fa_X12_40_12 rfl rfl ?_
                      refine s_iload (pc' := 350) dX12_adds_348 rfl rfl ?_
                      refine s_iload (pc' := 352) dX12_adds_350 rfl rfl ?_
                      refine t_iast (pc' := 353) dX12_adds_352 rfl sh_65 rfl n30 ?_
                      refine s_aload_n (pc' := 354) dX12_adds_353 rfl rfl ?_
                      refine s_getS (pc' := 357) (b := 66) dX12_adds_354 rfl (by decide) rfl (by decide) fa_X12_43_12 rfl rfl ?_
                      refine s_iload (pc' := 359) dX12_adds_357 rfl rfl ?_
                      refine s_iload (pc' := 361) dX12_adds_359 rfl rfl ?_
                      refine s_ifeqF (pc' := 364) (tgt := 369) dX12_adds_361 (by decide) rfl (by decide) ?_
                      refine s_iload (pc' := 366) dX12_adds_364 rfl rfl ?_
                      refine s_goto (tgt := 370) dX12_adds_366 (by decide) ?_
                      refine t_iast (pc' := 371) dX12_adds_370 rfl sh_66 rfl n30 ?_
                      refine s_aload_n (pc' := 372) dX12_adds_371 rfl rfl ?_
                      refine s_getS (pc' := 375) (b := 67) dX12_adds_372 rfl (by decide) rfl (by decide) fa_X12_46_12 rfl rfl ?_
                      refine s_iload (pc' := 377) dX12_adds_375 rfl rfl ?_
                      refine s_iload (pc' := 379) dX12_adds_377 rfl rfl ?_
                      refine s_ifeqF (pc' := 382) (tgt := 395) dX12_adds_379 (by decide) rfl (by decide) ?_
                      refine s_iload (pc' := 384) dX12_adds_382 rfl rfl ?_
                      refine s_ifltT (tgt := 395) dX12_adds_384 (by decide) (by rw [show by_ = -1 from by first | exact c132 | exact Decidable.not_not.mp c132]; decide) ?_
                      refine s_iconst (pc' := 396) (v := -1) dX12_adds_395 rfl (by decide) ?_
                      refine t_iast (pc' := 397) dX12_adds_396 rfl sh_67 rfl n30 ?_
                      refine s_aload_n (pc' := 398) dX12_adds_397 rfl rfl ?_
                      refine s_getS (pc' := 401) (b := 68) dX12_adds_398 rfl (by decide) rfl (by decide) fa_X12_49_12 rfl rfl ?_
                      refine s_iload (pc' := 403) dX12_adds_401 rfl rfl ?_
                      refine s_iload (pc' := 405) dX12_adds_403 rfl rfl ?_
                      refine s_ifeqF (pc' := 408) (tgt := 421) dX12_adds_405 (by decide) rfl (by decide) ?_
                      refine s_iload (pc' := 410) dX12_adds_408 rfl rfl ?_
                      refine s_ifltT (tgt := 421) dX12_adds_410 (by decide) (by rw [show by_ = -1 from by first | exact c132 | exact Decidable.not_not.mp c132]; decide) ?_
                      refine s_iconst (pc' := 422) (v := 0) dX12_adds_421 rfl (by decide) ?_
                      refine t_iast (pc' := 423) dX12_adds_422 rfl sh_68 rfl n30 ?_
                      refine s_aload_n (pc' := 424) dX12_adds_423 rfl rfl ?_
                      refine s_getS (pc' := 427) (b := 69) dX12_adds_424 rfl (by decide) rfl (by decide) fa_X12_52_12 rfl rfl ?_
                      refine s_iload (pc' := 429) dX12_adds_427 rfl rfl ?_
                      refine s_aload_n (pc' := 430) dX12_adds_429 rfl rfl ?_
                      refine t_getI (pc' := 433) dX12_adds_430 rfl sh_54 (by decide) fa_X12_164_12 rfl ?_
                      refine t_iast (pc' := 434) dX12_adds_433 rfl sh_69 rfl n30 ?_
                      refine s_aload_n (pc' := 435) dX12_adds_434 rfl rfl ?_
                      refine s_getS (pc' := 438) (b := 70) dX12_adds_435 rfl (by decide) rfl (by decide) fa_X12_55_12 rfl rfl ?_
                      refine s_iload (pc' := 440) dX12_adds_438 rfl rfl ?_
                      refine s_aload_n (pc' := 441) dX12_adds_440 rfl rfl ?_
                      refine t_getI (pc' := 444) dX12_adds_441 rfl sh_54 (by decide) fa_X12_167_12 rfl ?_
                      refine t_iast (pc' := 445) dX12_adds_444 rfl sh_70 rfl n30 ?_
                      refine s_aload_n (pc' := 446) dX12_adds_445 rfl rfl ?_
                      refine s_getS (pc' := 449) (b := 71) dX12_adds_446 rfl (by decide) rfl (by decide) fa_X12_58_12 rfl rfl ?_
                      refine s_iload (pc' := 451) dX12_adds_449 rfl rfl ?_
                      refine s_aload_n (pc' := 452) dX12_adds_451 rfl rfl ?_
                      refine t_getI (pc' := 455) dX12_adds_452 rfl sh_54 (by decide) fa_X12_177_12 rfl ?_
                      refine t_iast (pc' := 456) dX12_adds_455 rfl sh_71 rfl n30 ?_
                      refine s_aload_n (pc' := 457) dX12_adds_456 rfl rfl ?_
                      refine s_iconst (pc' := 458) (v := 0) dX12_adds_457 rfl (by decide) ?_
                      refine t_putI (pc' := 461) dX12_adds_458 rfl sh_54 (by decide) fa_X12_153_12 (Or.inl rfl) rfl rfl rfl ?_
                      refine s_aload_n (pc' := 462) dX12_adds_461 rfl rfl ?_
                      refine s_iload (pc' := 464) dX12_adds_462 rfl rfl ?_
                      refine s_callV (pc' := 467) (As := [.int _]) dX12_adds_464 rfl mk_X12_done ml_X12_157 im_X12_done se_X12_X12_X12_done sh_54 (by decide) rfl rfl rfl ⟨Nat.le_of_ble_eq_true rfl, Nat.le_of_ble_eq_true rfl, Nat.le_of_ble_eq_true rfl, Nat.le_of_ble_eq_true rfl⟩ (Nat.le_of_ble_eq_true rfl) (c_X12_done ?_)
                      exact s_iret dX12_adds_467 rfl (by decide) (by decide) (by
  obtain ⟨ra, so, e1, e2, g⟩ := (RGO.mk (am := amt) (b := -1) (fa := 0) hW.nv hW.nr c13 i25 i40 rfl (Or.inl ⟨kv, hj65, i123, rfl, Or.inl ⟨by first | exact c132 | exact Decidable.not_not.mp c132, rfl, rfl⟩⟩))
  have q := k4 _ ra so _ _ _ g n30 (fun _ => by rw [(rdS_10 c221)]; exact hno) I1 f1
  rw [← e1, ← e2] at q
  unfold nwD at q
  simp (disch := decide) only [up2_d]
  rw [e54]
  exact q)
                    · refine s_ifeqF (pc' := 273) (tgt := 279) dX12_adds_270 (by decide) rfl (by decide) ?_
                      refine s_aload_n (pc' := 274) dX12_adds_273 rfl rfl ?_
                      refine s_iconst (pc' := 275) (v := 4) dX12_adds_274 rfl (by decide) ?_
                      refine s_callV (pc' := 278) (As := [.int _]) dX12_adds_275 rfl mk_X12_refused ml_X12_149 im_X12_refused se_X12_X12_X12_refused sh_54 (by decide) rfl rfl rfl ⟨Nat.le_of_ble_eq_true rfl, Nat.le_of_ble_eq_true rfl, Nat.le_of_ble_eq_true rfl, Nat.le_of_ble_eq_true rfl⟩ (Nat.le_of_ble_eq_true rfl) (c_X12_refused ?_)
                      exact s_iret dX12_adds_278 rfl (by decide) (by decide) (by obtain ⟨ra, so, e1, e2, g⟩ := (RGO.mk (am := amt) (b := -1) (fa := 0) hW.nv hW.nr c13 i25 i40 rfl (Or.inl ⟨kv, hj65, i123, rfl, Or.inl ⟨by first | exact c132 | exact Decidable.not_not.mp c132, rfl, rfl⟩⟩)); exact k3 _ ra so _ _ _ g n30 kv m r (by rw [(rdS_10 c221)]; exact hm) (by rw [(rdS_10 c221)]; exact hrg) I1 (by rw [(rdS_10 c221)]; exact hri))
                · refine s_aload_n (pc' := 211) dX12_adds_210 rfl rfl ?_
                  refine s_iconst (pc' := 212) (v := 2) dX12_adds_211 rfl (by decide) ?_
                  refine s_callV (pc' := 215) (As := [.int _]) dX12_adds_212 rfl mk_X12_refused ml_X12_149 im_X12_refused se_X12_X12_X12_refused sh_54 (by decide) rfl rfl rfl ⟨Nat.le_of_ble_eq_true rfl, Nat.le_of_ble_eq_true rfl, Nat.le_of_ble_eq_true rfl, Nat.le_of_ble_eq_true rfl⟩ (Nat.le_of_ble_eq_true rfl) (c_X12_refused ?_)
                  exact s_iret dX12_adds_215 rfl (by decide) (by decide) (by obtain ⟨ra, so, e1, e2, g⟩ := (RGO.mk (am := amt) (b := -1) (fa := 0) hW.nv hW.nr c13 i25 i40 rfl (Or.inl ⟨kv, hj65, i123, rfl, Or.inl ⟨by first | exact c132 | exact Decidable.not_not.mp c132, rfl, rfl⟩⟩)); exact k2 _ ra so _ _ _ g (by have z : I 75 1 = nI 30 := (by first | exact c207 | exact Decidable.not_not.mp c207); rw [hW.rn hD] at z; exact ixe z (by have := hW.nr; omega) (by decide)))
              · refine s_iload (pc' := 137) dX12_adds_135 rfl rfl ?_
                refine s_iflt (pc' := 140) (tgt := 172) dX12_adds_137 (by decide) rfl (fun c137 => ?_) (fun c137 => ?_)
                · refine s_iconst (pc' := 173) (v := 0) dX12_adds_172 rfl (by decide) ?_
                  refine t_istore (pc' := 175) (L' := [.ref 54, .int _, .int _, .int _, .int _, .int _, .int _, .int _, .int _, .int _, .retAddr _, .retAddr _]) dX12_adds_173 rfl (Nat.le_of_ble_eq_true rfl) rfl ?_
                  refine s_iload (pc' := 177) dX12_adds_175 rfl rfl ?_
                  refine s_ifeqT (tgt := 193) dX12_adds_177 (by decide) (by decide) ?_
                  refine s_aload_n (pc' := 194) dX12_adds_193 rfl rfl ?_
                  refine s_iconst (pc' := 195) (v := 1) dX12_adds_194 rfl (by decide) ?_
                  refine s_callV (pc' := 198) (As := [.int _]) dX12_adds_195 rfl mk_X12_refused ml_X12_149 im_X12_refused se_X12_X12_X12_refused sh_54 (by decide) rfl rfl rfl ⟨Nat.le_of_ble_eq_true rfl, Nat.le_of_ble_eq_true rfl, Nat.le_of_ble_eq_true rfl, Nat.le_of_ble_eq_true rfl⟩ (Nat.le_of_ble_eq_true rfl) (c_X12_refused ?_)
                  exact s_iret dX12_adds_198 rfl (by decide) (by decide) (k1 (fun a ra so am b fa g => ((g.f hW.nv).2.2.2.2.2.2.2.1 kv c132).1 c137))
                · refine s_aload_n (pc' := 141) dX12_adds_140 rfl rfl ?_
                  refine s_iload (pc' := 143) dX12_adds_141 rfl rfl ?_
                  refine s_bipush (pc' := 145) (v := 16) dX12_adds_143 rfl (by decide) ?_
                  refine s_irem (pc' := 146) dX12_adds_145 rfl (by decide) ?_
                  refine s_callV (pc' := 149) (As := [.int _]) dX12_adds_146 rfl mk_X12_isValue ml_X12_170 im_X12_isValue se_X12_X12_X12_isValue sh_54 (by decide) rfl rfl rfl ⟨Nat.le_of_ble_eq_true rfl, Nat.le_of_ble_eq_true rfl, Nat.le_of_ble_eq_true rfl, Nat.le_of_ble_eq_true rfl⟩ (Nat.le_of_ble_eq_true rfl) (c_X12_isValue (hW.vn hD) (by have := hW.nv; omega) (fun j146 hj146 e146 => ?_) (fun n146 => ?_))
                  · refine s_ifeqF (pc' := 152) (tgt := 172) dX12_adds_149 (by decide) rfl (by decide) ?_
                    refine s_iload (pc' := 154) dX12_adds_152 rfl rfl ?_
                    refine s_bipush (pc' := 156) (v := 16) dX12_adds_154 rfl (by decide) ?_
                    refine s_idiv (pc' := 157) dX12_adds_156 rfl (by decide) ?_
                    refine s_i2l (pc' := 158) dX12_adds_157 rfl ?_
                    refine s_lconst (pc' := 159) (v := 1) dX12_adds_158 rfl (by decide) ?_
                    refine s_ldc2 (pc' := 162) dX12_adds_159 rfl kl_X12_186 ?_
                    refine s_callS (pc' := 165) (As := [.long _, .long _, .long _]) dX12_adds_162 rfl mk_X12_isIn ml_X12_135 sm_X12_isIn rfl rfl ⟨Nat.le_of_ble_eq_true rfl, Nat.le_of_ble_eq_true rfl, Nat.le_of_ble_eq_true rfl, Nat.le_of_ble_eq_true rfl⟩ (Nat.le_of_ble_eq_true rfl) (c_isInR (a' := 1) (b' := 9) rfl rfl (fun i162 => ?_) (fun i162 => ?_))
                    · refine s_ifeqF (pc' := 168) (tgt := 172) dX12_adds_165 (by decide) rfl (by decide) ?_
                      refine s_iconst (pc' := 169) (v := 1) dX12_adds_168 rfl (by decide) ?_
                      refine s_goto (tgt := 173) dX12_adds_169 (by decide) ?_
                      refine t_istore (pc' := 175) (L' := [.ref 54, .int _, .int _, .int _, .int _, .int _, .int _, .int _, .int _, .int _, .retAddr _, .retAddr _]) dX12_adds_173 rfl (Nat.le_of_ble_eq_true rfl) rfl ?_
                      refine s_iload (pc' := 177) dX12_adds_175 rfl rfl ?_
                      refine s_ifeqF (pc' := 180) (tgt := 193) dX12_adds_177 (by decide) rfl (by decide) ?_
                      refine s_iload_n (pc' := 181) dX12_adds_180 rfl rfl ?_
                      refine s_iconst (pc' := 182) (v := 4) dX12_adds_181 rfl (by decide) ?_
                      refine s_icmpneT (tgt := 199) dX12_adds_182 (by decide) (fun z => by have := (nI_eq (b := 4) (by omega) (by decide)).mp z; omega) ?_
                      refine s_aload_n (pc' := 200) dX12_adds_199 rfl rfl ?_
                      refine s_getS (pc' := 203) (b := 75) dX12_adds_200 rfl (by decide) rfl (by decide) fa_X12_70_12 rfl rfl ?_
                      refine s_iconst (pc' := 204) (v := 1) dX12_adds_203 rfl (by decide) ?_
                      refine t_iald (pc' := 205) (q := 1) dX12_adds_204 rfl sh_75 rfl (by decide) ?_
                      refine s_bipush (pc' := 207) (v := 30) dX12_adds_205 rfl (by decide) ?_
                      refine s_icmpne (pc' := 210) (tgt := 216) dX12_adds_207 (by decide) rfl (fun c207 => ?_) (fun c207 => ?_)
                      · have n30 : nr < 30 := by have := hW.nr; have : nr ≠ 30 := fun z => c207 (by rw [hW.rn hD, z]; rfl); omega
                        refine s_aload_n (pc' := 217) dX12_adds_216 rfl rfl ?_
                        refine t_getI (pc' := 220) dX12_adds_217 rfl sh_54 (by decide) fa_X12_164_12 rfl ?_
                        refine s_iconst (pc' := 221) (v := 2) dX12_adds_220 rfl (by decide) ?_
                        refine s_icmple (pc' := 224) (tgt := 233) dX12_adds_221 (by decide) rfl (fun c221 => ?_) (fun c221 => ?_)
                        · refine s_iconst (pc' := 234) (v := 0) dX12_adds_233 rfl (by decide) ?_
                          refine t_istore (pc' := 236) (L' := [.ref 54, .int _, .int _, .int _, .int _, .int _, .int _, .int _, .int _, .int _, .int _, .retAddr _]) dX12_adds_234 rfl (Nat.le_of_ble_eq_true rfl) rfl ?_
                          refine s_iload (pc' := 238) dX12_adds_236 rfl rfl ?_
                          refine s_ifeqF (pc' := 241) (tgt := 258) dX12_adds_238 (by decide) rfl (by decide) ?_
                          have c137b : ¬ by_ - by_ / 16 * 16 < 0 := by rw [e146]; exact nI_n0 (by have := hW.nv; omega)
                          refine s_iload (pc' := 243) dX12_adds_241 rfl rfl ?_
                          refine s_ifltF (pc' := 246) (tgt := 258) dX12_adds_243 (by decide) rfl c137 ?_
                          refine s_iload (pc' := 248) dX12_adds_246 rfl rfl ?_
                          refine s_iconst (pc' := 249) (v := 1) dX12_adds_248 rfl (by decide) ?_
                          refine s_iload (pc' := 251) dX12_adds_249 rfl rfl ?_
                          refine s_bipush (pc' := 253) (v := 16) dX12_adds_251 rfl (by decide) ?_
                          refine s_irem (pc' := 254) dX12_adds_253 rfl (by decide) ?_
                          refine s_ishl (pc' := 255) dX12_adds_254 rfl ?_
                          refine s_ior (pc' := 256) dX12_adds_255 rfl ?_
                          refine t_istore (pc' := 258) (L' := [.ref 54, .int _, .int _, .int _, .int _, .int _, .int _, .int _, .int _, .int _, .int _, .retAddr _]) dX12_adds_256 rfl (Nat.le_of_ble_eq_true rfl) rfl ?_
                          refine s_iload (pc' := 260) dX12_adds_258 rfl rfl ?_
                          refine s_ifeqF (pc' := 263) (tgt := 279) dX12_adds_260 (by decide) rfl (by decide) ?_
                          refine s_aload_n (pc' := 264) dX12_adds_263 rfl rfl ?_
                          refine s_iload_n (pc' := 265) dX12_adds_264 rfl rfl ?_
                          refine s_iload (pc' := 267) dX12_adds_265 rfl rfl ?_
                          refine s_callV (pc' := 270) (As := [.int _, .int _]) dX12_adds_267 rfl mk_X12_isRing ml_X12_193 im_X12_isRing se_X12_X12_X12_isRing sh_54 (by decide) rfl rfl rfl ⟨Nat.le_of_ble_eq_true rfl, Nat.le_of_ble_eq_true rfl, Nat.le_of_ble_eq_true rfl, Nat.le_of_ble_eq_true rfl⟩ (Nat.le_of_ble_eq_true rfl) (c_X12_isRing (hR _ hj65) hD hW (fun hno I1 f1 => ?_) (fun m r hm hrg I1 hri => ?_))
                          · have e54 : I1 54 = I 54 := f1 54 (by decide) (by decide)
                            have e751 : I1 75 1 = nI nr := by rw [f1 75 (by decide) (by decide)]; exact hW.rn hD
                            refine s_ifeqT (tgt := 279) dX12_adds_270 (by decide) (by decide) ?_
                            refine s_aload_n (pc' := 280) dX12_adds_279 rfl rfl ?_
                            refine s_getS (pc' := 283) (b := 75) dX12_adds_280 rfl (by decide) rfl (by decide) fa_X12_70_12 rfl rfl ?_
                            refine s_iconst (pc' := 284) (v := 1) dX12_adds_283 rfl (by decide) ?_
                            refine t_iald (pc' := 285) (q := 1) dX12_adds_284 rfl sh_75 rfl (by decide) ?_
                            rw [e751]
                            refine t_istore (pc' := 287) (L' := [.ref 54, .int _, .int _, .int _, .int _, .int _, .int _, .int _, .int _, .int _, .int _, .int _]) dX12_adds_285 rfl (Nat.le_of_ble_eq_true rfl) rfl ?_
                            refine s_aload_n (pc' := 288) dX12_adds_287 rfl rfl ?_
                            refine s_getS (pc' := 291) (b := 75) dX12_adds_288 rfl (by decide) rfl (by decide) fa_X12_70_12 rfl rfl ?_
                            refine s_iconst (pc' := 292) (v := 1) dX12_adds_291 rfl (by decide) ?_
                            refine s_dup2 (pc' := 293) dX12_adds_292 rfl rfl rfl ?_
                            refine t_iald (pc' := 294) (q := 1) dX12_adds_293 rfl sh_75 rfl (by decide) ?_
                            rw [e751]
                            refine s_iconst (pc' := 295) (v := 1) dX12_adds_294 rfl (by decide) ?_
                            refine s_iadd (pc' := 296) dX12_adds_295 rfl ?_
                            rw [nI_1]
                            refine t_iast (pc' := 297) (q := 1) dX12_adds_296 rfl sh_75 rfl (by decide) ?_
                            refine s_aload_n (pc' := 298) dX12_adds_297 rfl rfl ?_
                            refine s_getS (pc' := 301) (b := 60) dX12_adds_298 rfl (by decide) rfl (by decide) fa_X12_25_12 rfl rfl ?_
                            refine s_iload (pc' := 303) dX12_adds_301 rfl rfl ?_
                            refine s_iload_n (pc' := 304) dX12_adds_303 rfl rfl ?_
                            refine t_iast (pc' := 305) dX12_adds_304 rfl sh_60 rfl n30 ?_
                            refine s_aload_n (pc' := 306) dX12_adds_305 rfl rfl ?_
                            refine s_getS (pc' := 309) (b := 61) dX12_adds_306 rfl (by decide) rfl (by decide) fa_X12_28_12 rfl rfl ?_
                            refine s_iload (pc' := 311) dX12_adds_309 rfl rfl ?_
                            refine s_iload_n (pc' := 312) dX12_adds_311 rfl rfl ?_
                            refine t_iast (pc' := 313) dX12_adds_312 rfl sh_61 rfl n30 ?_
                            refine s_aload_n (pc' := 314) dX12_adds_313 rfl rfl ?_
                            refine s_getS (pc' := 317) (b := 62) dX12_adds_314 rfl (by decide) rfl (by decide) fa_X12_31_12 rfl rfl ?_
                            refine s_iload (pc' := 319) dX12_adds_317 rfl rfl ?_
                            refine s_iload_n (pc' := 320) dX12_adds_319 rfl rfl ?_
                            refine s_bipush (pc' := 322) (v := 16) dX12_adds_320 rfl (by decide) ?_
                            refine s_irem (pc' := 323) dX12_adds_322 rfl (by decide) ?_
                            refine t_iast (pc' := 324) dX12_adds_323 rfl sh_62 rfl n30 ?_
                            refine s_aload_n (pc' := 325) dX12_adds_324 rfl rfl ?_
                            refine s_getS (pc' := 328) (b := 63) dX12_adds_325 rfl (by decide) rfl (by decide) fa_X12_34_12 rfl rfl ?_
                            refine s_iload (pc' := 330) dX12_adds_328 rfl rfl ?_
                            refine s_iload_n (pc' := 331) dX12_adds_330 rfl rfl ?_
                            refine s_bipush (pc' := 333) (v := 16) dX12_adds_331 rfl (by decide) ?_
                            refine s_idiv (pc' := 334) dX12_adds_333 rfl (by decide) ?_
                            refine t_iast (pc' := 335) dX12_adds_334 rfl sh_63 rfl n30 ?_
                            refine s_aload_n (pc' := 336) dX12_adds_335 rfl rfl ?_
                            refine s_getS (pc' := 339) (b := 64) dX12_adds_336 rfl (by decide) rfl (by decide) fa_X12_37_12 rfl rfl ?_
                            refine s_iload (pc' := 341) dX12_adds_339 rfl rfl ?_
                            refine s_iload (pc' := 343) dX12_adds_341 rfl rfl ?_
                            refine t_iast (pc' := 344) dX12_adds_343 rfl sh_64 rfl n30 ?_
                            refine s_aload_n (pc' := 345) dX12_adds_344 rfl rfl ?_
                            refine s_getS (pc' := 348) (b := 65) dX12_adds_345 rfl (by decide) rfl (by decide) fa_X12_40_12 rfl rfl ?_
                            refine s_iload (pc' := 350) dX12_adds_348 rfl rfl ?_
                            refine s_iload (pc' := 352) dX12_adds_350 rfl rfl ?_
                            refine t_iast (pc' := 353) dX12_adds_352 rfl sh_65 rfl n30 ?_
                            refine s_aload_n (pc' := 354) dX12_adds_353 rfl rfl ?_
                            refine s_getS (pc' := 357) (b := 66) dX12_adds_354 rfl (by decide) rfl (by decide) fa_X12_43_12 rfl rfl ?_
                            refine s_iload (pc' := 359) dX12_adds_357 rfl rfl ?_
                            refine s_iload (pc' := 361) dX12_adds_359 rfl rfl ?_
                            refine s_ifeqF (pc' := 364) (tgt := 369) dX12_adds_361 (by decide) rfl (by decide) ?_
                            refine s_iload (pc' := 366) dX12_adds_364 rfl rfl ?_
                            refine s_goto (tgt := 370) dX12_adds_366 (by decide) ?_
                            refine t_iast (pc' := 371) dX12_adds_370 rfl sh_66 rfl n30 ?_
                            refine s_aload_n (pc' := 372) dX12_adds_371 rfl rfl ?_
                            refine s_getS (pc' := 375) (b := 67) dX12_adds_372 rfl (by decide) rfl (by decide) fa_X12_46_12 rfl rfl ?_
                            refine s_iload (pc' := 377) dX12_adds_375 rfl rfl ?_
                            refine s_iload (pc' := 379) dX12_adds_377 rfl rfl ?_
                            refine s_ifeqF (pc' := 382) (tgt := 395) dX12_adds_379 (by decide) rfl (by decide) ?_
                            refine s_iload (pc' := 384) dX12_adds_382 rfl rfl ?_
                            refine s_ifltF (pc' := 387) (tgt := 395) dX12_adds_384 (by decide) rfl c137 ?_
                            refine s_iload (pc' := 389) dX12_adds_387 rfl rfl ?_
                            refine s_bipush (pc' := 391) (v := 16) dX12_adds_389 rfl (by decide) ?_
                            refine s_irem (pc' := 392) dX12_adds_391 rfl (by decide) ?_
                            refine s_goto (tgt := 396) dX12_adds_392 (by decide) ?_
                            refine t_iast (pc' := 397) dX12_adds_396 rfl sh_67 rfl n30 ?_
                            refine s_aload_n (pc' := 398) dX12_adds_397 rfl rfl ?_
                            refine s_getS (pc' := 401) (b := 68) dX12_adds_398 rfl (by decide) rfl (by decide) fa_X12_49_12 rfl rfl ?_
                            refine s_iload (pc' := 403) dX12_adds_401 rfl rfl ?_
                            refine s_iload (pc' := 405) dX12_adds_403 rfl rfl ?_
                            refine s_ifeqF (pc' := 408) (tgt := 421) dX12_adds_405 (by decide) rfl (by decide) ?_
                            refine s_iload (pc' := 410) dX12_adds_408 rfl rfl ?_
                            refine s_ifltF (pc' := 413) (tgt := 421) dX12_adds_410 (by decide) rfl c137 ?_
                            refine s_iload (pc' := 415) dX12_adds_413 rfl rfl ?_
                            refine s_bipush (pc' := 417) (v := 16) dX12_adds_415 rfl (by decide) ?_
                            refine s_idiv (pc' := 418) dX12_adds_417 rfl (by decide) ?_
                            refine s_goto (tgt := 422) dX12_adds_418 (by decide) ?_
                            refine t_iast (pc' := 423) dX12_adds_422 rfl sh_68 rfl n30 ?_
                            refine s_aload_n (pc' := 424) dX12_adds_423 rfl rfl ?_
                            refine s_getS (pc' := 427) (b := 69) dX12_adds_424 rfl (by decide) rfl (by decide) fa_X12_52_12 rfl rfl ?_
                            refine s_iload (pc' := 429) dX12_adds_427 rfl rfl ?_
                            refine s_aload_n (pc' := 430) dX12_adds_429 rfl rfl ?_
                            refine t_getI (pc' := 433) dX12_adds_430 rfl sh_54 (by decide) fa_X12_164_12 rfl ?_
                            refine t_iast (pc' := 434) dX12_adds_433 rfl sh_69 rfl n30 ?_
                            refine s_aload_n (pc' := 435) dX12_adds_434 rfl rfl ?_
                            refine s_getS (pc' := 438) (b := 70) dX12_adds_435 rfl (by decide) rfl (by decide) fa_X12_55_12 rfl rfl ?_
                            refine s_iload (pc' := 440) dX12_adds_438 rfl rfl ?_
                            refine s_aload_n (pc' := 441) dX12_adds_440 rfl rfl ?_
                            refine t_getI (pc' := 444) dX12_adds_441 rfl sh_54 (by decide) fa_X12_167_12 rfl ?_
                            refine t_iast (pc' := 445) dX12_adds_444 rfl sh_70 rfl n30 ?_
                            refine s_aload_n (pc' := 446) dX12_adds_445 rfl rfl ?_
                            refine s_getS (pc' := 449) (b := 71) dX12_adds_446 rfl (by decide) rfl (by decide) fa_X12_58_12 rfl rfl ?_
                            refine s_iload (pc' := 451) dX12_adds_449 rfl rfl ?_
                            refine s_aload_n (pc' := 452) dX12_adds_451 rfl rfl ?_
                            refine t_getI (pc' := 455) dX12_adds_452 rfl sh_54 (by decide) fa_X12_177_12 rfl ?_
                            refine t_iast (pc' := 456) dX12_adds_455 rfl sh_71 rfl n30 ?_
                            refine s_aload_n (pc' := 457) dX12_adds_456 rfl rfl ?_
                            refine s_iconst (pc' := 458) (v := 0) dX12_adds_457 rfl (by decide) ?_
                            refine t_putI (pc' := 461) dX12_adds_458 rfl sh_54 (by decide) fa_X12_153_12 (Or.inl rfl) rfl rfl rfl ?_
                            refine s_aload_n (pc' := 462) dX12_adds_461 rfl rfl ?_
                            refine s_iload (pc' := 464) dX12_adds_462 rfl rfl ?_
                            refine s_callV (pc' := 467) (As := [.int _]) dX12_adds_464 rfl mk_X12_done ml_X12_157 im_X12_done se_X12_X12_X12_done sh_54 (by decide) rfl rfl rfl ⟨Nat.le_of_ble_eq_true rfl, Nat.le_of_ble_eq_true rfl, Nat.le_of_ble_eq_true rfl, Nat.le_of_ble_eq_true rfl⟩ (Nat.le_of_ble_eq_true rfl) (c_X12_done ?_)
                            exact s_iret dX12_adds_467 rfl (by decide) (by decide) (by
  obtain ⟨ra, so, e1, e2, g⟩ := (RGO.mk (am := amt) (b := by_ - by_ / 16 * 16) (fa := by_ / 16) hW.nv hW.nr c13 i25 i40 rfl (Or.inl ⟨kv, hj65, i123, rfl, Or.inr ⟨c137, ⟨_, hj146, e146⟩, i162, rfl, rfl⟩⟩))
  have q := k4 _ ra so _ _ _ g n30 (fun _ => by rw [(rdS_01 c221 c137b)]; exact hno) I1 f1
  rw [← e1, ← e2] at q
  unfold nwD at q
  simp (disch := decide) only [up2_d]
  rw [e54]
  exact q)
                          · refine s_ifeqF (pc' := 273) (tgt := 279) dX12_adds_270 (by decide) rfl (by decide) ?_
                            refine s_aload_n (pc' := 274) dX12_adds_273 rfl rfl ?_
                            refine s_iconst (pc' := 275) (v := 4) dX12_adds_274 rfl (by decide) ?_
                            refine s_callV (pc' := 278) (As := [.int _]) dX12_adds_275 rfl mk_X12_refused ml_X12_149 im_X12_refused se_X12_X12_X12_refused sh_54 (by decide) rfl rfl rfl ⟨Nat.le_of_ble_eq_true rfl, Nat.le_of_ble_eq_true rfl, Nat.le_of_ble_eq_true rfl, Nat.le_of_ble_eq_true rfl⟩ (Nat.le_of_ble_eq_true rfl) (c_X12_refused ?_)
                            exact s_iret dX12_adds_278 rfl (by decide) (by decide) (by obtain ⟨ra, so, e1, e2, g⟩ := (RGO.mk (am := amt) (b := by_ - by_ / 16 * 16) (fa := by_ / 16) hW.nv hW.nr c13 i25 i40 rfl (Or.inl ⟨kv, hj65, i123, rfl, Or.inr ⟨c137, ⟨_, hj146, e146⟩, i162, rfl, rfl⟩⟩)); exact k3 _ ra so _ _ _ g n30 kv m r (by rw [(rdS_01 c221 c137b)]; exact hm) (by rw [(rdS_01 c221 c137b)]; exact hrg) I1 (by rw [(rdS_01 c221 c137b)]; exact hri))
                        · refine s_iconst (pc' := 225) (v := 1) dX12_adds_224 rfl (by decide) ?_
                          refine s_aload_n (pc' := 226) dX12_adds_225 rfl rfl ?_
                          refine t_getI (pc' := 229) dX12_adds_226 rfl sh_54 (by decide) fa_X12_167_12 rfl ?_
                          refine s_ishl (pc' := 230) dX12_adds_229 rfl ?_
                          refine s_goto (tgt := 234) dX12_adds_230 (by decide) ?_
                          refine t_istore (pc' := 236) (L' := [.ref 54, .int _, .int _, .int _, .int _, .int _, .int _, .int _, .int _, .int _, .int _, .retAddr _]) dX12_adds_234 rfl (Nat.le_of_ble_eq_true rfl) rfl ?_
                          refine s_iload (pc' := 238) dX12_adds_236 rfl rfl ?_
                          refine s_ifeqF (pc' := 241) (tgt := 258) dX12_adds_238 (by decide) rfl (by decide) ?_
                          have c137b : ¬ by_ - by_ / 16 * 16 < 0 := by rw [e146]; exact nI_n0 (by have := hW.nv; omega)
                          refine s_iload (pc' := 243) dX12_adds_241 rfl rfl ?_
                          refine s_ifltF (pc' := 246) (tgt := 258) dX12_adds_243 (by decide) rfl c137 ?_
                          refine s_iload (pc' := 248) dX12_adds_246 rfl rfl ?_
                          refine s_iconst (pc' := 249) (v := 1) dX12_adds_248 rfl (by decide) ?_
                          refine s_iload (pc' := 251) dX12_adds_249 rfl rfl ?_
                          refine s_bipush (pc' := 253) (v := 16) dX12_adds_251 rfl (by decide) ?_
                          refine s_irem (pc' := 254) dX12_adds_253 rfl (by decide) ?_
                          refine s_ishl (pc' := 255) dX12_adds_254 rfl ?_
                          refine s_ior (pc' := 256) dX12_adds_255 rfl ?_
                          refine t_istore (pc' := 258) (L' := [.ref 54, .int _, .int _, .int _, .int _, .int _, .int _, .int _, .int _, .int _, .int _, .retAddr _]) dX12_adds_256 rfl (Nat.le_of_ble_eq_true rfl) rfl ?_
                          refine s_iload (pc' := 260) dX12_adds_258 rfl rfl ?_
                          refine s_ifeqF (pc' := 263) (tgt := 279) dX12_adds_260 (by decide) rfl (by decide) ?_
                          refine s_aload_n (pc' := 264) dX12_adds_263 rfl rfl ?_
                          refine s_iload_n (pc' := 265) dX12_adds_264 rfl rfl ?_
                          refine s_iload (pc' := 267) dX12_adds_265 rfl rfl ?_
                          refine s_callV (pc' := 270) (As := [.int _, .int _]) dX12_adds_267 rfl mk_X12_isRing ml_X12_193 im_X12_isRing se_X12_X12_X12_isRing sh_54 (by decide) rfl rfl rfl ⟨Nat.le_of_ble_eq_true rfl, Nat.le_of_ble_eq_true rfl, Nat.le_of_ble_eq_true rfl, Nat.le_of_ble_eq_true rfl⟩ (Nat.le_of_ble_eq_true rfl) (c_X12_isRing (hR _ hj65) hD hW (fun hno I1 f1 => ?_) (fun m r hm hrg I1 hri => ?_))
                          · have e54 : I1 54 = I 54 := f1 54 (by decide) (by decide)
                            have e751 : I1 75 1 = nI nr := by rw [f1 75 (by decide) (by decide)]; exact hW.rn hD
                            refine s_ifeqT (tgt := 279) dX12_adds_270 (by decide) (by decide) ?_
                            refine s_aload_n (pc' := 280) dX12_adds_279 rfl rfl ?_
                            refine s_getS (pc' := 283) (b := 75) dX12_adds_280 rfl (by decide) rfl (by decide) fa_X12_70_12 rfl rfl ?_
                            refine s_iconst (pc' := 284) (v := 1) dX12_adds_283 rfl (by decide) ?_
                            refine t_iald (pc' := 285) (q := 1) dX12_adds_284 rfl sh_75 rfl (by decide) ?_
                            rw [e751]
                            refine t_istore (pc' := 287) (L' := [.ref 54, .int _, .int _, .int _, .int _, .int _, .int _, .int _, .int _, .int _, .int _, .int _]) dX12_adds_285 rfl (Nat.le_of_ble_eq_true rfl) rfl ?_
                            refine s_aload_n (pc' := 288) dX12_adds_287 rfl rfl ?_
                            refine s_getS (pc' := 291) (b := 75) dX12_adds_288 rfl (by decide) rfl (by decide) fa_X12_70_12 rfl rfl ?_
                            refine s_iconst (pc' := 292) (v := 1) dX12_adds_291 rfl (by decide) ?_
                            refine s_dup2 (pc' := 293) dX12_adds_292 rfl rfl rfl ?_
                            refine t_iald (pc' := 294) (q := 1) dX12_adds_293 rfl sh_75 rfl (by decide) ?_
                            rw [e751]
                            refine s_iconst (pc' := 295) (v := 1) dX12_adds_294 rfl (by decide) ?_
                            refine s_iadd (pc' := 296) dX12_adds_295 rfl ?_
                            rw [nI_1]
                            refine t_iast (pc' := 297) (q := 1) dX12_adds_296 rfl sh_75 rfl (by decide) ?_
                            refine s_aload_n (pc' := 298) dX12_adds_297 rfl rfl ?_
                            refine s_getS (pc' := 301) (b := 60) dX12_adds_298 rfl (by decide) rfl (by decide) fa_X12_25_12 rfl rfl ?_
                            refine s_iload (pc' := 303) dX12_adds_301 rfl rfl ?_
                            refine s_iload_n (pc' := 304) dX12_adds_303 rfl rfl ?_
                            refine t_iast (pc' := 305) dX12_adds_304 rfl sh_60 rfl n30 ?_
                            refine s_aload_n (pc' := 306) dX12_adds_305 rfl rfl ?_
                            refine s_getS (pc' := 309) (b := 61) dX12_adds_306 rfl (by decide) rfl (by decide) fa_X12_28_12 rfl rfl ?_
                            refine s_iload (pc' := 311) dX12_adds_309 rfl rfl ?_
                            refine s_iload_n (pc' := 312) dX12_adds_311 rfl rfl ?_
                            refine t_iast (pc' := 313) dX12_adds_312 rfl sh_61 rfl n30 ?_
                            refine s_aload_n (pc' := 314) dX12_adds_313 rfl rfl ?_
                            refine s_getS (pc' := 317) (b := 62) dX12_adds_314 rfl (by decide) rfl (by decide) fa_X12_31_12 rfl rfl ?_
                            refine s_iload (pc' := 319) dX12_adds_317 rfl rfl ?_
                            refine s_iload_n (pc' := 320) dX12_adds_319 rfl rfl ?_
                            refine s_bipush (pc' := 322) (v := 16) dX12_adds_320 rfl (by decide) ?_
                            refine s_irem (pc' := 323) dX12_adds_322 rfl (by decide) ?_
                            refine t_iast (pc' := 324) dX12_adds_323 rfl sh_62 rfl n30 ?_
                            refine s_aload_n (pc' := 325) dX12_adds_324 rfl rfl ?_
                            refine s_getS (pc' := 328) (b := 63) dX12_adds_325 rfl (by decide) rfl (by decide) fa_X12_34_12 rfl rfl ?_
                            refine s_iload (pc' := 330) dX12_adds_328 rfl rfl ?_
                            refine s_iload_n (pc' := 331) dX12_adds_330 rfl rfl ?_
                            refine s_bipush (pc' := 333) (v := 16) dX12_adds_331 rfl (by decide) ?_
                            refine s_idiv (pc' := 334) dX12_adds_333 rfl (by decide) ?_
                            refine t_iast (pc' := 335) dX12_adds_334 rfl sh_63 rfl n30 ?_
                            refine s_aload_n (pc' := 336) dX12_adds_335 rfl rfl ?_
                            refine s_getS (pc' := 339) (b := 64) dX12_adds_336 rfl (by decide) rfl (by decide) fa_X12_37_12 rfl rfl ?_
                            refine s_iload (pc' := 341) dX12_adds_339 rfl rfl ?_
                            refine s_iload (pc' := 343) dX12_adds_341 rfl rfl ?_
                            refine t_iast (pc' := 344) dX12_adds_343 rfl sh_64 rfl n30 ?_
                            refine s_aload_n (pc' := 345) dX12_adds_344 rfl rfl ?_
                            refine s_getS (pc' := 348) (b := 65) dX12_adds_345 rfl (by decide) rfl (by decide) fa_X12_40_12 rfl rfl ?_
                            refine s_iload (pc' := 350) dX12_adds_348 rfl rfl ?_
                            refine s_iload (pc' := 352) dX12_adds_350 rfl rfl ?_
                            refine t_iast (pc' := 353) dX12_adds_352 rfl sh_65 rfl n30 ?_
                            refine s_aload_n (pc' := 354) dX12_adds_353 rfl rfl ?_
                            refine s_getS (pc' := 357) (b := 66) dX12_adds_354 rfl (by decide) rfl (by decide) fa_X12_43_12 rfl rfl ?_
                            refine s_iload (pc' := 359) dX12_adds_357 rfl rfl ?_
                            refine s_iload (pc' := 361) dX12_adds_359 rfl rfl ?_
                            refine s_ifeqF (pc' := 364) (tgt := 369) dX12_adds_361 (by decide) rfl (by decide) ?_
                            refine s_iload (pc' := 366) dX12_adds_364 rfl rfl ?_
                            refine s_goto (tgt := 370) dX12_adds_366 (by decide) ?_
                            refine t_iast (pc' := 371) dX12_adds_370 rfl sh_66 rfl n30 ?_
                            refine s_aload_n (pc' := 372) dX12_adds_371 rfl rfl ?_
                            refine s_getS (pc' := 375) (b := 67) dX12_adds_372 rfl (by decide) rfl (by decide) fa_X12_46_12 rfl rfl ?_
                            refine s_iload (pc' := 377) dX12_adds_375 rfl rfl ?_
                            refine s_iload (pc' := 379) dX12_adds_377 rfl rfl ?_
                            refine s_ifeqF (pc' := 382) (tgt := 395) dX12_adds_379 (by decide) rfl (by decide) ?_
                            refine s_iload (pc' := 384) dX12_adds_382 rfl rfl ?_
                            refine s_ifltF (pc' := 387) (tgt := 395) dX12_adds_384 (by decide) rfl c137 ?_
                            refine s_iload (pc' := 389) dX12_adds_387 rfl rfl ?_
                            refine s_bipush (pc' := 391) (v := 16) dX12_adds_389 rfl (by decide) ?_
                            refine s_irem (pc' := 392) dX12_adds_391 rfl (by decide) ?_
                            refine s_goto (tgt := 396) dX12_adds_392 (by decide) ?_
                            refine t_iast (pc' := 397) dX12_adds_396 rfl sh_67 rfl n30 ?_
                            refine s_aload_n (pc' := 398) dX12_adds_397 rfl rfl ?_
                            refine s_getS (pc' := 401) (b := 68) dX12_adds_398 rfl (by decide) rfl (by decide) fa_X12_49_12 rfl rfl ?_
                            refine s_iload (pc' := 403) dX12_adds_401 rfl rfl ?_
                            refine s_iload (pc' := 405) dX12_adds_403 rfl rfl ?_
                            refine s_ifeqF (pc' := 408) (tgt := 421) dX12_adds_405 (by decide) rfl (by decide) ?_
                            refine s_iload (pc' := 410) dX12_adds_408 rfl rfl ?_
                            refine s_ifltF (pc' := 413) (tgt := 421) dX12_adds_410 (by decide) rfl c137 ?_
                            refine s_iload (pc' := 415) dX12_adds_413 rfl rfl ?_
                            refine s_bipush (pc' := 417) (v := 16) dX12_adds_415 rfl (by decide) ?_
                            refine s_idiv (pc' := 418) dX12_adds_417 rfl (by decide) ?_
                            refine s_goto (tgt := 422) dX12_adds_418 (by decide) ?_
                            refine t_iast (pc' := 423) dX12_adds_422 rfl sh_68 rfl n30 ?_
                            refine s_aload_n (pc' := 424) dX12_adds_423 rfl rfl ?_
                            refine s_getS (pc' := 427) (b := 69) dX12_adds_424 rfl (by decide) rfl (by decide) fa_X12_52_12 rfl rfl ?_
                            refine s_iload (pc' := 429) dX12_adds_427 rfl rfl ?_
                            refine s_aload_n (pc' := 430) dX12_adds_429 rfl rfl ?_
                            refine t_getI (pc' := 433) dX12_adds_430 rfl sh_54 (by decide) fa_X12_164_12 rfl ?_
                            refine t_iast (pc' := 434) dX12_adds_433 rfl sh_69 rfl n30 ?_
                            refine s_aload_n (pc' := 435) dX12_adds_434 rfl rfl ?_
                            refine s_getS (pc' := 438) (b := 70) dX12_adds_435 rfl (by decide) rfl (by decide) fa_X12_55_12 rfl rfl ?_
                            refine s_iload (pc' := 440) dX12_adds_438 rfl rfl ?_
                            refine s_aload_n (pc' := 441) dX12_adds_440 rfl rfl ?_
                            refine t_getI (pc' := 444) dX12_adds_441 rfl sh_54 (by decide) fa_X12_167_12 rfl ?_
                            refine t_iast (pc' := 445) dX12_adds_444 rfl sh_70 rfl n30 ?_
                            refine s_aload_n (pc' := 446) dX12_adds_445 rfl rfl ?_
                            refine s_getS (pc' := 449) (b := 71) dX12_adds_446 rfl (by decide) rfl (by decide) fa_X12_58_12 rfl rfl ?_
                            refine s_iload (pc' := 451) dX12_adds_449 rfl rfl ?_
                            refine s_aload_n (pc' := 452) dX12_adds_451 rfl rfl ?_
                            refine t_getI (pc' := 455) dX12_adds_452 rfl sh_54 (by decide) fa_X12_177_12 rfl ?_
                            refine t_iast (pc' := 456) dX12_adds_455 rfl sh_71 rfl n30 ?_
                            refine s_aload_n (pc' := 457) dX12_adds_456 rfl rfl ?_
                            refine s_iconst (pc' := 458) (v := 0) dX12_adds_457 rfl (by decide) ?_
                            refine t_putI (pc' := 461) dX12_adds_458 rfl sh_54 (by decide) fa_X12_153_12 (Or.inl rfl) rfl rfl rfl ?_
                            refine s_aload_n (pc' := 462) dX12_adds_461 rfl rfl ?_
                            refine s_iload (pc' := 464) dX12_adds_462 rfl rfl ?_
                            refine s_callV (pc' := 467) (As := [.int _]) dX12_adds_464 rfl mk_X12_done ml_X12_157 im_X12_done se_X12_X12_X12_done sh_54 (by decide) rfl rfl rfl ⟨Nat.le_of_ble_eq_true rfl, Nat.le_of_ble_eq_true rfl, Nat.le_of_ble_eq_true rfl, Nat.le_of_ble_eq_true rfl⟩ (Nat.le_of_ble_eq_true rfl) (c_X12_done ?_)
                            exact s_iret dX12_adds_467 rfl (by decide) (by decide) (by
  obtain ⟨ra, so, e1, e2, g⟩ := (RGO.mk (am := amt) (b := by_ - by_ / 16 * 16) (fa := by_ / 16) hW.nv hW.nr c13 i25 i40 rfl (Or.inl ⟨kv, hj65, i123, rfl, Or.inr ⟨c137, ⟨_, hj146, e146⟩, i162, rfl, rfl⟩⟩))
  have q := k4 _ ra so _ _ _ g n30 (fun _ => by rw [(rdS_11 c221 c137b)]; exact hno) I1 f1
  rw [← e1, ← e2] at q
  unfold nwD at q
  simp (disch := decide) only [up2_d]
  rw [e54]
  exact q)
                          · refine s_ifeqF (pc' := 273) (tgt := 279) dX12_adds_270 (by decide) rfl (by decide) ?_
                            refine s_aload_n (pc' := 274) dX12_adds_273 rfl rfl ?_
                            refine s_iconst (pc' := 275) (v := 4) dX12_adds_274 rfl (by decide) ?_
                            refine s_callV (pc' := 278) (As := [.int _]) dX12_adds_275 rfl mk_X12_refused ml_X12_149 im_X12_refused se_X12_X12_X12_refused sh_54 (by decide) rfl rfl rfl ⟨Nat.le_of_ble_eq_true rfl, Nat.le_of_ble_eq_true rfl, Nat.le_of_ble_eq_true rfl, Nat.le_of_ble_eq_true rfl⟩ (Nat.le_of_ble_eq_true rfl) (c_X12_refused ?_)
                            exact s_iret dX12_adds_278 rfl (by decide) (by decide) (by obtain ⟨ra, so, e1, e2, g⟩ := (RGO.mk (am := amt) (b := by_ - by_ / 16 * 16) (fa := by_ / 16) hW.nv hW.nr c13 i25 i40 rfl (Or.inl ⟨kv, hj65, i123, rfl, Or.inr ⟨c137, ⟨_, hj146, e146⟩, i162, rfl, rfl⟩⟩)); exact k3 _ ra so _ _ _ g n30 kv m r (by rw [(rdS_11 c221 c137b)]; exact hm) (by rw [(rdS_11 c221 c137b)]; exact hrg) I1 (by rw [(rdS_11 c221 c137b)]; exact hri))
                      · refine s_aload_n (pc' := 211) dX12_adds_210 rfl rfl ?_
                        refine s_iconst (pc' := 212) (v := 2) dX12_adds_211 rfl (by decide) ?_
                        refine s_callV (pc' := 215) (As := [.int _]) dX12_adds_212 rfl mk_X12_refused ml_X12_149 im_X12_refused se_X12_X12_X12_refused sh_54 (by decide) rfl rfl rfl ⟨Nat.le_of_ble_eq_true rfl, Nat.le_of_ble_eq_true rfl, Nat.le_of_ble_eq_true rfl, Nat.le_of_ble_eq_true rfl⟩ (Nat.le_of_ble_eq_true rfl) (c_X12_refused ?_)
                        exact s_iret dX12_adds_215 rfl (by decide) (by decide) (by obtain ⟨ra, so, e1, e2, g⟩ := (RGO.mk (am := amt) (b := by_ - by_ / 16 * 16) (fa := by_ / 16) hW.nv hW.nr c13 i25 i40 rfl (Or.inl ⟨kv, hj65, i123, rfl, Or.inr ⟨c137, ⟨_, hj146, e146⟩, i162, rfl, rfl⟩⟩)); exact k2 _ ra so _ _ _ g (by have z : I 75 1 = nI 30 := (by first | exact c207 | exact Decidable.not_not.mp c207); rw [hW.rn hD] at z; exact ixe z (by have := hW.nr; omega) (by decide)))
                    · refine s_ifeqT (tgt := 172) dX12_adds_165 (by decide) (by decide) ?_
                      refine s_iconst (pc' := 173) (v := 0) dX12_adds_172 rfl (by decide) ?_
                      refine t_istore (pc' := 175) (L' := [.ref 54, .int _, .int _, .int _, .int _, .int _, .int _, .int _, .int _, .int _, .retAddr _, .retAddr _]) dX12_adds_173 rfl (Nat.le_of_ble_eq_true rfl) rfl ?_
                      refine s_iload (pc' := 177) dX12_adds_175 rfl rfl ?_
                      refine s_ifeqT (tgt := 193) dX12_adds_177 (by decide) (by decide) ?_
                      refine s_aload_n (pc' := 194) dX12_adds_193 rfl rfl ?_
                      refine s_iconst (pc' := 195) (v := 1) dX12_adds_194 rfl (by decide) ?_
                      refine s_callV (pc' := 198) (As := [.int _]) dX12_adds_195 rfl mk_X12_refused ml_X12_149 im_X12_refused se_X12_X12_X12_refused sh_54 (by decide) rfl rfl rfl ⟨Nat.le_of_ble_eq_true rfl, Nat.le_of_ble_eq_true rfl, Nat.le_of_ble_eq_true rfl, Nat.le_of_ble_eq_true rfl⟩ (Nat.le_of_ble_eq_true rfl) (c_X12_refused ?_)
                      exact s_iret dX12_adds_198 rfl (by decide) (by decide) (k1 (fun a ra so am b fa g => i162 ((g.f hW.nv).2.2.2.2.2.2.2.1 kv c132).2.2))
                  · refine s_ifeqT (tgt := 172) dX12_adds_149 (by decide) (by decide) ?_
                    refine s_iconst (pc' := 173) (v := 0) dX12_adds_172 rfl (by decide) ?_
                    refine t_istore (pc' := 175) (L' := [.ref 54, .int _, .int _, .int _, .int _, .int _, .int _, .int _, .int _, .int _, .retAddr _, .retAddr _]) dX12_adds_173 rfl (Nat.le_of_ble_eq_true rfl) rfl ?_
                    refine s_iload (pc' := 177) dX12_adds_175 rfl rfl ?_
                    refine s_ifeqT (tgt := 193) dX12_adds_177 (by decide) (by decide) ?_
                    refine s_aload_n (pc' := 194) dX12_adds_193 rfl rfl ?_
                    refine s_iconst (pc' := 195) (v := 1) dX12_adds_194 rfl (by decide) ?_
                    refine s_callV (pc' := 198) (As := [.int _]) dX12_adds_195 rfl mk_X12_refused ml_X12_149 im_X12_refused se_X12_X12_X12_refused sh_54 (by decide) rfl rfl rfl ⟨Nat.le_of_ble_eq_true rfl, Nat.le_of_ble_eq_true rfl, Nat.le_of_ble_eq_true rfl, Nat.le_of_ble_eq_true rfl⟩ (Nat.le_of_ble_eq_true rfl) (c_X12_refused ?_)
                    exact s_iret dX12_adds_198 rfl (by decide) (by decide) (k1 (fun a ra so am b fa g => by obtain ⟨j, j1, j2⟩ := ((g.f hW.nv).2.2.2.2.2.2.2.1 kv c132).2.1; exact n146 j j1 j2))
            · refine s_ifeqT (tgt := 172) dX12_adds_126 (by decide) (by decide) ?_
              refine s_iconst (pc' := 173) (v := 0) dX12_adds_172 rfl (by decide) ?_
              refine t_istore (pc' := 175) (L' := [.ref 54, .int _, .int _, .int _, .int _, .int _, .int _, .int _, .int _, .int _, .retAddr _, .retAddr _]) dX12_adds_173 rfl (Nat.le_of_ble_eq_true rfl) rfl ?_
              refine s_iload (pc' := 177) dX12_adds_175 rfl rfl ?_
              refine s_ifeqT (tgt := 193) dX12_adds_177 (by decide) (by decide) ?_
              refine s_aload_n (pc' := 194) dX12_adds_193 rfl rfl ?_
              refine s_iconst (pc' := 195) (v := 1) dX12_adds_194 rfl (by decide) ?_
              refine s_callV (pc' := 198) (As := [.int _]) dX12_adds_195 rfl mk_X12_refused ml_X12_149 im_X12_refused se_X12_X12_X12_refused sh_54 (by decide) rfl rfl rfl ⟨Nat.le_of_ble_eq_true rfl, Nat.le_of_ble_eq_true rfl, Nat.le_of_ble_eq_true rfl, Nat.le_of_ble_eq_true rfl⟩ (Nat.le_of_ble_eq_true rfl) (c_X12_refused ?_)
              exact s_iret dX12_adds_198 rfl (by decide) (by decide) (k1 (fun a ra so am b fa g => i123 ((g.f hW.nv).2.2.2.2.2.2.1 kv)))
          · refine s_ifeqT (tgt := 101) dX12_adds_68 (by decide) (by decide) ?_
            refine s_iconst (pc' := 102) (v := 0) dX12_adds_101 rfl (by decide) ?_
            refine t_istore (pc' := 104) (L' := [.ref 54, .int _, .int _, .int _, .int _, .int _, .int _, .int _, .int _, .int _, .retAddr _, .retAddr _]) dX12_adds_102 rfl (Nat.le_of_ble_eq_true rfl) rfl ?_
            refine s_iload (pc' := 106) dX12_adds_104 rfl rfl ?_
            refine s_ifeqT (tgt := 172) dX12_adds_106 (by decide) (by decide) ?_
            refine s_iconst (pc' := 173) (v := 0) dX12_adds_172 rfl (by decide) ?_
            refine t_istore (pc' := 175) (L' := [.ref 54, .int _, .int _, .int _, .int _, .int _, .int _, .int _, .int _, .int _, .retAddr _, .retAddr _]) dX12_adds_173 rfl (Nat.le_of_ble_eq_true rfl) rfl ?_
            refine s_iload (pc' := 177) dX12_adds_175 rfl rfl ?_
            refine s_ifeqT (tgt := 193) dX12_adds_177 (by decide) (by decide) ?_
            refine s_aload_n (pc' := 194) dX12_adds_193 rfl rfl ?_
            refine s_iconst (pc' := 195) (v := 1) dX12_adds_194 rfl (by decide) ?_
            refine s_callV (pc' := 198) (As := [.int _]) dX12_adds_195 rfl mk_X12_refused ml_X12_149 im_X12_refused se_X12_X12_X12_refused sh_54 (by decide) rfl rfl rfl ⟨Nat.le_of_ble_eq_true rfl, Nat.le_of_ble_eq_true rfl, Nat.le_of_ble_eq_true rfl, Nat.le_of_ble_eq_true rfl⟩ (Nat.le_of_ble_eq_true rfl) (c_X12_refused ?_)
            exact s_iret dX12_adds_198 rfl (by decide) (by decide) (k1 (fun a ra so am b fa g => by obtain ⟨j, j1, j2⟩ := (g.f hW.nv).2.2.2.1 kv; exact n65 j j1 j2))
        · refine s_ifeqT (tgt := 50) dX12_adds_43 (by decide) (by decide) ?_
          refine s_iconst (pc' := 51) (v := 0) dX12_adds_50 rfl (by decide) ?_
          refine t_istore (pc' := 53) (L' := [.ref 54, .int _, .int _, .int _, .int _, .int _, .int _, .int _, .int _, .int _, .retAddr _, .retAddr _]) dX12_adds_51 rfl (Nat.le_of_ble_eq_true rfl) rfl ?_
          refine s_iload (pc' := 55) dX12_adds_53 rfl rfl ?_
          refine s_ifeqT (tgt := 101) dX12_adds_55 (by decide) (by decide) ?_
          refine s_iconst (pc' := 102) (v := 0) dX12_adds_101 rfl (by decide) ?_
          refine t_istore (pc' := 104) (L' := [.ref 54, .int _, .int _, .int _, .int _, .int _, .int _, .int _, .int _, .int _, .retAddr _, .retAddr _]) dX12_adds_102 rfl (Nat.le_of_ble_eq_true rfl) rfl ?_
          refine s_iload (pc' := 106) dX12_adds_104 rfl rfl ?_
          refine s_ifeqT (tgt := 172) dX12_adds_106 (by decide) (by decide) ?_
          refine s_iconst (pc' := 173) (v := 0) dX12_adds_172 rfl (by decide) ?_
          refine t_istore (pc' := 175) (L' := [.ref 54, .int _, .int _, .int _, .int _, .int _, .int _, .int _, .int _, .int _, .retAddr _, .retAddr _]) dX12_adds_173 rfl (Nat.le_of_ble_eq_true rfl) rfl ?_
          refine s_iload (pc' := 177) dX12_adds_175 rfl rfl ?_
          refine s_ifeqT (tgt := 193) dX12_adds_177 (by decide) (by decide) ?_
          refine s_aload_n (pc' := 194) dX12_adds_193 rfl rfl ?_
          refine s_iconst (pc' := 195) (v := 1) dX12_adds_194 rfl (by decide) ?_
          refine s_callV (pc' := 198) (As := [.int _]) dX12_adds_195 rfl mk_X12_refused ml_X12_149 im_X12_refused se_X12_X12_X12_refused sh_54 (by decide) rfl rfl rfl ⟨Nat.le_of_ble_eq_true rfl, Nat.le_of_ble_eq_true rfl, Nat.le_of_ble_eq_true rfl, Nat.le_of_ble_eq_true rfl⟩ (Nat.le_of_ble_eq_true rfl) (c_X12_refused ?_)
          exact s_iret dX12_adds_198 rfl (by decide) (by decide) (k1 (fun a ra so am b fa g => i40 (g.f hW.nv).2.2.1))
      · refine s_ifeqT (tgt := 50) dX12_adds_28 (by decide) (by decide) ?_
        refine s_iconst (pc' := 51) (v := 0) dX12_adds_50 rfl (by decide) ?_
        refine t_istore (pc' := 53) (L' := [.ref 54, .int _, .int _, .int _, .int _, .int _, .int _, .int _, .int _, .int _, .retAddr _, .retAddr _]) dX12_adds_51 rfl (Nat.le_of_ble_eq_true rfl) rfl ?_
        refine s_iload (pc' := 55) dX12_adds_53 rfl rfl ?_
        refine s_ifeqT (tgt := 101) dX12_adds_55 (by decide) (by decide) ?_
        refine s_iconst (pc' := 102) (v := 0) dX12_adds_101 rfl (by decide) ?_
        refine t_istore (pc' := 104) (L' := [.ref 54, .int _, .int _, .int _, .int _, .int _, .int _, .int _, .int _, .int _, .retAddr _, .retAddr _]) dX12_adds_102 rfl (Nat.le_of_ble_eq_true rfl) rfl ?_
        refine s_iload (pc' := 106) dX12_adds_104 rfl rfl ?_
        refine s_ifeqT (tgt := 172) dX12_adds_106 (by decide) (by decide) ?_
        refine s_iconst (pc' := 173) (v := 0) dX12_adds_172 rfl (by decide) ?_
        refine t_istore (pc' := 175) (L' := [.ref 54, .int _, .int _, .int _, .int _, .int _, .int _, .int _, .int _, .int _, .retAddr _, .retAddr _]) dX12_adds_173 rfl (Nat.le_of_ble_eq_true rfl) rfl ?_
        refine s_iload (pc' := 177) dX12_adds_175 rfl rfl ?_
        refine s_ifeqT (tgt := 193) dX12_adds_177 (by decide) (by decide) ?_
        refine s_aload_n (pc' := 194) dX12_adds_193 rfl rfl ?_
        refine s_iconst (pc' := 195) (v := 1) dX12_adds_194 rfl (by decide) ?_
        refine s_callV (pc' := 198) (As := [.int _]) dX12_adds_195 rfl mk_X12_refused ml_X12_149 im_X12_refused se_X12_X12_X12_refused sh_54 (by decide) rfl rfl rfl ⟨Nat.le_of_ble_eq_true rfl, Nat.le_of_ble_eq_true rfl, Nat.le_of_ble_eq_true rfl, Nat.le_of_ble_eq_true rfl⟩ (Nat.le_of_ble_eq_true rfl) (c_X12_refused ?_)
        exact s_iret dX12_adds_198 rfl (by decide) (by decide) (k1 (fun a ra so am b fa g => i25 (g.f hW.nv).2.1))
set_option maxHeartbeats 400000 in
/-- rule()'s kind: what is kept -/
def RLK (kind : Int32) (kn : Nat) (le : Int32) : Prop := (kind = 7 ∧ kn = 3 ∧ le = 1) ∨ (kn ≤ 6 ∧ kn ≠ 1 ∧ kind = nI kn ∧ le = 0)
theorem RLK.uq {kind le le' : Int32} {kn kn' : Nat} (h : RLK kind kn le) (h' : RLK kind kn' le') : kn' = kn ∧ le' = le := by
  rcases h with ⟨a1, a2, a3⟩ | ⟨a1, a2, a3, a4⟩
  · rcases h' with ⟨b1, b2, b3⟩ | ⟨b1, b2, b3, b4⟩
    · exact ⟨b2.trans a2.symm, b3.trans a3.symm⟩
    · have := ixe (a := kn') (b := 7) (b3.symm.trans a1) (by omega) (by decide); omega
  · rcases h' with ⟨b1, b2, b3⟩ | ⟨b1, b2, b3, b4⟩
    · have := ixe (a := kn) (b := 7) (a3.symm.trans b1) (by omega) (by decide); omega
    · exact ⟨ixe (b3.symm.trans a3) (by omega) (by omega), b4.trans a4.symm⟩
set_option maxHeartbeats 200000 in
theorem c_X12_rule {N : Nat} {S : Nat → Nat × Nat} {I : Nat → Nat → Int32} {J : Nat → Nat → Int64} {Q : Nat → Nat → Option Nat} {κ : Option Value → HP → Prop} {D : Nat → Nat → Int32} {nv nr ns : Nat} (hD : DA I D) (hW : DW D nv nr ns) (hR : ∀ w, w < nv → RKP D nv nr w) {aim more amt by_ : Int32} {kind : Int32} (k0 : (¬ inR kind 0 7 ∨ kind = 1) → κ (some (.int (-1))) (N, S, up2 I 54 24 1, J, Q)) (k1 : ∀ kn le, RLK kind kn le → (∀ a ra so am b fa, ¬ RGO nv nr (I 54 25) kn aim more amt by_ a ra so am b fa) → κ (some (.int (-1))) (N, S, up2 I 54 24 1, J, Q)) (k2 : ∀ kn le, RLK kind kn le → ∀ a ra so am b fa, RGO nv nr (I 54 25) kn aim more amt by_ a ra so am b fa → nr = 30 → κ (some (.int (-1))) (N, S, up2 I 54 24 2, J, Q)) (k3 : ∀ kn le, RLK kind kn le → ∀ a ra so am b fa, RGO nv nr (I 54 25) kn aim more amt by_ a ra so am b fa → nr < 30 → kn ≤ 3 → ∀ m r, MNR D nr a (rdS (I 54 25) (I 54 26) b) m → RNG D nr a (rdS (I 54 25) (I 54 26) b) m r → ∀ I', RGI I I' D nr a (rdS (I 54 25) (I 54 26) b) m m r → κ (some (.int (-1))) (N, S, up2 I' 54 24 4, J, Q)) (k4 : ∀ kn le, RLK kind kn le → ∀ a ra so am b fa, RGO nv nr (I 54 25) kn aim more amt by_ a ra so am b fa → nr < 30 → (kn ≤ 3 → ∀ v, v < 10 → bt (rdS (I 54 25) (I 54 26) b) v = true → dst D nr a v = 100) → ∀ I', (∀ c, c ≠ 77 → c ≠ 78 → I' c = I c) → κ (some (.int (nI nr))) (N, S, up2 (up2 (nwD I' nr (nI kn) (nI a) (nI ra) (nI so) 0 le am b fa (I 54 25) (I 54 26) (I 54 27)) 54 37 0) 54 24 0, J, Q)) : CT E1 M_X12_rule [.ref 54, .int kind, .int aim, .int more, .int amt, .int by_] (N, S, I, J, Q) κ := by
  refine ofSP mk_X12_rule (Nat.le_of_ble_eq_true rfl) (L := [.ref 54, .int _, .int _, .int _, .int _, .int _, .retAddr _, .retAddr _]) rfl ?_
  refine s_iload_n (pc' := 1) dX12_rule_0 rfl rfl ?_
  refine s_i2l (pc' := 2) dX12_rule_1 rfl ?_
  refine s_lconst (pc' := 3) (v := 0) dX12_rule_2 rfl (by decide) ?_
  refine s_ldc2 (pc' := 6) dX12_rule_3 rfl kl_X12_180 ?_
  refine s_callS (pc' := 9) (As := [.long _, .long _, .long _]) dX12_rule_6 rfl mk_X12_isIn ml_X12_135 sm_X12_isIn rfl rfl ⟨Nat.le_of_ble_eq_true rfl, Nat.le_of_ble_eq_true rfl, Nat.le_of_ble_eq_true rfl, Nat.le_of_ble_eq_true rfl⟩ (Nat.le_of_ble_eq_true rfl) (c_isInR (a' := 0) (b' := 7) rfl rfl (fun i6 => ?_) (fun i6 => ?_))
  · refine s_ifeqF (pc' := 12) (tgt := 21) dX12_rule_9 (by decide) rfl (by decide) ?_
    obtain ⟨j, j0, j7, rfl⟩ := in_nI (a := 0) (b := 7) i6 (by decide)
    refine s_iload_n (pc' := 13) dX12_rule_12 rfl rfl ?_
    refine s_iconst (pc' := 14) (v := 1) dX12_rule_13 rfl (by decide) ?_
    refine s_icmpeq (pc' := 17) (tgt := 21) dX12_rule_14 (by decide) rfl (fun c14 => ?_) (fun c14 => ?_)
    · refine s_iconst (pc' := 22) (v := 0) dX12_rule_21 rfl (by decide) ?_
      refine t_istore (pc' := 24) (L' := [.ref 54, .int _, .int _, .int _, .int _, .int _, .int _, .retAddr _]) dX12_rule_22 rfl (Nat.le_of_ble_eq_true rfl) rfl ?_
      refine s_iload_n (pc' := 25) dX12_rule_24 rfl rfl ?_
      refine s_bipush (pc' := 27) (v := 7) dX12_rule_25 rfl (by decide) ?_
      refine s_icmpne (pc' := 30) (tgt := 34) dX12_rule_27 (by decide) rfl (fun c27 => ?_) (fun c27 => ?_)
      · refine s_iload_n (pc' := 35) dX12_rule_34 rfl rfl ?_
        refine t_istore (pc' := 37) (L' := [.ref 54, .int _, .int _, .int _, .int _, .int _, .int _, .int _]) dX12_rule_35 rfl (Nat.le_of_ble_eq_true rfl) rfl ?_
        refine s_iload (pc' := 39) dX12_rule_37 rfl rfl ?_
        refine s_ifeqT (tgt := 69) dX12_rule_39 (by decide) (by decide) ?_
        refine s_aload_n (pc' := 70) dX12_rule_69 rfl rfl ?_
        refine s_iconst (pc' := 71) (v := 1) dX12_rule_70 rfl (by decide) ?_
        refine s_callV (pc' := 74) (As := [.int _]) dX12_rule_71 rfl mk_X12_refused ml_X12_149 im_X12_refused se_X12_X12_X12_refused sh_54 (by decide) rfl rfl rfl ⟨Nat.le_of_ble_eq_true rfl, Nat.le_of_ble_eq_true rfl, Nat.le_of_ble_eq_true rfl, Nat.le_of_ble_eq_true rfl⟩ (Nat.le_of_ble_eq_true rfl) (c_X12_refused ?_)
        exact s_iret dX12_rule_74 rfl (by decide) (by decide) (k0 (Or.inr (by first | exact c14 | exact Decidable.not_not.mp c14)))
      · refine s_iconst (pc' := 31) (v := 3) dX12_rule_30 rfl (by decide) ?_
        refine s_goto (tgt := 35) dX12_rule_31 (by decide) ?_
        refine t_istore (pc' := 37) (L' := [.ref 54, .int _, .int _, .int _, .int _, .int _, .int _, .int _]) dX12_rule_35 rfl (Nat.le_of_ble_eq_true rfl) rfl ?_
        refine s_iload (pc' := 39) dX12_rule_37 rfl rfl ?_
        refine s_ifeqT (tgt := 69) dX12_rule_39 (by decide) (by decide) ?_
        refine s_aload_n (pc' := 70) dX12_rule_69 rfl rfl ?_
        refine s_iconst (pc' := 71) (v := 1) dX12_rule_70 rfl (by decide) ?_
        refine s_callV (pc' := 74) (As := [.int _]) dX12_rule_71 rfl mk_X12_refused ml_X12_149 im_X12_refused se_X12_X12_X12_refused sh_54 (by decide) rfl rfl rfl ⟨Nat.le_of_ble_eq_true rfl, Nat.le_of_ble_eq_true rfl, Nat.le_of_ble_eq_true rfl, Nat.le_of_ble_eq_true rfl⟩ (Nat.le_of_ble_eq_true rfl) (c_X12_refused ?_)
        exact s_iret dX12_rule_74 rfl (by decide) (by decide) (k0 (Or.inr (by first | exact c14 | exact Decidable.not_not.mp c14)))
    · refine s_iconst (pc' := 18) (v := 1) dX12_rule_17 rfl (by decide) ?_
      refine s_goto (tgt := 22) dX12_rule_18 (by decide) ?_
      refine t_istore (pc' := 24) (L' := [.ref 54, .int _, .int _, .int _, .int _, .int _, .int _, .retAddr _]) dX12_rule_22 rfl (Nat.le_of_ble_eq_true rfl) rfl ?_
      refine s_iload_n (pc' := 25) dX12_rule_24 rfl rfl ?_
      refine s_bipush (pc' := 27) (v := 7) dX12_rule_25 rfl (by decide) ?_
      refine s_icmpne (pc' := 30) (tgt := 34) dX12_rule_27 (by decide) rfl (fun c27 => ?_) (fun c27 => ?_)
      · refine s_iload_n (pc' := 35) dX12_rule_34 rfl rfl ?_
        refine t_istore (pc' := 37) (L' := [.ref 54, .int _, .int _, .int _, .int _, .int _, .int _, .int _]) dX12_rule_35 rfl (Nat.le_of_ble_eq_true rfl) rfl ?_
        refine s_iload (pc' := 39) dX12_rule_37 rfl rfl ?_
        refine s_ifeqF (pc' := 42) (tgt := 69) dX12_rule_39 (by decide) rfl (by decide) ?_
        have j6 : j ≤ 6 := by have : j ≠ 7 := fun z => c27 (by rw [z]; rfl); omega
        refine s_aload_n (pc' := 43) dX12_rule_42 rfl rfl ?_
        refine s_iload (pc' := 45) dX12_rule_43 rfl rfl ?_
        refine s_iload_n (pc' := 46) dX12_rule_45 rfl rfl ?_
        refine s_iload_n (pc' := 47) dX12_rule_46 rfl rfl ?_
        refine s_iload (pc' := 49) dX12_rule_47 rfl rfl ?_
        refine s_iload (pc' := 51) dX12_rule_49 rfl rfl ?_
        refine s_iconst (pc' := 52) (v := 0) dX12_rule_51 rfl (by decide) ?_
        refine s_iload_n (pc' := 53) dX12_rule_52 rfl rfl ?_
        refine s_bipush (pc' := 55) (v := 7) dX12_rule_53 rfl (by decide) ?_
        refine s_icmpneT (tgt := 62) dX12_rule_55 (by decide) c27 ?_
        refine s_iconst (pc' := 63) (v := 0) dX12_rule_62 rfl (by decide) ?_
        refine s_callV (pc' := 66) (As := [.int _, .int _, .int _, .int _, .int _, .int _, .int _]) dX12_rule_63 rfl mk_X12_adds ml_X12_182 im_X12_adds se_X12_X12_X12_adds sh_54 (by decide) rfl rfl rfl ⟨Nat.le_of_ble_eq_true rfl, Nat.le_of_ble_eq_true rfl, Nat.le_of_ble_eq_true rfl, Nat.le_of_ble_eq_true rfl⟩ (Nat.le_of_ble_eq_true rfl) (c_X12_adds (kn := j) hD hW hR (by omega) (fun z => ?_) (fun a ra so am b fa g hr => ?_) (fun a ra so am b fa g hr hv m r hm hrg I1 hri => ?_) (fun a ra so am b fa g hr hv I1 f1 => ?_))
        · have hrl : RLK (nI j) j 0 := (Or.inr ⟨j6, fun z => c14 (by rw [z]; rfl), rfl, rfl⟩)
          refine s_goto (tgt := 74) dX12_rule_66 (by decide) ?_
          exact s_iret dX12_rule_74 rfl (by decide) (by decide) (k1 _ _ hrl z)
        · have hrl : RLK (nI j) j 0 := (Or.inr ⟨j6, fun z => c14 (by rw [z]; rfl), rfl, rfl⟩)
          refine s_goto (tgt := 74) dX12_rule_66 (by decide) ?_
          exact s_iret dX12_rule_74 rfl (by decide) (by decide) (k2 _ _ hrl a ra so am b fa g hr)
        · have hrl : RLK (nI j) j 0 := (Or.inr ⟨j6, fun z => c14 (by rw [z]; rfl), rfl, rfl⟩)
          refine s_goto (tgt := 74) dX12_rule_66 (by decide) ?_
          exact s_iret dX12_rule_74 rfl (by decide) (by decide) (k3 _ _ hrl a ra so am b fa g hr hv m r hm hrg I1 hri)
        · have hrl : RLK (nI j) j 0 := (Or.inr ⟨j6, fun z => c14 (by rw [z]; rfl), rfl, rfl⟩)
          refine s_goto (tgt := 74) dX12_rule_66 (by decide) ?_
          exact s_iret dX12_rule_74 rfl (by decide) (by decide) (k4 _ _ hrl a ra so am b fa g hr hv I1 f1)
      · refine s_iconst (pc' := 31) (v := 3) dX12_rule_30 rfl (by decide) ?_
        refine s_goto (tgt := 35) dX12_rule_31 (by decide) ?_
        refine t_istore (pc' := 37) (L' := [.ref 54, .int _, .int _, .int _, .int _, .int _, .int _, .int _]) dX12_rule_35 rfl (Nat.le_of_ble_eq_true rfl) rfl ?_
        refine s_iload (pc' := 39) dX12_rule_37 rfl rfl ?_
        refine s_ifeqF (pc' := 42) (tgt := 69) dX12_rule_39 (by decide) rfl (by decide) ?_
        
        refine s_aload_n (pc' := 43) dX12_rule_42 rfl rfl ?_
        refine s_iload (pc' := 45) dX12_rule_43 rfl rfl ?_
        refine s_iload_n (pc' := 46) dX12_rule_45 rfl rfl ?_
        refine s_iload_n (pc' := 47) dX12_rule_46 rfl rfl ?_
        refine s_iload (pc' := 49) dX12_rule_47 rfl rfl ?_
        refine s_iload (pc' := 51) dX12_rule_49 rfl rfl ?_
        refine s_iconst (pc' := 52) (v := 0) dX12_rule_51 rfl (by decide) ?_
        refine s_iload_n (pc' := 53) dX12_rule_52 rfl rfl ?_
        refine s_bipush (pc' := 55) (v := 7) dX12_rule_53 rfl (by decide) ?_
        refine s_icmpneF (pc' := 58) (tgt := 62) dX12_rule_55 (by decide) rfl (by first | exact c27 | exact Decidable.not_not.mp c27) ?_
        refine s_iconst (pc' := 59) (v := 1) dX12_rule_58 rfl (by decide) ?_
        refine s_goto (tgt := 63) dX12_rule_59 (by decide) ?_
        refine s_callV (pc' := 66) (As := [.int _, .int _, .int _, .int _, .int _, .int _, .int _]) dX12_rule_63 rfl mk_X12_adds ml_X12_182 im_X12_adds se_X12_X12_X12_adds sh_54 (by decide) rfl rfl rfl ⟨Nat.le_of_ble_eq_true rfl, Nat.le_of_ble_eq_true rfl, Nat.le_of_ble_eq_true rfl, Nat.le_of_ble_eq_true rfl⟩ (Nat.le_of_ble_eq_true rfl) (c_X12_adds (kn := 3) hD hW hR (by omega) (fun z => ?_) (fun a ra so am b fa g hr => ?_) (fun a ra so am b fa g hr hv m r hm hrg I1 hri => ?_) (fun a ra so am b fa g hr hv I1 f1 => ?_))
        · have hrl : RLK (nI j) 3 1 := (Or.inl ⟨by first | exact c27 | exact Decidable.not_not.mp c27, rfl, rfl⟩)
          refine s_goto (tgt := 74) dX12_rule_66 (by decide) ?_
          exact s_iret dX12_rule_74 rfl (by decide) (by decide) (k1 _ _ hrl z)
        · have hrl : RLK (nI j) 3 1 := (Or.inl ⟨by first | exact c27 | exact Decidable.not_not.mp c27, rfl, rfl⟩)
          refine s_goto (tgt := 74) dX12_rule_66 (by decide) ?_
          exact s_iret dX12_rule_74 rfl (by decide) (by decide) (k2 _ _ hrl a ra so am b fa g hr)
        · have hrl : RLK (nI j) 3 1 := (Or.inl ⟨by first | exact c27 | exact Decidable.not_not.mp c27, rfl, rfl⟩)
          refine s_goto (tgt := 74) dX12_rule_66 (by decide) ?_
          exact s_iret dX12_rule_74 rfl (by decide) (by decide) (k3 _ _ hrl a ra so am b fa g hr hv m r hm hrg I1 hri)
        · have hrl : RLK (nI j) 3 1 := (Or.inl ⟨by first | exact c27 | exact Decidable.not_not.mp c27, rfl, rfl⟩)
          refine s_goto (tgt := 74) dX12_rule_66 (by decide) ?_
          exact s_iret dX12_rule_74 rfl (by decide) (by decide) (k4 _ _ hrl a ra so am b fa g hr hv I1 f1)
  · refine s_ifeqT (tgt := 21) dX12_rule_9 (by decide) (by decide) ?_
    refine s_iconst (pc' := 22) (v := 0) dX12_rule_21 rfl (by decide) ?_
    refine t_istore (pc' := 24) (L' := [.ref 54, .int _, .int _, .int _, .int _, .int _, .int _, .retAddr _]) dX12_rule_22 rfl (Nat.le_of_ble_eq_true rfl) rfl ?_
    refine s_iload_n (pc' := 25) dX12_rule_24 rfl rfl ?_
    refine s_bipush (pc' := 27) (v := 7) dX12_rule_25 rfl (by decide) ?_
    refine s_icmpne (pc' := 30) (tgt := 34) dX12_rule_27 (by decide) rfl (fun c27 => ?_) (fun c27 => ?_)
    · refine s_iload_n (pc' := 35) dX12_rule_34 rfl rfl ?_
      refine t_istore (pc' := 37) (L' := [.ref 54, .int _, .int _, .int _, .int _, .int _, .int _, .int _]) dX12_rule_35 rfl (Nat.le_of_ble_eq_true rfl) rfl ?_
      refine s_iload (pc' := 39) dX12_rule_37 rfl rfl ?_
      refine s_ifeqT (tgt := 69) dX12_rule_39 (by decide) (by decide) ?_
      refine s_aload_n (pc' := 70) dX12_rule_69 rfl rfl ?_
      refine s_iconst (pc' := 71) (v := 1) dX12_rule_70 rfl (by decide) ?_
      refine s_callV (pc' := 74) (As := [.int _]) dX12_rule_71 rfl mk_X12_refused ml_X12_149 im_X12_refused se_X12_X12_X12_refused sh_54 (by decide) rfl rfl rfl ⟨Nat.le_of_ble_eq_true rfl, Nat.le_of_ble_eq_true rfl, Nat.le_of_ble_eq_true rfl, Nat.le_of_ble_eq_true rfl⟩ (Nat.le_of_ble_eq_true rfl) (c_X12_refused ?_)
      exact s_iret dX12_rule_74 rfl (by decide) (by decide) (k0 (Or.inl i6))
    · refine s_iconst (pc' := 31) (v := 3) dX12_rule_30 rfl (by decide) ?_
      refine s_goto (tgt := 35) dX12_rule_31 (by decide) ?_
      refine t_istore (pc' := 37) (L' := [.ref 54, .int _, .int _, .int _, .int _, .int _, .int _, .int _]) dX12_rule_35 rfl (Nat.le_of_ble_eq_true rfl) rfl ?_
      refine s_iload (pc' := 39) dX12_rule_37 rfl rfl ?_
      refine s_ifeqT (tgt := 69) dX12_rule_39 (by decide) (by decide) ?_
      refine s_aload_n (pc' := 70) dX12_rule_69 rfl rfl ?_
      refine s_iconst (pc' := 71) (v := 1) dX12_rule_70 rfl (by decide) ?_
      refine s_callV (pc' := 74) (As := [.int _]) dX12_rule_71 rfl mk_X12_refused ml_X12_149 im_X12_refused se_X12_X12_X12_refused sh_54 (by decide) rfl rfl rfl ⟨Nat.le_of_ble_eq_true rfl, Nat.le_of_ble_eq_true rfl, Nat.le_of_ble_eq_true rfl, Nat.le_of_ble_eq_true rfl⟩ (Nat.le_of_ble_eq_true rfl) (c_X12_refused ?_)
      exact s_iret dX12_rule_74 rfl (by decide) (by decide) (k0 (Or.inl i6))
set_option maxHeartbeats 200000 in
theorem c_X12_typed {N : Nat} {S : Nat → Nat × Nat} {I : Nat → Nat → Int32} {J : Nat → Nat → Int64} {Q : Nat → Nat → Option Nat} {κ : Option Value → HP → Prop} {D : Nat → Nat → Int32} {nv nr ns : Nat} (hD : DA I D) (hW : DW D nv nr ns) (hR : ∀ w, w < nv → RKP D nv nr w) {aim more amt by_ : Int32} {ty : Int32} (k0 : ¬ inR ty 1 5 → κ (some (.int (-1))) (N, S, up2 I 54 24 1, J, Q)) (k1 : inR ty 1 5 → (∀ a ra so am b fa, ¬ RGO nv nr (I 54 25) 1 aim more amt by_ a ra so am b fa) → κ (some (.int (-1))) (N, S, up2 I 54 24 1, J, Q)) (k2 : inR ty 1 5 → ∀ a ra so am b fa, RGO nv nr (I 54 25) 1 aim more amt by_ a ra so am b fa → nr = 30 → κ (some (.int (-1))) (N, S, up2 I 54 24 2, J, Q)) (k3 : inR ty 1 5 → ∀ a ra so am b fa, RGO nv nr (I 54 25) 1 aim more amt by_ a ra so am b fa → nr < 30 → 1 ≤ 3 → ∀ m r, MNR D nr a (rdS (I 54 25) (I 54 26) b) m → RNG D nr a (rdS (I 54 25) (I 54 26) b) m r → ∀ I', RGI I I' D nr a (rdS (I 54 25) (I 54 26) b) m m r → κ (some (.int (-1))) (N, S, up2 I' 54 24 4, J, Q)) (k4 : inR ty 1 5 → ∀ a ra so am b fa, RGO nv nr (I 54 25) 1 aim more amt by_ a ra so am b fa → nr < 30 → (1 ≤ 3 → ∀ v, v < 10 → bt (rdS (I 54 25) (I 54 26) b) v = true → dst D nr a v = 100) → ∀ I', (∀ c, c ≠ 77 → c ≠ 78 → I' c = I c) → κ (some (.int (nI nr))) (N, S, up2 (up2 (nwD I' nr (nI 1) (nI a) (nI ra) (nI so) ty 0 am b fa (I 54 25) (I 54 26) (I 54 27)) 54 37 0) 54 24 0, J, Q)) : CT E1 M_X12_typed [.ref 54, .int ty, .int aim, .int more, .int amt, .int by_] (N, S, I, J, Q) κ := by
  refine ofSP mk_X12_typed (Nat.le_of_ble_eq_true rfl) (L := [.ref 54, .int _, .int _, .int _, .int _, .int _]) rfl ?_
  refine s_iload_n (pc' := 1) dX12_typed_0 rfl rfl ?_
  refine s_i2l (pc' := 2) dX12_typed_1 rfl ?_
  refine s_lconst (pc' := 3) (v := 1) dX12_typed_2 rfl (by decide) ?_
  refine s_ldc2 (pc' := 6) dX12_typed_3 rfl kl_X12_143 ?_
  refine s_callS (pc' := 9) (As := [.long _, .long _, .long _]) dX12_typed_6 rfl mk_X12_isIn ml_X12_135 sm_X12_isIn rfl rfl ⟨Nat.le_of_ble_eq_true rfl, Nat.le_of_ble_eq_true rfl, Nat.le_of_ble_eq_true rfl, Nat.le_of_ble_eq_true rfl⟩ (Nat.le_of_ble_eq_true rfl) (c_isInR (a' := 1) (b' := 5) rfl rfl (fun i6 => ?_) (fun i6 => ?_))
  · refine s_ifeqF (pc' := 12) (tgt := 28) dX12_typed_9 (by decide) rfl (by decide) ?_
    refine s_aload_n (pc' := 13) dX12_typed_12 rfl rfl ?_
    refine s_iconst (pc' := 14) (v := 1) dX12_typed_13 rfl (by decide) ?_
    refine s_iload_n (pc' := 15) dX12_typed_14 rfl rfl ?_
    refine s_iload_n (pc' := 16) dX12_typed_15 rfl rfl ?_
    refine s_iload (pc' := 18) dX12_typed_16 rfl rfl ?_
    refine s_iload (pc' := 20) dX12_typed_18 rfl rfl ?_
    refine s_iload_n (pc' := 21) dX12_typed_20 rfl rfl ?_
    refine s_iconst (pc' := 22) (v := 0) dX12_typed_21 rfl (by decide) ?_
    refine s_callV (pc' := 25) (As := [.int _, .int _, .int _, .int _, .int _, .int _, .int _]) dX12_typed_22 rfl mk_X12_adds ml_X12_182 im_X12_adds se_X12_X12_X12_adds sh_54 (by decide) rfl rfl rfl ⟨Nat.le_of_ble_eq_true rfl, Nat.le_of_ble_eq_true rfl, Nat.le_of_ble_eq_true rfl, Nat.le_of_ble_eq_true rfl⟩ (Nat.le_of_ble_eq_true rfl) (c_X12_adds (kn := 1) hD hW hR (by decide) (fun z => ?_) (fun a ra so am b fa g hr => ?_) (fun a ra so am b fa g hr hv m r hm hrg I1 hri => ?_) (fun a ra so am b fa g hr hv I1 f1 => ?_))
    · refine s_goto (tgt := 33) dX12_typed_25 (by decide) ?_
      exact s_iret dX12_typed_33 rfl (by decide) (by decide) (k1 i6 z)
    · refine s_goto (tgt := 33) dX12_typed_25 (by decide) ?_
      exact s_iret dX12_typed_33 rfl (by decide) (by decide) (k2 i6 a ra so am b fa g hr)
    · refine s_goto (tgt := 33) dX12_typed_25 (by decide) ?_
      exact s_iret dX12_typed_33 rfl (by decide) (by decide) (k3 i6 a ra so am b fa g hr hv m r hm hrg I1 hri)
    · refine s_goto (tgt := 33) dX12_typed_25 (by decide) ?_
      exact s_iret dX12_typed_33 rfl (by decide) (by decide) (k4 i6 a ra so am b fa g hr hv I1 f1)
  · refine s_ifeqT (tgt := 28) dX12_typed_9 (by decide) (by decide) ?_
    refine s_aload_n (pc' := 29) dX12_typed_28 rfl rfl ?_
    refine s_iconst (pc' := 30) (v := 1) dX12_typed_29 rfl (by decide) ?_
    refine s_callV (pc' := 33) (As := [.int _]) dX12_typed_30 rfl mk_X12_refused ml_X12_149 im_X12_refused se_X12_X12_X12_refused sh_54 (by decide) rfl rfl rfl ⟨Nat.le_of_ble_eq_true rfl, Nat.le_of_ble_eq_true rfl, Nat.le_of_ble_eq_true rfl, Nat.le_of_ble_eq_true rfl⟩ (Nat.le_of_ble_eq_true rfl) (c_X12_refused ?_)
    exact s_iret dX12_typed_33 rfl (by decide) (by decide) (k0 i6)
