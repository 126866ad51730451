/-! ===== rule, typed, row: the class ===== -/
theorem fac_ok {x : Int32} {j nv : Nat} (hj : j < nv) (hn : nv ≤ 10) (e : x &&& 15 = nI j) (h1 : ¬ x >>> ((4 : Int32) &&& 31) < 1) (h2 : ¬ 9 < x >>> ((4 : Int32) &&& 31)) : ∃ f, 1 ≤ f ∧ f ≤ 9 ∧ x = nI (j + 16 * f) := by
  by_cases h0 : x < 0
  · exfalso
    have := shr4_neg h0
    rw [int_lt] at this h1
    have e1 : (0 : Int32).toInt = 0 := by decide
    have e2 : (1 : Int32).toInt = 1 := by decide
    omega
  · obtain ⟨m, hm, rfl⟩ := nI_of h0
    rw [and15 hm] at e
    rw [shr4 hm] at h1 h2
    have a1 : ¬ m / 16 < 1 := fun z => h1 (nI_lt (b := 1) z (by decide))
    have a2 : ¬ 9 < m / 16 := fun z => h2 (nI_lt (a := 9) z (by omega))
    have := ixe e (by omega) (by omega)
    exact ⟨m / 16, by omega, by omega, by congr 1; omega⟩
theorem fac_bits {c f nv : Nat} (hc : c < nv) (hn : nv ≤ 10) (hf : f ≤ 9) : nI (c + 16 * f) &&& 15 = nI c ∧ nI (c + 16 * f) >>> ((4 : Int32) &&& 31) = nI f := by
  rw [and15 (by omega), shr4 (by omega)]
  exact ⟨by congr 1; omega, by congr 1; omega⟩
theorem more_ok {x : Int32} (h0 : ¬ x < 0) (h1 : ¬ 9 < x &&& 15) (h2 : x >>> ((4 : Int32) &&& 31) ≤ 20) : ∃ ra so, ra ≤ 9 ∧ so ≤ 20 ∧ x = nI (ra + 16 * so) := by
  obtain ⟨m, hm, rfl⟩ := nI_of h0
  rw [and15 hm] at h1
  rw [shr4 hm] at h2
  have a1 : ¬ 9 < m % 16 := fun z => h1 (nI_lt (a := 9) z (by omega))
  have a2 : m / 16 ≤ 20 := (nI_leI (b := 20) (by omega) (by decide)).mp h2
  exact ⟨m % 16, m / 16, by omega, by omega, by congr 1; omega⟩
theorem tB_nz {how of : Int32} {nv : Nat} (tw : TW how of nv) (hn : nv ≤ 10) (h : tB how of = 0) : ¬ 2 < how := fun z => by
  obtain ⟨o, o1, o2⟩ := tw.2.2 z
  unfold tB at h
  rw [if_pos z, o2] at h
  exact bt_no h o (by rw [bt_one (by omega) (by omega), decide_eq_true_iff])
theorem tB_z {how of : Int32} (h : ¬ 2 < how) : tB how of = 0 := if_neg h
set_option maxHeartbeats 200000 in
theorem c_X11_isFactorOfValue {N : Nat} {S : Nat → Nat × Nat} {I : Nat → Nat → Int32} {J : Nat → Nat → Int64} {Q : Nat → Nat → Option Nat} {κ : Option Value → HP → Prop} {nv : Nat} (hv : I 1 0 = nI nv) (hn : nv ≤ 10) {by_ : Int32} (ht : ∀ c f, c < nv → 1 ≤ f → f ≤ 9 → by_ = nI (c + 16 * f) → κ (some (.int 1)) (N, S, I, J, Q)) (hf : (∀ c f, c < nv → 1 ≤ f → f ≤ 9 → by_ ≠ nI (c + 16 * f)) → κ (some (.int 0)) (N, S, I, J, Q)) : CT E1 M_X11_isFactorOfValue [.ref 0, .int by_] (N, S, I, J, Q) κ := by
  refine ofSP mk_X11_isFactorOfValue (Nat.le_of_ble_eq_true rfl) (L := [.ref 0, .int _, .retAddr _]) rfl ?_
  refine s_iload_n (pc' := 1) dX11_isFactorOfValue_0 rfl rfl ?_
  refine s_iconst (pc' := 2) (v := 4) dX11_isFactorOfValue_1 rfl (by decide) ?_
  refine s_ishr (pc' := 3) dX11_isFactorOfValue_2 rfl ?_
  refine t_istore_n (pc' := 4) (L' := [.ref 0, .int _, .int _]) dX11_isFactorOfValue_3 rfl (Nat.le_of_ble_eq_true rfl) rfl ?_
  refine s_aload_n (pc' := 5) dX11_isFactorOfValue_4 rfl rfl ?_
  refine s_iload_n (pc' := 6) dX11_isFactorOfValue_5 rfl rfl ?_
  refine s_bipush (pc' := 8) (v := 15) dX11_isFactorOfValue_6 rfl (by decide) ?_
  refine s_iand (pc' := 9) dX11_isFactorOfValue_8 rfl ?_
  refine s_callV (pc' := 12) (As := [.int _]) dX11_isFactorOfValue_9 rfl mk_X11_isValue ml_X11_113 im_X11_isValue se_X11_X11_X11_isValue sh_0 (by decide) rfl rfl rfl ⟨Nat.le_of_ble_eq_true rfl, Nat.le_of_ble_eq_true rfl, Nat.le_of_ble_eq_true rfl, Nat.le_of_ble_eq_true rfl⟩ (Nat.le_of_ble_eq_true rfl) (c_X11_isValue hv (by omega) (fun j9 hj9 e9 => ?_) (fun n9 => ?_))
  · refine s_ifeqF (pc' := 15) (tgt := 30) dX11_isFactorOfValue_12 (by decide) rfl (by decide) ?_
    refine s_iload_n (pc' := 16) dX11_isFactorOfValue_15 rfl rfl ?_
    refine s_iconst (pc' := 17) (v := 1) dX11_isFactorOfValue_16 rfl (by decide) ?_
    refine s_icmplt (pc' := 20) (tgt := 30) dX11_isFactorOfValue_17 (by decide) rfl (fun c17 => ?_) (fun c17 => ?_)
    · refine s_iconst (pc' := 31) (v := 0) dX11_isFactorOfValue_30 rfl (by decide) ?_
      exact s_zret dX11_isFactorOfValue_31 rfl rfl (by decide) (by decide) (hf (fun c f hc f1 f2 e => by rw [e] at c17; rw [(fac_bits hc hn f2).2] at c17; exact nI_nlt (b := 1) f1 (by omega) c17))
    · refine s_iload_n (pc' := 21) dX11_isFactorOfValue_20 rfl rfl ?_
      refine s_bipush (pc' := 23) (v := 9) dX11_isFactorOfValue_21 rfl (by decide) ?_
      refine s_icmpgt (pc' := 26) (tgt := 30) dX11_isFactorOfValue_23 (by decide) rfl (fun c23 => ?_) (fun c23 => ?_)
      · refine s_iconst (pc' := 31) (v := 0) dX11_isFactorOfValue_30 rfl (by decide) ?_
        exact s_zret dX11_isFactorOfValue_31 rfl rfl (by decide) (by decide) (hf (fun c f hc f1 f2 e => by rw [e] at c23; rw [(fac_bits hc hn f2).2] at c23; exact nI_nlt (a := 9) f2 (by decide) c23))
      · refine s_iconst (pc' := 27) (v := 1) dX11_isFactorOfValue_26 rfl (by decide) ?_
        refine s_goto (tgt := 31) dX11_isFactorOfValue_27 (by decide) ?_
        exact s_zret dX11_isFactorOfValue_31 rfl rfl (by decide) (by decide) (by obtain ⟨f, f1, f2, f3⟩ := fac_ok hj9 hn e9 c17 c23; exact ht _ f hj9 f1 f2 f3)
  · refine s_ifeqT (tgt := 30) dX11_isFactorOfValue_12 (by decide) (by decide) ?_
    refine s_iconst (pc' := 31) (v := 0) dX11_isFactorOfValue_30 rfl (by decide) ?_
    exact s_zret dX11_isFactorOfValue_31 rfl rfl (by decide) (by decide) (hf (fun c f hc f1 f2 e => by rw [e] at n9; exact n9 c hc (fac_bits hc hn f2).1))
set_option maxHeartbeats 200000 in
theorem c_X11_canBeRule_v {N : Nat} {S : Nat → Nat × Nat} {I : Nat → Nat → Int32} {J : Nat → Nat → Int64} {Q : Nat → Nat → Option Nat} {κ : Option Value → HP → Prop} {D : Nat → Nat → Int32} {nv nr ns : Nat} {ad td : Nat → Nat} {e : Nat} (X : XB N S I J Q D nv nr ns ad td e) {t : Nat} {how of num : Int32} (hq7 : Q 0 7 = some t) (T : TO N S I t how of num) (tw : TW how of nv) {aim more amt by_ : Int32} {kn : Nat} (hk3 : kn ≤ 3) {kd : Int32} (hkd : kd.toInt < 4 ∨ 6 < kd.toInt) (ht : ∀ a ra so am b fa, RGO nv nr how kn aim more amt by_ a ra so am b fa → κ (some (.int 1)) (N, S, I, J, Q)) (hf : (∀ a ra so am b fa, ¬ RGO nv nr how kn aim more amt by_ a ra so am b fa) → κ (some (.int 0)) (N, S, I, J, Q)) : CT E1 M_X11_canBeRule [.ref 0, .int kd, .int aim, .int more, .int amt, .int by_] (N, S, I, J, Q) κ := by
  refine ofSP mk_X11_canBeRule (Nat.le_of_ble_eq_true rfl) (L := [.ref 0, .int _, .int _, .int _, .int _, .int _]) rfl ?_
  have hn := X.2.1.nv
  refine s_iload_n (pc' := 1) dX11_canBeRule_0 rfl rfl ?_
  refine s_iflt (pc' := 4) (tgt := 21) dX11_canBeRule_1 (by decide) rfl (fun c1 => ?_) (fun c1 => ?_)
  · refine s_iconst (pc' := 22) (v := 0) dX11_canBeRule_21 rfl (by decide) ?_
    exact s_zret dX11_canBeRule_22 rfl rfl (by decide) (by decide) (hf (fun a ra so am b fa g => (g.f hn).1 c1))
  · refine s_iload_n (pc' := 5) dX11_canBeRule_4 rfl rfl ?_
    refine s_bipush (pc' := 7) (v := 15) dX11_canBeRule_5 rfl (by decide) ?_
    refine s_iand (pc' := 8) dX11_canBeRule_7 rfl ?_
    refine s_bipush (pc' := 10) (v := 9) dX11_canBeRule_8 rfl (by decide) ?_
    refine s_icmpgt (pc' := 13) (tgt := 21) dX11_canBeRule_10 (by decide) rfl (fun c10 => ?_) (fun c10 => ?_)
    · refine s_iconst (pc' := 22) (v := 0) dX11_canBeRule_21 rfl (by decide) ?_
      exact s_zret dX11_canBeRule_22 rfl rfl (by decide) (by decide) (hf (fun a ra so am b fa g => by have q := (g.f hn).2.1; rw [← and15e c1] at q; exact inR_nlt (b := 9) q (by decide) c10))
    · refine s_iload_n (pc' := 14) dX11_canBeRule_13 rfl rfl ?_
      refine s_iconst (pc' := 15) (v := 4) dX11_canBeRule_14 rfl (by decide) ?_
      refine s_ishr (pc' := 16) dX11_canBeRule_15 rfl ?_
      refine s_bipush (pc' := 18) (v := 20) dX11_canBeRule_16 rfl (by decide) ?_
      refine s_icmple (pc' := 21) (tgt := 23) dX11_canBeRule_18 (by decide) rfl (fun c18 => ?_) (fun c18 => ?_)
      · refine s_iload_n (pc' := 24) dX11_canBeRule_23 rfl rfl ?_
        refine s_tabOut (tgt := 81) dX11_canBeRule_24 hkd (by decide) ?_
        refine s_aload_n (pc' := 82) dX11_canBeRule_81 rfl rfl ?_
        refine s_iload_n (pc' := 83) dX11_canBeRule_82 rfl rfl ?_
        refine s_callV (pc' := 86) (As := [.int _]) dX11_canBeRule_83 rfl mk_X11_isValue ml_X11_113 im_X11_isValue se_X11_X11_X11_isValue sh_0 (by decide) rfl rfl rfl ⟨Nat.le_of_ble_eq_true rfl, Nat.le_of_ble_eq_true rfl, Nat.le_of_ble_eq_true rfl, Nat.le_of_ble_eq_true rfl⟩ (Nat.le_of_ble_eq_true rfl) (c_X11_isValue X.1.xv (by have := X.2.1.nv; omega) (fun j83 hj83 e83 => ?_) (fun n83 => ?_))
        · subst e83
          refine s_ifeqF (pc' := 89) (tgt := 119) dX11_canBeRule_86 (by decide) rfl (by decide) ?_
          refine s_iload (pc' := 91) dX11_canBeRule_89 rfl rfl ?_
          refine s_sipush (pc' := 94) (v := 1000) dX11_canBeRule_91 rfl (by decide) ?_
          refine s_callS (pc' := 97) (As := [.int _, .int _]) dX11_canBeRule_94 rfl mk_X11_isWithin ml_X11_79 sm_X11_isWithin rfl rfl ⟨Nat.le_of_ble_eq_true rfl, Nat.le_of_ble_eq_true rfl, Nat.le_of_ble_eq_true rfl, Nat.le_of_ble_eq_true rfl⟩ (Nat.le_of_ble_eq_true rfl) (c_X11_isWithin (m := 1000) (by decide) (fun i94 => ?_) (fun i94 => ?_))
          · refine s_ifeqF (pc' := 100) (tgt := 119) dX11_canBeRule_97 (by decide) rfl (by decide) ?_
            refine s_iload (pc' := 102) dX11_canBeRule_100 rfl rfl ?_
            refine s_iconst (pc' := 103) (v := -1) dX11_canBeRule_102 rfl (by decide) ?_
            refine s_icmpeq (pc' := 106) (tgt := 115) dX11_canBeRule_103 (by decide) rfl (fun c103 => ?_) (fun c103 => ?_)
            · refine s_iconst (pc' := 116) (v := 1) dX11_canBeRule_115 rfl (by decide) ?_
              refine s_goto (tgt := 120) dX11_canBeRule_116 (by decide) ?_
              exact s_zret dX11_canBeRule_120 rfl rfl (by decide) (by decide) (by obtain ⟨ra, so, r1, r2, r3⟩ := more_ok c1 c10 c18; exact ht j83 ra so amt (-1) 0 ⟨rfl, by omega, fun _ => hj83, fun z => absurd z (by omega), fun z => absurd z (by omega), r1, r2, r3, fun _ => ⟨rfl, i94, Or.inl ⟨c103, rfl, rfl⟩⟩, fun z => absurd z (by omega)⟩)
            · refine s_aload_n (pc' := 107) dX11_canBeRule_106 rfl rfl ?_
              refine s_iload (pc' := 109) dX11_canBeRule_107 rfl rfl ?_
              refine s_callV (pc' := 112) (As := [.int _]) dX11_canBeRule_109 rfl mk_X11_isFactorOfValue ml_X11_361 im_X11_isFactorOfValue se_X11_X11_X11_isFactorOfValue sh_0 (by decide) rfl rfl rfl ⟨Nat.le_of_ble_eq_true rfl, Nat.le_of_ble_eq_true rfl, Nat.le_of_ble_eq_true rfl, Nat.le_of_ble_eq_true rfl⟩ (Nat.le_of_ble_eq_true rfl) (c_X11_isFactorOfValue X.1.xv hn (fun c109 f109 hc109 h1109 h9109 e109 => ?_) (fun n109 => ?_))
              · refine s_ifeqF (pc' := 115) (tgt := 119) dX11_canBeRule_112 (by decide) rfl (by decide) ?_
                refine s_iconst (pc' := 116) (v := 1) dX11_canBeRule_115 rfl (by decide) ?_
                refine s_goto (tgt := 120) dX11_canBeRule_116 (by decide) ?_
                exact s_zret dX11_canBeRule_120 rfl rfl (by decide) (by decide) (by obtain ⟨ra, so, r1, r2, r3⟩ := more_ok c1 c10 c18; exact ht j83 ra so amt (nI c109) (nI f109) ⟨rfl, by omega, fun _ => hj83, fun z => absurd z (by omega), fun z => absurd z (by omega), r1, r2, r3, fun _ => ⟨rfl, i94, Or.inr ⟨c109, f109, hc109, h1109, h9109, e109, rfl, rfl⟩⟩, fun z => absurd z (by omega)⟩)
              · refine s_ifeqT (tgt := 119) dX11_canBeRule_112 (by decide) (by decide) ?_
                refine s_iconst (pc' := 120) (v := 0) dX11_canBeRule_119 rfl (by decide) ?_
                exact s_zret dX11_canBeRule_120 rfl rfl (by decide) (by decide) (hf (fun a ra so am b fa g => (g.2.2.2.2.2.2.2.2.1 hk3).2.2.elim (fun z => c103 z.1) (fun ⟨c, f, z1, z2, z3, z4, _⟩ => n109 c f z1 z2 z3 z4)))
          · refine s_ifeqT (tgt := 119) dX11_canBeRule_97 (by decide) (by decide) ?_
            refine s_iconst (pc' := 120) (v := 0) dX11_canBeRule_119 rfl (by decide) ?_
            exact s_zret dX11_canBeRule_120 rfl rfl (by decide) (by decide) (hf (fun a ra so am b fa g => i94 ((g.f hn).2.2.2.2.2.2.1 hk3)))
        · refine s_ifeqT (tgt := 119) dX11_canBeRule_86 (by decide) (by decide) ?_
          refine s_iconst (pc' := 120) (v := 0) dX11_canBeRule_119 rfl (by decide) ?_
          exact s_zret dX11_canBeRule_120 rfl rfl (by decide) (by decide) (hf (fun a ra so am b fa g => n83 a (g.2.2.1 hk3) g.1))
      · refine s_iconst (pc' := 22) (v := 0) dX11_canBeRule_21 rfl (by decide) ?_
        exact s_zret dX11_canBeRule_22 rfl rfl (by decide) (by decide) (hf (fun a ra so am b fa g => by have q := (g.f hn).2.2.1; rw [← shr4e c1] at q; exact inR_nlt (b := 20) q (by decide) (Int32.not_le.mp c18)))
set_option maxHeartbeats 200000 in
theorem c_X11_canBeRule_4 {N : Nat} {S : Nat → Nat × Nat} {I : Nat → Nat → Int32} {J : Nat → Nat → Int64} {Q : Nat → Nat → Option Nat} {κ : Option Value → HP → Prop} {D : Nat → Nat → Int32} {nv nr ns : Nat} {ad td : Nat → Nat} {e : Nat} (X : XB N S I J Q D nv nr ns ad td e) {t : Nat} {how of num : Int32} (hq7 : Q 0 7 = some t) (T : TO N S I t how of num) (tw : TW how of nv) {aim more amt by_ : Int32} (ht : ∀ a ra so am b fa, RGO nv nr how 4 aim more amt by_ a ra so am b fa → κ (some (.int 1)) (N, S, I, J, Q)) (hf : (∀ a ra so am b fa, ¬ RGO nv nr how 4 aim more amt by_ a ra so am b fa) → κ (some (.int 0)) (N, S, I, J, Q)) : CT E1 M_X11_canBeRule [.ref 0, .int 4, .int aim, .int more, .int amt, .int by_] (N, S, I, J, Q) κ := by
  refine ofSP mk_X11_canBeRule (Nat.le_of_ble_eq_true rfl) (L := [.ref 0, .int _, .int _, .int _, .int _, .int _]) rfl ?_
  have hn := X.2.1.nv
  refine s_iload_n (pc' := 1) dX11_canBeRule_0 rfl rfl ?_
  refine s_iflt (pc' := 4) (tgt := 21) dX11_canBeRule_1 (by decide) rfl (fun c1 => ?_) (fun c1 => ?_)
  · refine s_iconst (pc' := 22) (v := 0) dX11_canBeRule_21 rfl (by decide) ?_
    exact s_zret dX11_canBeRule_22 rfl rfl (by decide) (by decide) (hf (fun a ra so am b fa g => (g.f hn).1 c1))
  · refine s_iload_n (pc' := 5) dX11_canBeRule_4 rfl rfl ?_
    refine s_bipush (pc' := 7) (v := 15) dX11_canBeRule_5 rfl (by decide) ?_
    refine s_iand (pc' := 8) dX11_canBeRule_7 rfl ?_
    refine s_bipush (pc' := 10) (v := 9) dX11_canBeRule_8 rfl (by decide) ?_
    refine s_icmpgt (pc' := 13) (tgt := 21) dX11_canBeRule_10 (by decide) rfl (fun c10 => ?_) (fun c10 => ?_)
    · refine s_iconst (pc' := 22) (v := 0) dX11_canBeRule_21 rfl (by decide) ?_
      exact s_zret dX11_canBeRule_22 rfl rfl (by decide) (by decide) (hf (fun a ra so am b fa g => by have q := (g.f hn).2.1; rw [← and15e c1] at q; exact inR_nlt (b := 9) q (by decide) c10))
    · refine s_iload_n (pc' := 14) dX11_canBeRule_13 rfl rfl ?_
      refine s_iconst (pc' := 15) (v := 4) dX11_canBeRule_14 rfl (by decide) ?_
      refine s_ishr (pc' := 16) dX11_canBeRule_15 rfl ?_
      refine s_bipush (pc' := 18) (v := 20) dX11_canBeRule_16 rfl (by decide) ?_
      refine s_icmple (pc' := 21) (tgt := 23) dX11_canBeRule_18 (by decide) rfl (fun c18 => ?_) (fun c18 => ?_)
      · refine s_iload_n (pc' := 24) dX11_canBeRule_23 rfl rfl ?_
        refine s_tabIn (tgt := 52) (off := 28) dX11_canBeRule_24 (by decide) (by decide) rfl (by decide) ?_
        refine s_aload_n (pc' := 53) dX11_canBeRule_52 rfl rfl ?_
        refine s_iload_n (pc' := 54) dX11_canBeRule_53 rfl rfl ?_
        refine s_callV (pc' := 57) (As := [.int _]) dX11_canBeRule_54 rfl mk_X11_ruleOrNull ml_X11_216 im_X11_ruleOrNull se_X11_X11_X11_ruleOrNull sh_0 (by decide) rfl rfl rfl ⟨Nat.le_of_ble_eq_true rfl, Nat.le_of_ble_eq_true rfl, Nat.le_of_ble_eq_true rfl, Nat.le_of_ble_eq_true rfl⟩ (Nat.le_of_ble_eq_true rfl) (c_X11_ruleOrNull X.1.xr X.2.1.nr (fun r hr => ⟨_, X.1.q hr⟩) (fun r a hr er ha => ?_) (fun nn => ?_))
        · obtain rfl : a = ad r := Option.some.inj (ha.symm.trans (X.1.q hr))
          subst er
          have R := X.1.ro hr
          refine s_ifnull (pc' := 60) dX11_canBeRule_57 rfl ?_
          refine s_aload_n (pc' := 61) dX11_canBeRule_60 rfl rfl ?_
          refine t_getR (pc' := 64) dX11_canBeRule_61 rfl sh_0 (by decide) fa_X11_48_11 rfl hq7 ?_
          refine s_callV (pc' := 67) (As := []) dX11_canBeRule_64 rfl mk_X9_readBits ml_X11_358 im_X9_readBits se_X9_X9_X9_readBits T.sh (by decide) rfl rfl rfl ⟨Nat.le_of_ble_eq_true rfl, Nat.le_of_ble_eq_true rfl, Nat.le_of_ble_eq_true rfl, Nat.le_of_ble_eq_true rfl⟩ (Nat.le_of_ble_eq_true rfl) (c_X9_readBits tw.1 T ?_)
          refine s_ifne (pc' := 70) (tgt := 74) dX11_canBeRule_67 (by decide) rfl (fun c67 => ?_) (fun c67 => ?_)
          · refine s_iconst (pc' := 75) (v := 0) dX11_canBeRule_74 rfl (by decide) ?_
            exact s_zret dX11_canBeRule_75 rfl rfl (by decide) (by decide) (hf (fun a ra so am b fa g => c67 (tB_z (g.2.2.2.1 rfl).2)))
          · refine s_iconst (pc' := 71) (v := 1) dX11_canBeRule_70 rfl (by decide) ?_
            refine s_goto (tgt := 75) dX11_canBeRule_71 (by decide) ?_
            exact s_zret dX11_canBeRule_75 rfl rfl (by decide) (by decide) (by obtain ⟨ra, so, r1, r2, r3⟩ := more_ok c1 c10 c18; exact ht r ra so 0 (-1) 0 ⟨rfl, by have := X.2.1.nr; omega, fun z => absurd z (by decide), fun _ => ⟨hr, tB_nz tw hn (by first | exact c67 | exact Decidable.not_not.mp c67)⟩, fun z => absurd z (by decide), r1, r2, r3, fun z => absurd z (by decide), fun _ => ⟨rfl, rfl, rfl⟩⟩)
        · refine s_ifnullN (tgt := 74) dX11_canBeRule_57 (by decide) ?_
          refine s_iconst (pc' := 75) (v := 0) dX11_canBeRule_74 rfl (by decide) ?_
          exact s_zret dX11_canBeRule_75 rfl rfl (by decide) (by decide) (hf (fun a ra so am b fa g => nn a (g.2.2.2.1 rfl).1 g.1))
      · refine s_iconst (pc' := 22) (v := 0) dX11_canBeRule_21 rfl (by decide) ?_
        exact s_zret dX11_canBeRule_22 rfl rfl (by decide) (by decide) (hf (fun a ra so am b fa g => by have q := (g.f hn).2.2.1; rw [← shr4e c1] at q; exact inR_nlt (b := 20) q (by decide) (Int32.not_le.mp c18)))
set_option maxHeartbeats 200000 in
theorem c_X11_canBeRule_5 {N : Nat} {S : Nat → Nat × Nat} {I : Nat → Nat → Int32} {J : Nat → Nat → Int64} {Q : Nat → Nat → Option Nat} {κ : Option Value → HP → Prop} {D : Nat → Nat → Int32} {nv nr ns : Nat} {ad td : Nat → Nat} {e : Nat} (X : XB N S I J Q D nv nr ns ad td e) {t : Nat} {how of num : Int32} (hq7 : Q 0 7 = some t) (T : TO N S I t how of num) (tw : TW how of nv) {aim more amt by_ : Int32} (ht : ∀ a ra so am b fa, RGO nv nr how 5 aim more amt by_ a ra so am b fa → κ (some (.int 1)) (N, S, I, J, Q)) (hf : (∀ a ra so am b fa, ¬ RGO nv nr how 5 aim more amt by_ a ra so am b fa) → κ (some (.int 0)) (N, S, I, J, Q)) : CT E1 M_X11_canBeRule [.ref 0, .int 5, .int aim, .int more, .int amt, .int by_] (N, S, I, J, Q) κ := by
  refine ofSP mk_X11_canBeRule (Nat.le_of_ble_eq_true rfl) (L := [.ref 0, .int _, .int _, .int _, .int _, .int _]) rfl ?_
  have hn := X.2.1.nv
  refine s_iload_n (pc' := 1) dX11_canBeRule_0 rfl rfl ?_
  refine s_iflt (pc' := 4) (tgt := 21) dX11_canBeRule_1 (by decide) rfl (fun c1 => ?_) (fun c1 => ?_)
  · refine s_iconst (pc' := 22) (v := 0) dX11_canBeRule_21 rfl (by decide) ?_
    exact s_zret dX11_canBeRule_22 rfl rfl (by decide) (by decide) (hf (fun a ra so am b fa g => (g.f hn).1 c1))
  · refine s_iload_n (pc' := 5) dX11_canBeRule_4 rfl rfl ?_
    refine s_bipush (pc' := 7) (v := 15) dX11_canBeRule_5 rfl (by decide) ?_
    refine s_iand (pc' := 8) dX11_canBeRule_7 rfl ?_
    refine s_bipush (pc' := 10) (v := 9) dX11_canBeRule_8 rfl (by decide) ?_
    refine s_icmpgt (pc' := 13) (tgt := 21) dX11_canBeRule_10 (by decide) rfl (fun c10 => ?_) (fun c10 => ?_)
    · refine s_iconst (pc' := 22) (v := 0) dX11_canBeRule_21 rfl (by decide) ?_
      exact s_zret dX11_canBeRule_22 rfl rfl (by decide) (by decide) (hf (fun a ra so am b fa g => by have q := (g.f hn).2.1; rw [← and15e c1] at q; exact inR_nlt (b := 9) q (by decide) c10))
    · refine s_iload_n (pc' := 14) dX11_canBeRule_13 rfl rfl ?_
      refine s_iconst (pc' := 15) (v := 4) dX11_canBeRule_14 rfl (by decide) ?_
      refine s_ishr (pc' := 16) dX11_canBeRule_15 rfl ?_
      refine s_bipush (pc' := 18) (v := 20) dX11_canBeRule_16 rfl (by decide) ?_
      refine s_icmple (pc' := 21) (tgt := 23) dX11_canBeRule_18 (by decide) rfl (fun c18 => ?_) (fun c18 => ?_)
      · refine s_iload_n (pc' := 24) dX11_canBeRule_23 rfl rfl ?_
        refine s_tabIn (tgt := 76) (off := 52) dX11_canBeRule_24 (by decide) (by decide) rfl (by decide) ?_
        refine s_iload_n (pc' := 77) dX11_canBeRule_76 rfl rfl ?_
        refine s_callS (pc' := 80) (As := [.int _]) dX11_canBeRule_77 rfl mk_X11_isChoice ml_X11_103 sm_X11_isChoice rfl rfl ⟨Nat.le_of_ble_eq_true rfl, Nat.le_of_ble_eq_true rfl, Nat.le_of_ble_eq_true rfl, Nat.le_of_ble_eq_true rfl⟩ (Nat.le_of_ble_eq_true rfl) (c_X11_isChoice (fun j77 hj77 e77 => ?_) (fun n77 => ?_))
        · subst e77
          exact s_zret dX11_canBeRule_80 rfl rfl (by decide) (by decide) (by obtain ⟨ra, so, r1, r2, r3⟩ := more_ok c1 c10 c18; exact ht j77 ra so 0 (-1) 0 ⟨rfl, by omega, fun z => absurd z (by decide), fun z => absurd z (by decide), fun _ => hj77, r1, r2, r3, fun z => absurd z (by decide), fun _ => ⟨rfl, rfl, rfl⟩⟩)
        · exact s_zret dX11_canBeRule_80 rfl rfl (by decide) (by decide) (hf (fun a ra so am b fa g => n77 a (g.2.2.2.2.1 (by decide)) g.1))
      · refine s_iconst (pc' := 22) (v := 0) dX11_canBeRule_21 rfl (by decide) ?_
        exact s_zret dX11_canBeRule_22 rfl rfl (by decide) (by decide) (hf (fun a ra so am b fa g => by have q := (g.f hn).2.2.1; rw [← shr4e c1] at q; exact inR_nlt (b := 20) q (by decide) (Int32.not_le.mp c18)))
set_option maxHeartbeats 200000 in
theorem c_X11_canBeRule_6 {N : Nat} {S : Nat → Nat × Nat} {I : Nat → Nat → Int32} {J : Nat → Nat → Int64} {Q : Nat → Nat → Option Nat} {κ : Option Value → HP → Prop} {D : Nat → Nat → Int32} {nv nr ns : Nat} {ad td : Nat → Nat} {e : Nat} (X : XB N S I J Q D nv nr ns ad td e) {t : Nat} {how of num : Int32} (hq7 : Q 0 7 = some t) (T : TO N S I t how of num) (tw : TW how of nv) {aim more amt by_ : Int32} (ht : ∀ a ra so am b fa, RGO nv nr how 6 aim more amt by_ a ra so am b fa → κ (some (.int 1)) (N, S, I, J, Q)) (hf : (∀ a ra so am b fa, ¬ RGO nv nr how 6 aim more amt by_ a ra so am b fa) → κ (some (.int 0)) (N, S, I, J, Q)) : CT E1 M_X11_canBeRule [.ref 0, .int 6, .int aim, .int more, .int amt, .int by_] (N, S, I, J, Q) κ := by
  refine ofSP mk_X11_canBeRule (Nat.le_of_ble_eq_true rfl) (L := [.ref 0, .int _, .int _, .int _, .int _, .int _]) rfl ?_
  have hn := X.2.1.nv
  refine s_iload_n (pc' := 1) dX11_canBeRule_0 rfl rfl ?_
  refine s_iflt (pc' := 4) (tgt := 21) dX11_canBeRule_1 (by decide) rfl (fun c1 => ?_) (fun c1 => ?_)
  · refine s_iconst (pc' := 22) (v := 0) dX11_canBeRule_21 rfl (by decide) ?_
    exact s_zret dX11_canBeRule_22 rfl rfl (by decide) (by decide) (hf (fun a ra so am b fa g => (g.f hn).1 c1))
  · refine s_iload_n (pc' := 5) dX11_canBeRule_4 rfl rfl ?_
    refine s_bipush (pc' := 7) (v := 15) dX11_canBeRule_5 rfl (by decide) ?_
    refine s_iand (pc' := 8) dX11_canBeRule_7 rfl ?_
    refine s_bipush (pc' := 10) (v := 9) dX11_canBeRule_8 rfl (by decide) ?_
    refine s_icmpgt (pc' := 13) (tgt := 21) dX11_canBeRule_10 (by decide) rfl (fun c10 => ?_) (fun c10 => ?_)
    · refine s_iconst (pc' := 22) (v := 0) dX11_canBeRule_21 rfl (by decide) ?_
      exact s_zret dX11_canBeRule_22 rfl rfl (by decide) (by decide) (hf (fun a ra so am b fa g => by have q := (g.f hn).2.1; rw [← and15e c1] at q; exact inR_nlt (b := 9) q (by decide) c10))
    · refine s_iload_n (pc' := 14) dX11_canBeRule_13 rfl rfl ?_
      refine s_iconst (pc' := 15) (v := 4) dX11_canBeRule_14 rfl (by decide) ?_
      refine s_ishr (pc' := 16) dX11_canBeRule_15 rfl ?_
      refine s_bipush (pc' := 18) (v := 20) dX11_canBeRule_16 rfl (by decide) ?_
      refine s_icmple (pc' := 21) (tgt := 23) dX11_canBeRule_18 (by decide) rfl (fun c18 => ?_) (fun c18 => ?_)
      · refine s_iload_n (pc' := 24) dX11_canBeRule_23 rfl rfl ?_
        refine s_tabIn (tgt := 76) (off := 52) dX11_canBeRule_24 (by decide) (by decide) rfl (by decide) ?_
        refine s_iload_n (pc' := 77) dX11_canBeRule_76 rfl rfl ?_
        refine s_callS (pc' := 80) (As := [.int _]) dX11_canBeRule_77 rfl mk_X11_isChoice ml_X11_103 sm_X11_isChoice rfl rfl ⟨Nat.le_of_ble_eq_true rfl, Nat.le_of_ble_eq_true rfl, Nat.le_of_ble_eq_true rfl, Nat.le_of_ble_eq_true rfl⟩ (Nat.le_of_ble_eq_true rfl) (c_X11_isChoice (fun j77 hj77 e77 => ?_) (fun n77 => ?_))
        · subst e77
          exact s_zret dX11_canBeRule_80 rfl rfl (by decide) (by decide) (by obtain ⟨ra, so, r1, r2, r3⟩ := more_ok c1 c10 c18; exact ht j77 ra so 0 (-1) 0 ⟨rfl, by omega, fun z => absurd z (by decide), fun z => absurd z (by decide), fun _ => hj77, r1, r2, r3, fun z => absurd z (by decide), fun _ => ⟨rfl, rfl, rfl⟩⟩)
        · exact s_zret dX11_canBeRule_80 rfl rfl (by decide) (by decide) (hf (fun a ra so am b fa g => n77 a (g.2.2.2.2.1 (by decide)) g.1))
      · refine s_iconst (pc' := 22) (v := 0) dX11_canBeRule_21 rfl (by decide) ?_
        exact s_zret dX11_canBeRule_22 rfl rfl (by decide) (by decide) (hf (fun a ra so am b fa g => by have q := (g.f hn).2.2.1; rw [← shr4e c1] at q; exact inR_nlt (b := 20) q (by decide) (Int32.not_le.mp c18)))
set_option maxHeartbeats 200000 in
theorem c_X11_ruleOf_0 {N : Nat} {S : Nat → Nat × Nat} {I : Nat → Nat → Int32} {J : Nat → Nat → Int64} {Q : Nat → Nat → Option Nat} {κ : Option Value → HP → Prop} {D D' : Nat → Nat → Int32} {nv nr a ra so t : Nat} {am b fa how of num aim more amt by_ : Int32} (h94 : 94 ≤ N) (hx7 : I 1 7 = nI nr) (hq7 : Q 0 7 = some t) (T : TO N S I t how of num) (hn : nv ≤ 10) (h : NWD D D' nr 0 a ra so 0 0 am b fa how of num) (g : RGO nv nr how 0 aim more amt by_ a ra so am b fa) (hk : ∀ I' Q', (∀ d, d ≠ N → I' d = I d) → (∀ d, d ≠ N → Q' d = Q d) → RO (N + 1) (nS S N (6, 0)) I' Q' D' nr N t → κ (some (.ref N)) (N + 1, nS S N (6, 0), I', J, Q')) : CT E1 M_X11_ruleOf [.ref 0, .int 0, .int aim, .int more, .int amt, .int by_] (N, S, I, J, Q) κ := by
  refine ofSP mk_X11_ruleOf (Nat.le_of_ble_eq_true rfl) (L := [.ref 0, .int _, .int _, .int _, .int _, .int _, .retAddr _]) rfl ?_
  refine s_aload_n (pc' := 1) dX11_ruleOf_0 rfl rfl ?_
  refine s_getS (pc' := 4) (b := 1) dX11_ruleOf_1 rfl (by decide) rfl (by decide) fa_X11_10_11 rfl rfl ?_
  refine t_getI (pc' := 7) dX11_ruleOf_4 rfl sh_1 (by decide) fa_X11_133_8 rfl ?_
  rw [hx7]
  refine t_istore (pc' := 9) (L' := [.ref 0, .int _, .int _, .int _, .int _, .int _, .int _]) dX11_ruleOf_7 rfl (Nat.le_of_ble_eq_true rfl) rfl ?_
  refine s_iload_n (pc' := 10) dX11_ruleOf_9 rfl rfl ?_
  refine s_tabOut (tgt := 147) dX11_ruleOf_10 (by decide) (by decide) ?_
  refine s_new (pc' := 150) (ci := 6) dX11_ruleOf_147 rfl (by decide) cl_X11_221 ib_X6 in_X6 (Nat.le_of_ble_eq_true rfl) (Nat.le_of_ble_eq_true rfl) ?_
  refine s_dup (pc' := 151) dX11_ruleOf_150 rfl rfl ?_
  refine s_iconst (pc' := 152) (v := 0) dX11_ruleOf_151 rfl (by decide) ?_
  refine s_iload (pc' := 154) dX11_ruleOf_152 rfl rfl ?_
  refine s_aload_n (pc' := 155) dX11_ruleOf_154 rfl rfl ?_
  refine t_getR (pc' := 158) dX11_ruleOf_155 rfl sh_0 (by decide) fa_X11_48_11 rfl (by rw [zQ_o (by omega)]; exact hq7) ?_
  refine s_iload_n (pc' := 159) dX11_ruleOf_158 rfl rfl ?_
  refine s_iload_n (pc' := 160) dX11_ruleOf_159 rfl rfl ?_
  refine s_iload (pc' := 162) dX11_ruleOf_160 rfl rfl ?_
  refine s_iload (pc' := 164) dX11_ruleOf_162 rfl rfl ?_
  refine s_callI (pc' := 167) (As := [.int _, .int _, .ref _, .int _, .int _, .int _, .int _]) dX11_ruleOf_164 rfl mk_X6_init ml_X11_333 im_X6_init rfl rfl rfl rfl ⟨Nat.le_of_ble_eq_true rfl, Nat.le_of_ble_eq_true rfl, Nat.le_of_ble_eq_true rfl, Nat.le_of_ble_eq_true rfl⟩ (Nat.le_of_ble_eq_true rfl) (c_X6_init_6 h94 (Nat.lt_succ_self _) nS_s ?_)
  exact s_aret dX11_ruleOf_167 rfl (by decide) (by decide) (hk _ _ (fun d hd => by rw [riI_o hd, zI_o hd]) (fun d hd => by rw [up2_o hd, zQ_o hd]) (RO.new h g (by decide) hn h94 T (by decide) (fun d hd => by rw [riI_o hd, zI_o hd]) (fun j hj => rfl) (fun z => absurd z (by decide)) (fun z => absurd z (by decide)) up2_s))
set_option maxHeartbeats 200000 in
theorem c_X11_ruleOf_2 {N : Nat} {S : Nat → Nat × Nat} {I : Nat → Nat → Int32} {J : Nat → Nat → Int64} {Q : Nat → Nat → Option Nat} {κ : Option Value → HP → Prop} {D D' : Nat → Nat → Int32} {nv nr a ra so t : Nat} {am b fa how of num aim more amt by_ : Int32} (h94 : 94 ≤ N) (hx7 : I 1 7 = nI nr) (hq7 : Q 0 7 = some t) (T : TO N S I t how of num) (hn : nv ≤ 10) (h : NWD D D' nr 2 a ra so 0 0 am b fa how of num) (g : RGO nv nr how 2 aim more amt by_ a ra so am b fa) (hk : ∀ I' Q', (∀ d, d ≠ N → I' d = I d) → (∀ d, d ≠ N → Q' d = Q d) → RO (N + 1) (nS S N (7, 0)) I' Q' D' nr N t → κ (some (.ref N)) (N + 1, nS S N (7, 0), I', J, Q')) : CT E1 M_X11_ruleOf [.ref 0, .int 2, .int aim, .int more, .int amt, .int by_] (N, S, I, J, Q) κ := by
  refine ofSP mk_X11_ruleOf (Nat.le_of_ble_eq_true rfl) (L := [.ref 0, .int _, .int _, .int _, .int _, .int _, .retAddr _]) rfl ?_
  refine s_aload_n (pc' := 1) dX11_ruleOf_0 rfl rfl ?_
  refine s_getS (pc' := 4) (b := 1) dX11_ruleOf_1 rfl (by decide) rfl (by decide) fa_X11_10_11 rfl rfl ?_
  refine t_getI (pc' := 7) dX11_ruleOf_4 rfl sh_1 (by decide) fa_X11_133_8 rfl ?_
  rw [hx7]
  refine t_istore (pc' := 9) (L' := [.ref 0, .int _, .int _, .int _, .int _, .int _, .int _]) dX11_ruleOf_7 rfl (Nat.le_of_ble_eq_true rfl) rfl ?_
  refine s_iload_n (pc' := 10) dX11_ruleOf_9 rfl rfl ?_
  refine s_tabIn (tgt := 48) (off := 38) dX11_ruleOf_10 (by decide) (by decide) rfl (by decide) ?_
  refine s_new (pc' := 51) (ci := 7) dX11_ruleOf_48 rfl (by decide) cl_X11_364 ib_X7 in_X7 (Nat.le_of_ble_eq_true rfl) (Nat.le_of_ble_eq_true rfl) ?_
  refine s_dup (pc' := 52) dX11_ruleOf_51 rfl rfl ?_
  refine s_iload (pc' := 54) dX11_ruleOf_52 rfl rfl ?_
  refine s_aload_n (pc' := 55) dX11_ruleOf_54 rfl rfl ?_
  refine t_getR (pc' := 58) dX11_ruleOf_55 rfl sh_0 (by decide) fa_X11_48_11 rfl (by rw [zQ_o (by omega)]; exact hq7) ?_
  refine s_iload_n (pc' := 59) dX11_ruleOf_58 rfl rfl ?_
  refine s_iload_n (pc' := 60) dX11_ruleOf_59 rfl rfl ?_
  refine s_iload (pc' := 62) dX11_ruleOf_60 rfl rfl ?_
  refine s_iload (pc' := 64) dX11_ruleOf_62 rfl rfl ?_
  refine s_callI (pc' := 67) (As := [.int _, .ref _, .int _, .int _, .int _, .int _]) dX11_ruleOf_64 rfl mk_X7_init ml_X11_366 im_X7_init rfl rfl rfl rfl ⟨Nat.le_of_ble_eq_true rfl, Nat.le_of_ble_eq_true rfl, Nat.le_of_ble_eq_true rfl, Nat.le_of_ble_eq_true rfl⟩ (Nat.le_of_ble_eq_true rfl) (c_X7_init h94 (Nat.lt_succ_self _) nS_s ?_)
  exact s_aret dX11_ruleOf_67 rfl (by decide) (by decide) (hk _ _ (fun d hd => by rw [riI_o hd, zI_o hd]) (fun d hd => by rw [up2_o hd, zQ_o hd]) (RO.new h g (by decide) hn h94 T (by decide) (fun d hd => by rw [riI_o hd, zI_o hd]) (fun j hj => rfl) (fun z => absurd z (by decide)) (fun z => absurd z (by decide)) up2_s))
set_option maxHeartbeats 200000 in
theorem c_X11_ruleOf_3 {N : Nat} {S : Nat → Nat × Nat} {I : Nat → Nat → Int32} {J : Nat → Nat → Int64} {Q : Nat → Nat → Option Nat} {κ : Option Value → HP → Prop} {D D' : Nat → Nat → Int32} {nv nr a ra so t : Nat} {am b fa how of num aim more amt by_ : Int32} (h94 : 94 ≤ N) (hx7 : I 1 7 = nI nr) (hq7 : Q 0 7 = some t) (T : TO N S I t how of num) (hn : nv ≤ 10) (h : NWD D D' nr 3 a ra so 0 0 am b fa how of num) (g : RGO nv nr how 3 aim more amt by_ a ra so am b fa) (hk : ∀ I' Q', (∀ d, d ≠ N → I' d = I d) → (∀ d, d ≠ N → Q' d = Q d) → RO (N + 1) (nS S N (2, 0)) I' Q' D' nr N t → κ (some (.ref N)) (N + 1, nS S N (2, 0), I', J, Q')) : CT E1 M_X11_ruleOf [.ref 0, .int 3, .int aim, .int more, .int amt, .int by_] (N, S, I, J, Q) κ := by
  refine ofSP mk_X11_ruleOf (Nat.le_of_ble_eq_true rfl) (L := [.ref 0, .int _, .int _, .int _, .int _, .int _, .retAddr _]) rfl ?_
  refine s_aload_n (pc' := 1) dX11_ruleOf_0 rfl rfl ?_
  refine s_getS (pc' := 4) (b := 1) dX11_ruleOf_1 rfl (by decide) rfl (by decide) fa_X11_10_11 rfl rfl ?_
  refine t_getI (pc' := 7) dX11_ruleOf_4 rfl sh_1 (by decide) fa_X11_133_8 rfl ?_
  rw [hx7]
  refine t_istore (pc' := 9) (L' := [.ref 0, .int _, .int _, .int _, .int _, .int _, .int _]) dX11_ruleOf_7 rfl (Nat.le_of_ble_eq_true rfl) rfl ?_
  refine s_iload_n (pc' := 10) dX11_ruleOf_9 rfl rfl ?_
  refine s_tabIn (tgt := 68) (off := 58) dX11_ruleOf_10 (by decide) (by decide) rfl (by decide) ?_
  refine s_new (pc' := 71) (ci := 2) dX11_ruleOf_68 rfl (by decide) cl_X11_369 ib_X2 in_X2 (Nat.le_of_ble_eq_true rfl) (Nat.le_of_ble_eq_true rfl) ?_
  refine s_dup (pc' := 72) dX11_ruleOf_71 rfl rfl ?_
  refine s_iload (pc' := 74) dX11_ruleOf_72 rfl rfl ?_
  refine s_aload_n (pc' := 75) dX11_ruleOf_74 rfl rfl ?_
  refine t_getR (pc' := 78) dX11_ruleOf_75 rfl sh_0 (by decide) fa_X11_48_11 rfl (by rw [zQ_o (by omega)]; exact hq7) ?_
  refine s_iload_n (pc' := 79) dX11_ruleOf_78 rfl rfl ?_
  refine s_iconst (pc' := 80) (v := 3) dX11_ruleOf_79 rfl (by decide) ?_
  refine s_icmpneF (pc' := 83) (tgt := 87) dX11_ruleOf_80 (by decide) rfl rfl ?_
  refine s_iconst (pc' := 84) (v := 1) dX11_ruleOf_83 rfl (by decide) ?_
  refine s_goto (tgt := 88) dX11_ruleOf_84 (by decide) ?_
  refine s_iload_n (pc' := 89) dX11_ruleOf_88 rfl rfl ?_
  refine s_iload_n (pc' := 90) dX11_ruleOf_89 rfl rfl ?_
  refine s_iload (pc' := 92) dX11_ruleOf_90 rfl rfl ?_
  refine s_iload (pc' := 94) dX11_ruleOf_92 rfl rfl ?_
  refine s_callI (pc' := 97) (As := [.int _, .ref _, .int _, .int _, .int _, .int _, .int _]) dX11_ruleOf_94 rfl mk_X2_init ml_X11_371 im_X2_init rfl rfl rfl rfl ⟨Nat.le_of_ble_eq_true rfl, Nat.le_of_ble_eq_true rfl, Nat.le_of_ble_eq_true rfl, Nat.le_of_ble_eq_true rfl⟩ (Nat.le_of_ble_eq_true rfl) (c_X2_init_1 h94 (Nat.lt_succ_self _) nS_s ?_)
  exact s_aret dX11_ruleOf_97 rfl (by decide) (by decide) (hk _ _ (fun d hd => by rw [up2_o hd, riI_o hd, zI_o hd]) (fun d hd => by rw [up2_o hd, zQ_o hd]) (RO.new h g (by decide) hn h94 T (by decide) (fun d hd => by rw [up2_o hd, riI_o hd, zI_o hd]) (fun j hj => up2_e (by omega)) (fun z => absurd z (by decide)) (fun _ => by rw [up2_s]; decide) up2_s))
set_option maxHeartbeats 200000 in
theorem c_X11_ruleOf_4 {N : Nat} {S : Nat → Nat × Nat} {I : Nat → Nat → Int32} {J : Nat → Nat → Int64} {Q : Nat → Nat → Option Nat} {κ : Option Value → HP → Prop} {D D' : Nat → Nat → Int32} {nv nr a ra so t : Nat} {am b fa how of num aim more amt by_ : Int32} (h94 : 94 ≤ N) (hx7 : I 1 7 = nI nr) (hq7 : Q 0 7 = some t) (T : TO N S I t how of num) (hn : nv ≤ 10) (h : NWD D D' nr 4 a ra so 0 0 am b fa how of num) (g : RGO nv nr how 4 aim more amt by_ a ra so am b fa) (hk : ∀ I' Q', (∀ d, d ≠ N → I' d = I d) → (∀ d, d ≠ N → Q' d = Q d) → RO (N + 1) (nS S N (3, 0)) I' Q' D' nr N t → κ (some (.ref N)) (N + 1, nS S N (3, 0), I', J, Q')) : CT E1 M_X11_ruleOf [.ref 0, .int 4, .int aim, .int more, .int amt, .int by_] (N, S, I, J, Q) κ := by
  refine ofSP mk_X11_ruleOf (Nat.le_of_ble_eq_true rfl) (L := [.ref 0, .int _, .int _, .int _, .int _, .int _, .retAddr _]) rfl ?_
  refine s_aload_n (pc' := 1) dX11_ruleOf_0 rfl rfl ?_
  refine s_getS (pc' := 4) (b := 1) dX11_ruleOf_1 rfl (by decide) rfl (by decide) fa_X11_10_11 rfl rfl ?_
  refine t_getI (pc' := 7) dX11_ruleOf_4 rfl sh_1 (by decide) fa_X11_133_8 rfl ?_
  rw [hx7]
  refine t_istore (pc' := 9) (L' := [.ref 0, .int _, .int _, .int _, .int _, .int _, .int _]) dX11_ruleOf_7 rfl (Nat.le_of_ble_eq_true rfl) rfl ?_
  refine s_iload_n (pc' := 10) dX11_ruleOf_9 rfl rfl ?_
  refine s_tabIn (tgt := 98) (off := 88) dX11_ruleOf_10 (by decide) (by decide) rfl (by decide) ?_
  refine s_new (pc' := 101) (ci := 3) dX11_ruleOf_98 rfl (by decide) cl_X11_374 ib_X3 in_X3 (Nat.le_of_ble_eq_true rfl) (Nat.le_of_ble_eq_true rfl) ?_
  refine s_dup (pc' := 102) dX11_ruleOf_101 rfl rfl ?_
  refine s_iload (pc' := 104) dX11_ruleOf_102 rfl rfl ?_
  refine s_aload_n (pc' := 105) dX11_ruleOf_104 rfl rfl ?_
  refine t_getR (pc' := 108) dX11_ruleOf_105 rfl sh_0 (by decide) fa_X11_48_11 rfl (by rw [zQ_o (by omega)]; exact hq7) ?_
  refine s_iload_n (pc' := 109) dX11_ruleOf_108 rfl rfl ?_
  refine s_iload_n (pc' := 110) dX11_ruleOf_109 rfl rfl ?_
  refine s_callI (pc' := 113) (As := [.int _, .ref _, .int _, .int _]) dX11_ruleOf_110 rfl mk_X3_init ml_X11_376 im_X3_init rfl rfl rfl rfl ⟨Nat.le_of_ble_eq_true rfl, Nat.le_of_ble_eq_true rfl, Nat.le_of_ble_eq_true rfl, Nat.le_of_ble_eq_true rfl⟩ (Nat.le_of_ble_eq_true rfl) (c_X3_init h94 (Nat.lt_succ_self _) nS_s ?_)
  exact s_aret dX11_ruleOf_113 rfl (by decide) (by decide) (hk _ _ (fun d hd => by rw [riI_o hd, zI_o hd]) (fun d hd => by rw [up2_o hd, zQ_o hd]) (RO.new h g (by decide) hn h94 T (by decide) (fun d hd => by rw [riI_o hd, zI_o hd]) (fun j hj => rfl) (fun z => absurd z (by decide)) (fun z => absurd z (by decide)) up2_s))
set_option maxHeartbeats 200000 in
theorem c_X11_ruleOf_5 {N : Nat} {S : Nat → Nat × Nat} {I : Nat → Nat → Int32} {J : Nat → Nat → Int64} {Q : Nat → Nat → Option Nat} {κ : Option Value → HP → Prop} {D D' : Nat → Nat → Int32} {nv nr a ra so t : Nat} {am b fa how of num aim more amt by_ : Int32} (h94 : 94 ≤ N) (hx7 : I 1 7 = nI nr) (hq7 : Q 0 7 = some t) (T : TO N S I t how of num) (hn : nv ≤ 10) (h : NWD D D' nr 5 a ra so 0 0 am b fa how of num) (g : RGO nv nr how 5 aim more amt by_ a ra so am b fa) (hk : ∀ I' Q', (∀ d, d ≠ N → I' d = I d) → (∀ d, d ≠ N → Q' d = Q d) → RO (N + 1) (nS S N (4, 0)) I' Q' D' nr N t → κ (some (.ref N)) (N + 1, nS S N (4, 0), I', J, Q')) : CT E1 M_X11_ruleOf [.ref 0, .int 5, .int aim, .int more, .int amt, .int by_] (N, S, I, J, Q) κ := by
  refine ofSP mk_X11_ruleOf (Nat.le_of_ble_eq_true rfl) (L := [.ref 0, .int _, .int _, .int _, .int _, .int _, .retAddr _]) rfl ?_
  refine s_aload_n (pc' := 1) dX11_ruleOf_0 rfl rfl ?_
  refine s_getS (pc' := 4) (b := 1) dX11_ruleOf_1 rfl (by decide) rfl (by decide) fa_X11_10_11 rfl rfl ?_
  refine t_getI (pc' := 7) dX11_ruleOf_4 rfl sh_1 (by decide) fa_X11_133_8 rfl ?_
  rw [hx7]
  refine t_istore (pc' := 9) (L' := [.ref 0, .int _, .int _, .int _, .int _, .int _, .int _]) dX11_ruleOf_7 rfl (Nat.le_of_ble_eq_true rfl) rfl ?_
  refine s_iload_n (pc' := 10) dX11_ruleOf_9 rfl rfl ?_
  refine s_tabIn (tgt := 114) (off := 104) dX11_ruleOf_10 (by decide) (by decide) rfl (by decide) ?_
  refine s_new (pc' := 117) (ci := 4) dX11_ruleOf_114 rfl (by decide) cl_X11_379 ib_X4 in_X4 (Nat.le_of_ble_eq_true rfl) (Nat.le_of_ble_eq_true rfl) ?_
  refine s_dup (pc' := 118) dX11_ruleOf_117 rfl rfl ?_
  refine s_iconst (pc' := 119) (v := 5) dX11_ruleOf_118 rfl (by decide) ?_
  refine s_iload (pc' := 121) dX11_ruleOf_119 rfl rfl ?_
  refine s_aload_n (pc' := 122) dX11_ruleOf_121 rfl rfl ?_
  refine t_getR (pc' := 125) dX11_ruleOf_122 rfl sh_0 (by decide) fa_X11_48_11 rfl (by rw [zQ_o (by omega)]; exact hq7) ?_
  refine s_iload_n (pc' := 126) dX11_ruleOf_125 rfl rfl ?_
  refine s_iload_n (pc' := 127) dX11_ruleOf_126 rfl rfl ?_
  refine s_callI (pc' := 130) (As := [.int _, .int _, .ref _, .int _, .int _]) dX11_ruleOf_127 rfl mk_X4_init ml_X11_381 im_X4_init rfl rfl rfl rfl ⟨Nat.le_of_ble_eq_true rfl, Nat.le_of_ble_eq_true rfl, Nat.le_of_ble_eq_true rfl, Nat.le_of_ble_eq_true rfl⟩ (Nat.le_of_ble_eq_true rfl) (c_X4_init_4 h94 (Nat.lt_succ_self _) nS_s ?_)
  exact s_aret dX11_ruleOf_130 rfl (by decide) (by decide) (hk _ _ (fun d hd => by rw [riI_o hd, zI_o hd]) (fun d hd => by rw [up2_o hd, zQ_o hd]) (RO.new h g (by decide) hn h94 T (by decide) (fun d hd => by rw [riI_o hd, zI_o hd]) (fun j hj => rfl) (fun z => absurd z (by decide)) (fun z => absurd z (by decide)) up2_s))
set_option maxHeartbeats 200000 in
theorem c_X11_ruleOf_6 {N : Nat} {S : Nat → Nat × Nat} {I : Nat → Nat → Int32} {J : Nat → Nat → Int64} {Q : Nat → Nat → Option Nat} {κ : Option Value → HP → Prop} {D D' : Nat → Nat → Int32} {nv nr a ra so t : Nat} {am b fa how of num aim more amt by_ : Int32} (h94 : 94 ≤ N) (hx7 : I 1 7 = nI nr) (hq7 : Q 0 7 = some t) (T : TO N S I t how of num) (hn : nv ≤ 10) (h : NWD D D' nr 6 a ra so 0 0 am b fa how of num) (g : RGO nv nr how 6 aim more amt by_ a ra so am b fa) (hk : ∀ I' Q', (∀ d, d ≠ N → I' d = I d) → (∀ d, d ≠ N → Q' d = Q d) → RO (N + 1) (nS S N (0, 0)) I' Q' D' nr N t → κ (some (.ref N)) (N + 1, nS S N (0, 0), I', J, Q')) : CT E1 M_X11_ruleOf [.ref 0, .int 6, .int aim, .int more, .int amt, .int by_] (N, S, I, J, Q) κ := by
  refine ofSP mk_X11_ruleOf (Nat.le_of_ble_eq_true rfl) (L := [.ref 0, .int _, .int _, .int _, .int _, .int _, .retAddr _]) rfl ?_
  refine s_aload_n (pc' := 1) dX11_ruleOf_0 rfl rfl ?_
  refine s_getS (pc' := 4) (b := 1) dX11_ruleOf_1 rfl (by decide) rfl (by decide) fa_X11_10_11 rfl rfl ?_
  refine t_getI (pc' := 7) dX11_ruleOf_4 rfl sh_1 (by decide) fa_X11_133_8 rfl ?_
  rw [hx7]
  refine t_istore (pc' := 9) (L' := [.ref 0, .int _, .int _, .int _, .int _, .int _, .int _]) dX11_ruleOf_7 rfl (Nat.le_of_ble_eq_true rfl) rfl ?_
  refine s_iload_n (pc' := 10) dX11_ruleOf_9 rfl rfl ?_
  refine s_tabIn (tgt := 131) (off := 121) dX11_ruleOf_10 (by decide) (by decide) rfl (by decide) ?_
  refine s_new (pc' := 134) (ci := 0) dX11_ruleOf_131 rfl (by decide) cl_X11_384 ib_X0 in_X0 (Nat.le_of_ble_eq_true rfl) (Nat.le_of_ble_eq_true rfl) ?_
  refine s_dup (pc' := 135) dX11_ruleOf_134 rfl rfl ?_
  refine s_iload (pc' := 137) dX11_ruleOf_135 rfl rfl ?_
  refine s_aload_n (pc' := 138) dX11_ruleOf_137 rfl rfl ?_
  refine t_getR (pc' := 141) dX11_ruleOf_138 rfl sh_0 (by decide) fa_X11_48_11 rfl (by rw [zQ_o (by omega)]; exact hq7) ?_
  refine s_iload_n (pc' := 142) dX11_ruleOf_141 rfl rfl ?_
  refine s_iload_n (pc' := 143) dX11_ruleOf_142 rfl rfl ?_
  refine s_callI (pc' := 146) (As := [.int _, .ref _, .int _, .int _]) dX11_ruleOf_143 rfl mk_X0_init ml_X11_386 im_X0_init rfl rfl rfl rfl ⟨Nat.le_of_ble_eq_true rfl, Nat.le_of_ble_eq_true rfl, Nat.le_of_ble_eq_true rfl, Nat.le_of_ble_eq_true rfl⟩ (Nat.le_of_ble_eq_true rfl) (c_X0_init h94 (Nat.lt_succ_self _) nS_s ?_)
  exact s_aret dX11_ruleOf_146 rfl (by decide) (by decide) (hk _ _ (fun d hd => by rw [riI_o hd, zI_o hd]) (fun d hd => by rw [up2_o hd, zQ_o hd]) (RO.new h g (by decide) hn h94 T (by decide) (fun d hd => by rw [riI_o hd, zI_o hd]) (fun j hj => rfl) (fun z => absurd z (by decide)) (fun z => absurd z (by decide)) up2_s))
set_option maxHeartbeats 200000 in
theorem c_X11_ruleOf_7 {N : Nat} {S : Nat → Nat × Nat} {I : Nat → Nat → Int32} {J : Nat → Nat → Int64} {Q : Nat → Nat → Option Nat} {κ : Option Value → HP → Prop} {D D' : Nat → Nat → Int32} {nv nr a ra so t : Nat} {am b fa how of num aim more amt by_ : Int32} (h94 : 94 ≤ N) (hx7 : I 1 7 = nI nr) (hq7 : Q 0 7 = some t) (T : TO N S I t how of num) (hn : nv ≤ 10) (h : NWD D D' nr 3 a ra so 0 1 am b fa how of num) (g : RGO nv nr how 3 aim more amt by_ a ra so am b fa) (hk : ∀ I' Q', (∀ d, d ≠ N → I' d = I d) → (∀ d, d ≠ N → Q' d = Q d) → RO (N + 1) (nS S N (2, 0)) I' Q' D' nr N t → κ (some (.ref N)) (N + 1, nS S N (2, 0), I', J, Q')) : CT E1 M_X11_ruleOf [.ref 0, .int 7, .int aim, .int more, .int amt, .int by_] (N, S, I, J, Q) κ := by
  refine ofSP mk_X11_ruleOf (Nat.le_of_ble_eq_true rfl) (L := [.ref 0, .int _, .int _, .int _, .int _, .int _, .retAddr _]) rfl ?_
  refine s_aload_n (pc' := 1) dX11_ruleOf_0 rfl rfl ?_
  refine s_getS (pc' := 4) (b := 1) dX11_ruleOf_1 rfl (by decide) rfl (by decide) fa_X11_10_11 rfl rfl ?_
  refine t_getI (pc' := 7) dX11_ruleOf_4 rfl sh_1 (by decide) fa_X11_133_8 rfl ?_
  rw [hx7]
  refine t_istore (pc' := 9) (L' := [.ref 0, .int _, .int _, .int _, .int _, .int _, .int _]) dX11_ruleOf_7 rfl (Nat.le_of_ble_eq_true rfl) rfl ?_
  refine s_iload_n (pc' := 10) dX11_ruleOf_9 rfl rfl ?_
  refine s_tabIn (tgt := 68) (off := 58) dX11_ruleOf_10 (by decide) (by decide) rfl (by decide) ?_
  refine s_new (pc' := 71) (ci := 2) dX11_ruleOf_68 rfl (by decide) cl_X11_369 ib_X2 in_X2 (Nat.le_of_ble_eq_true rfl) (Nat.le_of_ble_eq_true rfl) ?_
  refine s_dup (pc' := 72) dX11_ruleOf_71 rfl rfl ?_
  refine s_iload (pc' := 74) dX11_ruleOf_72 rfl rfl ?_
  refine s_aload_n (pc' := 75) dX11_ruleOf_74 rfl rfl ?_
  refine t_getR (pc' := 78) dX11_ruleOf_75 rfl sh_0 (by decide) fa_X11_48_11 rfl (by rw [zQ_o (by omega)]; exact hq7) ?_
  refine s_iload_n (pc' := 79) dX11_ruleOf_78 rfl rfl ?_
  refine s_iconst (pc' := 80) (v := 3) dX11_ruleOf_79 rfl (by decide) ?_
  refine s_icmpneT (tgt := 87) dX11_ruleOf_80 (by decide) (by decide) ?_
  refine s_iconst (pc' := 88) (v := 0) dX11_ruleOf_87 rfl (by decide) ?_
  refine s_iload_n (pc' := 89) dX11_ruleOf_88 rfl rfl ?_
  refine s_iload_n (pc' := 90) dX11_ruleOf_89 rfl rfl ?_
  refine s_iload (pc' := 92) dX11_ruleOf_90 rfl rfl ?_
  refine s_iload (pc' := 94) dX11_ruleOf_92 rfl rfl ?_
  refine s_callI (pc' := 97) (As := [.int _, .ref _, .int _, .int _, .int _, .int _, .int _]) dX11_ruleOf_94 rfl mk_X2_init ml_X11_371 im_X2_init rfl rfl rfl rfl ⟨Nat.le_of_ble_eq_true rfl, Nat.le_of_ble_eq_true rfl, Nat.le_of_ble_eq_true rfl, Nat.le_of_ble_eq_true rfl⟩ (Nat.le_of_ble_eq_true rfl) (c_X2_init_0 h94 (Nat.lt_succ_self _) nS_s ?_)
  exact s_aret dX11_ruleOf_97 rfl (by decide) (by decide) (hk _ _ (fun d hd => by rw [up2_o hd, riI_o hd, zI_o hd]) (fun d hd => by rw [up2_o hd, zQ_o hd]) (RO.new h g (by decide) hn h94 T (by decide) (fun d hd => by rw [up2_o hd, riI_o hd, zI_o hd]) (fun j hj => up2_e (by omega)) (fun z => absurd z (by decide)) (fun _ => by rw [up2_s]; decide) up2_s))
