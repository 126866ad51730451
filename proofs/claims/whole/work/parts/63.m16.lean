theorem LV.gs {I' D : Nat → Nat → Int32} {J' : Nat → Nat → Int64} {nv nr ns md v : Nat} (hW : DW D nv nr ns) (hg : ∀ u, u < nv → gM J' md u = gS D nv nr ns md u) (h : LV I' J' D (thS D (nI md) nr) md nr ns v) :
    (∀ r, r < nr → kvB D (nI v) r = true → I' 84 r = hwF D (nI md) (gS D nv nr ns md) (thS D (nI md) nr) v nr ns r ∧ I' 85 r = btF D (nI md) (gS D nv nr ns md) (thS D (nI md) nr) v nr r) ∧ I' 86 v = b2 (qrS D (nI md) (gS D nv nr ns md) (thS D (nI md) nr) (nI v) nr) := by
  have ag : AG D (nI md) (nI v) nr (gM J' md) (gS D nv nr ns md) := AG_of hW (fun u hu _ => hg u hu)
  refine ⟨fun r hr hk => ?_, by rw [h.2.2, ag.qrS]⟩
  obtain ⟨h1, h2⟩ := h.2.1 r hr hk
  exact ⟨by rw [h1, ag.hwF hr], by rw [h2, ag.btF hr]⟩
theorem QN.gs {I I' D : Nat → Nat → Int32} {J J' : Nat → Nat → Int64} {nv nr ns md : Nat} (M : MOD I J D nv nr ns) (hmd : md < 256) (h : QN I I' J J' D nv nr ns md) : ∀ u, u < nv → gM J' md u = gS D nv nr ns md u := (h.1.2.2.2.g M.2.1 M.2.2.1 md hmd).1
/-- one of the numbers 0 .. n -/
theorem in_n {x : Int32} {n : Nat} (h : inR x 0 n) : ∃ k, k ≤ n ∧ x = nI k := by
  obtain ⟨k, e1, e2, -⟩ := toNat_of h (Int.le_refl 0)
  exact ⟨k, by have := h.2; omega, e1⟩
theorem nI_in2 {k n : Nat} (hk : k ≤ n) (hn : n < 1000) : inR (nI k) 0 n := by unfold inR; rw [nI_toInt (by omega)]; omega
def cGt (f : Nat → Int32) (t : Int32) : Nat → Int32
  | 0 => 0
  | k + 1 => cGt f t k + (if t < f k then 1 else 0)
def cZ (P : Nat → Bool) : Nat → Int32
  | 0 => 0
  | k + 1 => cZ P k + b2 (P k)
theorem cZ_n (P : Nat → Bool) : ∀ k, cZ P k = nI (cntB P k)
  | 0 => rfl
  | k + 1 => by
    rw [cZ, cZ_n P k]
    cases h : P k with
    | true => rw [cnt_s1 h, ← nI_1]; rfl
    | false => rw [cnt_s0 h]; exact Int32.add_zero _
def vtS (D : Nat → Nat → Int32) (v : Nat) (w : Nat) : Int32 := if w = 0 then D 55 v else if w = 1 then D 56 v else if w = 2 then D 59 v else if w = 3 then D 57 v else D 58 v
theorem c_X12_valueTold {N : Nat} {S : Nat → Nat × Nat} {I : Nat → Nat → Int32} {J : Nat → Nat → Int64} {Q : Nat → Nat → Option Nat} {κ : Option Value → HP → Prop} {D : Nat → Nat → Int32} {nv nr ns md : Nat} (M : MOD I J D nv nr ns) (hm : D 75 3 = nI md) (hmd : md < 256) {x y : Int32} (k0 : ((∀ j, j < nv → x ≠ nI j) ∨ ¬ inR y 0 5) → κ (some (.int (-1000))) (N, S, I, J, Q)) (k1 : ∀ v, v < nv → x = nI v → ∀ w, w < 5 → y = nI w → κ (some (.int (vtS D v w))) (N, S, I, J, Q)) (k2 : ∀ v, v < nv → x = nI v → y = nI 5 → ∀ I' J', MQu I I' J J' D nv nr ns → κ (some (.int (b2 (qrS D (nI md) (gS D nv nr ns md) (thS D (nI md) nr) (nI v) nr)))) (N, S, I', J', Q)) : CT E1 M_X12_valueTold [.ref 54, .int x, .int y] (N, S, I, J, Q) κ := by
  refine ofSP mk_X12_valueTold (Nat.le_of_ble_eq_true rfl) (L := [.ref 54, .int _, .int _]) rfl ?_
  refine s_aload_n (pc' := 1) dX12_valueTold_0 rfl rfl ?_
  refine s_iload_n (pc' := 2) dX12_valueTold_1 rfl rfl ?_
  refine s_callV (pc' := 5) (As := [.int _]) dX12_valueTold_2 rfl mk_X12_isValue ml_X12_170 im_X12_isValue se_X12_X12_X12_isValue sh_54 (by decide) rfl rfl rfl ⟨Nat.le_of_ble_eq_true rfl, Nat.le_of_ble_eq_true rfl, Nat.le_of_ble_eq_true rfl, Nat.le_of_ble_eq_true rfl⟩ (Nat.le_of_ble_eq_true rfl) (c_X12_isValue (M.2.1.vn M.1) (by have := M.2.1.nv; omega) (fun j2 hj2 e2 => ?_) (fun n2 => ?_))
  · subst e2
    refine s_ifeqF (pc' := 8) (tgt := 20) dX12_valueTold_5 (by decide) rfl (by decide) ?_
    refine s_iload_n (pc' := 9) dX12_valueTold_8 rfl rfl ?_
    refine s_i2l (pc' := 10) dX12_valueTold_9 rfl ?_
    refine s_lconst (pc' := 11) (v := 0) dX12_valueTold_10 rfl (by decide) ?_
    refine s_ldc2 (pc' := 14) dX12_valueTold_11 rfl kl_X12_143 ?_
    refine s_callS (pc' := 17) (As := [.long _, .long _, .long _]) dX12_valueTold_14 rfl mk_X12_isIn ml_X12_135 sm_X12_isIn rfl rfl ⟨Nat.le_of_ble_eq_true rfl, Nat.le_of_ble_eq_true rfl, Nat.le_of_ble_eq_true rfl, Nat.le_of_ble_eq_true rfl⟩ (Nat.le_of_ble_eq_true rfl) (c_isInR (a' := 0) (b' := 5) rfl rfl (fun i14 => ?_) (fun i14 => ?_))
    · refine s_ifneT (tgt := 24) dX12_valueTold_17 (by decide) (by decide) ?_
      refine s_iload_n (pc' := 25) dX12_valueTold_24 rfl rfl ?_
      obtain ⟨kw, hkw, ekw⟩ := in_n (show inR y 0 (5 : Nat) from i14)
      rcases (show kw = 0 ∨ kw = 1 ∨ kw = 2 ∨ kw = 3 ∨ kw = 4 ∨ kw = 5 by omega) with e6 | e6 | e6 | e6 | e6 | e6
      · rw [e6] at ekw
        refine s_tabIn (tgt := 60) (off := 35) dX12_valueTold_25 (by rw [ekw]; decide) (by rw [ekw]; decide) (by rw [ekw]; rfl) (by decide) ?_
        refine s_aload_n (pc' := 61) dX12_valueTold_60 rfl rfl ?_
        refine s_getS (pc' := 64) (b := 55) dX12_valueTold_61 rfl (by decide) rfl (by decide) fa_X12_7_12 rfl rfl ?_
        refine s_iload_n (pc' := 65) dX12_valueTold_64 rfl rfl ?_
        refine t_iald (pc' := 66) dX12_valueTold_65 rfl sh_55 rfl (by have := M.2.1.nv; omega) ?_
        exact s_iret dX12_valueTold_66 rfl (by decide) (by decide) (by rw [M.1 55 (by decide) (by decide)]; exact k1 j2 hj2 rfl 0 (by decide) ekw)
      · rw [e6] at ekw
        refine s_tabIn (tgt := 67) (off := 42) dX12_valueTold_25 (by rw [ekw]; decide) (by rw [ekw]; decide) (by rw [ekw]; rfl) (by decide) ?_
        refine s_aload_n (pc' := 68) dX12_valueTold_67 rfl rfl ?_
        refine s_getS (pc' := 71) (b := 56) dX12_valueTold_68 rfl (by decide) rfl (by decide) fa_X12_13_12 rfl rfl ?_
        refine s_iload_n (pc' := 72) dX12_valueTold_71 rfl rfl ?_
        refine t_iald (pc' := 73) dX12_valueTold_72 rfl sh_56 rfl (by have := M.2.1.nv; omega) ?_
        exact s_iret dX12_valueTold_73 rfl (by decide) (by decide) (by rw [M.1 56 (by decide) (by decide)]; exact k1 j2 hj2 rfl 1 (by decide) ekw)
      · rw [e6] at ekw
        refine s_tabIn (tgt := 74) (off := 49) dX12_valueTold_25 (by rw [ekw]; decide) (by rw [ekw]; decide) (by rw [ekw]; rfl) (by decide) ?_
        refine s_aload_n (pc' := 75) dX12_valueTold_74 rfl rfl ?_
        refine s_getS (pc' := 78) (b := 59) dX12_valueTold_75 rfl (by decide) rfl (by decide) fa_X12_22_12 rfl rfl ?_
        refine s_iload_n (pc' := 79) dX12_valueTold_78 rfl rfl ?_
        refine t_iald (pc' := 80) dX12_valueTold_79 rfl sh_59 rfl (by have := M.2.1.nv; omega) ?_
        exact s_iret dX12_valueTold_80 rfl (by decide) (by decide) (by rw [M.1 59 (by decide) (by decide)]; exact k1 j2 hj2 rfl 2 (by decide) ekw)
      · rw [e6] at ekw
        refine s_tabIn (tgt := 81) (off := 56) dX12_valueTold_25 (by rw [ekw]; decide) (by rw [ekw]; decide) (by rw [ekw]; rfl) (by decide) ?_
        refine s_aload_n (pc' := 82) dX12_valueTold_81 rfl rfl ?_
        refine s_getS (pc' := 85) (b := 57) dX12_valueTold_82 rfl (by decide) rfl (by decide) fa_X12_16_12 rfl rfl ?_
        refine s_iload_n (pc' := 86) dX12_valueTold_85 rfl rfl ?_
        refine t_iald (pc' := 87) dX12_valueTold_86 rfl sh_57 rfl (by have := M.2.1.nv; omega) ?_
        exact s_iret dX12_valueTold_87 rfl (by decide) (by decide) (by rw [M.1 57 (by decide) (by decide)]; exact k1 j2 hj2 rfl 3 (by decide) ekw)
      · rw [e6] at ekw
        refine s_tabIn (tgt := 88) (off := 63) dX12_valueTold_25 (by rw [ekw]; decide) (by rw [ekw]; decide) (by rw [ekw]; rfl) (by decide) ?_
        refine s_aload_n (pc' := 89) dX12_valueTold_88 rfl rfl ?_
        refine s_getS (pc' := 92) (b := 58) dX12_valueTold_89 rfl (by decide) rfl (by decide) fa_X12_19_12 rfl rfl ?_
        refine s_iload_n (pc' := 93) dX12_valueTold_92 rfl rfl ?_
        refine t_iald (pc' := 94) dX12_valueTold_93 rfl sh_58 rfl (by have := M.2.1.nv; omega) ?_
        exact s_iret dX12_valueTold_94 rfl (by decide) (by decide) (by rw [M.1 58 (by decide) (by decide)]; exact k1 j2 hj2 rfl 4 (by decide) ekw)
      · rw [e6] at ekw
        refine s_tabOut (tgt := 95) dX12_valueTold_25 (by rw [ekw]; decide) (by decide) ?_
        refine s_aload_n (pc' := 96) dX12_valueTold_95 rfl rfl ?_
        refine s_callV (pc' := 99) (As := []) dX12_valueTold_96 rfl mk_X12_layNow ml_X12_284 im_X12_layNow se_X12_X12_X12_layNow sh_54 (by decide) rfl rfl rfl ⟨Nat.le_of_ble_eq_true rfl, Nat.le_of_ble_eq_true rfl, Nat.le_of_ble_eq_true rfl, Nat.le_of_ble_eq_true rfl⟩ (Nat.le_of_ble_eq_true rfl) (c_X12_layNow M hm hmd (fun I1 J1 h1 => ?_))
        have hg := h1.gs M hmd
        refine s_aload_n (pc' := 100) dX12_valueTold_99 rfl rfl ?_
        refine s_getS (pc' := 103) (b := 86) dX12_valueTold_100 rfl (by decide) rfl (by decide) fa_X12_105_12 rfl rfl ?_
        refine s_iload_n (pc' := 104) dX12_valueTold_103 rfl rfl ?_
        refine t_zald (pc' := 105) dX12_valueTold_104 rfl sh_86 rfl (by have := M.2.1.nv; omega) ?_
        refine s_ifeq (pc' := 108) (tgt := 112) dX12_valueTold_105 (by decide) rfl (fun c105 => ?_) (fun c105 => ?_)
        · refine s_iconst (pc' := 113) (v := 0) dX12_valueTold_112 rfl (by decide) ?_
          exact s_iret dX12_valueTold_113 rfl (by decide) (by decide) (by
    have q := k2 j2 hj2 rfl ekw I1 J1 h1.mq
    rw [((h1.2.2 j2 hj2).gs M.2.1 hg).2] at c105
    rw [b2_0 c105] at q
    exact q)
        · refine s_iconst (pc' := 109) (v := 1) dX12_valueTold_108 rfl (by decide) ?_
          refine s_goto (tgt := 113) dX12_valueTold_109 (by decide) ?_
          exact s_iret dX12_valueTold_113 rfl (by decide) (by decide) (by
    have q := k2 j2 hj2 rfl ekw I1 J1 h1.mq
    rw [((h1.2.2 j2 hj2).gs M.2.1 hg).2] at c105
    rw [b2_1 c105] at q
    exact q)
    · refine s_ifneF (pc' := 20) (tgt := 24) dX12_valueTold_17 (by decide) rfl (by decide) ?_
      refine s_sipush (pc' := 23) (v := -1000) dX12_valueTold_20 rfl (by decide) ?_
      exact s_iret dX12_valueTold_23 rfl (by decide) (by decide) (k0 (Or.inr i14))
  · refine s_ifeqT (tgt := 20) dX12_valueTold_5 (by decide) (by decide) ?_
    refine s_sipush (pc' := 23) (v := -1000) dX12_valueTold_20 rfl (by decide) ?_
    exact s_iret dX12_valueTold_23 rfl (by decide) (by decide) (k0 (Or.inl n2))
def rtS (D : Nat → Nat → Int32) (r : Nat) (w : Nat) : Int32 := if w = 0 then D 60 r else if w = 1 then D 61 r else if w = 2 then D 62 r else if w = 3 then D 63 r else D 64 r
noncomputable def rtN (D : Nat → Nat → Int32) (nv nr ns md r w : Nat) : Int32 :=
  if w = 5 then b2 (decide (bitI (thS D (nI md) nr) (nI r) = 1)) else if w = 6 then b2 (hB D (nI md) (gS D nv nr ns md) r)
  else if D 60 r ≤ 3 then (if w = 7 then hwF D (nI md) (gS D nv nr ns md) (thS D (nI md) nr) (D 61 r).toNatClampNeg nr ns r else btF D (nI md) (gS D nv nr ns md) (thS D (nI md) nr) (D 61 r).toNatClampNeg nr r) else -1
theorem c_X12_ruleTold {N : Nat} {S : Nat → Nat × Nat} {I : Nat → Nat → Int32} {J : Nat → Nat → Int64} {Q : Nat → Nat → Option Nat} {κ : Option Value → HP → Prop} {D : Nat → Nat → Int32} {nv nr ns md : Nat} (M : MOD I J D nv nr ns) (hm : D 75 3 = nI md) (hmd : md < 256) {x y : Int32} (k0 : ((∀ j, j < nr → x ≠ nI j) ∨ ¬ inR y 0 8) → κ (some (.int (-1))) (N, S, I, J, Q)) (k1 : ∀ r, r < nr → x = nI r → ∀ w, w < 5 → y = nI w → κ (some (.int (rtS D r w))) (N, S, I, J, Q)) (k2 : ∀ r, r < nr → x = nI r → ∀ w, 5 ≤ w → w ≤ 8 → y = nI w → ∀ I' J', MQu I I' J J' D nv nr ns → κ (some (.int (rtN D nv nr ns md r w))) (N, S, I', J', Q)) : CT E1 M_X12_ruleTold [.ref 54, .int x, .int y] (N, S, I, J, Q) κ := by
  refine ofSP mk_X12_ruleTold (Nat.le_of_ble_eq_true rfl) (L := [.ref 54, .int _, .int _, .retAddr _]) rfl ?_
  refine s_aload_n (pc' := 1) dX12_ruleTold_0 rfl rfl ?_
  refine s_iload_n (pc' := 2) dX12_ruleTold_1 rfl rfl ?_
  refine s_callV (pc' := 5) (As := [.int _]) dX12_ruleTold_2 rfl mk_X12_isRule ml_X12_190 im_X12_isRule se_X12_X12_X12_isRule sh_54 (by decide) rfl rfl rfl ⟨Nat.le_of_ble_eq_true rfl, Nat.le_of_ble_eq_true rfl, Nat.le_of_ble_eq_true rfl, Nat.le_of_ble_eq_true rfl⟩ (Nat.le_of_ble_eq_true rfl) (c_X12_isRule (M.2.1.rn M.1) (by have := M.2.1.nr; omega) (fun j2 hj2 e2 => ?_) (fun n2 => ?_))
  · subst e2
    refine s_ifeqF (pc' := 8) (tgt := 20) dX12_ruleTold_5 (by decide) rfl (by decide) ?_
    refine s_iload_n (pc' := 9) dX12_ruleTold_8 rfl rfl ?_
    refine s_i2l (pc' := 10) dX12_ruleTold_9 rfl ?_
    refine s_lconst (pc' := 11) (v := 0) dX12_ruleTold_10 rfl (by decide) ?_
    refine s_ldc2 (pc' := 14) dX12_ruleTold_11 rfl kl_X12_292 ?_
    refine s_callS (pc' := 17) (As := [.long _, .long _, .long _]) dX12_ruleTold_14 rfl mk_X12_isIn ml_X12_135 sm_X12_isIn rfl rfl ⟨Nat.le_of_ble_eq_true rfl, Nat.le_of_ble_eq_true rfl, Nat.le_of_ble_eq_true rfl, Nat.le_of_ble_eq_true rfl⟩ (Nat.le_of_ble_eq_true rfl) (c_isInR (a' := 0) (b' := 8) rfl rfl (fun i14 => ?_) (fun i14 => ?_))
    · refine s_ifneT (tgt := 22) dX12_ruleTold_17 (by decide) (by decide) ?_
      refine s_aload_n (pc' := 23) dX12_ruleTold_22 rfl rfl ?_
      refine s_getS (pc' := 26) (b := 60) dX12_ruleTold_23 rfl (by decide) rfl (by decide) fa_X12_25_12 rfl rfl ?_
      refine s_iload_n (pc' := 27) dX12_ruleTold_26 rfl rfl ?_
      refine t_iald (pc' := 28) dX12_ruleTold_27 rfl sh_60 rfl (by have := M.2.1.nr; omega) ?_
      refine s_iconst (pc' := 29) (v := 3) dX12_ruleTold_28 rfl (by decide) ?_
      refine s_icmpgt (pc' := 32) (tgt := 36) dX12_ruleTold_29 (by decide) rfl (fun c29 => ?_) (fun c29 => ?_)
      · refine s_iconst (pc' := 37) (v := 0) dX12_ruleTold_36 rfl (by decide) ?_
        refine t_istore_n (pc' := 38) (L' := [.ref 54, .int _, .int _, .int _]) dX12_ruleTold_37 rfl (Nat.le_of_ble_eq_true rfl) rfl ?_
        refine s_iload_n (pc' := 39) dX12_ruleTold_38 rfl rfl ?_
        obtain ⟨kw, hkw, ekw⟩ := in_n (show inR y 0 (8 : Nat) from i14)
        rcases (show kw = 0 ∨ kw = 1 ∨ kw = 2 ∨ kw = 3 ∨ kw = 4 ∨ kw = 5 ∨ kw = 6 ∨ kw = 7 ∨ kw = 8 by omega) with e6 | e6 | e6 | e6 | e6 | e6 | e6 | e6 | e6
        · rw [e6] at ekw
          refine s_tabIn (tgt := 84) (off := 45) dX12_ruleTold_39 (by rw [ekw]; decide) (by rw [ekw]; decide) (by rw [ekw]; rfl) (by decide) ?_
          refine s_aload_n (pc' := 85) dX12_ruleTold_84 rfl rfl ?_
          refine s_getS (pc' := 88) (b := 60) dX12_ruleTold_85 rfl (by decide) rfl (by decide) fa_X12_25_12 rfl rfl ?_
          refine s_iload_n (pc' := 89) dX12_ruleTold_88 rfl rfl ?_
          refine t_iald (pc' := 90) dX12_ruleTold_89 rfl sh_60 rfl (by have := M.2.1.nr; omega) ?_
          exact s_iret dX12_ruleTold_90 rfl (by decide) (by decide) (by rw [M.1 60 (by decide) (by decide)]; exact k1 j2 hj2 rfl 0 (by decide) ekw)
        · rw [e6] at ekw
          refine s_tabIn (tgt := 91) (off := 52) dX12_ruleTold_39 (by rw [ekw]; decide) (by rw [ekw]; decide) (by rw [ekw]; rfl) (by decide) ?_
          refine s_aload_n (pc' := 92) dX12_ruleTold_91 rfl rfl ?_
          refine s_getS (pc' := 95) (b := 61) dX12_ruleTold_92 rfl (by decide) rfl (by decide) fa_X12_28_12 rfl rfl ?_
          refine s_iload_n (pc' := 96) dX12_ruleTold_95 rfl rfl ?_
          refine t_iald (pc' := 97) dX12_ruleTold_96 rfl sh_61 rfl (by have := M.2.1.nr; omega) ?_
          exact s_iret dX12_ruleTold_97 rfl (by decide) (by decide) (by rw [M.1 61 (by decide) (by decide)]; exact k1 j2 hj2 rfl 1 (by decide) ekw)
        · rw [e6] at ekw
          refine s_tabIn (tgt := 98) (off := 59) dX12_ruleTold_39 (by rw [ekw]; decide) (by rw [ekw]; decide) (by rw [ekw]; rfl) (by decide) ?_
          refine s_aload_n (pc' := 99) dX12_ruleTold_98 rfl rfl ?_
          refine s_getS (pc' := 102) (b := 62) dX12_ruleTold_99 rfl (by decide) rfl (by decide) fa_X12_31_12 rfl rfl ?_
          refine s_iload_n (pc' := 103) dX12_ruleTold_102 rfl rfl ?_
          refine t_iald (pc' := 104) dX12_ruleTold_103 rfl sh_62 rfl (by have := M.2.1.nr; omega) ?_
          exact s_iret dX12_ruleTold_104 rfl (by decide) (by decide) (by rw [M.1 62 (by decide) (by decide)]; exact k1 j2 hj2 rfl 2 (by decide) ekw)
        · rw [e6] at ekw
          refine s_tabIn (tgt := 105) (off := 66) dX12_ruleTold_39 (by rw [ekw]; decide) (by rw [ekw]; decide) (by rw [ekw]; rfl) (by decide) ?_
          refine s_aload_n (pc' := 106) dX12_ruleTold_105 rfl rfl ?_
          refine s_getS (pc' := 109) (b := 63) dX12_ruleTold_106 rfl (by decide) rfl (by decide) fa_X12_34_12 rfl rfl ?_
          refine s_iload_n (pc' := 110) dX12_ruleTold_109 rfl rfl ?_
          refine t_iald (pc' := 111) dX12_ruleTold_110 rfl sh_63 rfl (by have := M.2.1.nr; omega) ?_
          exact s_iret dX12_ruleTold_111 rfl (by decide) (by decide) (by rw [M.1 63 (by decide) (by decide)]; exact k1 j2 hj2 rfl 3 (by decide) ekw)
        · rw [e6] at ekw
          refine s_tabIn (tgt := 112) (off := 73) dX12_ruleTold_39 (by rw [ekw]; decide) (by rw [ekw]; decide) (by rw [ekw]; rfl) (by decide) ?_
          refine s_aload_n (pc' := 113) dX12_ruleTold_112 rfl rfl ?_
          refine s_getS (pc' := 116) (b := 64) dX12_ruleTold_113 rfl (by decide) rfl (by decide) fa_X12_37_12 rfl rfl ?_
          refine s_iload_n (pc' := 117) dX12_ruleTold_116 rfl rfl ?_
          refine t_iald (pc' := 118) dX12_ruleTold_117 rfl sh_64 rfl (by have := M.2.1.nr; omega) ?_
          exact s_iret dX12_ruleTold_118 rfl (by decide) (by decide) (by rw [M.1 64 (by decide) (by decide)]; exact k1 j2 hj2 rfl 4 (by decide) ekw)
        · rw [e6] at ekw
          refine s_tabIn (tgt := 119) (off := 80) dX12_ruleTold_39 (by rw [ekw]; decide) (by rw [ekw]; decide) (by rw [ekw]; rfl) (by decide) ?_
          refine s_aload_n (pc' := 120) dX12_ruleTold_119 rfl rfl ?_
          refine s_callV (pc' := 123) (As := []) dX12_ruleTold_120 rfl mk_X12_layNow ml_X12_284 im_X12_layNow se_X12_X12_X12_layNow sh_54 (by decide) rfl rfl rfl ⟨Nat.le_of_ble_eq_true rfl, Nat.le_of_ble_eq_true rfl, Nat.le_of_ble_eq_true rfl, Nat.le_of_ble_eq_true rfl⟩ (Nat.le_of_ble_eq_true rfl) (c_X12_layNow M hm hmd (fun I1 J1 h1 => ?_))
          have hg := h1.gs M hmd
          refine s_aload_n (pc' := 124) dX12_ruleTold_123 rfl rfl ?_
          refine s_iload_n (pc' := 125) dX12_ruleTold_124 rfl rfl ?_
          refine s_callV (pc' := 128) (As := [.int _]) dX12_ruleTold_125 rfl mk_X12_isThere ml_X12_231 im_X12_isThere se_X12_X12_X12_isThere sh_54 (by decide) rfl rfl rfl ⟨Nat.le_of_ble_eq_true rfl, Nat.le_of_ble_eq_true rfl, Nat.le_of_ble_eq_true rfl, Nat.le_of_ble_eq_true rfl⟩ (Nat.le_of_ble_eq_true rfl) (c_X12_isThere h1.2.1.1 (fun t125 => ?_) (fun t125 => ?_))
          · rw [h1.2.1.2] at t125
            refine s_ifeqF (pc' := 131) (tgt := 135) dX12_ruleTold_128 (by decide) rfl (by decide) ?_
            refine s_iconst (pc' := 132) (v := 1) dX12_ruleTold_131 rfl (by decide) ?_
            refine s_goto (tgt := 136) dX12_ruleTold_132 (by decide) ?_
            exact s_iret dX12_ruleTold_136 rfl (by decide) (by decide) (by
    have q := k2 j2 hj2 rfl 5 (by decide) (by decide) ekw I1 J1 h1.mq
    unfold rtN at q
    rw [if_pos rfl, decide_eq_true t125] at q
    exact q)
          · rw [h1.2.1.2] at t125
            refine s_ifeqT (tgt := 135) dX12_ruleTold_128 (by decide) (by decide) ?_
            refine s_iconst (pc' := 136) (v := 0) dX12_ruleTold_135 rfl (by decide) ?_
            exact s_iret dX12_ruleTold_136 rfl (by decide) (by decide) (by
    have q := k2 j2 hj2 rfl 5 (by decide) (by decide) ekw I1 J1 h1.mq
    unfold rtN at q
    rw [if_pos rfl, decide_eq_false t125] at q
    exact q)
        · rw [e6] at ekw
          refine s_tabIn (tgt := 137) (off := 98) dX12_ruleTold_39 (by rw [ekw]; decide) (by rw [ekw]; decide) (by rw [ekw]; rfl) (by decide) ?_
          refine s_aload_n (pc' := 138) dX12_ruleTold_137 rfl rfl ?_
          refine s_callV (pc' := 141) (As := []) dX12_ruleTold_138 rfl mk_X12_layNow ml_X12_284 im_X12_layNow se_X12_X12_X12_layNow sh_54 (by decide) rfl rfl rfl ⟨Nat.le_of_ble_eq_true rfl, Nat.le_of_ble_eq_true rfl, Nat.le_of_ble_eq_true rfl, Nat.le_of_ble_eq_true rfl⟩ (Nat.le_of_ble_eq_true rfl) (c_X12_layNow M hm hmd (fun I1 J1 h1 => ?_))
          have hg := h1.gs M hmd
          refine s_aload_n (pc' := 142) dX12_ruleTold_141 rfl rfl ?_
          refine s_iload_n (pc' := 143) dX12_ruleTold_142 rfl rfl ?_
          refine s_callV (pc' := 146) (As := [.int _]) dX12_ruleTold_143 rfl mk_X12_holds ml_X12_234 im_X12_holds se_X12_X12_X12_holds sh_54 (by decide) rfl rfl rfl ⟨Nat.le_of_ble_eq_true rfl, Nat.le_of_ble_eq_true rfl, Nat.le_of_ble_eq_true rfl, Nat.le_of_ble_eq_true rfl⟩ (Nat.le_of_ble_eq_true rfl) (c_X12_holds h1.2.1.1 (r := j2) hj2 (fun h143 => ?_) (fun h143 => ?_))
          · refine s_ifeqF (pc' := 149) (tgt := 153) dX12_ruleTold_146 (by decide) rfl (by decide) ?_
            refine s_iconst (pc' := 150) (v := 1) dX12_ruleTold_149 rfl (by decide) ?_
            refine s_goto (tgt := 154) dX12_ruleTold_150 (by decide) ?_
            exact s_iret dX12_ruleTold_154 rfl (by decide) (by decide) (by
    have q := k2 j2 hj2 rfl 6 (by decide) (by decide) ekw I1 J1 h1.mq
    unfold rtN at q
    rw [if_neg (by decide), if_pos rfl, hB_gg (g := gS D nv nr ns md) (g' := gM J1 md) M.2.1 (fun u hu => (hg u hu).symm) hj2, h143] at q
    exact q)
          · refine s_ifeqT (tgt := 153) dX12_ruleTold_146 (by decide) (by decide) ?_
            refine s_iconst (pc' := 154) (v := 0) dX12_ruleTold_153 rfl (by decide) ?_
            exact s_iret dX12_ruleTold_154 rfl (by decide) (by decide) (by
    have q := k2 j2 hj2 rfl 6 (by decide) (by decide) ekw I1 J1 h1.mq
    unfold rtN at q
    rw [if_neg (by decide), if_pos rfl, hB_gg (g := gS D nv nr ns md) (g' := gM J1 md) M.2.1 (fun u hu => (hg u hu).symm) hj2, h143] at q
    exact q)
        · rw [e6] at ekw
          refine s_tabIn (tgt := 155) (off := 116) dX12_ruleTold_39 (by rw [ekw]; decide) (by rw [ekw]; decide) (by rw [ekw]; rfl) (by decide) ?_
          refine s_aload_n (pc' := 156) dX12_ruleTold_155 rfl rfl ?_
          refine s_callV (pc' := 159) (As := []) dX12_ruleTold_156 rfl mk_X12_layNow ml_X12_284 im_X12_layNow se_X12_X12_X12_layNow sh_54 (by decide) rfl rfl rfl ⟨Nat.le_of_ble_eq_true rfl, Nat.le_of_ble_eq_true rfl, Nat.le_of_ble_eq_true rfl, Nat.le_of_ble_eq_true rfl⟩ (Nat.le_of_ble_eq_true rfl) (c_X12_layNow M hm hmd (fun I1 J1 h1 => ?_))
          have hg := h1.gs M hmd
          refine s_iload_n (pc' := 160) dX12_ruleTold_159 rfl rfl ?_
          refine s_ifeqT (tgt := 172) dX12_ruleTold_160 (by decide) (by decide) ?_
          refine s_iconst (pc' := 173) (v := -1) dX12_ruleTold_172 rfl (by decide) ?_
          exact s_iret dX12_ruleTold_173 rfl (by decide) (by decide) (by
    have q := k2 j2 hj2 rfl 7 (by decide) (by decide) ekw I1 J1 h1.mq
    unfold rtN at q
    rw [M.1 60 (by decide) (by decide)] at c29
    rw [if_neg (by decide), if_neg (by decide), if_neg (Int32.not_le.mpr c29)] at q
    exact q)
        · rw [e6] at ekw
          refine s_tabOut (tgt := 174) dX12_ruleTold_39 (by rw [ekw]; decide) (by decide) ?_
          refine s_aload_n (pc' := 175) dX12_ruleTold_174 rfl rfl ?_
          refine s_callV (pc' := 178) (As := []) dX12_ruleTold_175 rfl mk_X12_layNow ml_X12_284 im_X12_layNow se_X12_X12_X12_layNow sh_54 (by decide) rfl rfl rfl ⟨Nat.le_of_ble_eq_true rfl, Nat.le_of_ble_eq_true rfl, Nat.le_of_ble_eq_true rfl, Nat.le_of_ble_eq_true rfl⟩ (Nat.le_of_ble_eq_true rfl) (c_X12_layNow M hm hmd (fun I1 J1 h1 => ?_))
          have hg := h1.gs M hmd
          refine s_iload_n (pc' := 179) dX12_ruleTold_178 rfl rfl ?_
          refine s_ifeqT (tgt := 191) dX12_ruleTold_179 (by decide) (by decide) ?_
          refine s_iconst (pc' := 192) (v := -1) dX12_ruleTold_191 rfl (by decide) ?_
          exact s_iret dX12_ruleTold_192 rfl (by decide) (by decide) (by
    have q := k2 j2 hj2 rfl 8 (by decide) (by decide) ekw I1 J1 h1.mq
    unfold rtN at q
    rw [M.1 60 (by decide) (by decide)] at c29
    rw [if_neg (by decide), if_neg (by decide), if_neg (Int32.not_le.mpr c29)] at q
    exact q)
      · refine s_iconst (pc' := 33) (v := 1) dX12_ruleTold_32 rfl (by decide) ?_
        refine s_goto (tgt := 37) dX12_ruleTold_33 (by decide) ?_
        refine t_istore_n (pc' := 38) (L' := [.ref 54, .int _, .int _, .int _]) dX12_ruleTold_37 rfl (Nat.le_of_ble_eq_true rfl) rfl ?_
        refine s_iload_n (pc' := 39) dX12_ruleTold_38 rfl rfl ?_
        obtain ⟨kw, hkw, ekw⟩ := in_n (show inR y 0 (8 : Nat) from i14)
        rcases (show kw = 0 ∨ kw = 1 ∨ kw = 2 ∨ kw = 3 ∨ kw = 4 ∨ kw = 5 ∨ kw = 6 ∨ kw = 7 ∨ kw = 8 by omega) with e6 | e6 | e6 | e6 | e6 | e6 | e6 | e6 | e6
        · rw [e6] at ekw
          refine s_tabIn (tgt := 84) (off := 45) dX12_ruleTold_39 (by rw [ekw]; decide) (by rw [ekw]; decide) (by rw [ekw]; rfl) (by decide) ?_
          refine s_aload_n (pc' := 85) dX12_ruleTold_84 rfl rfl ?_
          refine s_getS (pc' := 88) (b := 60) dX12_ruleTold_85 rfl (by decide) rfl (by decide) fa_X12_25_12 rfl rfl ?_
          refine s_iload_n (pc' := 89) dX12_ruleTold_88 rfl rfl ?_
          refine t_iald (pc' := 90) dX12_ruleTold_89 rfl sh_60 rfl (by have := M.2.1.nr; omega) ?_
          exact s_iret dX12_ruleTold_90 rfl (by decide) (by decide) (by rw [M.1 60 (by decide) (by decide)]; exact k1 j2 hj2 rfl 0 (by decide) ekw)
        · rw [e6] at ekw
          refine s_tabIn (tgt := 91) (off := 52) dX12_ruleTold_39 (by rw [ekw]; decide) (by rw [ekw]; decide) (by rw [ekw]; rfl) (by decide) ?_
          refine s_aload_n (pc' := 92) dX12_ruleTold_91 rfl rfl ?_
          refine s_getS (pc' := 95) (b := 61) dX12_ruleTold_92 rfl (by decide) rfl (by decide) fa_X12_28_12 rfl rfl ?_
          refine s_iload_n (pc' := 96) dX12_ruleTold_95 rfl rfl ?_
          refine t_iald (pc' := 97) dX12_ruleTold_96 rfl sh_61 rfl (by have := M.2.1.nr; omega) ?_
          exact s_iret dX12_ruleTold_97 rfl (by decide) (by decide) (by rw [M.1 61 (by decide) (by decide)]; exact k1 j2 hj2 rfl 1 (by decide) ekw)
        · rw [e6] at ekw
          refine s_tabIn (tgt := 98) (off := 59) dX12_ruleTold_39 (by rw [ekw]; decide) (by rw [ekw]; decide) (by rw [ekw]; rfl) (by decide) ?_
          refine s_aload_n (pc' := 99) dX12_ruleTold_98 rfl rfl ?_
          refine s_getS (pc' := 102) (b := 62) dX12_ruleTold_99 rfl (by decide) rfl (by decide) fa_X12_31_12 rfl rfl ?_
          refine s_iload_n (pc' := 103) dX12_ruleTold_102 rfl rfl ?_
          refine t_iald (pc' := 104) dX12_ruleTold_103 rfl sh_62 rfl (by have := M.2.1.nr; omega) ?_
          exact s_iret dX12_ruleTold_104 rfl (by decide) (by decide) (by rw [M.1 62 (by decide) (by decide)]; exact k1 j2 hj2 rfl 2 (by decide) ekw)
        · rw [e6] at ekw
          refine s_tabIn (tgt := 105) (off := 66) dX12_ruleTold_39 (by rw [ekw]; decide) (by rw [ekw]; decide) (by rw [ekw]; rfl) (by decide) ?_
          refine s_aload_n (pc' := 106) dX12_ruleTold_105 rfl rfl ?_
          refine s_getS (pc' := 109) (b := 63) dX12_ruleTold_106 rfl (by decide) rfl (by decide) fa_X12_34_12 rfl rfl ?_
          refine s_iload_n (pc' := 110) dX12_ruleTold_109 rfl rfl ?_
          refine t_iald (pc' := 111) dX12_ruleTold_110 rfl sh_63 rfl (by have := M.2.1.nr; omega) ?_
          exact s_iret dX12_ruleTold_111 rfl (by decide) (by decide) (by rw [M.1 63 (by decide) (by decide)]; exact k1 j2 hj2 rfl 3 (by decide) ekw)
        · rw [e6] at ekw
          refine s_tabIn (tgt := 112) (off := 73) dX12_ruleTold_39 (by rw [ekw]; decide) (by rw [ekw]; decide) (by rw [ekw]; rfl) (by decide) ?_
          refine s_aload_n (pc' := 113) dX12_ruleTold_112 rfl rfl ?_
          refine s_getS (pc' := 116) (b := 64) dX12_ruleTold_113 rfl (by decide) rfl (by decide) fa_X12_37_12 rfl rfl ?_
          refine s_iload_n (pc' := 117) dX12_ruleTold_116 rfl rfl ?_
          refine t_iald (pc' := 118) dX12_ruleTold_117 rfl sh_64 rfl (by have := M.2.1.nr; omega) ?_
          exact s_iret dX12_ruleTold_118 rfl (by decide) (by decide) (by rw [M.1 64 (by decide) (by decide)]; exact k1 j2 hj2 rfl 4 (by decide) ekw)
        · rw [e6] at ekw
          refine s_tabIn (tgt := 119) (off := 80) dX12_ruleTold_39 (by rw [ekw]; decide) (by rw [ekw]; decide) (by rw [ekw]; rfl) (by decide) ?_
          refine s_aload_n (pc' := 120) dX12_ruleTold_119 rfl rfl ?_
          refine s_callV (pc' := 123) (As := []) dX12_ruleTold_120 rfl mk_X12_layNow ml_X12_284 im_X12_layNow se_X12_X12_X12_layNow sh_54 (by decide) rfl rfl rfl ⟨Nat.le_of_ble_eq_true rfl, Nat.le_of_ble_eq_true rfl, Nat.le_of_ble_eq_true rfl, Nat.le_of_ble_eq_true rfl⟩ (Nat.le_of_ble_eq_true rfl) (c_X12_layNow M hm hmd (fun I1 J1 h1 => ?_))
          have hg := h1.gs M hmd
          refine s_aload_n (pc' := 124) dX12_ruleTold_123 rfl rfl ?_
          refine s_iload_n (pc' := 125) dX12_ruleTold_124 rfl rfl ?_
          refine s_callV (pc' := 128) (As := [.int _]) dX12_ruleTold_125 rfl mk_X12_isThere ml_X12_231 im_X12_isThere se_X12_X12_X12_isThere sh_54 (by decide) rfl rfl rfl ⟨Nat.le_of_ble_eq_true rfl, Nat.le_of_ble_eq_true rfl, Nat.le_of_ble_eq_true rfl, Nat.le_of_ble_eq_true rfl⟩ (Nat.le_of_ble_eq_true rfl) (c_X12_isThere h1.2.1.1 (fun t125 => ?_) (fun t125 => ?_))
          · rw [h1.2.1.2] at t125
            refine s_ifeqF (pc' := 131) (tgt := 135) dX12_ruleTold_128 (by decide) rfl (by decide) ?_
            refine s_iconst (pc' := 132) (v := 1) dX12_ruleTold_131 rfl (by decide) ?_
            refine s_goto (tgt := 136) dX12_ruleTold_132 (by decide) ?_
            exact s_iret dX12_ruleTold_136 rfl (by decide) (by decide) (by
    have q := k2 j2 hj2 rfl 5 (by decide) (by decide) ekw I1 J1 h1.mq
    unfold rtN at q
    rw [if_pos rfl, decide_eq_true t125] at q
    exact q)
          · rw [h1.2.1.2] at t125
            refine s_ifeqT (tgt := 135) dX12_ruleTold_128 (by decide) (by decide) ?_
            refine s_iconst (pc' := 136) (v := 0) dX12_ruleTold_135 rfl (by decide) ?_
            exact s_iret dX12_ruleTold_136 rfl (by decide) (by decide) (by
    have q := k2 j2 hj2 rfl 5 (by decide) (by decide) ekw I1 J1 h1.mq
    unfold rtN at q
    rw [if_pos rfl, decide_eq_false t125] at q
    exact q)
        · rw [e6] at ekw
          refine s_tabIn (tgt := 137) (off := 98) dX12_ruleTold_39 (by rw [ekw]; decide) (by rw [ekw]; decide) (by rw [ekw]; rfl) (by decide) ?_
          refine s_aload_n (pc' := 138) dX12_ruleTold_137 rfl rfl ?_
          refine s_callV (pc' := 141) (As := []) dX12_ruleTold_138 rfl mk_X12_layNow ml_X12_284 im_X12_layNow se_X12_X12_X12_layNow sh_54 (by decide) rfl rfl rfl ⟨Nat.le_of_ble_eq_true rfl, Nat.le_of_ble_eq_true rfl, Nat.le_of_ble_eq_true rfl, Nat.le_of_ble_eq_true rfl⟩ (Nat.le_of_ble_eq_true rfl) (c_X12_layNow M hm hmd (fun I1 J1 h1 => ?_))
          have hg := h1.gs M hmd
          refine s_aload_n (pc' := 142) dX12_ruleTold_141 rfl rfl ?_
          refine s_iload_n (pc' := 143) dX12_ruleTold_142 rfl rfl ?_
          refine s_callV (pc' := 146) (As := [.int _]) dX12_ruleTold_143 rfl mk_X12_holds ml_X12_234 im_X12_holds se_X12_X12_X12_holds sh_54 (by decide) rfl rfl rfl ⟨Nat.le_of_ble_eq_true rfl, Nat.le_of_ble_eq_true rfl, Nat.le_of_ble_eq_true rfl, Nat.le_of_ble_eq_true rfl⟩ (Nat.le_of_ble_eq_true rfl) (c_X12_holds h1.2.1.1 (r := j2) hj2 (fun h143 => ?_) (fun h143 => ?_))
          · refine s_ifeqF (pc' := 149) (tgt := 153) dX12_ruleTold_146 (by decide) rfl (by decide) ?_
            refine s_iconst (pc' := 150) (v := 1) dX12_ruleTold_149 rfl (by decide) ?_
            refine s_goto (tgt := 154) dX12_ruleTold_150 (by decide) ?_
            exact s_iret dX12_ruleTold_154 rfl (by decide) (by decide) (by
    have q := k2 j2 hj2 rfl 6 (by decide) (by decide) ekw I1 J1 h1.mq
    unfold rtN at q
    rw [if_neg (by decide), if_pos rfl, hB_gg (g := gS D nv nr ns md) (g' := gM J1 md) M.2.1 (fun u hu => (hg u hu).symm) hj2, h143] at q
    exact q)
          · refine s_ifeqT (tgt := 153) dX12_ruleTold_146 (by decide) (by decide) ?_
            refine s_iconst (pc' := 154) (v := 0) dX12_ruleTold_153 rfl (by decide) ?_
            exact s_iret dX12_ruleTold_154 rfl (by decide) (by decide) (by
    have q := k2 j2 hj2 rfl 6 (by decide) (by decide) ekw I1 J1 h1.mq
    unfold rtN at q
    rw [if_neg (by decide), if_pos rfl, hB_gg (g := gS D nv nr ns md) (g' := gM J1 md) M.2.1 (fun u hu => (hg u hu).symm) hj2, h143] at q
    exact q)
        · rw [e6] at ekw
          refine s_tabIn (tgt := 155) (off := 116) dX12_ruleTold_39 (by rw [ekw]; decide) (by rw [ekw]; decide) (by rw [ekw]; rfl) (by decide) ?_
          refine s_aload_n (pc' := 156) dX12_ruleTold_155 rfl rfl ?_
          refine s_callV (pc' := 159) (As := []) dX12_ruleTold_156 rfl mk_X12_layNow ml_X12_284 im_X12_layNow se_X12_X12_X12_layNow sh_54 (by decide) rfl rfl rfl ⟨Nat.le_of_ble_eq_true rfl, Nat.le_of_ble_eq_true rfl, Nat.le_of_ble_eq_true rfl, Nat.le_of_ble_eq_true rfl⟩ (Nat.le_of_ble_eq_true rfl) (c_X12_layNow M hm hmd (fun I1 J1 h1 => ?_))
          have hg := h1.gs M hmd
          refine s_iload_n (pc' := 160) dX12_ruleTold_159 rfl rfl ?_
          refine s_ifeqF (pc' := 163) (tgt := 172) dX12_ruleTold_160 (by decide) rfl (by decide) ?_
          refine s_aload_n (pc' := 164) dX12_ruleTold_163 rfl rfl ?_
          refine s_getS (pc' := 167) (b := 84) dX12_ruleTold_164 rfl (by decide) rfl (by decide) fa_X12_99_12 rfl rfl ?_
          refine s_iload_n (pc' := 168) dX12_ruleTold_167 rfl rfl ?_
          refine t_iald (pc' := 169) dX12_ruleTold_168 rfl sh_84 rfl (by have := M.2.1.nr; omega) ?_
          refine s_goto (tgt := 173) dX12_ruleTold_169 (by decide) ?_
          exact s_iret dX12_ruleTold_173 rfl (by decide) (by decide) (by
    have q := k2 j2 hj2 rfl 7 (by decide) (by decide) ekw I1 J1 h1.mq
    unfold rtN at q
    rw [M.1 60 (by decide) (by decide)] at c29
    have h3 : D 60 j2 ≤ 3 := Int32.not_lt.mp c29
    obtain ⟨aa, ha1, ha2⟩ := M.2.1.aim hj2 (DA.rf (I := D)) h3
    have hn10 := M.2.1.nv
    have z := ((h1.2.2 aa ha1).gs M.2.1 hg).1 j2 hj2 (by simp only [kvB, Bool.and_eq_true, decide_eq_true_eq]; exact ⟨h3, ha2⟩)
    rw [if_neg (by decide), if_neg (by decide), if_pos h3, ha2, nI_clamp (by omega), if_pos rfl] at q
    rw [z.1]
    exact q)
        · rw [e6] at ekw
          refine s_tabOut (tgt := 174) dX12_ruleTold_39 (by rw [ekw]; decide) (by decide) ?_
          refine s_aload_n (pc' := 175) dX12_ruleTold_174 rfl rfl ?_
          refine s_callV (pc' := 178) (As := []) dX12_ruleTold_175 rfl mk_X12_layNow ml_X12_284 im_X12_layNow se_X12_X12_X12_layNow sh_54 (by decide) rfl rfl rfl ⟨Nat.le_of_ble_eq_true rfl, Nat.le_of_ble_eq_true rfl, Nat.le_of_ble_eq_true rfl, Nat.le_of_ble_eq_true rfl⟩ (Nat.le_of_ble_eq_true rfl) (c_X12_layNow M hm hmd (fun I1 J1 h1 => ?_))
          have hg := h1.gs M hmd
          refine s_iload_n (pc' := 179) dX12_ruleTold_178 rfl rfl ?_
          refine s_ifeqF (pc' := 182) (tgt := 191) dX12_ruleTold_179 (by decide) rfl (by decide) ?_
          refine s_aload_n (pc' := 183) dX12_ruleTold_182 rfl rfl ?_
          refine s_getS (pc' := 186) (b := 85) dX12_ruleTold_183 rfl (by decide) rfl (by decide) fa_X12_102_12 rfl rfl ?_
          refine s_iload_n (pc' := 187) dX12_ruleTold_186 rfl rfl ?_
          refine t_iald (pc' := 188) dX12_ruleTold_187 rfl sh_85 rfl (by have := M.2.1.nr; omega) ?_
          refine s_goto (tgt := 192) dX12_ruleTold_188 (by decide) ?_
          exact s_iret dX12_ruleTold_192 rfl (by decide) (by decide) (by
    have q := k2 j2 hj2 rfl 8 (by decide) (by decide) ekw I1 J1 h1.mq
    unfold rtN at q
    rw [M.1 60 (by decide) (by decide)] at c29
    have h3 : D 60 j2 ≤ 3 := Int32.not_lt.mp c29
    obtain ⟨aa, ha1, ha2⟩ := M.2.1.aim hj2 (DA.rf (I := D)) h3
    have hn10 := M.2.1.nv
    have z := ((h1.2.2 aa ha1).gs M.2.1 hg).1 j2 hj2 (by simp only [kvB, Bool.and_eq_true, decide_eq_true_eq]; exact ⟨h3, ha2⟩)
    rw [if_neg (by decide), if_neg (by decide), if_pos h3, ha2, nI_clamp (by omega), if_neg (by decide)] at q
    rw [z.2]
    exact q)
    · refine s_ifneF (pc' := 20) (tgt := 22) dX12_ruleTold_17 (by decide) rfl (by decide) ?_
      refine s_iconst (pc' := 21) (v := -1) dX12_ruleTold_20 rfl (by decide) ?_
      exact s_iret dX12_ruleTold_21 rfl (by decide) (by decide) (k0 (Or.inr i14))
  · refine s_ifeqT (tgt := 20) dX12_ruleTold_5 (by decide) (by decide) ?_
    refine s_iconst (pc' := 21) (v := -1) dX12_ruleTold_20 rfl (by decide) ?_
    exact s_iret dX12_ruleTold_21 rfl (by decide) (by decide) (k0 (Or.inl n2))
theorem out8 {x : Int32} {n : Nat} (h : ¬ inR x 0 n) : x.toInt < 0 ∨ (n : Int) < x.toInt := by
  unfold inR at h; omega
theorem l_X12_count1 {N : Nat} {S : Nat → Nat × Nat} {I : Nat → Nat → Int32} {J : Nat → Nat → Int64} {Q : Nat → Nat → Option Nat} {κ : Option Value → HP → Prop} {D : Nat → Nat → Int32} {nv nr ns : Nat} (M : MOD I J D nv nr ns) {x : Int32} (hk : κ (some (.int (cGt (D 74) (D 75 6) ns))) (N, S, I, J, Q)) : ∀ d : Nat, ∀ k, k + d = ns → SP E1 M_X12_count κ 61 [.ref 54, .int x, .int (cGt (D 74) (D 75 6) k), .int (nI k)] [] (N, S, I, J, Q) 0 0 := by
  intro d
  induction d with
  | zero =>
    intro k hd
    obtain rfl : k = ns := by omega
    refine s_iload_n (pc' := 62) dX12_count_61 rfl rfl ?_
    refine s_aload_n (pc' := 63) dX12_count_62 rfl rfl ?_
    refine s_getS (pc' := 66) (b := 75) dX12_count_63 rfl (by decide) rfl (by decide) fa_X12_70_12 rfl rfl ?_
    refine s_iconst (pc' := 67) (v := 2) dX12_count_66 rfl (by decide) ?_
    refine t_iald (pc' := 68) (q := 2) dX12_count_67 rfl sh_75 rfl (by decide) ?_
    refine s_icmpgeT (tgt := 101) dX12_count_68 (by decide) (by rw [M.2.1.sn M.1]; exact nI_le (Nat.le_refl _) (by have := M.2.1.ns; omega)) ?_
    refine s_iload_n (pc' := 102) dX12_count_101 rfl rfl ?_
    exact s_iret dX12_count_102 rfl (by decide) (by decide) hk
  | succ d ih =>
    intro k hd
    have hn10 := M.2.1.ns
    refine s_iload_n (pc' := 62) dX12_count_61 rfl rfl ?_
    refine s_aload_n (pc' := 63) dX12_count_62 rfl rfl ?_
    refine s_getS (pc' := 66) (b := 75) dX12_count_63 rfl (by decide) rfl (by decide) fa_X12_70_12 rfl rfl ?_
    refine s_iconst (pc' := 67) (v := 2) dX12_count_66 rfl (by decide) ?_
    refine t_iald (pc' := 68) (q := 2) dX12_count_67 rfl sh_75 rfl (by decide) ?_
    refine s_icmpgeF (pc' := 71) (tgt := 101) dX12_count_68 (by decide) rfl (by rw [M.2.1.sn M.1]; exact nI_ge (by omega) (by omega)) ?_
    refine s_iload_n (pc' := 72) dX12_count_71 rfl rfl ?_
    refine s_aload_n (pc' := 73) dX12_count_72 rfl rfl ?_
    refine s_getS (pc' := 76) (b := 74) dX12_count_73 rfl (by decide) rfl (by decide) fa_X12_67_12 rfl rfl ?_
    refine s_iload_n (pc' := 77) dX12_count_76 rfl rfl ?_
    refine t_iald (pc' := 78) dX12_count_77 rfl sh_74 rfl (by omega) ?_
    refine s_aload_n (pc' := 79) dX12_count_78 rfl rfl ?_
    refine s_getS (pc' := 82) (b := 75) dX12_count_79 rfl (by decide) rfl (by decide) fa_X12_70_12 rfl rfl ?_
    refine s_bipush (pc' := 84) (v := 6) dX12_count_82 rfl (by decide) ?_
    refine t_iald (pc' := 85) (q := 6) dX12_count_84 rfl sh_75 rfl (by decide) ?_
    refine s_icmple (pc' := 88) (tgt := 92) dX12_count_85 (by decide) rfl (fun c85 => ?_) (fun c85 => ?_)
    · refine s_iconst (pc' := 93) (v := 0) dX12_count_92 rfl (by decide) ?_
      refine s_iadd (pc' := 94) dX12_count_93 rfl ?_
      refine t_istore_n (pc' := 95) (L' := [.ref 54, .int _, .int _, .int _]) dX12_count_94 rfl (Nat.le_of_ble_eq_true rfl) rfl ?_
      refine t_iinc (pc' := 98) (v := nI (k + 1)) (L' := [.ref 54, .int _, .int _, .int _]) dX12_count_95 rfl rfl (nI_inc k) rfl ?_
      refine s_goto (tgt := 61) dX12_count_98 (by decide) ?_
      rw [M.1 74 (by decide) (by decide), M.1 75 (by decide) (by decide)] at c85
      refine s_eq ?_ rfl rfl (ih (k + 1) (by omega))
      rw [cGt, if_neg (Int32.not_lt.mpr c85)]
    · refine s_iconst (pc' := 89) (v := 1) dX12_count_88 rfl (by decide) ?_
      refine s_goto (tgt := 93) dX12_count_89 (by decide) ?_
      refine s_iadd (pc' := 94) dX12_count_93 rfl ?_
      refine t_istore_n (pc' := 95) (L' := [.ref 54, .int _, .int _, .int _]) dX12_count_94 rfl (Nat.le_of_ble_eq_true rfl) rfl ?_
      refine t_iinc (pc' := 98) (v := nI (k + 1)) (L' := [.ref 54, .int _, .int _, .int _]) dX12_count_95 rfl rfl (nI_inc k) rfl ?_
      refine s_goto (tgt := 61) dX12_count_98 (by decide) ?_
      rw [M.1 74 (by decide) (by decide), M.1 75 (by decide) (by decide)] at c85
      refine s_eq ?_ rfl rfl (ih (k + 1) (by omega))
      rw [cGt, if_pos (Int32.not_le.mp c85)]
theorem l_X12_count2 {N : Nat} {S : Nat → Nat × Nat} {I : Nat → Nat → Int32} {J : Nat → Nat → Int64} {Q : Nat → Nat → Option Nat} {κ : Option Value → HP → Prop} {D : Nat → Nat → Int32} {nv nr ns : Nat} (G1 : LDG I J D nv nr ns) {x : Int32} (hk : κ (some (.int (cZ (LW D nv nr ns) 256))) (N, S, I, J, Q)) : ∀ d : Nat, ∀ k, k + d = 256 → SP E1 M_X12_count κ 124 [.ref 54, .int x, .int (cZ (LW D nv nr ns) k), .int (nI k)] [] (N, S, I, J, Q) 0 0 := by
  intro d
  induction d with
  | zero =>
    intro k hd
    obtain rfl : k = 256 := by omega
    refine s_iload_n (pc' := 125) dX12_count_124 rfl rfl ?_
    refine s_sipush (pc' := 128) (v := 256) dX12_count_125 rfl (by decide) ?_
    refine s_icmpgeT (tgt := 154) dX12_count_128 (by decide) (by decide) ?_
    refine s_iload_n (pc' := 155) dX12_count_154 rfl rfl ?_
    exact s_iret dX12_count_155 rfl (by decide) (by decide) hk
  | succ d ih =>
    intro k hd
    refine s_iload_n (pc' := 125) dX12_count_124 rfl rfl ?_
    refine s_sipush (pc' := 128) (v := 256) dX12_count_125 rfl (by decide) ?_
    refine s_icmpgeF (pc' := 131) (tgt := 154) dX12_count_128 (by decide) rfl (nI_ge (b := 256) (by omega) (by decide)) ?_
    refine s_iload_n (pc' := 132) dX12_count_131 rfl rfl ?_
    refine s_aload_n (pc' := 133) dX12_count_132 rfl rfl ?_
    refine s_getS (pc' := 136) (b := 83) dX12_count_133 rfl (by decide) rfl (by decide) fa_X12_95_12 rfl rfl ?_
    refine s_iload_n (pc' := 137) dX12_count_136 rfl rfl ?_
    refine t_zald (pc' := 138) dX12_count_137 rfl sh_83 rfl (by omega) ?_
    refine s_ifeq (pc' := 141) (tgt := 145) dX12_count_138 (by decide) rfl (fun c138 => ?_) (fun c138 => ?_)
    · refine s_iconst (pc' := 146) (v := 0) dX12_count_145 rfl (by decide) ?_
      refine s_iadd (pc' := 147) dX12_count_146 rfl ?_
      refine t_istore_n (pc' := 148) (L' := [.ref 54, .int _, .int _, .int _]) dX12_count_147 rfl (Nat.le_of_ble_eq_true rfl) rfl ?_
      refine t_iinc (pc' := 151) (v := nI (k + 1)) (L' := [.ref 54, .int _, .int _, .int _]) dX12_count_148 rfl rfl (nI_inc k) rfl ?_
      refine s_goto (tgt := 124) dX12_count_151 (by decide) ?_
      rw [(G1 k (by omega)).2.2] at c138
      refine s_eq ?_ rfl rfl (ih (k + 1) (by omega))
      rw [cZ, show LW D nv nr ns k = false from b2_0 c138]; rfl
    · refine s_iconst (pc' := 142) (v := 1) dX12_count_141 rfl (by decide) ?_
      refine s_goto (tgt := 146) dX12_count_142 (by decide) ?_
      refine s_iadd (pc' := 147) dX12_count_146 rfl ?_
      refine t_istore_n (pc' := 148) (L' := [.ref 54, .int _, .int _, .int _]) dX12_count_147 rfl (Nat.le_of_ble_eq_true rfl) rfl ?_
      refine t_iinc (pc' := 151) (v := nI (k + 1)) (L' := [.ref 54, .int _, .int _, .int _]) dX12_count_148 rfl rfl (nI_inc k) rfl ?_
      refine s_goto (tgt := 124) dX12_count_151 (by decide) ?_
      rw [(G1 k (by omega)).2.2] at c138
      refine s_eq ?_ rfl rfl (ih (k + 1) (by omega))
      rw [cZ, show LW D nv nr ns k = true from b2_1 c138]; rfl
theorem c_X12_count {N : Nat} {S : Nat → Nat × Nat} {I : Nat → Nat → Int32} {J : Nat → Nat → Int64} {Q : Nat → Nat → Option Nat} {κ : Option Value → HP → Prop} {D : Nat → Nat → Int32} {nv nr ns md : Nat} (M : MOD I J D nv nr ns) (hm : D 75 3 = nI md) (hmd : md < 256) {x : Int32} (k0 : ∀ w, w < 3 → x = nI w → κ (some (.int (D 75 w))) (N, S, I, J, Q)) (k3 : x = nI 3 → κ (some (.int (cGt (D 74) (D 75 6) ns))) (N, S, I, J, Q)) (k4 : x = nI 4 → κ (some (.int (D 75 6))) (N, S, I, J, Q)) (k5 : x = nI 5 → κ (some (.int (D 75 3))) (N, S, I, J, Q)) (k6 : x = nI 6 → ∀ I' J', MQu I I' J J' D nv nr ns → κ (some (.int (nI (cntB (LW D nv nr ns) 256)))) (N, S, I', J', Q)) (k7 : x = nI 7 → κ (some (.int (I 54 47))) (N, S, I, J, Q)) (k8 : x = nI 8 → κ (some (.int (I 54 31))) (N, S, I, J, Q)) (k1 : (∀ k, k ≤ 8 → x ≠ nI k) → κ (some (.int (-1))) (N, S, I, J, Q)) : CT E1 M_X12_count [.ref 54, .int x] (N, S, I, J, Q) κ := by
  refine ofSP mk_X12_count (Nat.le_of_ble_eq_true rfl) (L := [.ref 54, .int _, .retAddr _, .retAddr _]) rfl ?_
  refine s_iconst (pc' := 1) (v := 0) dX12_count_0 rfl (by decide) ?_
  refine t_istore_n (pc' := 2) (L' := [.ref 54, .int _, .int _, .retAddr _]) dX12_count_1 rfl (Nat.le_of_ble_eq_true rfl) rfl ?_
  refine s_iload_n (pc' := 3) dX12_count_2 rfl rfl ?_
  by_cases hin : inR x 0 (8 : Nat)
  · obtain ⟨kw, hkw, ekw⟩ := in_n hin
    rcases (show kw = 0 ∨ kw = 1 ∨ kw = 2 ∨ kw = 3 ∨ kw = 4 ∨ kw = 5 ∨ kw = 6 ∨ kw = 7 ∨ kw = 8 by omega) with e6 | e6 | e6 | e6 | e6 | e6 | e6 | e6 | e6
    · rw [e6] at ekw
      refine s_tabIn (tgt := 52) (off := 49) dX12_count_3 (by rw [ekw]; decide) (by rw [ekw]; decide) (by rw [ekw]; rfl) (by decide) ?_
      refine s_aload_n (pc' := 53) dX12_count_52 rfl rfl ?_
      refine s_getS (pc' := 56) (b := 75) dX12_count_53 rfl (by decide) rfl (by decide) fa_X12_70_12 rfl rfl ?_
      refine s_iload_n (pc' := 57) dX12_count_56 rfl rfl ?_
      refine t_iald (pc' := 58) (q := 0) dX12_count_57 rfl sh_75 ekw (by decide) ?_
      exact s_iret dX12_count_58 rfl (by decide) (by decide) (by rw [M.1 75 (by decide) (by decide)]; exact k0 0 (by decide) ekw)
    · rw [e6] at ekw
      refine s_tabIn (tgt := 52) (off := 49) dX12_count_3 (by rw [ekw]; decide) (by rw [ekw]; decide) (by rw [ekw]; rfl) (by decide) ?_
      refine s_aload_n (pc' := 53) dX12_count_52 rfl rfl ?_
      refine s_getS (pc' := 56) (b := 75) dX12_count_53 rfl (by decide) rfl (by decide) fa_X12_70_12 rfl rfl ?_
      refine s_iload_n (pc' := 57) dX12_count_56 rfl rfl ?_
      refine t_iald (pc' := 58) (q := 1) dX12_count_57 rfl sh_75 ekw (by decide) ?_
      exact s_iret dX12_count_58 rfl (by decide) (by decide) (by rw [M.1 75 (by decide) (by decide)]; exact k0 1 (by decide) ekw)
    · rw [e6] at ekw
      refine s_tabIn (tgt := 52) (off := 49) dX12_count_3 (by rw [ekw]; decide) (by rw [ekw]; decide) (by rw [ekw]; rfl) (by decide) ?_
      refine s_aload_n (pc' := 53) dX12_count_52 rfl rfl ?_
      refine s_getS (pc' := 56) (b := 75) dX12_count_53 rfl (by decide) rfl (by decide) fa_X12_70_12 rfl rfl ?_
      refine s_iload_n (pc' := 57) dX12_count_56 rfl rfl ?_
      refine t_iald (pc' := 58) (q := 2) dX12_count_57 rfl sh_75 ekw (by decide) ?_
      exact s_iret dX12_count_58 rfl (by decide) (by decide) (by rw [M.1 75 (by decide) (by decide)]; exact k0 2 (by decide) ekw)
    · rw [e6] at ekw
      refine s_tabIn (tgt := 59) (off := 56) dX12_count_3 (by rw [ekw]; decide) (by rw [ekw]; decide) (by rw [ekw]; rfl) (by decide) ?_
      refine s_iconst (pc' := 60) (v := 0) dX12_count_59 rfl (by decide) ?_
      refine t_istore_n (pc' := 61) (L' := [.ref 54, .int _, .int _, .int _]) dX12_count_60 rfl (Nat.le_of_ble_eq_true rfl) rfl ?_
      exact l_X12_count1 M (k3 ekw) ns 0 (by omega)
    · rw [e6] at ekw
      refine s_tabIn (tgt := 103) (off := 100) dX12_count_3 (by rw [ekw]; decide) (by rw [ekw]; decide) (by rw [ekw]; rfl) (by decide) ?_
      refine s_aload_n (pc' := 104) dX12_count_103 rfl rfl ?_
      refine s_getS (pc' := 107) (b := 75) dX12_count_104 rfl (by decide) rfl (by decide) fa_X12_70_12 rfl rfl ?_
      refine s_bipush (pc' := 109) (v := 6) dX12_count_107 rfl (by decide) ?_
      refine t_iald (pc' := 110) (q := 6) dX12_count_109 rfl sh_75 rfl (by decide) ?_
      exact s_iret dX12_count_110 rfl (by decide) (by decide) (by rw [M.1 75 (by decide) (by decide)]; exact k4 ekw)
    · rw [e6] at ekw
      refine s_tabIn (tgt := 111) (off := 108) dX12_count_3 (by rw [ekw]; decide) (by rw [ekw]; decide) (by rw [ekw]; rfl) (by decide) ?_
      refine s_aload_n (pc' := 112) dX12_count_111 rfl rfl ?_
      refine s_getS (pc' := 115) (b := 75) dX12_count_112 rfl (by decide) rfl (by decide) fa_X12_70_12 rfl rfl ?_
      refine s_iconst (pc' := 116) (v := 3) dX12_count_115 rfl (by decide) ?_
      refine t_iald (pc' := 117) (q := 3) dX12_count_116 rfl sh_75 rfl (by decide) ?_
      exact s_iret dX12_count_117 rfl (by decide) (by decide) (by rw [M.1 75 (by decide) (by decide)]; exact k5 ekw)
    · rw [e6] at ekw
      refine s_tabIn (tgt := 118) (off := 115) dX12_count_3 (by rw [ekw]; decide) (by rw [ekw]; decide) (by rw [ekw]; rfl) (by decide) ?_
      refine s_aload_n (pc' := 119) dX12_count_118 rfl rfl ?_
      refine s_callV (pc' := 122) (As := []) dX12_count_119 rfl mk_X12_lay ml_X12_208 im_X12_lay se_X12_X12_X12_lay sh_54 (by decide) rfl rfl rfl ⟨Nat.le_of_ble_eq_true rfl, Nat.le_of_ble_eq_true rfl, Nat.le_of_ble_eq_true rfl, Nat.le_of_ble_eq_true rfl⟩ (Nat.le_of_ble_eq_true rfl) (e_lay M (fun I1 J1 h1 => ?_))
      have hD1 := h1.1.da M.1
      have G1 := h1.2.2.2.g M.2.1 M.2.2.1
      have e75 : I1 75 3 = nI md := by rw [hD1 75 (by decide) (by decide)]; exact hm
      refine s_iconst (pc' := 123) (v := 0) dX12_count_122 rfl (by decide) ?_
      refine t_istore_n (pc' := 124) (L' := [.ref 54, .int _, .int _, .int _]) dX12_count_123 rfl (Nat.le_of_ble_eq_true rfl) rfl ?_
      exact l_X12_count2 G1 (by rw [cZ_n]; exact k6 ekw I1 J1 h1.mq) 256 0 rfl
    · rw [e6] at ekw
      refine s_tabIn (tgt := 156) (off := 153) dX12_count_3 (by rw [ekw]; decide) (by rw [ekw]; decide) (by rw [ekw]; rfl) (by decide) ?_
      refine s_aload_n (pc' := 157) dX12_count_156 rfl rfl ?_
      refine t_getI (pc' := 160) dX12_count_157 rfl sh_54 (by decide) fa_X12_304_12 rfl ?_
      exact s_iret dX12_count_160 rfl (by decide) (by decide) (k7 ekw)
    · rw [e6] at ekw
      refine s_tabIn (tgt := 161) (off := 158) dX12_count_3 (by rw [ekw]; decide) (by rw [ekw]; decide) (by rw [ekw]; rfl) (by decide) ?_
      refine s_aload_n (pc' := 162) dX12_count_161 rfl rfl ?_
      refine t_getI (pc' := 165) dX12_count_162 rfl sh_54 (by decide) fa_X12_200_12 rfl ?_
      exact s_iret dX12_count_165 rfl (by decide) (by decide) (k8 ekw)
  · have hno : ∀ k, k ≤ 8 → x ≠ nI k := fun k hk e => hin (by rw [e]; exact nI_in2 hk (by decide))
    refine s_tabOut (tgt := 166) dX12_count_3 (by (try decide); exact out8 hin) (by decide) ?_
    refine s_iconst (pc' := 167) (v := -1) dX12_count_166 rfl (by decide) ?_
    exact s_iret dX12_count_167 rfl (by decide) (by decide) (k1 hno)
theorem c_X12_spend {N : Nat} {S : Nat → Nat × Nat} {I : Nat → Nat → Int32} {J : Nat → Nat → Int64} {Q : Nat → Nat → Option Nat} {κ : Option Value → HP → Prop} {D : Nat → Nat → Int32} {nv nr ns md : Nat} (M : MOD I J D nv nr ns) (hm : D 75 3 = nI md) (hmd : md < 256) {x y : Int32} (k1 : ((∀ j, j < nv → x ≠ nI j) ∨ (∃ v, v < nv ∧ x = nI v ∧ D 55 v ≠ 2) ∨ ¬ inR y 1 1000) → κ (some (.int (-1))) (N, S, up2 I 54 24 1, J, Q)) (k2 : ∀ v, v < nv → x = nI v → D 55 v = 2 → inR y 1 1000 → ¬ 0 ≤ gS D nv nr ns md v - y.toInt64 → ∀ I' J', MQu I I' J J' D nv nr ns → κ (some (.int (-1))) (N, S, up2 I' 54 24 3, J', Q)) (k3 : ∀ v, v < nv → x = nI v → D 55 v = 2 → inR y 1 1000 → 0 ≤ gS D nv nr ns md v - y.toInt64 → ∀ I' J', QP I I' J J' D nv nr ns → κ (some (.int (gS D nv nr ns md v - y.toInt64).toInt32)) (N, S, up2 (up2 (up2 I' 59 v (I' 59 v + y)) 54 37 0) 54 24 0, J', Q)) : CT E1 M_X12_spend [.ref 54, .int x, .int y] (N, S, I, J, Q) κ := by
  refine ofSP mk_X12_spend (Nat.le_of_ble_eq_true rfl) (L := [.ref 54, .int _, .int _, .retAddr _, .retAddr _]) rfl ?_
  refine s_aload_n (pc' := 1) dX12_spend_0 rfl rfl ?_
  refine s_iload_n (pc' := 2) dX12_spend_1 rfl rfl ?_
  refine s_callV (pc' := 5) (As := [.int _]) dX12_spend_2 rfl mk_X12_isValue ml_X12_170 im_X12_isValue se_X12_X12_X12_isValue sh_54 (by decide) rfl rfl rfl ⟨Nat.le_of_ble_eq_true rfl, Nat.le_of_ble_eq_true rfl, Nat.le_of_ble_eq_true rfl, Nat.le_of_ble_eq_true rfl⟩ (Nat.le_of_ble_eq_true rfl) (c_X12_isValue (M.2.1.vn M.1) (by have := M.2.1.nv; omega) (fun j2 hj2 e2 => ?_) (fun n2 => ?_))
  · subst e2
    refine s_ifeqF (pc' := 8) (tgt := 30) dX12_spend_5 (by decide) rfl (by decide) ?_
    refine s_aload_n (pc' := 9) dX12_spend_8 rfl rfl ?_
    refine s_getS (pc' := 12) (b := 55) dX12_spend_9 rfl (by decide) rfl (by decide) fa_X12_7_12 rfl rfl ?_
    refine s_iload_n (pc' := 13) dX12_spend_12 rfl rfl ?_
    refine t_iald (pc' := 14) dX12_spend_13 rfl sh_55 rfl (by have := M.2.1.nv; omega) ?_
    refine s_iconst (pc' := 15) (v := 2) dX12_spend_14 rfl (by decide) ?_
    refine s_icmpne (pc' := 18) (tgt := 30) dX12_spend_15 (by decide) rfl (fun c15 => ?_) (fun c15 => ?_)
    · refine s_aload_n (pc' := 31) dX12_spend_30 rfl rfl ?_
      refine s_iconst (pc' := 32) (v := 1) dX12_spend_31 rfl (by decide) ?_
      refine s_callV (pc' := 35) (As := [.int _]) dX12_spend_32 rfl mk_X12_refused ml_X12_149 im_X12_refused se_X12_X12_X12_refused sh_54 (by decide) rfl rfl rfl ⟨Nat.le_of_ble_eq_true rfl, Nat.le_of_ble_eq_true rfl, Nat.le_of_ble_eq_true rfl, Nat.le_of_ble_eq_true rfl⟩ (Nat.le_of_ble_eq_true rfl) (c_X12_refused ?_)
      exact s_iret dX12_spend_35 rfl (by decide) (by decide) (k1 (Or.inr (Or.inl ⟨j2, hj2, rfl, by rw [← M.1 55 (by decide) (by decide)]; exact c15⟩)))
    · refine s_iload_n (pc' := 19) dX12_spend_18 rfl rfl ?_
      refine s_i2l (pc' := 20) dX12_spend_19 rfl ?_
      refine s_lconst (pc' := 21) (v := 1) dX12_spend_20 rfl (by decide) ?_
      refine s_ldc2 (pc' := 24) dX12_spend_21 rfl kl_X12_175 ?_
      refine s_callS (pc' := 27) (As := [.long _, .long _, .long _]) dX12_spend_24 rfl mk_X12_isIn ml_X12_135 sm_X12_isIn rfl rfl ⟨Nat.le_of_ble_eq_true rfl, Nat.le_of_ble_eq_true rfl, Nat.le_of_ble_eq_true rfl, Nat.le_of_ble_eq_true rfl⟩ (Nat.le_of_ble_eq_true rfl) (c_isInR (a' := 1) (b' := 1000) rfl rfl (fun i24 => ?_) (fun i24 => ?_))
      · refine s_ifneT (tgt := 36) dX12_spend_27 (by decide) (by decide) ?_
        refine s_aload_n (pc' := 37) dX12_spend_36 rfl rfl ?_
        refine s_callV (pc' := 40) (As := []) dX12_spend_37 rfl mk_X12_lay ml_X12_208 im_X12_lay se_X12_X12_X12_lay sh_54 (by decide) rfl rfl rfl ⟨Nat.le_of_ble_eq_true rfl, Nat.le_of_ble_eq_true rfl, Nat.le_of_ble_eq_true rfl, Nat.le_of_ble_eq_true rfl⟩ (Nat.le_of_ble_eq_true rfl) (e_lay M (fun I1 J1 h1 => ?_))
        have hD1 := h1.1.da M.1
        have G1 := h1.2.2.2.g M.2.1 M.2.2.1
        have e75 : I1 75 3 = nI md := by rw [hD1 75 (by decide) (by decide)]; exact hm
        refine s_aload_n (pc' := 41) dX12_spend_40 rfl rfl ?_
        refine s_getS (pc' := 44) (b := 80) dX12_spend_41 rfl (by decide) rfl (by decide) fa_X12_85_12 rfl rfl ?_
        refine s_bipush (pc' := 46) (v := 10) dX12_spend_44 rfl (by decide) ?_
        refine s_aload_n (pc' := 47) dX12_spend_46 rfl rfl ?_
        refine s_getS (pc' := 50) (b := 75) dX12_spend_47 rfl (by decide) rfl (by decide) fa_X12_70_12 rfl rfl ?_
        refine s_iconst (pc' := 51) (v := 3) dX12_spend_50 rfl (by decide) ?_
        refine t_iald (pc' := 52) (q := 3) dX12_spend_51 rfl sh_75 rfl (by decide) ?_
        refine s_imul (pc' := 53) dX12_spend_52 rfl ?_
        refine s_iload_n (pc' := 54) dX12_spend_53 rfl rfl ?_
        refine s_iadd (pc' := 55) dX12_spend_54 rfl ?_
        refine t_lald (pc' := 56) (q := 10 * md + j2) dX12_spend_55 rfl sh_80 (by rw [e75]; exact ix10 hmd (by have := M.2.1.nv; omega)) (by have := M.2.1.nv; omega) ?_
        refine s_iload_n (pc' := 57) dX12_spend_56 rfl rfl ?_
        refine s_i2l (pc' := 58) dX12_spend_57 rfl ?_
        refine s_lsub (pc' := 59) dX12_spend_58 rfl ?_
        refine t_lstore_n (pc' := 60) (L' := [.ref 54, .int _, .int _, .long _, .retAddr _]) dX12_spend_59 rfl (Nat.le_of_ble_eq_true rfl) rfl ?_
        refine s_lload_n (pc' := 61) dX12_spend_60 rfl rfl ?_
        refine s_lconst (pc' := 62) (v := 0) dX12_spend_61 rfl (by decide) ?_
        refine s_lcmp (pc' := 63) dX12_spend_62 rfl ?_
        refine s_ifge (pc' := 66) (tgt := 72) dX12_spend_63 (by decide) rfl (fun c63 => ?_) (fun c63 => ?_)
        · refine s_aload_n (pc' := 73) dX12_spend_72 rfl rfl ?_
          refine s_getS (pc' := 76) (b := 59) dX12_spend_73 rfl (by decide) rfl (by decide) fa_X12_22_12 rfl rfl ?_
          refine s_iload_n (pc' := 77) dX12_spend_76 rfl rfl ?_
          refine s_dup2 (pc' := 78) dX12_spend_77 rfl rfl rfl ?_
          refine t_iald (pc' := 79) dX12_spend_78 rfl sh_59 rfl (by have := M.2.1.nv; omega) ?_
          refine s_iload_n (pc' := 80) dX12_spend_79 rfl rfl ?_
          refine s_iadd (pc' := 81) dX12_spend_80 rfl ?_
          refine t_iast (pc' := 82) dX12_spend_81 rfl sh_59 rfl (by have := M.2.1.nv; omega) ?_
          refine s_aload_n (pc' := 83) dX12_spend_82 rfl rfl ?_
          refine s_iconst (pc' := 84) (v := 0) dX12_spend_83 rfl (by decide) ?_
          refine t_putI (pc' := 87) dX12_spend_84 rfl sh_54 (by decide) fa_X12_153_12 (Or.inl rfl) rfl rfl rfl ?_
          refine s_aload_n (pc' := 88) dX12_spend_87 rfl rfl ?_
          refine s_lload_n (pc' := 89) dX12_spend_88 rfl rfl ?_
          refine s_l2i (pc' := 90) dX12_spend_89 rfl ?_
          refine s_callV (pc' := 93) (As := [.int _]) dX12_spend_90 rfl mk_X12_done ml_X12_157 im_X12_done se_X12_X12_X12_done sh_54 (by decide) rfl rfl rfl ⟨Nat.le_of_ble_eq_true rfl, Nat.le_of_ble_eq_true rfl, Nat.le_of_ble_eq_true rfl, Nat.le_of_ble_eq_true rfl⟩ (Nat.le_of_ble_eq_true rfl) (c_X12_done ?_)
          exact s_iret dX12_spend_93 rfl (by decide) (by decide) (by
    rw [lg_cmp_ge, (G1 md hmd).1 j2 hj2] at c63
    rw [(G1 md hmd).1 j2 hj2]
    exact k3 j2 hj2 rfl (by rw [← M.1 55 (by decide) (by decide)]; simpa using c15) i24 c63 I1 J1 h1)
        · refine s_aload_n (pc' := 67) dX12_spend_66 rfl rfl ?_
          refine s_iconst (pc' := 68) (v := 3) dX12_spend_67 rfl (by decide) ?_
          refine s_callV (pc' := 71) (As := [.int _]) dX12_spend_68 rfl mk_X12_refused ml_X12_149 im_X12_refused se_X12_X12_X12_refused sh_54 (by decide) rfl rfl rfl ⟨Nat.le_of_ble_eq_true rfl, Nat.le_of_ble_eq_true rfl, Nat.le_of_ble_eq_true rfl, Nat.le_of_ble_eq_true rfl⟩ (Nat.le_of_ble_eq_true rfl) (c_X12_refused ?_)
          exact s_iret dX12_spend_71 rfl (by decide) (by decide) (by
    rw [lg_cmp_ge, (G1 md hmd).1 j2 hj2] at c63
    exact k2 j2 hj2 rfl (by rw [← M.1 55 (by decide) (by decide)]; simpa using c15) i24 (fun z => c63 z) I1 J1 h1.mq)
      · refine s_ifneF (pc' := 30) (tgt := 36) dX12_spend_27 (by decide) rfl (by decide) ?_
        refine s_aload_n (pc' := 31) dX12_spend_30 rfl rfl ?_
        refine s_iconst (pc' := 32) (v := 1) dX12_spend_31 rfl (by decide) ?_
        refine s_callV (pc' := 35) (As := [.int _]) dX12_spend_32 rfl mk_X12_refused ml_X12_149 im_X12_refused se_X12_X12_X12_refused sh_54 (by decide) rfl rfl rfl ⟨Nat.le_of_ble_eq_true rfl, Nat.le_of_ble_eq_true rfl, Nat.le_of_ble_eq_true rfl, Nat.le_of_ble_eq_true rfl⟩ (Nat.le_of_ble_eq_true rfl) (c_X12_refused ?_)
        exact s_iret dX12_spend_35 rfl (by decide) (by decide) (k1 (Or.inr (Or.inr i24)))
  · refine s_ifeqT (tgt := 30) dX12_spend_5 (by decide) (by decide) ?_
    refine s_aload_n (pc' := 31) dX12_spend_30 rfl rfl ?_
    refine s_iconst (pc' := 32) (v := 1) dX12_spend_31 rfl (by decide) ?_
    refine s_callV (pc' := 35) (As := [.int _]) dX12_spend_32 rfl mk_X12_refused ml_X12_149 im_X12_refused se_X12_X12_X12_refused sh_54 (by decide) rfl rfl rfl ⟨Nat.le_of_ble_eq_true rfl, Nat.le_of_ble_eq_true rfl, Nat.le_of_ble_eq_true rfl, Nat.le_of_ble_eq_true rfl⟩ (Nat.le_of_ble_eq_true rfl) (c_X12_refused ?_)
    exact s_iret dX12_spend_35 rfl (by decide) (by decide) (k1 (Or.inl n2))
