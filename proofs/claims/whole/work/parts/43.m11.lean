theorem FX.cg {D : Nat → Nat → Int32} {nv nr ns : Nat} {x th : Int32} {g g' : Nat → Int64} (hW : DW D nv nr ns) (h : ∀ u, u < nv → g u = g' u) (hf : FX D x th nv nr ns g) : FX D x th nv nr ns g' := by
  intro v hv
  rw [← h v hv, hf v hv]
  exact (AG_of hW (fun u hu _ => h u hu)).numF
theorem hB_gg {D : Nat → Nat → Int32} {nv nr ns r : Nat} {x : Int32} {g g' : Nat → Int64} (hW : DW D nv nr ns) (h : ∀ u, u < nv → g u = g' u) (hr : r < nr) : hB D x g r = hB D x g' r := hB_g hW hr (fun o ho _ _ => h o ho)
theorem wk_gg {D : Nat → Nat → Int32} {nv nr ns r : Nat} {x th k c : Int32} {g g' : Nat → Int64} (hW : DW D nv nr ns) (h : ∀ u, u < nv → g u = g' u) (hr : r < nr) : wk D x g th r k c = wk D x g' th r k c := by
  unfold wk; rw [hB_gg hW h hr]
theorem opA_gg {D : Nat → Nat → Int32} {nv nr ns : Nat} {x th c : Int32} {g g' : Nat → Int64} (hW : DW D nv nr ns) (h : ∀ u, u < nv → g u = g' u) : ∀ k, k ≤ nr → opA D x g th c k = opA D x g' th c k ∧ opB D x g th c k = opB D x g' th c k
  | 0, _ => ⟨rfl, rfl⟩
  | k + 1, hk => by
    have ih := opA_gg (x := x) (th := th) (c := c) hW h k (by omega)
    unfold opA opB
    rw [ih.1, ih.2, wk_gg hW h (show k < nr by omega), wk_gg hW h (show k < nr by omega)]
    exact ⟨rfl, rfl⟩
theorem opM_gg {D : Nat → Nat → Int32} {nv nr ns : Nat} {x th : Int32} {g g' : Nat → Int64} (hW : DW D nv nr ns) (h : ∀ u, u < nv → g u = g' u) : ∀ k, opM D x g th nr k = opM D x g' th nr k
  | 0 => rfl
  | k + 1 => by
    have e : opn D x g th (nI k) nr = opn D x g' th (nI k) nr := by
      unfold opn; rw [(opA_gg hW h nr (Nat.le_refl _)).1, (opA_gg hW h nr (Nat.le_refl _)).2]
    unfold opM
    rw [opM_gg hW h k, e]
/-- a set without a choice -/
def wo (b c : Nat) : Nat := if b.testBit c = true then b - 2 ^ c else b
theorem wo_ix : ∀ b, b < 256 → ∀ c, c < 8 → nI b &&& (((1 : Int32) <<< (nI c &&& 31)) ^^^ (-1)) = nI (wo b c) ∧ wo b c < 256 := by decide +kernel
/-- is the sheet b lawful, the first k choices being looked at; op: the open ones of each sheet -/
def lwB (op : Nat → Int32) (b : Nat) : Nat → Bool
  | 0 => true
  | k + 1 => lwB op b k && (!decide (bitI (nI b) (nI k) = 1) || decide (bitI (op (wo b k)) (nI k) = 1))
def lwR (I : Nat → Nat → Int32) (k : Nat) : Nat → Nat → Int32 := fun a i => if a = 83 ∧ i < k then b2 (lwB (I 82) i 8) else I a i
theorem lwR_0 (I : Nat → Nat → Int32) : lwR I 0 = I := by funext a i; simp [lwR]
theorem lwR_s (I : Nat → Nat → Int32) (k : Nat) : up2 (lwR I k) 83 k (b2 (lwB (I 82) k 8)) = lwR I (k + 1) := by
  funext a i
  by_cases h : a = 83
  · subst h
    by_cases h2 : i = k
    · subst h2; simp [up2, lwR]
    · by_cases h3 : i < k
      · simp [up2, lwR, h2, h3, Nat.lt_succ_of_lt h3]
      · simp [up2, lwR, h2, h3, show ¬ i < k + 1 by omega]
  · simp [up2, lwR, h]
theorem lwR_o {I : Nat → Nat → Int32} {k a : Nat} (h : a ≠ 83) : lwR I k a = I a := by funext i; simp [lwR, h]
/-- the sheet b stands in the model's rows -/
def LB (I' : Nat → Nat → Int32) (J' : Nat → Nat → Int64) (D : Nat → Nat → Int32) (nv nr ns b : Nat) : Prop := I' 81 b = thS D (nI b) nr ∧ FX D (nI b) (thS D (nI b) nr) nv nr ns (gM J' b) ∧ I' 82 b = opM D (nI b) (gM J' b) (thS D (nI b) nr) nr 8
def LA (I I' : Nat → Nat → Int32) (J J' : Nat → Nat → Int64) (D : Nat → Nat → Int32) (nv nr ns k : Nat) : Prop :=
  (∀ i, i ≠ 54 → i ≠ 81 → i ≠ 82 → (i < 84 ∨ 86 < i) → I' i = I i) ∧ (∀ j, j ≠ 38 → j ≠ 39 → I' 54 j = I 54 j) ∧ (∀ a i, a ≠ 80 → J' a i = J a i) ∧ ∀ b, b < k → LB I' J' D nv nr ns b
theorem LA.step {I I' I2 D : Nat → Nat → Int32} {J J' J2 : Nat → Nat → Int64} {nv nr ns k : Nat} (hW : DW D nv nr ns) (h : LA I I' J J' D nv nr ns k) (hP : PL I' I2 J' J2 D nv nr ns k) : LA I I2 J J2 D nv nr ns (k + 1) := by
  have hn := hW.nv
  obtain ⟨h1, h2, h3, h4⟩ := h
  obtain ⟨p1, p2, p3, p4, p5, p6, p7, p8⟩ := hP
  refine ⟨fun i a1 a2 a3 a4 => (p1 i a1 a2 a3 a4).trans (h1 i a1 a2 a3 a4), fun j a1 a2 => (p2 j a1 a2).trans (h2 j a1 a2), fun a i ha => (p5 a i (fun z => ha z.1)).trans (h3 a i ha), fun b hb => ?_⟩
  by_cases e : b = k
  · subst e
    exact ⟨p6, fun v hv => (p7 v hv).1, p8⟩
  · obtain ⟨q1, q2, q3⟩ := h4 b (by omega)
    have hg : ∀ u, u < nv → gM J' b u = gM J2 b u := fun u hu => by
      unfold gM; rw [p5 80 (10 * b + u) (fun z => by omega)]
    exact ⟨by rw [(p4 b e).1]; exact q1, q2.cg hW hg, by rw [(p4 b e).2, q3]; exact opM_gg hW hg 8⟩
/-- the model's rows hold all sheets -/
def LDD (I : Nat → Nat → Int32) (J : Nat → Nat → Int64) (D : Nat → Nat → Int32) (nv nr ns : Nat) : Prop := ∀ b, b < 256 → LB I J D nv nr ns b ∧ I 83 b = b2 (lwB (I 82) b 8)
/-- what lay() leaves where nothing was laid -/
def PY (I I' : Nat → Nat → Int32) (J J' : Nat → Nat → Int64) (D : Nat → Nat → Int32) (nv nr ns : Nat) : Prop :=
  (∀ i, i ≠ 54 → i ≠ 77 → i ≠ 81 → i ≠ 82 → i ≠ 83 → (i < 84 ∨ 86 < i) → I' i = I i) ∧ (∀ j, j ≠ 37 → j ≠ 38 → j ≠ 39 → I' 54 j = I 54 j) ∧ I' 54 37 = 1 ∧ (∀ a i, a ≠ 80 → J' a i = J a i) ∧ LDD I' J' D nv nr ns
theorem PY_of {I I1 I' D : Nat → Nat → Int32} {J J' : Nat → Nat → Int64} {nv nr ns : Nat} (hn : F77 (up2 I 54 37 1) I1) (h : LA I1 I' J J' D nv nr ns 256) : PY I (lwR I' 256) J J' D nv nr ns := by
  obtain ⟨h1, h2, h3, h4⟩ := h
  refine ⟨fun i a1 a2 a3 a4 a5 a6 => ?_, fun j a1 a2 a3 => ?_, ?_, h3, fun b hb => ⟨?_, ?_⟩⟩
  · rw [lwR_o a5, h1 i a1 a3 a4 a6, hn i a2, up2_o a1]
  · rw [lwR_o (by decide), h2 j a2 a3, hn 54 (by decide), up2_e a1]
  · rw [lwR_o (by decide), h2 37 (by decide) (by decide), hn 54 (by decide), up2_s]
  · obtain ⟨q1, q2, q3⟩ := h4 b hb
    exact ⟨by rw [lwR_o (by decide)]; exact q1, q2, by rw [lwR_o (by decide)]; exact q3⟩
  · rw [lwR_o (a := 82) (by decide)]; simp [lwR, hb]
theorem l_X12_lay1 {N : Nat} {S : Nat → Nat × Nat} {I : Nat → Nat → Int32} {J : Nat → Nat → Int64} {Q : Nat → Nat → Option Nat} {κ : Option Value → HP → Prop} {D : Nat → Nat → Int32} {nv nr ns : Nat} (hD : DA I D) (hW : DW D nv nr ns) (hA : AC D nv nr) (hN : ∀ v, v < 10 → I 77 v = nd D nr v) (hk : ∀ I' J', LA I I' J J' D nv nr ns 256 → SP E1 M_X12_lay κ 37 [.ref 54, .retAddr 0, .retAddr 0] [] (N, S, I', J', Q) 0 0) : ∀ d : Nat, ∀ k I' J', k + d = 256 → LA I I' J J' D nv nr ns k → SP E1 M_X12_lay κ 19 [.ref 54, .int (nI k), .retAddr 0] [] (N, S, I', J', Q) 0 0 := by
  intro d
  induction d with
  | zero =>
    intro k I' J' hd hP
    have hD2 : DA I' D := fun i h1 h2 => (hP.1 i (by omega) (by omega) (by omega) (by omega)).trans (hD i h1 h2)
    have hN2 : ∀ v, v < 10 → I' 77 v = nd D nr v := fun v hv => by rw [hP.1 77 (by decide) (by decide) (by decide) (by decide)]; exact hN v hv
    obtain rfl : k = 256 := by omega
    refine s_iload_n (pc' := 20) dX12_lay_19 rfl rfl ?_
    refine s_sipush (pc' := 23) (v := 256) dX12_lay_20 rfl (by decide) ?_
    refine s_icmpgeT (tgt := 37) dX12_lay_23 (by decide) (by decide) ?_
    exact s_fg [1] rfl (hk I' J' hP)
  | succ d ih =>
    intro k I' J' hd hP
    have hD2 : DA I' D := fun i h1 h2 => (hP.1 i (by omega) (by omega) (by omega) (by omega)).trans (hD i h1 h2)
    have hN2 : ∀ v, v < 10 → I' 77 v = nd D nr v := fun v hv => by rw [hP.1 77 (by decide) (by decide) (by decide) (by decide)]; exact hN v hv
    refine s_iload_n (pc' := 20) dX12_lay_19 rfl rfl ?_
    refine s_sipush (pc' := 23) (v := 256) dX12_lay_20 rfl (by decide) ?_
    refine s_icmpgeF (pc' := 26) (tgt := 37) dX12_lay_23 (by decide) rfl (nI_ge (b := 256) (by omega) (by decide)) ?_
    refine s_aload_n (pc' := 27) dX12_lay_26 rfl rfl ?_
    refine s_iload_n (pc' := 28) dX12_lay_27 rfl rfl ?_
    refine s_callV (pc' := 31) (As := [.int _]) dX12_lay_28 rfl mk_X12_lays ml_X12_281 im_X12_lays se_X12_X12_X12_lays sh_54 (by decide) rfl rfl rfl ⟨Nat.le_of_ble_eq_true rfl, Nat.le_of_ble_eq_true rfl, Nat.le_of_ble_eq_true rfl, Nat.le_of_ble_eq_true rfl⟩ (Nat.le_of_ble_eq_true rfl) (c_X12_lays hD2 hW (by omega) hA hN2 (fun I2 J2 hL2 => ?_))
    refine t_iinc (pc' := 34) (v := nI (k + 1)) (L' := [.ref 54, .int _, .retAddr _]) dX12_lay_31 rfl rfl (nI_inc k) rfl ?_
    refine s_goto (tgt := 19) dX12_lay_34 (by decide) ?_
    exact ih (k + 1) _ _ (by omega) (hP.step hW hL2)
theorem l_X12_lay2 {N : Nat} {S : Nat → Nat × Nat} {I : Nat → Nat → Int32} {J : Nat → Nat → Int64} {Q : Nat → Nat → Option Nat} {κ : Option Value → HP → Prop} {b : Nat} (hb : b < 256) (hk : SP E1 M_X12_lay κ 116 [.ref 54, .int (nI b), .retAddr 0] [] (N, S, up2 I 83 b (b2 (lwB (I 82) b 8)), J, Q) 0 0) : ∀ d : Nat, ∀ k, k + d = 8 → SP E1 M_X12_lay κ 55 [.ref 54, .int (nI b), .int (nI k)] [] (N, S, up2 I 83 b (b2 (lwB (I 82) b k)), J, Q) 0 0 := by
  intro d
  induction d with
  | zero =>
    intro k hd
    obtain rfl : k = 8 := by omega
    refine s_iload_n (pc' := 56) dX12_lay_55 rfl rfl ?_
    refine s_bipush (pc' := 58) (v := 8) dX12_lay_56 rfl (by decide) ?_
    refine s_icmpgeT (tgt := 116) dX12_lay_58 (by decide) (by decide) ?_
    exact s_fg [2] rfl hk
  | succ d ih =>
    intro k hd
    refine s_iload_n (pc' := 56) dX12_lay_55 rfl rfl ?_
    refine s_bipush (pc' := 58) (v := 8) dX12_lay_56 rfl (by decide) ?_
    refine s_icmpgeF (pc' := 61) (tgt := 116) dX12_lay_58 (by decide) rfl (nI_ge (b := 8) (by omega) (by decide)) ?_
    refine s_iload_n (pc' := 62) dX12_lay_61 rfl rfl ?_
    refine s_iload_n (pc' := 63) dX12_lay_62 rfl rfl ?_
    refine s_ishr (pc' := 64) dX12_lay_63 rfl ?_
    refine s_iconst (pc' := 65) (v := 1) dX12_lay_64 rfl (by decide) ?_
    refine s_iand (pc' := 66) dX12_lay_65 rfl ?_
    refine s_iconst (pc' := 67) (v := 1) dX12_lay_66 rfl (by decide) ?_
    refine s_icmpne (pc' := 70) (tgt := 110) dX12_lay_67 (by decide) rfl (fun c67 => ?_) (fun c67 => ?_)
    · refine t_iinc (pc' := 113) (v := nI (k + 1)) (L' := [.ref 54, .int _, .int _]) dX12_lay_110 rfl rfl (nI_inc k) rfl ?_
      refine s_goto (tgt := 55) dX12_lay_113 (by decide) ?_
      replace c67 : bitI (nI b) (nI k) ≠ 1 := c67
      exact s_eq rfl rfl (by simp [lwB, c67]) (ih (k + 1) (by omega))
    · refine s_aload_n (pc' := 71) dX12_lay_70 rfl rfl ?_
      refine s_getS (pc' := 74) (b := 83) dX12_lay_71 rfl (by decide) rfl (by decide) fa_X12_95_12 rfl rfl ?_
      refine s_iload_n (pc' := 75) dX12_lay_74 rfl rfl ?_
      refine s_aload_n (pc' := 76) dX12_lay_75 rfl rfl ?_
      refine s_getS (pc' := 79) (b := 83) dX12_lay_76 rfl (by decide) rfl (by decide) fa_X12_95_12 rfl rfl ?_
      refine s_iload_n (pc' := 80) dX12_lay_79 rfl rfl ?_
      refine t_zald (pc' := 81) dX12_lay_80 rfl sh_83 rfl hb ?_
      refine s_ifeq (pc' := 84) (tgt := 108) dX12_lay_81 (by decide) rfl (fun c81 => ?_) (fun c81 => ?_)
      · refine s_iconst (pc' := 109) (v := 0) dX12_lay_108 rfl (by decide) ?_
        refine t_zast (pc' := 110) dX12_lay_109 rfl sh_83 rfl hb rfl ?_
        refine t_iinc (pc' := 113) (v := nI (k + 1)) (L' := [.ref 54, .int _, .int _]) dX12_lay_110 rfl rfl (nI_inc k) rfl ?_
        refine s_goto (tgt := 55) dX12_lay_113 (by decide) ?_
        rw [up2_s] at c81
        exact s_eq rfl rfl (by rw [up2_uu, lwB, b2_0 c81]; rfl) (ih (k + 1) (by omega))
      · refine s_aload_n (pc' := 85) dX12_lay_84 rfl rfl ?_
        refine s_getS (pc' := 88) (b := 82) dX12_lay_85 rfl (by decide) rfl (by decide) fa_X12_92_12 rfl rfl ?_
        refine s_iload_n (pc' := 89) dX12_lay_88 rfl rfl ?_
        refine s_iconst (pc' := 90) (v := 1) dX12_lay_89 rfl (by decide) ?_
        refine s_iload_n (pc' := 91) dX12_lay_90 rfl rfl ?_
        refine s_ishl (pc' := 92) dX12_lay_91 rfl ?_
        refine s_iconst (pc' := 93) (v := -1) dX12_lay_92 rfl (by decide) ?_
        refine s_ixor (pc' := 94) dX12_lay_93 rfl ?_
        refine s_iand (pc' := 95) dX12_lay_94 rfl ?_
        refine t_iald (pc' := 96) (q := wo b k) dX12_lay_95 rfl sh_82 (wo_ix b hb k (by omega)).1 (wo_ix b hb k (by omega)).2 ?_
        refine s_iload_n (pc' := 97) dX12_lay_96 rfl rfl ?_
        refine s_ishr (pc' := 98) dX12_lay_97 rfl ?_
        refine s_iconst (pc' := 99) (v := 1) dX12_lay_98 rfl (by decide) ?_
        refine s_iand (pc' := 100) dX12_lay_99 rfl ?_
        refine s_iconst (pc' := 101) (v := 1) dX12_lay_100 rfl (by decide) ?_
        refine s_icmpne (pc' := 104) (tgt := 108) dX12_lay_101 (by decide) rfl (fun c101 => ?_) (fun c101 => ?_)
        · refine s_iconst (pc' := 109) (v := 0) dX12_lay_108 rfl (by decide) ?_
          refine t_zast (pc' := 110) dX12_lay_109 rfl sh_83 rfl hb rfl ?_
          refine t_iinc (pc' := 113) (v := nI (k + 1)) (L' := [.ref 54, .int _, .int _]) dX12_lay_110 rfl rfl (nI_inc k) rfl ?_
          refine s_goto (tgt := 55) dX12_lay_113 (by decide) ?_
          rw [up2_s] at c81
          rw [up2_d (by decide)] at c101
          replace c67 : bitI (nI b) (nI k) = 1 := c67
          replace c101 : bitI (I 82 (wo b k)) (nI k) ≠ 1 := c101
          exact s_eq rfl rfl (by rw [up2_uu, lwB, b2_1 c81]; simp [b2, c67, c101]) (ih (k + 1) (by omega))
        · refine s_iconst (pc' := 105) (v := 1) dX12_lay_104 rfl (by decide) ?_
          refine s_goto (tgt := 109) dX12_lay_105 (by decide) ?_
          refine t_zast (pc' := 110) dX12_lay_109 rfl sh_83 rfl hb rfl ?_
          refine t_iinc (pc' := 113) (v := nI (k + 1)) (L' := [.ref 54, .int _, .int _]) dX12_lay_110 rfl rfl (nI_inc k) rfl ?_
          refine s_goto (tgt := 55) dX12_lay_113 (by decide) ?_
          rw [up2_s] at c81
          rw [up2_d (by decide)] at c101
          replace c67 : bitI (nI b) (nI k) = 1 := c67
          replace c101 : bitI (I 82 (wo b k)) (nI k) = 1 := c101
          exact s_eq rfl rfl (by rw [up2_uu, lwB, b2_1 c81]; simp [b2, c67, c101]) (ih (k + 1) (by omega))
theorem l_X12_lay3 {N : Nat} {S : Nat → Nat × Nat} {I : Nat → Nat → Int32} {J : Nat → Nat → Int64} {Q : Nat → Nat → Option Nat} {κ : Option Value → HP → Prop} (hk : κ none (N, S, lwR I 256, J, Q)) : ∀ d : Nat, ∀ k, k + d = 256 → SP E1 M_X12_lay κ 39 [.ref 54, .int (nI k), .retAddr 0] [] (N, S, lwR I k, J, Q) 0 0 := by
  intro d
  induction d with
  | zero =>
    intro k hd
    obtain rfl : k = 256 := by omega
    refine s_iload_n (pc' := 40) dX12_lay_39 rfl rfl ?_
    refine s_sipush (pc' := 43) (v := 256) dX12_lay_40 rfl (by decide) ?_
    refine s_icmpgeT (tgt := 122) dX12_lay_43 (by decide) (by decide) ?_
    exact s_vret dX12_lay_122 rfl (by decide) (by decide) hk
  | succ d ih =>
    intro k hd
    refine s_iload_n (pc' := 40) dX12_lay_39 rfl rfl ?_
    refine s_sipush (pc' := 43) (v := 256) dX12_lay_40 rfl (by decide) ?_
    refine s_icmpgeF (pc' := 46) (tgt := 122) dX12_lay_43 (by decide) rfl (nI_ge (b := 256) (by omega) (by decide)) ?_
    refine s_aload_n (pc' := 47) dX12_lay_46 rfl rfl ?_
    refine s_getS (pc' := 50) (b := 83) dX12_lay_47 rfl (by decide) rfl (by decide) fa_X12_95_12 rfl rfl ?_
    refine s_iload_n (pc' := 51) dX12_lay_50 rfl rfl ?_
    refine s_iconst (pc' := 52) (v := 1) dX12_lay_51 rfl (by decide) ?_
    refine t_zast (pc' := 53) dX12_lay_52 rfl sh_83 rfl (by omega) rfl ?_
    refine s_iconst (pc' := 54) (v := 0) dX12_lay_53 rfl (by decide) ?_
    refine t_istore_n (pc' := 55) (L' := [.ref 54, .int _, .int _]) dX12_lay_54 rfl (Nat.le_of_ble_eq_true rfl) rfl ?_
    refine l_X12_lay2 (I := lwR I k) (by omega) ?_ 8 0 rfl
    rw [lwR_o (a := 82) (by decide), lwR_s]
    refine t_iinc (pc' := 119) (v := nI (k + 1)) (L' := [.ref 54, .int _, .retAddr _]) dX12_lay_116 rfl rfl (nI_inc k) rfl ?_
    refine s_goto (tgt := 39) dX12_lay_119 (by decide) ?_
    exact ih (k + 1) (by omega)
theorem c_X12_lay {N : Nat} {S : Nat → Nat × Nat} {I : Nat → Nat → Int32} {J : Nat → Nat → Int64} {Q : Nat → Nat → Option Nat} {κ : Option Value → HP → Prop} {D : Nat → Nat → Int32} {nv nr ns : Nat} (hD : DA I D) (hW : DW D nv nr ns) (hA : AC D nv nr) (k1 : I 54 37 ≠ 0 → κ none (N, S, I, J, Q)) (k2 : I 54 37 = 0 → ∀ I' J', PY I I' J J' D nv nr ns → κ none (N, S, I', J', Q)) : CT E1 M_X12_lay [.ref 54] (N, S, I, J, Q) κ := by
  refine ofSP mk_X12_lay (Nat.le_of_ble_eq_true rfl) (L := [.ref 54, .retAddr _, .retAddr _]) rfl ?_
  refine s_aload_n (pc' := 1) dX12_lay_0 rfl rfl ?_
  refine t_getI (pc' := 4) dX12_lay_1 rfl sh_54 (by decide) fa_X12_153_12 rfl ?_
  refine s_ifeq (pc' := 7) (tgt := 8) dX12_lay_4 (by decide) rfl (fun c4 => ?_) (fun c4 => ?_)
  · refine s_aload_n (pc' := 9) dX12_lay_8 rfl rfl ?_
    refine s_iconst (pc' := 10) (v := 1) dX12_lay_9 rfl (by decide) ?_
    refine t_putI (pc' := 13) dX12_lay_10 rfl sh_54 (by decide) fa_X12_153_12 (Or.inl rfl) rfl rfl rfl ?_
    refine s_aload_n (pc' := 14) dX12_lay_13 rfl rfl ?_
    refine s_callV (pc' := 17) (As := []) dX12_lay_14 rfl mk_X12_findNeeds ml_X12_197 im_X12_findNeeds se_X12_X12_X12_findNeeds sh_54 (by decide) rfl rfl rfl ⟨Nat.le_of_ble_eq_true rfl, Nat.le_of_ble_eq_true rfl, Nat.le_of_ble_eq_true rfl, Nat.le_of_ble_eq_true rfl⟩ (Nat.le_of_ble_eq_true rfl) (c_X12_findNeeds (hD.up (Or.inl (by decide))) hW (fun I1 hn1 => ?_))
    refine s_iconst (pc' := 18) (v := 0) dX12_lay_17 rfl (by decide) ?_
    refine t_istore_n (pc' := 19) (L' := [.ref 54, .int _, .retAddr _]) dX12_lay_18 rfl (Nat.le_of_ble_eq_true rfl) rfl ?_
    exact l_X12_lay1 (hn1.1.da (hD.up (Or.inl (by decide)))) hW hA hn1.2 (fun I' J' hL => by
      refine s_iconst (pc' := 38) (v := 0) dX12_lay_37 rfl (by decide) ?_
      refine t_istore_n (pc' := 39) (L' := [.ref 54, .int _, .retAddr _]) dX12_lay_38 rfl (Nat.le_of_ble_eq_true rfl) rfl ?_
      exact s_eq rfl rfl (by rw [lwR_0]) (l_X12_lay3 (I := I') (k2 c4 _ _ (PY_of hn1.1 hL)) 256 0 rfl)
      ) 256 0 _ _ rfl ⟨fun _ _ _ _ _ => rfl, fun _ _ _ => rfl, fun _ _ _ => rfl, fun b hb => by omega⟩
  · exact s_vret dX12_lay_7 rfl (by decide) (by decide) (k1 c4)
