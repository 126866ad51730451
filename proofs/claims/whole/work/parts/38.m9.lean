/-- the values that rule r reads, as bits -/
def rb (D : Nat → Nat → Int32) (r : Nat) : Int32 := (if 2 < D 69 r then (1 : Int32) <<< (D 70 r &&& 31) else 0) ||| (if D 67 r < 0 then 0 else (1 : Int32) <<< (D 67 r &&& 31))
/-- what value v needs by the first k rules -/
def nd (D : Nat → Nat → Int32) : Nat → Nat → Int32
  | 0, _ => 0
  | k + 1, v => if D 60 k ≤ 3 ∧ D 61 k = nI v then nd D k v ||| rb D k else nd D k v
def F77 (I I' : Nat → Nat → Int32) : Prop := ∀ i, i ≠ 77 → I' i = I i
theorem F77.rf {I : Nat → Nat → Int32} : F77 I I := fun _ _ => rfl
theorem F77.up {I I' : Nat → Nat → Int32} (h : F77 I I') {j : Nat} {x : Int32} : F77 I (up2 I' 77 j x) := fun i hi => by rw [up2_o hi]; exact h i hi
theorem F77.da {I I' D : Nat → Nat → Int32} (h : F77 I I') (hD : DA I D) : DA I' D := fun i h1 h2 => by rw [h i (by omega)]; exact hD i h1 h2
theorem zr_F77 {I : Nat → Nat → Int32} {k : Nat} : F77 I (zr I 77 k) := fun i hi => by funext j; simp [zr, hi]
theorem DW.aim {I D : Nat → Nat → Int32} {nv nr ns r : Nat} (h : DW D nv nr ns) (hr : r < nr) (hD : DA I D) (e : D 60 r ≤ 3) : ∃ a, a < nv ∧ I 61 r = nI a := by
  rw [hD 61 (by decide) (by decide)]
  obtain ⟨a, -, h2, h3, -⟩ := (h.2.1 r hr).2.1
  refine ⟨a, h3 ?_, h2⟩
  rw [Int32.lt_iff_toInt_lt]; rw [Int32.le_iff_toInt_le] at e
  have e1 : (3 : Int32).toInt = 3 := by decide
  have e2 : (4 : Int32).toInt = 4 := by decide
  omega
theorem DW.ofv2 {I D : Nat → Nat → Int32} {nv nr ns r : Nat} (h : DW D nv nr ns) (hr : r < nr) (hD : DA I D) (e : 2 < I 69 r) : ∃ o, o < nv ∧ I 70 r = nI o := by
  have e2 : I 69 r = 3 ∨ I 69 r = 4 := by
    rcases h.how hr hD with z | z | z | z | z
    · rw [z] at e; exact absurd e (by decide)
    · rw [z] at e; exact absurd e (by decide)
    · rw [z] at e; exact absurd e (by decide)
    · exact Or.inl z
    · exact Or.inr z
  obtain ⟨o, h1, h2, -⟩ := h.ofv hr hD e2
  exact ⟨o, h1, h2⟩
theorem nd_s0 {D : Nat → Nat → Int32} {k v : Nat} (h : ¬ (D 60 k ≤ 3 ∧ D 61 k = nI v)) : nd D (k + 1) v = nd D k v := by rw [nd, if_neg h]
theorem nd_s1 {D : Nat → Nat → Int32} {k v : Nat} (h : D 60 k ≤ 3 ∧ D 61 k = nI v) : nd D (k + 1) v = nd D k v ||| rb D k := by rw [nd, if_pos h]
/-- the row of needs: one rule more -/
theorem nd_row {D : Nat → Nat → Int32} {I' : Nat → Nat → Int32} {k a : Nat} {y : Int32} (hP : ∀ v, v < 10 → I' 77 v = nd D k v) (h1 : D 60 k ≤ 3) (h2 : D 61 k = nI a) (ha : a < 10) (hy : y = rb D k) : ∀ v, v < 10 → up2 I' 77 a (I' 77 a ||| y) 77 v = nd D (k + 1) v := by
  intro v hv
  by_cases e : v = a
  · subst e; rw [up2_s, nd_s1 ⟨h1, h2⟩, hP v hv, hy]
  · rw [up2_e e, nd_s0 (fun z => e ((nI_eq (by omega) (by omega)).mp (z.2.symm.trans h2))), hP v hv]
theorem or_assoc3 (a b c : Int32) : (a ||| b) ||| c = a ||| (b ||| c) := by
  apply Int32.toBitVec_inj.mp; simp [BitVec.or_assoc]
theorem or_z (a : Int32) : a ||| 0 = a := by apply Int32.toBitVec_inj.mp; simp
theorem z_or (a : Int32) : 0 ||| a = a := by apply Int32.toBitVec_inj.mp; simp
theorem nd_row2 {D : Nat → Nat → Int32} {I' : Nat → Nat → Int32} {k a : Nat} {y z : Int32} (hP : ∀ v, v < 10 → I' 77 v = nd D k v) (h1 : D 60 k ≤ 3) (h2 : D 61 k = nI a) (ha : a < 10) (hy : y ||| z = rb D k) : ∀ v, v < 10 → up2 (up2 I' 77 a (I' 77 a ||| y)) 77 a (up2 I' 77 a (I' 77 a ||| y) 77 a ||| z) 77 v = nd D (k + 1) v := by
  rw [up2_uu, up2_s, or_assoc3]
  exact nd_row hP h1 h2 ha hy
/-- is the choice c free, or opened by one of the first k; is it barred -/
def opA (D : Nat → Nat → Int32) (x : Int32) (g : Nat → Int64) (th c : Int32) : Nat → Bool
  | 0 => decide (bitI (D 75 4) c = 1)
  | k + 1 => opA D x g th c k || wk D x g th k 5 c
def opB (D : Nat → Nat → Int32) (x : Int32) (g : Nat → Int64) (th c : Int32) : Nat → Bool
  | 0 => false
  | k + 1 => opB D x g th c k || wk D x g th k 6 c
def opn (D : Nat → Nat → Int32) (x : Int32) (g : Nat → Int64) (th c : Int32) (nr : Nat) : Bool := opA D x g th c nr && !opB D x g th c nr
/-- the open ones of the first k choices, as bits -/
def opM (D : Nat → Nat → Int32) (x : Int32) (g : Nat → Int64) (th : Int32) (nr : Nat) : Nat → Int32
  | 0 => 0
  | k + 1 => opM D x g th nr k ||| (if opn D x g th (nI k) nr = true then (1 : Int32) <<< (nI k &&& 31) else 0)
theorem l_X12_findNeeds1 {N : Nat} {S : Nat → Nat × Nat} {I : Nat → Nat → Int32} {J : Nat → Nat → Int64} {Q : Nat → Nat → Option Nat} {κ : Option Value → HP → Prop} (hk : SP E1 M_X12_findNeeds κ 21 [.ref 54, .retAddr 0] [] (N, S, zr I 77 10, J, Q) 0 0) : ∀ d : Nat, ∀ k, k + d = 10 → SP E1 M_X12_findNeeds κ 2 [.ref 54, .int (nI k)] [] (N, S, zr I 77 k, J, Q) 0 0 := by
  intro d
  induction d with
  | zero =>
    intro k hd
    obtain rfl : k = 10 := by omega
    refine s_iload_n (pc' := 3) dX12_findNeeds_2 rfl rfl ?_
    refine s_bipush (pc' := 5) (v := 10) dX12_findNeeds_3 rfl (by decide) ?_
    refine s_icmpgeT (tgt := 21) dX12_findNeeds_5 (by decide) (by decide) ?_
    exact s_fg [1] rfl hk
  | succ d ih =>
    intro k hd
    refine s_iload_n (pc' := 3) dX12_findNeeds_2 rfl rfl ?_
    refine s_bipush (pc' := 5) (v := 10) dX12_findNeeds_3 rfl (by decide) ?_
    refine s_icmpgeF (pc' := 8) (tgt := 21) dX12_findNeeds_5 (by decide) rfl (nI_ge (b := 10) (by omega) (by decide)) ?_
    refine s_aload_n (pc' := 9) dX12_findNeeds_8 rfl rfl ?_
    refine s_getS (pc' := 12) (b := 77) dX12_findNeeds_9 rfl (by decide) rfl (by decide) fa_X12_76_12 rfl rfl ?_
    refine s_iload_n (pc' := 13) dX12_findNeeds_12 rfl rfl ?_
    refine s_iconst (pc' := 14) (v := 0) dX12_findNeeds_13 rfl (by decide) ?_
    refine t_iast (pc' := 15) dX12_findNeeds_14 rfl sh_77 rfl (by omega) ?_
    refine t_iinc (pc' := 18) (v := nI (k + 1)) (L' := [.ref 54, .int _]) dX12_findNeeds_15 rfl rfl (nI_inc k) rfl ?_
    refine s_goto (tgt := 2) dX12_findNeeds_18 (by decide) ?_
    exact s_eq rfl rfl (by rw [zr_s]) (ih (k + 1) (by omega))
theorem l_X12_findNeeds2 {N : Nat} {S : Nat → Nat × Nat} {I : Nat → Nat → Int32} {J : Nat → Nat → Int64} {Q : Nat → Nat → Option Nat} {κ : Option Value → HP → Prop} {D : Nat → Nat → Int32} {nv nr ns : Nat} (hD : DA I D) (hW : DW D nv nr ns) (hk : ∀ I', (F77 I I' ∧ ∀ v, v < 10 → I' 77 v = nd D nr v) → κ none (N, S, I', J, Q)) : ∀ d : Nat, ∀ k I', k + d = nr → (F77 I I' ∧ ∀ v, v < 10 → I' 77 v = nd D k v) → SP E1 M_X12_findNeeds κ 23 [.ref 54, .int (nI k)] [] (N, S, I', J, Q) 0 0 := by
  intro d
  induction d with
  | zero =>
    intro k I' hd hP
    have hC := hP.1.da hD
    obtain rfl : k = nr := by omega
    refine s_iload_n (pc' := 24) dX12_findNeeds_23 rfl rfl ?_
    refine s_aload_n (pc' := 25) dX12_findNeeds_24 rfl rfl ?_
    refine s_getS (pc' := 28) (b := 75) dX12_findNeeds_25 rfl (by decide) rfl (by decide) fa_X12_70_12 rfl rfl ?_
    refine s_iconst (pc' := 29) (v := 1) dX12_findNeeds_28 rfl (by decide) ?_
    refine t_iald (pc' := 30) (q := 1) dX12_findNeeds_29 rfl sh_75 rfl (by decide) ?_
    refine s_icmpgeT (tgt := 115) dX12_findNeeds_30 (by decide) (by rw [hW.rn hC]; exact nI_le (Nat.le_refl _) (by have := hW.nr; omega)) ?_
    exact s_vret dX12_findNeeds_115 rfl (by decide) (by decide) (hk I' hP)
  | succ d ih =>
    intro k I' hd hP
    have hC := hP.1.da hD
    have hn30 := hW.nr
    refine s_iload_n (pc' := 24) dX12_findNeeds_23 rfl rfl ?_
    refine s_aload_n (pc' := 25) dX12_findNeeds_24 rfl rfl ?_
    refine s_getS (pc' := 28) (b := 75) dX12_findNeeds_25 rfl (by decide) rfl (by decide) fa_X12_70_12 rfl rfl ?_
    refine s_iconst (pc' := 29) (v := 1) dX12_findNeeds_28 rfl (by decide) ?_
    refine t_iald (pc' := 30) (q := 1) dX12_findNeeds_29 rfl sh_75 rfl (by decide) ?_
    refine s_icmpgeF (pc' := 33) (tgt := 115) dX12_findNeeds_30 (by decide) rfl (by rw [hW.rn hC]; exact nI_ge (by omega) (by have := hW.nr; omega)) ?_
    refine s_aload_n (pc' := 34) dX12_findNeeds_33 rfl rfl ?_
    refine s_getS (pc' := 37) (b := 60) dX12_findNeeds_34 rfl (by decide) rfl (by decide) fa_X12_25_12 rfl rfl ?_
    refine s_iload_n (pc' := 38) dX12_findNeeds_37 rfl rfl ?_
    refine t_iald (pc' := 39) dX12_findNeeds_38 rfl sh_60 rfl (by have := hW.nr; omega) ?_
    refine s_iconst (pc' := 40) (v := 3) dX12_findNeeds_39 rfl (by decide) ?_
    refine s_icmple (pc' := 43) (tgt := 46) dX12_findNeeds_40 (by decide) rfl (fun c40 => ?_) (fun c40 => ?_)
    · obtain ⟨aa, ha1, ha2⟩ := hW.aim (r := k) (by omega) hC (by rw [← hC 60 (by decide) (by decide)]; exact c40)
      refine s_aload_n (pc' := 47) dX12_findNeeds_46 rfl rfl ?_
      refine s_getS (pc' := 50) (b := 69) dX12_findNeeds_47 rfl (by decide) rfl (by decide) fa_X12_52_12 rfl rfl ?_
      refine s_iload_n (pc' := 51) dX12_findNeeds_50 rfl rfl ?_
      refine t_iald (pc' := 52) dX12_findNeeds_51 rfl sh_69 rfl (by have := hW.nr; omega) ?_
      refine s_iconst (pc' := 53) (v := 2) dX12_findNeeds_52 rfl (by decide) ?_
      refine s_icmple (pc' := 56) (tgt := 78) dX12_findNeeds_53 (by decide) rfl (fun c53 => ?_) (fun c53 => ?_)
      · refine s_aload_n (pc' := 79) dX12_findNeeds_78 rfl rfl ?_
        refine s_getS (pc' := 82) (b := 67) dX12_findNeeds_79 rfl (by decide) rfl (by decide) fa_X12_46_12 rfl rfl ?_
        refine s_iload_n (pc' := 83) dX12_findNeeds_82 rfl rfl ?_
        refine t_iald (pc' := 84) dX12_findNeeds_83 rfl sh_67 rfl (by have := hW.nr; omega) ?_
        refine s_iflt (pc' := 87) (tgt := 109) dX12_findNeeds_84 (by decide) rfl (fun c84 => ?_) (fun c84 => ?_)
        · refine t_iinc (pc' := 112) (v := nI (k + 1)) (L' := [.ref 54, .int _]) dX12_findNeeds_109 rfl rfl (nI_inc k) rfl ?_
          refine s_goto (tgt := 23) dX12_findNeeds_112 (by decide) ?_
          rw [hC 60 (by decide) (by decide)] at c40
          rw [hC 61 (by decide) (by decide)] at ha2
          have q53 : ¬ 2 < D 69 k := by have z := c53; rw [hC 69 (by decide) (by decide)] at z; exact Int32.not_lt.mpr z
          (try simp (disch := decide) only [up2_d] at c84)
          have q84 : D 67 k < 0 := by have z := c84; rw [hC 67 (by decide) (by decide)] at z; exact z
          exact ih (k + 1) I' (by omega) ⟨hP.1, fun v hv => by
            by_cases e : D 61 k = nI v
            · rw [nd_s1 ⟨c40, e⟩, show rb D k = 0 by unfold rb; rw [if_neg q53, if_pos q84]; rfl, or_z]; exact hP.2 v hv
            · rw [nd_s0 (fun z => e z.2)]; exact hP.2 v hv⟩
        · refine s_aload_n (pc' := 88) dX12_findNeeds_87 rfl rfl ?_
          refine s_getS (pc' := 91) (b := 77) dX12_findNeeds_88 rfl (by decide) rfl (by decide) fa_X12_76_12 rfl rfl ?_
          refine s_aload_n (pc' := 92) dX12_findNeeds_91 rfl rfl ?_
          refine s_getS (pc' := 95) (b := 61) dX12_findNeeds_92 rfl (by decide) rfl (by decide) fa_X12_28_12 rfl rfl ?_
          refine s_iload_n (pc' := 96) dX12_findNeeds_95 rfl rfl ?_
          refine t_iald (pc' := 97) dX12_findNeeds_96 rfl sh_61 rfl (by have := hW.nr; omega) ?_
          refine s_dup2 (pc' := 98) dX12_findNeeds_97 rfl rfl rfl ?_
          refine t_iald (pc' := 99) (q := aa) dX12_findNeeds_98 rfl sh_77 (by (try simp (disch := decide) only [up2_d]); exact ha2) (by have := hW.nv; omega) ?_
          refine s_iconst (pc' := 100) (v := 1) dX12_findNeeds_99 rfl (by decide) ?_
          refine s_aload_n (pc' := 101) dX12_findNeeds_100 rfl rfl ?_
          refine s_getS (pc' := 104) (b := 67) dX12_findNeeds_101 rfl (by decide) rfl (by decide) fa_X12_46_12 rfl rfl ?_
          refine s_iload_n (pc' := 105) dX12_findNeeds_104 rfl rfl ?_
          refine t_iald (pc' := 106) dX12_findNeeds_105 rfl sh_67 rfl (by have := hW.nr; omega) ?_
          refine s_ishl (pc' := 107) dX12_findNeeds_106 rfl ?_
          refine s_ior (pc' := 108) dX12_findNeeds_107 rfl ?_
          refine t_iast (pc' := 109) (q := aa) dX12_findNeeds_108 rfl sh_77 (by (try simp (disch := decide) only [up2_d]); exact ha2) (by have := hW.nv; omega) ?_
          refine t_iinc (pc' := 112) (v := nI (k + 1)) (L' := [.ref 54, .int _]) dX12_findNeeds_109 rfl rfl (nI_inc k) rfl ?_
          refine s_goto (tgt := 23) dX12_findNeeds_112 (by decide) ?_
          rw [hC 60 (by decide) (by decide)] at c40
          rw [hC 61 (by decide) (by decide)] at ha2
          have q53 : ¬ 2 < D 69 k := by have z := c53; rw [hC 69 (by decide) (by decide)] at z; exact Int32.not_lt.mpr z
          (try simp (disch := decide) only [up2_d] at c84)
          have q84 : ¬ D 67 k < 0 := by have z := c84; rw [hC 67 (by decide) (by decide)] at z; exact z
          exact ih (k + 1) _ (by omega) ⟨hP.1.up, nd_row hP.2 c40 ha2 (by have := hW.nv; omega) (by rw [hC 67 (by decide) (by decide)]; unfold rb; rw [if_neg q53, if_neg q84]; rw [z_or])⟩
      · refine s_aload_n (pc' := 57) dX12_findNeeds_56 rfl rfl ?_
        refine s_getS (pc' := 60) (b := 77) dX12_findNeeds_57 rfl (by decide) rfl (by decide) fa_X12_76_12 rfl rfl ?_
        refine s_aload_n (pc' := 61) dX12_findNeeds_60 rfl rfl ?_
        refine s_getS (pc' := 64) (b := 61) dX12_findNeeds_61 rfl (by decide) rfl (by decide) fa_X12_28_12 rfl rfl ?_
        refine s_iload_n (pc' := 65) dX12_findNeeds_64 rfl rfl ?_
        refine t_iald (pc' := 66) dX12_findNeeds_65 rfl sh_61 rfl (by have := hW.nr; omega) ?_
        refine s_dup2 (pc' := 67) dX12_findNeeds_66 rfl rfl rfl ?_
        refine t_iald (pc' := 68) (q := aa) dX12_findNeeds_67 rfl sh_77 (by (try simp (disch := decide) only [up2_d]); exact ha2) (by have := hW.nv; omega) ?_
        refine s_iconst (pc' := 69) (v := 1) dX12_findNeeds_68 rfl (by decide) ?_
        refine s_aload_n (pc' := 70) dX12_findNeeds_69 rfl rfl ?_
        refine s_getS (pc' := 73) (b := 70) dX12_findNeeds_70 rfl (by decide) rfl (by decide) fa_X12_55_12 rfl rfl ?_
        refine s_iload_n (pc' := 74) dX12_findNeeds_73 rfl rfl ?_
        refine t_iald (pc' := 75) dX12_findNeeds_74 rfl sh_70 rfl (by have := hW.nr; omega) ?_
        refine s_ishl (pc' := 76) dX12_findNeeds_75 rfl ?_
        refine s_ior (pc' := 77) dX12_findNeeds_76 rfl ?_
        refine t_iast (pc' := 78) (q := aa) dX12_findNeeds_77 rfl sh_77 (by (try simp (disch := decide) only [up2_d]); exact ha2) (by have := hW.nv; omega) ?_
        refine s_aload_n (pc' := 79) dX12_findNeeds_78 rfl rfl ?_
        refine s_getS (pc' := 82) (b := 67) dX12_findNeeds_79 rfl (by decide) rfl (by decide) fa_X12_46_12 rfl rfl ?_
        refine s_iload_n (pc' := 83) dX12_findNeeds_82 rfl rfl ?_
        refine t_iald (pc' := 84) dX12_findNeeds_83 rfl sh_67 rfl (by have := hW.nr; omega) ?_
        refine s_iflt (pc' := 87) (tgt := 109) dX12_findNeeds_84 (by decide) rfl (fun c84 => ?_) (fun c84 => ?_)
        · refine t_iinc (pc' := 112) (v := nI (k + 1)) (L' := [.ref 54, .int _]) dX12_findNeeds_109 rfl rfl (nI_inc k) rfl ?_
          refine s_goto (tgt := 23) dX12_findNeeds_112 (by decide) ?_
          rw [hC 60 (by decide) (by decide)] at c40
          rw [hC 61 (by decide) (by decide)] at ha2
          have q53 : 2 < D 69 k := by have z := Int32.not_le.mp c53; rw [hC 69 (by decide) (by decide)] at z; exact z
          (try simp (disch := decide) only [up2_d] at c84)
          have q84 : D 67 k < 0 := by have z := c84; rw [hC 67 (by decide) (by decide)] at z; exact z
          exact ih (k + 1) _ (by omega) ⟨hP.1.up, nd_row hP.2 c40 ha2 (by have := hW.nv; omega) (by rw [hC 70 (by decide) (by decide)]; unfold rb; rw [if_pos q53, if_pos q84]; rw [or_z])⟩
        · refine s_aload_n (pc' := 88) dX12_findNeeds_87 rfl rfl ?_
          refine s_getS (pc' := 91) (b := 77) dX12_findNeeds_88 rfl (by decide) rfl (by decide) fa_X12_76_12 rfl rfl ?_
          refine s_aload_n (pc' := 92) dX12_findNeeds_91 rfl rfl ?_
          refine s_getS (pc' := 95) (b := 61) dX12_findNeeds_92 rfl (by decide) rfl (by decide) fa_X12_28_12 rfl rfl ?_
          refine s_iload_n (pc' := 96) dX12_findNeeds_95 rfl rfl ?_
          refine t_iald (pc' := 97) dX12_findNeeds_96 rfl sh_61 rfl (by have := hW.nr; omega) ?_
          refine s_dup2 (pc' := 98) dX12_findNeeds_97 rfl rfl rfl ?_
          refine t_iald (pc' := 99) (q := aa) dX12_findNeeds_98 rfl sh_77 (by (try simp (disch := decide) only [up2_d]); exact ha2) (by have := hW.nv; omega) ?_
          refine s_iconst (pc' := 100) (v := 1) dX12_findNeeds_99 rfl (by decide) ?_
          refine s_aload_n (pc' := 101) dX12_findNeeds_100 rfl rfl ?_
          refine s_getS (pc' := 104) (b := 67) dX12_findNeeds_101 rfl (by decide) rfl (by decide) fa_X12_46_12 rfl rfl ?_
          refine s_iload_n (pc' := 105) dX12_findNeeds_104 rfl rfl ?_
          refine t_iald (pc' := 106) dX12_findNeeds_105 rfl sh_67 rfl (by have := hW.nr; omega) ?_
          refine s_ishl (pc' := 107) dX12_findNeeds_106 rfl ?_
          refine s_ior (pc' := 108) dX12_findNeeds_107 rfl ?_
          refine t_iast (pc' := 109) (q := aa) dX12_findNeeds_108 rfl sh_77 (by (try simp (disch := decide) only [up2_d]); exact ha2) (by have := hW.nv; omega) ?_
          refine t_iinc (pc' := 112) (v := nI (k + 1)) (L' := [.ref 54, .int _]) dX12_findNeeds_109 rfl rfl (nI_inc k) rfl ?_
          refine s_goto (tgt := 23) dX12_findNeeds_112 (by decide) ?_
          rw [hC 60 (by decide) (by decide)] at c40
          rw [hC 61 (by decide) (by decide)] at ha2
          have q53 : 2 < D 69 k := by have z := Int32.not_le.mp c53; rw [hC 69 (by decide) (by decide)] at z; exact z
          (try simp (disch := decide) only [up2_d] at c84)
          have q84 : ¬ D 67 k < 0 := by have z := c84; rw [hC 67 (by decide) (by decide)] at z; exact z
          exact ih (k + 1) _ (by omega) ⟨hP.1.up.up, nd_row2 hP.2 c40 ha2 (by have := hW.nv; omega) (by simp (disch := decide) only [up2_d]; rw [hC 70 (by decide) (by decide), hC 67 (by decide) (by decide)]; unfold rb; rw [if_pos q53, if_neg q84])⟩
    · refine s_goto (tgt := 109) dX12_findNeeds_43 (by decide) ?_
      refine t_iinc (pc' := 112) (v := nI (k + 1)) (L' := [.ref 54, .int _]) dX12_findNeeds_109 rfl rfl (nI_inc k) rfl ?_
      refine s_goto (tgt := 23) dX12_findNeeds_112 (by decide) ?_
      rw [hC 60 (by decide) (by decide)] at c40
      exact ih (k + 1) I' (by omega) ⟨hP.1, fun v hv => by rw [nd_s0 (fun z => c40 z.1)]; exact hP.2 v hv⟩
theorem c_X12_findNeeds {N : Nat} {S : Nat → Nat × Nat} {I : Nat → Nat → Int32} {J : Nat → Nat → Int64} {Q : Nat → Nat → Option Nat} {κ : Option Value → HP → Prop} {D : Nat → Nat → Int32} {nv nr ns : Nat} (hD : DA I D) (hW : DW D nv nr ns) (hk : ∀ I', (F77 I I' ∧ ∀ v, v < 10 → I' 77 v = nd D nr v) → κ none (N, S, I', J, Q)) : CT E1 M_X12_findNeeds [.ref 54] (N, S, I, J, Q) κ := by
  refine ofSP mk_X12_findNeeds (Nat.le_of_ble_eq_true rfl) (L := [.ref 54, .retAddr _]) rfl ?_
  refine s_iconst (pc' := 1) (v := 0) dX12_findNeeds_0 rfl (by decide) ?_
  refine t_istore_n (pc' := 2) (L' := [.ref 54, .int _]) dX12_findNeeds_1 rfl (Nat.le_of_ble_eq_true rfl) rfl ?_
  refine s_eq rfl rfl (by rw [zr_0]) (l_X12_findNeeds1 (I := I) ?_ 10 0 rfl)
  refine s_iconst (pc' := 22) (v := 0) dX12_findNeeds_21 rfl (by decide) ?_
  refine t_istore_n (pc' := 23) (L' := [.ref 54, .int _]) dX12_findNeeds_22 rfl (Nat.le_of_ble_eq_true rfl) rfl ?_
  exact l_X12_findNeeds2 hD hW hk nr 0 _ (by omega) ⟨zr_F77, fun v hv => by simp [zr, hv, nd]⟩
theorem l_X12_opens {N : Nat} {S : Nat → Nat × Nat} {I : Nat → Nat → Int32} {J : Nat → Nat → Int64} {Q : Nat → Nat → Option Nat} {κ : Option Value → HP → Prop} {D : Nat → Nat → Int32} {nv nr ns b : Nat} {th : Int32} (C : ST I D nv nr ns b th) {c : Int32} (ht : opn D (nI b) (gM J b) th c nr = true → κ (some (.int 1)) (N, S, I, J, Q)) (hf : opn D (nI b) (gM J b) th c nr = false → κ (some (.int 0)) (N, S, I, J, Q)) : ∀ d : Nat, ∀ k, k + d = nr → SP E1 M_X12_opens κ 25 [.ref 54, .int c, .int (b2 (opA D (nI b) (gM J b) th c k)), .int (b2 (opB D (nI b) (gM J b) th c k)), .int (nI k)] [] (N, S, I, J, Q) 0 0 := by
  intro d
  induction d with
  | zero =>
    intro k hd
    obtain rfl : k = nr := by omega
    refine s_iload (pc' := 27) dX12_opens_25 rfl rfl ?_
    refine s_aload_n (pc' := 28) dX12_opens_27 rfl rfl ?_
    refine s_getS (pc' := 31) (b := 75) dX12_opens_28 rfl (by decide) rfl (by decide) fa_X12_70_12 rfl rfl ?_
    refine s_iconst (pc' := 32) (v := 1) dX12_opens_31 rfl (by decide) ?_
    refine t_iald (pc' := 33) (q := 1) dX12_opens_32 rfl sh_75 rfl (by decide) ?_
    refine s_icmpgeT (tgt := 85) dX12_opens_33 (by decide) (by rw [C.1.2.1.rn C.1.1]; exact nI_le (Nat.le_refl _) (by have := C.1.2.1.nr; omega)) ?_
    refine s_iload_n (pc' := 86) dX12_opens_85 rfl rfl ?_
    refine s_ifeq (pc' := 89) (tgt := 97) dX12_opens_86 (by decide) rfl (fun c86 => ?_) (fun c86 => ?_)
    · refine s_iconst (pc' := 98) (v := 0) dX12_opens_97 rfl (by decide) ?_
      exact s_zret dX12_opens_98 rfl rfl (by decide) (by decide) (hf (by unfold opn; rw [b2_0 c86]; skip; rfl))
    · refine s_iload_n (pc' := 90) dX12_opens_89 rfl rfl ?_
      refine s_ifne (pc' := 93) (tgt := 97) dX12_opens_90 (by decide) rfl (fun c90 => ?_) (fun c90 => ?_)
      · refine s_iconst (pc' := 98) (v := 0) dX12_opens_97 rfl (by decide) ?_
        exact s_zret dX12_opens_98 rfl rfl (by decide) (by decide) (hf (by unfold opn; rw [b2_1 c86]; rw [b2_1 c90]; rfl))
      · refine s_iconst (pc' := 94) (v := 1) dX12_opens_93 rfl (by decide) ?_
        refine s_goto (tgt := 98) dX12_opens_94 (by decide) ?_
        exact s_zret dX12_opens_98 rfl rfl (by decide) (by decide) (ht (by unfold opn; rw [b2_1 c86]; rw [b2_0 c90]; rfl))
  | succ d ih =>
    intro k hd
    have hn30 := C.1.2.1.nr
    refine s_iload (pc' := 27) dX12_opens_25 rfl rfl ?_
    refine s_aload_n (pc' := 28) dX12_opens_27 rfl rfl ?_
    refine s_getS (pc' := 31) (b := 75) dX12_opens_28 rfl (by decide) rfl (by decide) fa_X12_70_12 rfl rfl ?_
    refine s_iconst (pc' := 32) (v := 1) dX12_opens_31 rfl (by decide) ?_
    refine t_iald (pc' := 33) (q := 1) dX12_opens_32 rfl sh_75 rfl (by decide) ?_
    refine s_icmpgeF (pc' := 36) (tgt := 85) dX12_opens_33 (by decide) rfl (by rw [C.1.2.1.rn C.1.1]; exact nI_ge (by omega) (by have := C.1.2.1.nr; omega)) ?_
    refine s_iload_n (pc' := 37) dX12_opens_36 rfl rfl ?_
    refine s_ifne (pc' := 40) (tgt := 51) dX12_opens_37 (by decide) rfl (fun c37 => ?_) (fun c37 => ?_)
    · refine s_iconst (pc' := 52) (v := 1) dX12_opens_51 rfl (by decide) ?_
      refine s_goto (tgt := 56) dX12_opens_52 (by decide) ?_
      refine t_istore_n (pc' := 57) (L' := [.ref 54, .int _, .int _, .int _, .int _]) dX12_opens_56 rfl (Nat.le_of_ble_eq_true rfl) rfl ?_
      refine s_iload_n (pc' := 58) dX12_opens_57 rfl rfl ?_
      refine s_ifne (pc' := 61) (tgt := 73) dX12_opens_58 (by decide) rfl (fun c58 => ?_) (fun c58 => ?_)
      · refine s_iconst (pc' := 74) (v := 1) dX12_opens_73 rfl (by decide) ?_
        refine s_goto (tgt := 78) dX12_opens_74 (by decide) ?_
        refine t_istore_n (pc' := 79) (L' := [.ref 54, .int _, .int _, .int _, .int _]) dX12_opens_78 rfl (Nat.le_of_ble_eq_true rfl) rfl ?_
        refine t_iinc (pc' := 82) (v := nI (k + 1)) (L' := [.ref 54, .int _, .int _, .int _, .int _]) dX12_opens_79 rfl rfl (nI_inc k) rfl ?_
        refine s_goto (tgt := 25) dX12_opens_82 (by decide) ?_
        have e1 : b2 (opA D (nI b) (gM J b) th c (k + 1)) = 1 := by rw [opA, b2_1 c37]; rfl
        have e2 : b2 (opB D (nI b) (gM J b) th c (k + 1)) = 1 := by rw [opB, b2_1 c58]; rfl
        exact s_eq (by rw [e1, e2]) rfl rfl (ih (k + 1) (by omega))
      · refine s_aload_n (pc' := 62) dX12_opens_61 rfl rfl ?_
        refine s_iload (pc' := 64) dX12_opens_62 rfl rfl ?_
        refine s_bipush (pc' := 66) (v := 6) dX12_opens_64 rfl (by decide) ?_
        refine s_iload_n (pc' := 67) dX12_opens_66 rfl rfl ?_
        refine s_callV (pc' := 70) (As := [.int _, .int _, .int _]) dX12_opens_67 rfl mk_X12_works ml_X12_237 im_X12_works se_X12_X12_X12_works sh_54 (by decide) rfl rfl rfl ⟨Nat.le_of_ble_eq_true rfl, Nat.le_of_ble_eq_true rfl, Nat.le_of_ble_eq_true rfl, Nat.le_of_ble_eq_true rfl⟩ (Nat.le_of_ble_eq_true rfl) (e_works C (r := _) (by omega) (fun w67 => ?_) (fun w67 => ?_))
        · refine s_ifeqF (pc' := 73) (tgt := 77) dX12_opens_70 (by decide) rfl (by decide) ?_
          refine s_iconst (pc' := 74) (v := 1) dX12_opens_73 rfl (by decide) ?_
          refine s_goto (tgt := 78) dX12_opens_74 (by decide) ?_
          refine t_istore_n (pc' := 79) (L' := [.ref 54, .int _, .int _, .int _, .int _]) dX12_opens_78 rfl (Nat.le_of_ble_eq_true rfl) rfl ?_
          refine t_iinc (pc' := 82) (v := nI (k + 1)) (L' := [.ref 54, .int _, .int _, .int _, .int _]) dX12_opens_79 rfl rfl (nI_inc k) rfl ?_
          refine s_goto (tgt := 25) dX12_opens_82 (by decide) ?_
          have e1 : b2 (opA D (nI b) (gM J b) th c (k + 1)) = 1 := by rw [opA, b2_1 c37]; rfl
          have e2 : b2 (opB D (nI b) (gM J b) th c (k + 1)) = 1 := by rw [opB, b2_0 c58, w67]; rfl
          exact s_eq (by rw [e1, e2]) rfl rfl (ih (k + 1) (by omega))
        · refine s_ifeqT (tgt := 77) dX12_opens_70 (by decide) (by decide) ?_
          refine s_iconst (pc' := 78) (v := 0) dX12_opens_77 rfl (by decide) ?_
          refine t_istore_n (pc' := 79) (L' := [.ref 54, .int _, .int _, .int _, .int _]) dX12_opens_78 rfl (Nat.le_of_ble_eq_true rfl) rfl ?_
          refine t_iinc (pc' := 82) (v := nI (k + 1)) (L' := [.ref 54, .int _, .int _, .int _, .int _]) dX12_opens_79 rfl rfl (nI_inc k) rfl ?_
          refine s_goto (tgt := 25) dX12_opens_82 (by decide) ?_
          have e1 : b2 (opA D (nI b) (gM J b) th c (k + 1)) = 1 := by rw [opA, b2_1 c37]; rfl
          have e2 : b2 (opB D (nI b) (gM J b) th c (k + 1)) = 0 := by rw [opB, b2_0 c58, w67]; rfl
          exact s_eq (by rw [e1, e2]) rfl rfl (ih (k + 1) (by omega))
    · refine s_aload_n (pc' := 41) dX12_opens_40 rfl rfl ?_
      refine s_iload (pc' := 43) dX12_opens_41 rfl rfl ?_
      refine s_iconst (pc' := 44) (v := 5) dX12_opens_43 rfl (by decide) ?_
      refine s_iload_n (pc' := 45) dX12_opens_44 rfl rfl ?_
      refine s_callV (pc' := 48) (As := [.int _, .int _, .int _]) dX12_opens_45 rfl mk_X12_works ml_X12_237 im_X12_works se_X12_X12_X12_works sh_54 (by decide) rfl rfl rfl ⟨Nat.le_of_ble_eq_true rfl, Nat.le_of_ble_eq_true rfl, Nat.le_of_ble_eq_true rfl, Nat.le_of_ble_eq_true rfl⟩ (Nat.le_of_ble_eq_true rfl) (e_works C (r := _) (by omega) (fun w45 => ?_) (fun w45 => ?_))
      · refine s_ifeqF (pc' := 51) (tgt := 55) dX12_opens_48 (by decide) rfl (by decide) ?_
        refine s_iconst (pc' := 52) (v := 1) dX12_opens_51 rfl (by decide) ?_
        refine s_goto (tgt := 56) dX12_opens_52 (by decide) ?_
        refine t_istore_n (pc' := 57) (L' := [.ref 54, .int _, .int _, .int _, .int _]) dX12_opens_56 rfl (Nat.le_of_ble_eq_true rfl) rfl ?_
        refine s_iload_n (pc' := 58) dX12_opens_57 rfl rfl ?_
        refine s_ifne (pc' := 61) (tgt := 73) dX12_opens_58 (by decide) rfl (fun c58 => ?_) (fun c58 => ?_)
        · refine s_iconst (pc' := 74) (v := 1) dX12_opens_73 rfl (by decide) ?_
          refine s_goto (tgt := 78) dX12_opens_74 (by decide) ?_
          refine t_istore_n (pc' := 79) (L' := [.ref 54, .int _, .int _, .int _, .int _]) dX12_opens_78 rfl (Nat.le_of_ble_eq_true rfl) rfl ?_
          refine t_iinc (pc' := 82) (v := nI (k + 1)) (L' := [.ref 54, .int _, .int _, .int _, .int _]) dX12_opens_79 rfl rfl (nI_inc k) rfl ?_
          refine s_goto (tgt := 25) dX12_opens_82 (by decide) ?_
          have e1 : b2 (opA D (nI b) (gM J b) th c (k + 1)) = 1 := by rw [opA, b2_0 c37, w45]; rfl
          have e2 : b2 (opB D (nI b) (gM J b) th c (k + 1)) = 1 := by rw [opB, b2_1 c58]; rfl
          exact s_eq (by rw [e1, e2]) rfl rfl (ih (k + 1) (by omega))
        · refine s_aload_n (pc' := 62) dX12_opens_61 rfl rfl ?_
          refine s_iload (pc' := 64) dX12_opens_62 rfl rfl ?_
          refine s_bipush (pc' := 66) (v := 6) dX12_opens_64 rfl (by decide) ?_
          refine s_iload_n (pc' := 67) dX12_opens_66 rfl rfl ?_
          refine s_callV (pc' := 70) (As := [.int _, .int _, .int _]) dX12_opens_67 rfl mk_X12_works ml_X12_237 im_X12_works se_X12_X12_X12_works sh_54 (by decide) rfl rfl rfl ⟨Nat.le_of_ble_eq_true rfl, Nat.le_of_ble_eq_true rfl, Nat.le_of_ble_eq_true rfl, Nat.le_of_ble_eq_true rfl⟩ (Nat.le_of_ble_eq_true rfl) (e_works C (r := _) (by omega) (fun w67 => ?_) (fun w67 => ?_))
          · refine s_ifeqF (pc' := 73) (tgt := 77) dX12_opens_70 (by decide) rfl (by decide) ?_
            refine s_iconst (pc' := 74) (v := 1) dX12_opens_73 rfl (by decide) ?_
            refine s_goto (tgt := 78) dX12_opens_74 (by decide) ?_
            refine t_istore_n (pc' := 79) (L' := [.ref 54, .int _, .int _, .int _, .int _]) dX12_opens_78 rfl (Nat.le_of_ble_eq_true rfl) rfl ?_
            refine t_iinc (pc' := 82) (v := nI (k + 1)) (L' := [.ref 54, .int _, .int _, .int _, .int _]) dX12_opens_79 rfl rfl (nI_inc k) rfl ?_
            refine s_goto (tgt := 25) dX12_opens_82 (by decide) ?_
            have e1 : b2 (opA D (nI b) (gM J b) th c (k + 1)) = 1 := by rw [opA, b2_0 c37, w45]; rfl
            have e2 : b2 (opB D (nI b) (gM J b) th c (k + 1)) = 1 := by rw [opB, b2_0 c58, w67]; rfl
            exact s_eq (by rw [e1, e2]) rfl rfl (ih (k + 1) (by omega))
          · refine s_ifeqT (tgt := 77) dX12_opens_70 (by decide) (by decide) ?_
            refine s_iconst (pc' := 78) (v := 0) dX12_opens_77 rfl (by decide) ?_
            refine t_istore_n (pc' := 79) (L' := [.ref 54, .int _, .int _, .int _, .int _]) dX12_opens_78 rfl (Nat.le_of_ble_eq_true rfl) rfl ?_
            refine t_iinc (pc' := 82) (v := nI (k + 1)) (L' := [.ref 54, .int _, .int _, .int _, .int _]) dX12_opens_79 rfl rfl (nI_inc k) rfl ?_
            refine s_goto (tgt := 25) dX12_opens_82 (by decide) ?_
            have e1 : b2 (opA D (nI b) (gM J b) th c (k + 1)) = 1 := by rw [opA, b2_0 c37, w45]; rfl
            have e2 : b2 (opB D (nI b) (gM J b) th c (k + 1)) = 0 := by rw [opB, b2_0 c58, w67]; rfl
            exact s_eq (by rw [e1, e2]) rfl rfl (ih (k + 1) (by omega))
      · refine s_ifeqT (tgt := 55) dX12_opens_48 (by decide) (by decide) ?_
        refine s_iconst (pc' := 56) (v := 0) dX12_opens_55 rfl (by decide) ?_
        refine t_istore_n (pc' := 57) (L' := [.ref 54, .int _, .int _, .int _, .int _]) dX12_opens_56 rfl (Nat.le_of_ble_eq_true rfl) rfl ?_
        refine s_iload_n (pc' := 58) dX12_opens_57 rfl rfl ?_
        refine s_ifne (pc' := 61) (tgt := 73) dX12_opens_58 (by decide) rfl (fun c58 => ?_) (fun c58 => ?_)
        · refine s_iconst (pc' := 74) (v := 1) dX12_opens_73 rfl (by decide) ?_
          refine s_goto (tgt := 78) dX12_opens_74 (by decide) ?_
          refine t_istore_n (pc' := 79) (L' := [.ref 54, .int _, .int _, .int _, .int _]) dX12_opens_78 rfl (Nat.le_of_ble_eq_true rfl) rfl ?_
          refine t_iinc (pc' := 82) (v := nI (k + 1)) (L' := [.ref 54, .int _, .int _, .int _, .int _]) dX12_opens_79 rfl rfl (nI_inc k) rfl ?_
          refine s_goto (tgt := 25) dX12_opens_82 (by decide) ?_
          have e1 : b2 (opA D (nI b) (gM J b) th c (k + 1)) = 0 := by rw [opA, b2_0 c37, w45]; rfl
          have e2 : b2 (opB D (nI b) (gM J b) th c (k + 1)) = 1 := by rw [opB, b2_1 c58]; rfl
          exact s_eq (by rw [e1, e2]) rfl rfl (ih (k + 1) (by omega))
        · refine s_aload_n (pc' := 62) dX12_opens_61 rfl rfl ?_
          refine s_iload (pc' := 64) dX12_opens_62 rfl rfl ?_
          refine s_bipush (pc' := 66) (v := 6) dX12_opens_64 rfl (by decide) ?_
          refine s_iload_n (pc' := 67) dX12_opens_66 rfl rfl ?_
          refine s_callV (pc' := 70) (As := [.int _, .int _, .int _]) dX12_opens_67 rfl mk_X12_works ml_X12_237 im_X12_works se_X12_X12_X12_works sh_54 (by decide) rfl rfl rfl ⟨Nat.le_of_ble_eq_true rfl, Nat.le_of_ble_eq_true rfl, Nat.le_of_ble_eq_true rfl, Nat.le_of_ble_eq_true rfl⟩ (Nat.le_of_ble_eq_true rfl) (e_works C (r := _) (by omega) (fun w67 => ?_) (fun w67 => ?_))
          · refine s_ifeqF (pc' := 73) (tgt := 77) dX12_opens_70 (by decide) rfl (by decide) ?_
            refine s_iconst (pc' := 74) (v := 1) dX12_opens_73 rfl (by decide) ?_
            refine s_goto (tgt := 78) dX12_opens_74 (by decide) ?_
            refine t_istore_n (pc' := 79) (L' := [.ref 54, .int _, .int _, .int _, .int _]) dX12_opens_78 rfl (Nat.le_of_ble_eq_true rfl) rfl ?_
            refine t_iinc (pc' := 82) (v := nI (k + 1)) (L' := [.ref 54, .int _, .int _, .int _, .int _]) dX12_opens_79 rfl rfl (nI_inc k) rfl ?_
            refine s_goto (tgt := 25) dX12_opens_82 (by decide) ?_
            have e1 : b2 (opA D (nI b) (gM J b) th c (k + 1)) = 0 := by rw [opA, b2_0 c37, w45]; rfl
            have e2 : b2 (opB D (nI b) (gM J b) th c (k + 1)) = 1 := by rw [opB, b2_0 c58, w67]; rfl
            exact s_eq (by rw [e1, e2]) rfl rfl (ih (k + 1) (by omega))
          · refine s_ifeqT (tgt := 77) dX12_opens_70 (by decide) (by decide) ?_
            refine s_iconst (pc' := 78) (v := 0) dX12_opens_77 rfl (by decide) ?_
            refine t_istore_n (pc' := 79) (L' := [.ref 54, .int _, .int _, .int _, .int _]) dX12_opens_78 rfl (Nat.le_of_ble_eq_true rfl) rfl ?_
            refine t_iinc (pc' := 82) (v := nI (k + 1)) (L' := [.ref 54, .int _, .int _, .int _, .int _]) dX12_opens_79 rfl rfl (nI_inc k) rfl ?_
            refine s_goto (tgt := 25) dX12_opens_82 (by decide) ?_
            have e1 : b2 (opA D (nI b) (gM J b) th c (k + 1)) = 0 := by rw [opA, b2_0 c37, w45]; rfl
            have e2 : b2 (opB D (nI b) (gM J b) th c (k + 1)) = 0 := by rw [opB, b2_0 c58, w67]; rfl
            exact s_eq (by rw [e1, e2]) rfl rfl (ih (k + 1) (by omega))
theorem c_X12_opens {N : Nat} {S : Nat → Nat × Nat} {I : Nat → Nat → Int32} {J : Nat → Nat → Int64} {Q : Nat → Nat → Option Nat} {κ : Option Value → HP → Prop} {D : Nat → Nat → Int32} {nv nr ns b : Nat} {th : Int32} (C : ST I D nv nr ns b th) {c : Int32} (ht : opn D (nI b) (gM J b) th c nr = true → κ (some (.int 1)) (N, S, I, J, Q)) (hf : opn D (nI b) (gM J b) th c nr = false → κ (some (.int 0)) (N, S, I, J, Q)) : CT E1 M_X12_opens [.ref 54, .int c] (N, S, I, J, Q) κ := by
  refine ofSP mk_X12_opens (Nat.le_of_ble_eq_true rfl) (L := [.ref 54, .int _, .retAddr _, .retAddr _, .retAddr _]) rfl ?_
  refine s_aload_n (pc' := 1) dX12_opens_0 rfl rfl ?_
  refine s_getS (pc' := 4) (b := 75) dX12_opens_1 rfl (by decide) rfl (by decide) fa_X12_70_12 rfl rfl ?_
  refine s_iconst (pc' := 5) (v := 4) dX12_opens_4 rfl (by decide) ?_
  refine t_iald (pc' := 6) (q := 4) dX12_opens_5 rfl sh_75 rfl (by decide) ?_
  refine s_iload_n (pc' := 7) dX12_opens_6 rfl rfl ?_
  refine s_ishr (pc' := 8) dX12_opens_7 rfl ?_
  refine s_iconst (pc' := 9) (v := 1) dX12_opens_8 rfl (by decide) ?_
  refine s_iand (pc' := 10) dX12_opens_9 rfl ?_
  refine s_iconst (pc' := 11) (v := 1) dX12_opens_10 rfl (by decide) ?_
  refine s_icmpne (pc' := 14) (tgt := 18) dX12_opens_11 (by decide) rfl (fun c11 => ?_) (fun c11 => ?_)
  · refine s_iconst (pc' := 19) (v := 0) dX12_opens_18 rfl (by decide) ?_
    refine t_istore_n (pc' := 20) (L' := [.ref 54, .int _, .int _, .retAddr _, .retAddr _]) dX12_opens_19 rfl (Nat.le_of_ble_eq_true rfl) rfl ?_
    refine s_iconst (pc' := 21) (v := 0) dX12_opens_20 rfl (by decide) ?_
    refine t_istore_n (pc' := 22) (L' := [.ref 54, .int _, .int _, .int _, .retAddr _]) dX12_opens_21 rfl (Nat.le_of_ble_eq_true rfl) rfl ?_
    refine s_iconst (pc' := 23) (v := 0) dX12_opens_22 rfl (by decide) ?_
    refine t_istore (pc' := 25) (L' := [.ref 54, .int _, .int _, .int _, .int _]) dX12_opens_23 rfl (Nat.le_of_ble_eq_true rfl) rfl ?_
    rw [C.1.1 75 (by decide) (by decide)] at c11
    replace c11 : bitI (D 75 4) c ≠ 1 := c11
    exact s_eq (by simp only [opA, opB]; rw [decide_eq_false c11]; rfl) rfl rfl (l_X12_opens C ht hf nr 0 (by omega))
  · refine s_iconst (pc' := 15) (v := 1) dX12_opens_14 rfl (by decide) ?_
    refine s_goto (tgt := 19) dX12_opens_15 (by decide) ?_
    refine t_istore_n (pc' := 20) (L' := [.ref 54, .int _, .int _, .retAddr _, .retAddr _]) dX12_opens_19 rfl (Nat.le_of_ble_eq_true rfl) rfl ?_
    refine s_iconst (pc' := 21) (v := 0) dX12_opens_20 rfl (by decide) ?_
    refine t_istore_n (pc' := 22) (L' := [.ref 54, .int _, .int _, .int _, .retAddr _]) dX12_opens_21 rfl (Nat.le_of_ble_eq_true rfl) rfl ?_
    refine s_iconst (pc' := 23) (v := 0) dX12_opens_22 rfl (by decide) ?_
    refine t_istore (pc' := 25) (L' := [.ref 54, .int _, .int _, .int _, .int _]) dX12_opens_23 rfl (Nat.le_of_ble_eq_true rfl) rfl ?_
    rw [C.1.1 75 (by decide) (by decide)] at c11
    replace c11 : bitI (D 75 4) c = 1 := c11
    exact s_eq (by simp only [opA, opB]; rw [decide_eq_true c11]; rfl) rfl rfl (l_X12_opens C ht hf nr 0 (by omega))
