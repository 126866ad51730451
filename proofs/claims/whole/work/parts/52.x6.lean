/-! ===== caps, spells, open choices ===== -/
section CP
variable {D : Nat → Nat → Int32} {x : Int32} {g : Nat → Int64} {th v ls : Int32} {n0 : Int64} {k r : Nat}
theorem cpS_o (h : ¬ (wk D x g th k 3 v = true ∧ D 65 k = ls)) : cpS D x g th v ls n0 (k + 1) = cpS D x g th v ls n0 k := by rw [cpS, if_neg h]
theorem mx_eq (a n : Int64) : (if n < a then a else n) = (if a < n then n else a) := by
  by_cases h : n < a
  · rw [if_pos h, if_neg (fun z => Int64.lt_irrefl (Int64.lt_trans z h))]
  · by_cases h2 : a < n
    · rw [if_neg h, if_pos h2]
    · rw [if_neg h, if_neg h2]; exact Int64.le_antisymm (Int64.not_lt.mp h2) (Int64.not_lt.mp h)
theorem cpS_l (hw : wk D x g th k 3 v = true) (h : D 65 k = 1) : cpS D x g th v 1 n0 (k + 1) = (if amt D g k < cpS D x g th v 1 n0 k then cpS D x g th v 1 n0 k else amt D g k) := by
  rw [cpS, if_pos ⟨hw, h⟩]; exact mx_eq _ _
theorem cpS_m (hw : wk D x g th k 3 v = true) (h : D 65 k = 0) : cpS D x g th v 0 n0 (k + 1) = (if amt D g k < cpS D x g th v 0 n0 k then amt D g k else cpS D x g th v 0 n0 k) := by
  rw [cpS, if_pos ⟨hw, h⟩]; rfl
theorem cpS_skip (h : k ≤ r) (hs : ∀ j, k ≤ j → j < r → Pv D x g th v j = false) : cpS D x g th v ls n0 k = cpS D x g th v ls n0 r := by
  induction r with
  | zero => obtain rfl : k = 0 := by omega
            rfl
  | succ r ih =>
    by_cases e : k = r + 1
    · rw [e]
    · rw [cpS_o (fun z => by rw [wk_nP (by decide) (hs r (by omega) (by omega))] at z; exact absurd z.1 (by decide))]
      exact ih (by omega) (fun j h1 h2 => hs j h1 (by omega))
theorem hwC_l1 (h : cpS D x g th v 1 n0 r < amt D g r) : hwC D x g th v 1 n0 r = 2 := by unfold hwC; rw [if_pos (by rw [if_pos rfl]; exact h)]
theorem hwC_l0 (h : ¬ cpS D x g th v 1 n0 r < amt D g r) : hwC D x g th v 1 n0 r = 4 := by unfold hwC; rw [if_neg (by rw [if_pos rfl]; exact h)]
theorem hwC_m1 (h : amt D g r < cpS D x g th v 0 n0 r) : hwC D x g th v 0 n0 r = 2 := by unfold hwC; rw [if_pos (by rw [if_neg (by decide)]; exact h)]
theorem hwC_m0 (h : ¬ amt D g r < cpS D x g th v 0 n0 r) : hwC D x g th v 0 n0 r = 4 := by unfold hwC; rw [if_neg (by rw [if_neg (by decide)]; exact h)]
end CP
def Wc (D : Nat → Nat → Int32) (x : Int32) (g : Nat → Int64) (th v ls : Int32) (r : Nat) : Bool := wk D x g th r 3 v && decide (D 65 r = ls)
/-- a loop of capped() -/
def C1 (I I' : Nat → Nat → Int32) (D : Nat → Nat → Int32) (x : Int32) (g : Nat → Int64) (th v ls : Int32) (n0 : Int64) (k : Nat) : Prop := FH I I' ∧ RV I I' (Wc D x g th v ls) (hwC D x g th v ls n0) (I 28) k ∧ I' 24 5 = I 24 5
theorem C1.skip {I I' : Nat → Nat → Int32} {D : Nat → Nat → Int32} {x : Int32} {g : Nat → Int64} {th v ls : Int32} {n0 : Int64} {k r : Nat} (h : C1 I I' D x g th v ls n0 k) (hk : k ≤ r) (hs : ∀ j, k ≤ j → j < r → Pv D x g th v j = false) : C1 I I' D x g th v ls n0 r := ⟨h.1, h.2.1.skip hk (fun j a b => by unfold Wc; rw [wk_nP (by decide) (hs j a b)]; rfl), h.2.2⟩
theorem C1.no {I I' : Nat → Nat → Int32} {D : Nat → Nat → Int32} {x : Int32} {g : Nat → Int64} {th v ls : Int32} {n0 : Int64} {r : Nat} (h : C1 I I' D x g th v ls n0 r) (hw : Wc D x g th v ls r = false) : C1 I I' D x g th v ls n0 (r + 1) := ⟨h.1, h.2.1.sk hw, h.2.2⟩
theorem C1.st {I I' : Nat → Nat → Int32} {D : Nat → Nat → Int32} {x : Int32} {g : Nat → Int64} {th v ls : Int32} {n0 : Int64} {r : Nat} {y : Int32} (h : C1 I I' D x g th v ls n0 r) (hw : Wc D x g th v ls r = true) (hy : y = hwC D x g th v ls n0 r) : C1 I (up2 I' 27 r y) D x g th v ls n0 (r + 1) := ⟨h.1.up (by decide), h.2.1.s1 hw hy, by rw [up2_d (by decide)]; exact h.2.2⟩
theorem spA_add {D : Nat → Nat → Int32} {v : Int32} {a : Int64} : ∀ k, spA D v a k = a + spA D v 0 k
  | 0 => by show a = a + 0; rw [Int64.add_zero]
  | k + 1 => by
    rw [spA, spA, spA_add k, Int64.add_assoc]
/-- the masks of openedOn() -/
def OP (D : Nat → Nat → Int32) (x : Int32) (g : Nat → Int64) (th : Int32) (o b : Int32) (k : Nat) : Prop := ∀ c, c < 8 → bt o c = opA D x g th (nI c) k ∧ bt b c = opB D x g th (nI c) k
section OP
variable {D : Nat → Nat → Int32} {x : Int32} {g : Nat → Int64} {th o b : Int32} {k a nv nr ns : Nat}
theorem OP.no (h : OP D x g th o b k) (h5 : ∀ c, wk D x g th k 5 c = false) (h6 : ∀ c, wk D x g th k 6 c = false) : OP D x g th o b (k + 1) := fun c hc => by rw [opA, opB, h5, h6, Bool.or_false, Bool.or_false]; exact h c hc
theorem OP.o5 (h : OP D x g th o b k) (ha : a < 8) (h61 : D 61 k = nI a) (h1 : D 60 k = 5) (h2 : bitI th (nI k) = 1) (h3 : hB D x g k = true) : OP D x g th (o ||| ((1 : Int32) <<< (D 61 k &&& 31))) b (k + 1) := fun c hc => by
  rw [opA, opB, wk_1 (k := 6) (by rw [h1]; decide), Bool.or_false, b_or, h61, bt_one (by omega) (by omega), (h c hc).1]
  refine ⟨?_, (h c hc).2⟩
  congr 1
  by_cases e : c = a
  · subst e; rw [wk_of h1 h61 h2 h3]; simp
  · rw [wk_2 (by rw [h61]; exact fun z => e ((nI_eq (by omega) (by omega)).mp z).symm)]; simp [e]
theorem OP.o6 (h : OP D x g th o b k) (ha : a < 8) (h61 : D 61 k = nI a) (h1 : D 60 k = 6) (h2 : bitI th (nI k) = 1) (h3 : hB D x g k = true) : OP D x g th o (b ||| ((1 : Int32) <<< (D 61 k &&& 31))) (k + 1) := fun c hc => by
  rw [opA, opB, wk_1 (k := 5) (by rw [h1]; decide), Bool.or_false, b_or, h61, bt_one (by omega) (by omega), (h c hc).2]
  refine ⟨(h c hc).1, ?_⟩
  congr 1
  by_cases e : c = a
  · subst e; rw [wk_of h1 h61 h2 h3]; simp
  · rw [wk_2 (by rw [h61]; exact fun z => e ((nI_eq (by omega) (by omega)).mp z).symm)]; simp [e]
theorem DW.k56 (hW : DW D nv nr ns) (hr : k < nr) (h : D 60 k ≠ 0 ∧ D 60 k ≠ 1 ∧ D 60 k ≠ 2 ∧ D 60 k ≠ 3 ∧ D 60 k ≠ 4) : (D 60 k = 5 ∨ D 60 k = 6) ∧ ∃ a, a < 8 ∧ D 61 k = nI a := by
  obtain ⟨⟨q, hq, e⟩, ⟨a, -, h2, -, -, h3⟩, -⟩ := hW.2.1 k hr
  obtain ⟨n0, n1, n2, n3, n4⟩ := h
  have hq2 : q = 5 ∨ q = 6 := by
    rcases (show q = 0 ∨ q = 1 ∨ q = 2 ∨ q = 3 ∨ q = 4 ∨ q = 5 ∨ q = 6 by omega) with z | z | z | z | z | z | z
    · rw [z] at e; exact absurd e n0
    · rw [z] at e; exact absurd e n1
    · rw [z] at e; exact absurd e n2
    · rw [z] at e; exact absurd e n3
    · rw [z] at e; exact absurd e n4
    · exact Or.inl z
    · exact Or.inr z
  refine ⟨?_, a, h3 ?_, h2⟩
  · rcases hq2 with z | z
    · rw [z] at e; exact Or.inl e
    · rw [z] at e; exact Or.inr e
  · rw [e]; exact nI_lt (a := 4) (by omega) (by omega)
theorem OP.k04 (h : D 60 k = 0 ∨ D 60 k = 1 ∨ D 60 k = 2 ∨ D 60 k = 3 ∨ D 60 k = 4) : (∀ c, wk D x g th k 5 c = false) ∧ ∀ c, wk D x g th k 6 c = false := by
  constructor
  · intro c; apply wk_1; rcases h with e | e | e | e | e <;> rw [e] <;> decide
  · intro c; apply wk_1; rcases h with e | e | e | e | e <;> rw [e] <;> decide
theorem OP.fin (h : OP D x g th o b nr) : ∀ c, c < 8 → bt (o &&& (b ^^^ (-1))) c = opn D x g th (nI c) nr := fun c hc => by
  rw [b_and, bt_not (by omega), (h c hc).1, (h c hc).2]; rfl
end OP
theorem l_X8_spellsOn {N : Nat} {S : Nat → Nat × Nat} {I : Nat → Nat → Int32} {J : Nat → Nat → Int64} {Q : Nat → Nat → Option Nat} {κ : Option Value → HP → Prop} {D : Nat → Nat → Int32} {nv nr ns : Nat} {ad td : Nat → Nat} (X : XS N S I Q D nv nr ns ad td 0) (hW : DW D nv nr ns) {v : Int32} (hk : κ (some (.long (spA D v 0 ns))) (N, S, I, J, Q)) : ∀ d : Nat, ∀ k, k + d = ns → SP E1 M_X8_spellsOn κ 5 [.ref 1, .int v, .long (spA D v 0 k), .retAddr 0, .int (nI k)] [] (N, S, I, J, Q) 0 0 := by
  intro d
  induction d with
  | zero =>
    intro k hd
    obtain rfl : k = ns := by omega
    refine s_iload (pc' := 7) dX8_spellsOn_5 rfl rfl ?_
    refine s_aload_n (pc' := 8) dX8_spellsOn_7 rfl rfl ?_
    refine t_getI (pc' := 11) dX8_spellsOn_8 rfl sh_1 (by decide) fa_X8_43_8 rfl ?_
    refine s_icmpgeT (tgt := 56) dX8_spellsOn_11 (by decide) (by rw [X.xs]; exact nI_le (Nat.le_refl _) (by have := hW.ns; omega)) ?_
    refine s_lload_n (pc' := 57) dX8_spellsOn_56 rfl rfl ?_
    exact s_lret dX8_spellsOn_57 rfl (by decide) (by decide) hk
  | succ d ih =>
    intro k hd
    have hn10 := hW.ns
    have hk2 : k < ns := by omega
    refine s_iload (pc' := 7) dX8_spellsOn_5 rfl rfl ?_
    refine s_aload_n (pc' := 8) dX8_spellsOn_7 rfl rfl ?_
    refine t_getI (pc' := 11) dX8_spellsOn_8 rfl sh_1 (by decide) fa_X8_43_8 rfl ?_
    refine s_icmpgeF (pc' := 14) (tgt := 56) dX8_spellsOn_11 (by decide) rfl (by rw [X.xs]; exact nI_ge (by omega) (by omega)) ?_
    refine s_aload_n (pc' := 15) dX8_spellsOn_14 rfl rfl ?_
    refine s_getS (pc' := 18) (b := 9) dX8_spellsOn_15 rfl (by decide) rfl (by decide) fa_X8_46_8 rfl rfl ?_
    refine s_iload (pc' := 20) dX8_spellsOn_18 rfl rfl ?_
    refine t_iald (pc' := 21) dX8_spellsOn_20 rfl sh_9 rfl (by omega) ?_
    refine s_iload_n (pc' := 22) dX8_spellsOn_21 rfl rfl ?_
    refine s_icmpne (pc' := 25) (tgt := 50) dX8_spellsOn_22 (by decide) rfl (fun c22 => ?_) (fun c22 => ?_)
    · refine t_iinc (pc' := 53) (v := nI (k + 1)) (L' := [.ref 1, .int _, .long _, .retAddr _, .int _]) dX8_spellsOn_50 rfl rfl (nI_inc k) rfl ?_
      refine s_goto (tgt := 5) dX8_spellsOn_53 (by decide) ?_
      rw [(X.2.2.2 k hk2).1] at c22
      exact s_eq (by rw [spA, if_neg (fun z => c22 z.1), Int64.add_zero]) rfl rfl (ih (k + 1) (by omega))
    · refine s_aload_n (pc' := 26) dX8_spellsOn_25 rfl rfl ?_
      refine t_getI (pc' := 29) dX8_spellsOn_26 rfl sh_1 (by decide) fa_X8_55_8 rfl ?_
      refine s_aload_n (pc' := 30) dX8_spellsOn_29 rfl rfl ?_
      refine s_getS (pc' := 33) (b := 11) dX8_spellsOn_30 rfl (by decide) rfl (by decide) fa_X8_52_8 rfl rfl ?_
      refine s_iload (pc' := 35) dX8_spellsOn_33 rfl rfl ?_
      refine t_iald (pc' := 36) dX8_spellsOn_35 rfl sh_11 rfl (by omega) ?_
      refine s_icmpge (pc' := 39) (tgt := 50) dX8_spellsOn_36 (by decide) rfl (fun c36 => ?_) (fun c36 => ?_)
      · refine t_iinc (pc' := 53) (v := nI (k + 1)) (L' := [.ref 1, .int _, .long _, .retAddr _, .int _]) dX8_spellsOn_50 rfl rfl (nI_inc k) rfl ?_
        refine s_goto (tgt := 5) dX8_spellsOn_53 (by decide) ?_
        rw [(X.2.2.2 k hk2).1] at c22
        rw [X.tn, (X.2.2.2 k hk2).2.2] at c36
        exact s_eq (by rw [spA, if_neg (fun z => Int32.not_lt.mpr c36 z.2), Int64.add_zero]) rfl rfl (ih (k + 1) (by omega))
      · refine s_lload_n (pc' := 40) dX8_spellsOn_39 rfl rfl ?_
        refine s_aload_n (pc' := 41) dX8_spellsOn_40 rfl rfl ?_
        refine s_getS (pc' := 44) (b := 10) dX8_spellsOn_41 rfl (by decide) rfl (by decide) fa_X8_49_8 rfl rfl ?_
        refine s_iload (pc' := 46) dX8_spellsOn_44 rfl rfl ?_
        refine t_iald (pc' := 47) dX8_spellsOn_46 rfl sh_10 rfl (by omega) ?_
        refine s_i2l (pc' := 48) dX8_spellsOn_47 rfl ?_
        refine s_ladd (pc' := 49) dX8_spellsOn_48 rfl ?_
        refine t_lstore_n (pc' := 50) (L' := [.ref 1, .int _, .long _, .retAddr _, .int _]) dX8_spellsOn_49 rfl (Nat.le_of_ble_eq_true rfl) rfl ?_
        refine t_iinc (pc' := 53) (v := nI (k + 1)) (L' := [.ref 1, .int _, .long _, .retAddr _, .int _]) dX8_spellsOn_50 rfl rfl (nI_inc k) rfl ?_
        refine s_goto (tgt := 5) dX8_spellsOn_53 (by decide) ?_
        rw [(X.2.2.2 k hk2).1] at c22
        rw [X.tn, (X.2.2.2 k hk2).2.2] at c36
        exact s_eq (by rw [spA, if_pos ⟨by simpa using c22, Int32.not_le.mp c36⟩, (X.2.2.2 k hk2).2.1]) rfl rfl (ih (k + 1) (by omega))
theorem c_X8_spellsOn {N : Nat} {S : Nat → Nat × Nat} {I : Nat → Nat → Int32} {J : Nat → Nat → Int64} {Q : Nat → Nat → Option Nat} {κ : Option Value → HP → Prop} {D : Nat → Nat → Int32} {nv nr ns : Nat} {ad td : Nat → Nat} (X : XS N S I Q D nv nr ns ad td 0) (hW : DW D nv nr ns) {v : Int32} (hk : κ (some (.long (spA D v 0 ns))) (N, S, I, J, Q)) : CT E1 M_X8_spellsOn [.ref 1, .int v] (N, S, I, J, Q) κ := by
  refine ofSP mk_X8_spellsOn (Nat.le_of_ble_eq_true rfl) (L := [.ref 1, .int _, .retAddr _, .retAddr _, .retAddr _]) rfl ?_
  refine s_lconst (pc' := 1) (v := 0) dX8_spellsOn_0 rfl (by decide) ?_
  refine t_lstore_n (pc' := 2) (L' := [.ref 1, .int _, .long _, .retAddr _, .retAddr _]) dX8_spellsOn_1 rfl (Nat.le_of_ble_eq_true rfl) rfl ?_
  refine s_iconst (pc' := 3) (v := 0) dX8_spellsOn_2 rfl (by decide) ?_
  refine t_istore (pc' := 5) (L' := [.ref 1, .int _, .long _, .retAddr _, .int _]) dX8_spellsOn_3 rfl (Nat.le_of_ble_eq_true rfl) rfl ?_
  exact l_X8_spellsOn X hW hk ns 0 (by omega)
theorem l_X5_capped1 {N : Nat} {S : Nat → Nat × Nat} {I : Nat → Nat → Int32} {J : Nat → Nat → Int64} {Q : Nat → Nat → Option Nat} {κ : Option Value → HP → Prop} {D : Nat → Nat → Int32} {nv nr ns : Nat} {ad td : Nat → Nat} (X : XS N S I Q D nv nr ns ad td 0) (hW : DW D nv nr ns) {v : Nat} {x th : Int32} (hv : v < nv) (G : GS I Q D x (J 25) th (nI v) nr ad) (hA : ∀ r, r < nr → Pv D x (J 25) th (nI v) r = true → J 26 r = amt D (J 25) r) {n0 m0 : Int64} (hk : ∀ I', C1 I I' D x (J 25) th (nI v) 1 n0 nr → SP E1 M_X5_capped κ 97 [.ref 24, .long m0, .retAddr 0, .long (cpS D x (J 25) th (nI v) 1 n0 nr), .retAddr 0, .retAddr 0, .retAddr 0, .retAddr 0] [] (N, S, I', J, Q) 0 0) : ∀ d : Nat, ∀ k I', k ≤ nr → cntB (Pv D x (J 25) th (nI v)) k + d = cntB (Pv D x (J 25) th (nI v)) nr → C1 I I' D x (J 25) th (nI v) 1 n0 k → SP E1 M_X5_capped κ 5 [.ref 24, .long m0, .retAddr 0, .long (cpS D x (J 25) th (nI v) 1 n0 k), .retAddr 0, .int (nI (cntB (Pv D x (J 25) th (nI v)) k)), .retAddr 0, .retAddr 0] [] (N, S, I', J, Q) 0 0 := by
  intro d
  induction d with
  | zero =>
    intro k I' hk2 hd hP
    have hn30 := hW.nr
    have G2 := G.fh hP.1
    rw [cpS_skip hk2 (cnt_end (nr - k) k (by omega) (by omega))]
    replace hP := hP.skip hk2 (cnt_end (nr - k) k (by omega) (by omega))
    refine s_iload (pc' := 7) dX5_capped_5 rfl rfl ?_
    refine s_aload_n (pc' := 8) dX5_capped_7 rfl rfl ?_
    refine t_getI (pc' := 11) dX5_capped_8 rfl sh_24 (by decide) fa_X5_50_5 rfl ?_
    refine s_icmpgeT (tgt := 97) dX5_capped_11 (by decide) (by rw [G2.1]; exact nI_le (by omega) (by have := cntB_le (Pv D x (J 25) th (nI v)) nr; omega)) ?_
    exact s_fg [5] rfl (hk I' hP)
  | succ d ih =>
    intro k I' hk2 hd hP
    have hn30 := hW.nr
    have G2 := G.fh hP.1
    have X2 := X.fr hP.1.fr
    obtain ⟨r, hr1, hr, hpr, hrc, hsk, hq32, hc1, hcl, hcn⟩ := G2.next hk2 hd
    have R := X2.ro hr
    have h94 := R.ge
    rw [hrc, cpS_skip hr1 hsk]
    replace hP := hP.skip hr1 hsk
    refine s_iload (pc' := 7) dX5_capped_5 rfl rfl ?_
    refine s_aload_n (pc' := 8) dX5_capped_7 rfl rfl ?_
    refine t_getI (pc' := 11) dX5_capped_8 rfl sh_24 (by decide) fa_X5_50_5 rfl ?_
    refine s_icmpgeF (pc' := 14) (tgt := 97) dX5_capped_11 (by decide) rfl (by rw [G2.1]; exact nI_ge (by omega) (by omega)) ?_
    refine s_aload_n (pc' := 15) dX5_capped_14 rfl rfl ?_
    refine s_getS (pc' := 18) (b := 32) dX5_capped_15 rfl (by decide) rfl (by decide) fa_X5_46_5 rfl rfl ?_
    refine s_iload (pc' := 20) dX5_capped_18 rfl rfl ?_
    refine t_aald (pc' := 21) dX5_capped_20 rfl (Or.inl rfl) sh_32 rfl (by omega) hq32 ?_
    refine t_astore (pc' := 23) (L' := [.ref 24, .long _, .retAddr _, .long _, .retAddr _, .int _, .retAddr _, .ref _]) dX5_capped_21 rfl (Nat.le_of_ble_eq_true rfl) rfl ?_
    refine s_aload (pc' := 25) dX5_capped_23 rfl rfl ?_
    refine i_cap (pc' := 28) dX5_capped_25 rfl R.sh cl_X5_192 (fun k25 => ?_) (fun k25 => ?_)
    · refine s_ifeqF (pc' := 31) (tgt := 91) dX5_capped_28 (by decide) rfl (by decide) ?_
      refine s_aload (pc' := 33) dX5_capped_31 rfl rfl ?_
      refine i_castC (pc' := 36) dX5_capped_33 rfl (kc3 k25 R.sh) cl_X5_192 ?_
      refine t_astore (pc' := 38) (L' := [.ref 24, .long _, .retAddr _, .long _, .retAddr _, .int _, .ref _, .ref _]) dX5_capped_36 rfl (Nat.le_of_ble_eq_true rfl) rfl ?_
      refine s_aload (pc' := 40) dX5_capped_38 rfl rfl ?_
      refine t_getI (pc' := 43) dX5_capped_40 rfl (kc3 k25 R.sh) (by decide) fa_X5_194_2 rfl ?_
      refine s_ifne (pc' := 46) (tgt := 91) dX5_capped_43 (by decide) rfl (fun c43 => ?_) (fun c43 => ?_)
      · refine t_iinc (pc' := 94) (v := nI (cntB (Pv D x (J 25) th (nI v)) r + 1)) (L' := [.ref 24, .long _, .retAddr _, .long _, .retAddr _, .int _, .ref _, .ref _]) dX5_capped_91 rfl rfl (nI_inc _) rfl ?_
        refine s_goto (tgt := 5) dX5_capped_94 (by decide) ?_
        have hw := Pv_wk hpr (c := 3) k25
        rw [R.f11 k25] at c43
        have h65 : D 65 r ≠ 1 := fun z => c43 (by rw [z]; decide)
        refine s_fg [6, 7] ?_ (ih (r + 1) _ (by omega) (by rw [hc1]; omega) (hP.no (by unfold Wc; rw [decide_eq_false h65, Bool.and_false])))
        rw [hc1, cpS_o (fun z => h65 z.2)]; rfl
      · refine s_aload_n (pc' := 47) dX5_capped_46 rfl rfl ?_
        refine s_getS (pc' := 50) (b := 27) dX5_capped_47 rfl (by decide) rfl (by decide) fa_X5_18_5 rfl rfl ?_
        refine s_aload (pc' := 52) dX5_capped_50 rfl rfl ?_
        refine t_getI (pc' := 55) dX5_capped_52 rfl (kc3 k25 R.sh) (by decide) fa_X5_198_2 rfl ?_
        refine s_lload_n (pc' := 56) dX5_capped_55 rfl rfl ?_
        refine s_aload_n (pc' := 57) dX5_capped_56 rfl rfl ?_
        refine s_getS (pc' := 60) (b := 26) dX5_capped_57 rfl (by decide) rfl (by decide) fa_X5_15_5 rfl rfl ?_
        refine s_aload (pc' := 62) dX5_capped_60 rfl rfl ?_
        refine t_getI (pc' := 65) dX5_capped_62 rfl (kc3 k25 R.sh) (by decide) fa_X5_198_2 rfl ?_
        refine t_lald (pc' := 66) (q := r) dX5_capped_65 rfl sh_26 R.f1 (by omega) ?_
        refine s_lcmp (pc' := 67) dX5_capped_66 rfl ?_
        refine s_ifge (pc' := 70) (tgt := 74) dX5_capped_67 (by decide) rfl (fun c67 => ?_) (fun c67 => ?_)
        · refine s_iconst (pc' := 75) (v := 4) dX5_capped_74 rfl (by decide) ?_
          refine t_iast (pc' := 76) (q := r) dX5_capped_75 rfl sh_27 R.f1 (by omega) ?_
          refine s_lload_n (pc' := 77) dX5_capped_76 rfl rfl ?_
          refine s_aload_n (pc' := 78) dX5_capped_77 rfl rfl ?_
          refine s_getS (pc' := 81) (b := 26) dX5_capped_78 rfl (by decide) rfl (by decide) fa_X5_15_5 rfl rfl ?_
          refine s_aload (pc' := 83) dX5_capped_81 rfl rfl ?_
          refine t_getI (pc' := 86) dX5_capped_83 rfl (kc3 k25 R.sh) (by decide) fa_X5_198_2 rfl ?_
          refine t_lald (pc' := 87) (q := r) dX5_capped_86 rfl sh_26 (by (try simp (disch := omega) only [up2_d]); exact R.f1) (by omega) ?_
          refine s_lmax (pc' := 90) dX5_capped_87 rfl ml_X5_199 (by decide) (by decide) (by decide) (Nat.le_of_ble_eq_true rfl) ?_
          refine t_lstore_n (pc' := 91) (L' := [.ref 24, .long _, .retAddr _, .long _, .retAddr _, .int _, .ref _, .ref _]) dX5_capped_90 rfl (Nat.le_of_ble_eq_true rfl) rfl ?_
          refine t_iinc (pc' := 94) (v := nI (cntB (Pv D x (J 25) th (nI v)) r + 1)) (L' := [.ref 24, .long _, .retAddr _, .long _, .retAddr _, .int _, .ref _, .ref _]) dX5_capped_91 rfl rfl (nI_inc _) rfl ?_
          refine s_goto (tgt := 5) dX5_capped_94 (by decide) ?_
          have hw := Pv_wk hpr (c := 3) k25
          rw [R.f11 k25] at c43
          have h65 : D 65 r = 1 := (hW.lst hr).resolve_left (fun z => by rw [z] at c43; exact absurd c43 (by decide))
          rw [lg_cmp_ge, hA r hr hpr] at c67
          rw [hA r hr hpr]
          refine s_fg [6, 7] ?_ (ih (r + 1) _ (by omega) (by rw [hc1]; omega) (hP.st (by unfold Wc; rw [hw, h65]; decide) (hwC_l0 (Int64.not_lt.mpr c67)).symm))
          rw [hc1, cpS_l hw h65]; rfl
        · refine s_iconst (pc' := 71) (v := 2) dX5_capped_70 rfl (by decide) ?_
          refine s_goto (tgt := 75) dX5_capped_71 (by decide) ?_
          refine t_iast (pc' := 76) (q := r) dX5_capped_75 rfl sh_27 R.f1 (by omega) ?_
          refine s_lload_n (pc' := 77) dX5_capped_76 rfl rfl ?_
          refine s_aload_n (pc' := 78) dX5_capped_77 rfl rfl ?_
          refine s_getS (pc' := 81) (b := 26) dX5_capped_78 rfl (by decide) rfl (by decide) fa_X5_15_5 rfl rfl ?_
          refine s_aload (pc' := 83) dX5_capped_81 rfl rfl ?_
          refine t_getI (pc' := 86) dX5_capped_83 rfl (kc3 k25 R.sh) (by decide) fa_X5_198_2 rfl ?_
          refine t_lald (pc' := 87) (q := r) dX5_capped_86 rfl sh_26 (by (try simp (disch := omega) only [up2_d]); exact R.f1) (by omega) ?_
          refine s_lmax (pc' := 90) dX5_capped_87 rfl ml_X5_199 (by decide) (by decide) (by decide) (Nat.le_of_ble_eq_true rfl) ?_
          refine t_lstore_n (pc' := 91) (L' := [.ref 24, .long _, .retAddr _, .long _, .retAddr _, .int _, .ref _, .ref _]) dX5_capped_90 rfl (Nat.le_of_ble_eq_true rfl) rfl ?_
          refine t_iinc (pc' := 94) (v := nI (cntB (Pv D x (J 25) th (nI v)) r + 1)) (L' := [.ref 24, .long _, .retAddr _, .long _, .retAddr _, .int _, .ref _, .ref _]) dX5_capped_91 rfl rfl (nI_inc _) rfl ?_
          refine s_goto (tgt := 5) dX5_capped_94 (by decide) ?_
          have hw := Pv_wk hpr (c := 3) k25
          rw [R.f11 k25] at c43
          have h65 : D 65 r = 1 := (hW.lst hr).resolve_left (fun z => by rw [z] at c43; exact absurd c43 (by decide))
          rw [lg_cmp_ge, hA r hr hpr] at c67
          rw [hA r hr hpr]
          refine s_fg [6, 7] ?_ (ih (r + 1) _ (by omega) (by rw [hc1]; omega) (hP.st (by unfold Wc; rw [hw, h65]; decide) (hwC_l1 (Int64.not_le.mp c67)).symm))
          rw [hc1, cpS_l hw h65]; rfl
    · refine s_ifeqT (tgt := 91) dX5_capped_28 (by decide) (by decide) ?_
      refine t_iinc (pc' := 94) (v := nI (cntB (Pv D x (J 25) th (nI v)) r + 1)) (L' := [.ref 24, .long _, .retAddr _, .long _, .retAddr _, .int _, .retAddr _, .ref _]) dX5_capped_91 rfl rfl (nI_inc _) rfl ?_
      refine s_goto (tgt := 5) dX5_capped_94 (by decide) ?_
      have hw := wk_1 (x := x) (g := J 25) (th := th) (v := nI v) (k := 3) k25
      refine s_fg [6, 7] ?_ (ih (r + 1) _ (by omega) (by rw [hc1]; omega) (hP.no (by unfold Wc; rw [hw]; rfl)))
      rw [hc1, cpS_o (fun z => by rw [hw] at z; exact absurd z.1 (by decide))]; rfl
theorem l_X5_capped0 {N : Nat} {S : Nat → Nat × Nat} {I : Nat → Nat → Int32} {J : Nat → Nat → Int64} {Q : Nat → Nat → Option Nat} {κ : Option Value → HP → Prop} {D : Nat → Nat → Int32} {nv nr ns : Nat} {ad td : Nat → Nat} (X : XS N S I Q D nv nr ns ad td 0) (hW : DW D nv nr ns) {v : Nat} {x th : Int32} (hv : v < nv) (G : GS I Q D x (J 25) th (nI v) nr ad) (hA : ∀ r, r < nr → Pv D x (J 25) th (nI v) r = true → J 26 r = amt D (J 25) r) {n0 m0 : Int64} (hk : ∀ I', C1 I I' D x (J 25) th (nI v) 0 n0 nr → κ (some (.long (cpS D x (J 25) th (nI v) 0 n0 nr))) (N, S, I', J, Q)) : ∀ d : Nat, ∀ k I', k ≤ nr → cntB (Pv D x (J 25) th (nI v)) k + d = cntB (Pv D x (J 25) th (nI v)) nr → C1 I I' D x (J 25) th (nI v) 0 n0 k → SP E1 M_X5_capped κ 100 [.ref 24, .long m0, .retAddr 0, .long (cpS D x (J 25) th (nI v) 0 n0 k), .retAddr 0, .int (nI (cntB (Pv D x (J 25) th (nI v)) k)), .retAddr 0, .retAddr 0] [] (N, S, I', J, Q) 0 0 := by
  intro d
  induction d with
  | zero =>
    intro k I' hk2 hd hP
    have hn30 := hW.nr
    have G2 := G.fh hP.1
    rw [cpS_skip hk2 (cnt_end (nr - k) k (by omega) (by omega))]
    replace hP := hP.skip hk2 (cnt_end (nr - k) k (by omega) (by omega))
    refine s_iload (pc' := 102) dX5_capped_100 rfl rfl ?_
    refine s_aload_n (pc' := 103) dX5_capped_102 rfl rfl ?_
    refine t_getI (pc' := 106) dX5_capped_103 rfl sh_24 (by decide) fa_X5_50_5 rfl ?_
    refine s_icmpgeT (tgt := 192) dX5_capped_106 (by decide) (by rw [G2.1]; exact nI_le (by omega) (by have := cntB_le (Pv D x (J 25) th (nI v)) nr; omega)) ?_
    refine s_lload_n (pc' := 193) dX5_capped_192 rfl rfl ?_
    exact s_lret dX5_capped_193 rfl (by decide) (by decide) (hk I' hP)
  | succ d ih =>
    intro k I' hk2 hd hP
    have hn30 := hW.nr
    have G2 := G.fh hP.1
    have X2 := X.fr hP.1.fr
    obtain ⟨r, hr1, hr, hpr, hrc, hsk, hq32, hc1, hcl, hcn⟩ := G2.next hk2 hd
    have R := X2.ro hr
    have h94 := R.ge
    rw [hrc, cpS_skip hr1 hsk]
    replace hP := hP.skip hr1 hsk
    refine s_iload (pc' := 102) dX5_capped_100 rfl rfl ?_
    refine s_aload_n (pc' := 103) dX5_capped_102 rfl rfl ?_
    refine t_getI (pc' := 106) dX5_capped_103 rfl sh_24 (by decide) fa_X5_50_5 rfl ?_
    refine s_icmpgeF (pc' := 109) (tgt := 192) dX5_capped_106 (by decide) rfl (by rw [G2.1]; exact nI_ge (by omega) (by omega)) ?_
    refine s_aload_n (pc' := 110) dX5_capped_109 rfl rfl ?_
    refine s_getS (pc' := 113) (b := 32) dX5_capped_110 rfl (by decide) rfl (by decide) fa_X5_46_5 rfl rfl ?_
    refine s_iload (pc' := 115) dX5_capped_113 rfl rfl ?_
    refine t_aald (pc' := 116) dX5_capped_115 rfl (Or.inl rfl) sh_32 rfl (by omega) hq32 ?_
    refine t_astore (pc' := 118) (L' := [.ref 24, .long _, .retAddr _, .long _, .retAddr _, .int _, .retAddr _, .ref _]) dX5_capped_116 rfl (Nat.le_of_ble_eq_true rfl) rfl ?_
    refine s_aload (pc' := 120) dX5_capped_118 rfl rfl ?_
    refine i_cap (pc' := 123) dX5_capped_120 rfl R.sh cl_X5_192 (fun k120 => ?_) (fun k120 => ?_)
    · refine s_ifeqF (pc' := 126) (tgt := 186) dX5_capped_123 (by decide) rfl (by decide) ?_
      refine s_aload (pc' := 128) dX5_capped_126 rfl rfl ?_
      refine i_castC (pc' := 131) dX5_capped_128 rfl (kc3 k120 R.sh) cl_X5_192 ?_
      refine t_astore (pc' := 133) (L' := [.ref 24, .long _, .retAddr _, .long _, .retAddr _, .int _, .ref _, .ref _]) dX5_capped_131 rfl (Nat.le_of_ble_eq_true rfl) rfl ?_
      refine s_aload (pc' := 135) dX5_capped_133 rfl rfl ?_
      refine t_getI (pc' := 138) dX5_capped_135 rfl (kc3 k120 R.sh) (by decide) fa_X5_194_2 rfl ?_
      refine s_ifeq (pc' := 141) (tgt := 186) dX5_capped_138 (by decide) rfl (fun c138 => ?_) (fun c138 => ?_)
      · refine t_iinc (pc' := 189) (v := nI (cntB (Pv D x (J 25) th (nI v)) r + 1)) (L' := [.ref 24, .long _, .retAddr _, .long _, .retAddr _, .int _, .ref _, .ref _]) dX5_capped_186 rfl rfl (nI_inc _) rfl ?_
        refine s_goto (tgt := 100) dX5_capped_189 (by decide) ?_
        have hw := Pv_wk hpr (c := 3) k120
        rw [R.f11 k120] at c138
        have h65 : D 65 r ≠ 0 := fun z => by rw [z] at c138; exact absurd c138 (by decide)
        refine s_fg [6, 7] ?_ (ih (r + 1) _ (by omega) (by rw [hc1]; omega) (hP.no (by unfold Wc; rw [decide_eq_false h65, Bool.and_false])))
        rw [hc1, cpS_o (fun z => h65 z.2)]; rfl
      · refine s_aload_n (pc' := 142) dX5_capped_141 rfl rfl ?_
        refine s_getS (pc' := 145) (b := 27) dX5_capped_142 rfl (by decide) rfl (by decide) fa_X5_18_5 rfl rfl ?_
        refine s_aload (pc' := 147) dX5_capped_145 rfl rfl ?_
        refine t_getI (pc' := 150) dX5_capped_147 rfl (kc3 k120 R.sh) (by decide) fa_X5_198_2 rfl ?_
        refine s_lload_n (pc' := 151) dX5_capped_150 rfl rfl ?_
        refine s_aload_n (pc' := 152) dX5_capped_151 rfl rfl ?_
        refine s_getS (pc' := 155) (b := 26) dX5_capped_152 rfl (by decide) rfl (by decide) fa_X5_15_5 rfl rfl ?_
        refine s_aload (pc' := 157) dX5_capped_155 rfl rfl ?_
        refine t_getI (pc' := 160) dX5_capped_157 rfl (kc3 k120 R.sh) (by decide) fa_X5_198_2 rfl ?_
        refine t_lald (pc' := 161) (q := r) dX5_capped_160 rfl sh_26 R.f1 (by omega) ?_
        refine s_lcmp (pc' := 162) dX5_capped_161 rfl ?_
        refine s_ifle (pc' := 165) (tgt := 169) dX5_capped_162 (by decide) rfl (fun c162 => ?_) (fun c162 => ?_)
        · refine s_iconst (pc' := 170) (v := 4) dX5_capped_169 rfl (by decide) ?_
          refine t_iast (pc' := 171) (q := r) dX5_capped_170 rfl sh_27 R.f1 (by omega) ?_
          refine s_lload_n (pc' := 172) dX5_capped_171 rfl rfl ?_
          refine s_aload_n (pc' := 173) dX5_capped_172 rfl rfl ?_
          refine s_getS (pc' := 176) (b := 26) dX5_capped_173 rfl (by decide) rfl (by decide) fa_X5_15_5 rfl rfl ?_
          refine s_aload (pc' := 178) dX5_capped_176 rfl rfl ?_
          refine t_getI (pc' := 181) dX5_capped_178 rfl (kc3 k120 R.sh) (by decide) fa_X5_198_2 rfl ?_
          refine t_lald (pc' := 182) (q := r) dX5_capped_181 rfl sh_26 (by (try simp (disch := omega) only [up2_d]); exact R.f1) (by omega) ?_
          refine s_lmin (pc' := 185) dX5_capped_182 rfl ml_X5_205 (by decide) (by decide) (by decide) (Nat.le_of_ble_eq_true rfl) ?_
          refine t_lstore_n (pc' := 186) (L' := [.ref 24, .long _, .retAddr _, .long _, .retAddr _, .int _, .ref _, .ref _]) dX5_capped_185 rfl (Nat.le_of_ble_eq_true rfl) rfl ?_
          refine t_iinc (pc' := 189) (v := nI (cntB (Pv D x (J 25) th (nI v)) r + 1)) (L' := [.ref 24, .long _, .retAddr _, .long _, .retAddr _, .int _, .ref _, .ref _]) dX5_capped_186 rfl rfl (nI_inc _) rfl ?_
          refine s_goto (tgt := 100) dX5_capped_189 (by decide) ?_
          have hw := Pv_wk hpr (c := 3) k120
          rw [R.f11 k120] at c138
          have h65 : D 65 r = 0 := (hW.lst hr).resolve_right (fun z => c138 (by rw [z]; decide))
          rw [lg_cmp_le, hA r hr hpr] at c162
          rw [hA r hr hpr]
          refine s_fg [6, 7] ?_ (ih (r + 1) _ (by omega) (by rw [hc1]; omega) (hP.st (by unfold Wc; rw [hw, h65]; decide) (hwC_m0 (Int64.not_lt.mpr c162)).symm))
          rw [hc1, cpS_m hw h65]; rfl
        · refine s_iconst (pc' := 166) (v := 2) dX5_capped_165 rfl (by decide) ?_
          refine s_goto (tgt := 170) dX5_capped_166 (by decide) ?_
          refine t_iast (pc' := 171) (q := r) dX5_capped_170 rfl sh_27 R.f1 (by omega) ?_
          refine s_lload_n (pc' := 172) dX5_capped_171 rfl rfl ?_
          refine s_aload_n (pc' := 173) dX5_capped_172 rfl rfl ?_
          refine s_getS (pc' := 176) (b := 26) dX5_capped_173 rfl (by decide) rfl (by decide) fa_X5_15_5 rfl rfl ?_
          refine s_aload (pc' := 178) dX5_capped_176 rfl rfl ?_
          refine t_getI (pc' := 181) dX5_capped_178 rfl (kc3 k120 R.sh) (by decide) fa_X5_198_2 rfl ?_
          refine t_lald (pc' := 182) (q := r) dX5_capped_181 rfl sh_26 (by (try simp (disch := omega) only [up2_d]); exact R.f1) (by omega) ?_
          refine s_lmin (pc' := 185) dX5_capped_182 rfl ml_X5_205 (by decide) (by decide) (by decide) (Nat.le_of_ble_eq_true rfl) ?_
          refine t_lstore_n (pc' := 186) (L' := [.ref 24, .long _, .retAddr _, .long _, .retAddr _, .int _, .ref _, .ref _]) dX5_capped_185 rfl (Nat.le_of_ble_eq_true rfl) rfl ?_
          refine t_iinc (pc' := 189) (v := nI (cntB (Pv D x (J 25) th (nI v)) r + 1)) (L' := [.ref 24, .long _, .retAddr _, .long _, .retAddr _, .int _, .ref _, .ref _]) dX5_capped_186 rfl rfl (nI_inc _) rfl ?_
          refine s_goto (tgt := 100) dX5_capped_189 (by decide) ?_
          have hw := Pv_wk hpr (c := 3) k120
          rw [R.f11 k120] at c138
          have h65 : D 65 r = 0 := (hW.lst hr).resolve_right (fun z => c138 (by rw [z]; decide))
          rw [lg_cmp_le, hA r hr hpr] at c162
          rw [hA r hr hpr]
          refine s_fg [6, 7] ?_ (ih (r + 1) _ (by omega) (by rw [hc1]; omega) (hP.st (by unfold Wc; rw [hw, h65]; decide) (hwC_m1 (Int64.not_le.mp c162)).symm))
          rw [hc1, cpS_m hw h65]; rfl
    · refine s_ifeqT (tgt := 186) dX5_capped_123 (by decide) (by decide) ?_
      refine t_iinc (pc' := 189) (v := nI (cntB (Pv D x (J 25) th (nI v)) r + 1)) (L' := [.ref 24, .long _, .retAddr _, .long _, .retAddr _, .int _, .retAddr _, .ref _]) dX5_capped_186 rfl rfl (nI_inc _) rfl ?_
      refine s_goto (tgt := 100) dX5_capped_189 (by decide) ?_
      have hw := wk_1 (x := x) (g := J 25) (th := th) (v := nI v) (k := 3) k120
      refine s_fg [6, 7] ?_ (ih (r + 1) _ (by omega) (by rw [hc1]; omega) (hP.no (by unfold Wc; rw [hw]; rfl)))
      rw [hc1, cpS_o (fun z => by rw [hw] at z; exact absurd z.1 (by decide))]; rfl
theorem c_X5_capped {N : Nat} {S : Nat → Nat × Nat} {I : Nat → Nat → Int32} {J : Nat → Nat → Int64} {Q : Nat → Nat → Option Nat} {κ : Option Value → HP → Prop} {D : Nat → Nat → Int32} {nv nr ns : Nat} {ad td : Nat → Nat} (X : XS N S I Q D nv nr ns ad td 0) (hW : DW D nv nr ns) {v : Nat} {x th : Int32} (hv : v < nv) (G : GS I Q D x (J 25) th (nI v) nr ad) (hA : ∀ r, r < nr → Pv D x (J 25) th (nI v) r = true → J 26 r = amt D (J 25) r) {n0 : Int64} (hk : ∀ I1 I2, C1 I I1 D x (J 25) th (nI v) 1 n0 nr → C1 I1 I2 D x (J 25) th (nI v) 0 (cpS D x (J 25) th (nI v) 1 n0 nr) nr → κ (some (.long (cpS D x (J 25) th (nI v) 0 (cpS D x (J 25) th (nI v) 1 n0 nr) nr))) (N, S, I2, J, Q)) : CT E1 M_X5_capped [.ref 24, .long n0] (N, S, I, J, Q) κ := by
  refine ofSP mk_X5_capped (Nat.le_of_ble_eq_true rfl) (L := [.ref 24, .long _, .retAddr _, .retAddr _, .retAddr _, .retAddr _, .retAddr _, .retAddr _]) rfl ?_
  refine s_lload_n (pc' := 1) dX5_capped_0 rfl rfl ?_
  refine t_lstore_n (pc' := 2) (L' := [.ref 24, .long _, .retAddr _, .long _, .retAddr _, .retAddr _, .retAddr _, .retAddr _]) dX5_capped_1 rfl (Nat.le_of_ble_eq_true rfl) rfl ?_
  refine s_iconst (pc' := 3) (v := 0) dX5_capped_2 rfl (by decide) ?_
  refine t_istore (pc' := 5) (L' := [.ref 24, .long _, .retAddr _, .long _, .retAddr _, .int _, .retAddr _, .retAddr _]) dX5_capped_3 rfl (Nat.le_of_ble_eq_true rfl) rfl ?_
  refine l_X5_capped1 X hW hv G hA (n0 := n0) (fun I1 h1 => ?_) (cntB (Pv D x (J 25) th (nI v)) nr) 0 I (Nat.zero_le _) (by simp [cntB]) ⟨FH.rf, RV.rf, rfl⟩
  refine s_iconst (pc' := 98) (v := 0) dX5_capped_97 rfl (by decide) ?_
  refine t_istore (pc' := 100) (L' := [.ref 24, .long _, .retAddr _, .long _, .retAddr _, .int _, .retAddr _, .retAddr _]) dX5_capped_98 rfl (Nat.le_of_ble_eq_true rfl) rfl ?_
  exact l_X5_capped0 (X.fr h1.1.fr) hW hv (G.fh h1.1) hA (fun I2 h2 => hk I1 I2 h1 h2) (cntB (Pv D x (J 25) th (nI v)) nr) 0 I1 (Nat.zero_le _) (by simp [cntB]) ⟨FH.rf, RV.rf, rfl⟩
theorem l_X5_openedOn {N : Nat} {S : Nat → Nat × Nat} {I : Nat → Nat → Int32} {J : Nat → Nat → Int64} {Q : Nat → Nat → Option Nat} {κ : Option Value → HP → Prop} {D : Nat → Nat → Int32} {nv nr ns : Nat} {ad td : Nat → Nat} (X : XS N S I Q D nv nr ns ad td 0) (hW : DW D nv nr ns) {x th : Int32} (hth : I 24 4 = th) (hk : ∀ y : Int32, (∀ c, c < 8 → bt y c = opn D x (J 25) th (nI c) nr) → κ (some (.int y)) (N, S, I, J, Q)) : ∀ d : Nat, ∀ k o b, k + d = nr → OP D x (J 25) th o b k → SP E1 M_X5_openedOn κ 11 [.ref 24, .ref 1, .int x, .int o, .int b, .int (nI k), .retAddr 0] [] (N, S, I, J, Q) 0 0 := by
  intro d
  induction d with
  | zero =>
    intro k o b hd hP
    obtain rfl : k = nr := by omega
    refine s_iload (pc' := 13) dX5_openedOn_11 rfl rfl ?_
    refine s_aload_n (pc' := 14) dX5_openedOn_13 rfl rfl ?_
    refine t_getI (pc' := 17) dX5_openedOn_14 rfl sh_1 (by decide) fa_X5_80_8 rfl ?_
    refine s_icmpgeT (tgt := 106) dX5_openedOn_17 (by decide) (by rw [X.xr]; exact nI_le (Nat.le_refl _) (by have := hW.nr; omega)) ?_
    refine s_iload_n (pc' := 107) dX5_openedOn_106 rfl rfl ?_
    refine s_iload (pc' := 109) dX5_openedOn_107 rfl rfl ?_
    refine s_iconst (pc' := 110) (v := -1) dX5_openedOn_109 rfl (by decide) ?_
    refine s_ixor (pc' := 111) dX5_openedOn_110 rfl ?_
    refine s_iand (pc' := 112) dX5_openedOn_111 rfl ?_
    exact s_iret dX5_openedOn_112 rfl (by decide) (by decide) (hk _ hP.fin)
  | succ d ih =>
    intro k o b hd hP
    have hn30 := hW.nr
    have hr : k < nr := by omega
    have R := X.ro hr
    refine s_iload (pc' := 13) dX5_openedOn_11 rfl rfl ?_
    refine s_aload_n (pc' := 14) dX5_openedOn_13 rfl rfl ?_
    refine t_getI (pc' := 17) dX5_openedOn_14 rfl sh_1 (by decide) fa_X5_80_8 rfl ?_
    refine s_icmpgeF (pc' := 20) (tgt := 106) dX5_openedOn_17 (by decide) rfl (by rw [X.xr]; exact nI_ge (by omega) (by omega)) ?_
    refine s_aload_n (pc' := 21) dX5_openedOn_20 rfl rfl ?_
    refine s_getS (pc' := 24) (b := 8) dX5_openedOn_21 rfl (by decide) rfl (by decide) fa_X5_83_8 rfl rfl ?_
    refine s_iload (pc' := 26) dX5_openedOn_24 rfl rfl ?_
    refine t_aald (pc' := 27) dX5_openedOn_26 rfl (Or.inl rfl) sh_8 rfl (by omega) (X.q hr) ?_
    refine t_astore (pc' := 29) (L' := [.ref 24, .ref 1, .int _, .int _, .int _, .int _, .ref _]) dX5_openedOn_27 rfl (Nat.le_of_ble_eq_true rfl) rfl ?_
    refine s_aload (pc' := 31) dX5_openedOn_29 rfl rfl ?_
    refine i_opens (pc' := 34) dX5_openedOn_31 rfl R.sh cl_X5_211 (fun k31 => ?_) (fun k31 => ?_)
    · refine s_ifeqF (pc' := 37) (tgt := 100) dX5_openedOn_34 (by decide) rfl (by decide) ?_
      refine s_aload_n (pc' := 38) dX5_openedOn_37 rfl rfl ?_
      refine t_getI (pc' := 41) dX5_openedOn_38 rfl sh_24 (by decide) fa_X5_25_5 rfl ?_
      refine s_iload (pc' := 43) dX5_openedOn_41 rfl rfl ?_
      refine s_callSN (pc' := 46) (As := [.int _, .int _]) dX5_openedOn_43 rfl mk_X11_hasBit mn_X5_132 sm_X11_hasBit rfl rfl ⟨Nat.le_of_ble_eq_true rfl, Nat.le_of_ble_eq_true rfl, Nat.le_of_ble_eq_true rfl, Nat.le_of_ble_eq_true rfl⟩ (Nat.le_of_ble_eq_true rfl) (e_hasBit (j := _) rfl (by omega) (fun b43 => ?_) (fun b43 => ?_))
      · refine s_ifeqF (pc' := 49) (tgt := 100) dX5_openedOn_46 (by decide) rfl (by decide) ?_
        refine s_aload (pc' := 51) dX5_openedOn_49 rfl rfl ?_
        refine t_getR (pc' := 54) dX5_openedOn_51 rfl R.sh (rk_lt (kc_rk _)) (fr_X5_136 (kc_rk _)) (rk_ft (kc_rk _) (by decide)) R.f2 ?_
        refine s_iload_n (pc' := 55) dX5_openedOn_54 rfl rfl ?_
        refine s_aload_n (pc' := 56) dX5_openedOn_55 rfl rfl ?_
        refine s_getS (pc' := 59) (b := 25) dX5_openedOn_56 rfl (by decide) rfl (by decide) fa_X5_9_5 rfl rfl ?_
        refine s_callV (pc' := 62) (As := [.int _, .ref 25]) dX5_openedOn_59 rfl mk_X9_holds ml_X5_140 im_X9_holds se_X9_X9_X9_holds R.to.sh (by decide) rfl rfl rfl ⟨Nat.le_of_ble_eq_true rfl, Nat.le_of_ble_eq_true rfl, Nat.le_of_ble_eq_true rfl, Nat.le_of_ble_eq_true rfl⟩ (Nat.le_of_ble_eq_true rfl) (c_X9_holds hW (r := k) hr R.to (fun h59 => ?_) (fun h59 => ?_))
        · refine s_ifeqF (pc' := 65) (tgt := 100) dX5_openedOn_62 (by decide) rfl (by decide) ?_
          refine s_aload (pc' := 67) dX5_openedOn_65 rfl rfl ?_
          refine t_getI (pc' := 70) (j := 0) dX5_openedOn_67 rfl R.sh (rk_lt (kc_rk _)) (fr_X5_129 (kc_rk _)) (by rw [rk_ft (kc_rk _) (by decide)]; rfl) ?_
          refine s_bipush (pc' := 72) (v := 6) dX5_openedOn_70 rfl (by decide) ?_
          refine s_icmpne (pc' := 75) (tgt := 90) dX5_openedOn_72 (by decide) rfl (fun c72 => ?_) (fun c72 => ?_)
          · refine s_iload_n (pc' := 91) dX5_openedOn_90 rfl rfl ?_
            refine s_iconst (pc' := 92) (v := 1) dX5_openedOn_91 rfl (by decide) ?_
            refine s_aload (pc' := 94) dX5_openedOn_92 rfl rfl ?_
            refine t_getI (pc' := 97) (j := 3) dX5_openedOn_94 rfl R.sh (rk_lt (kc_rk _)) (fr_X5_146 (kc_rk _)) (by rw [rk_ft (kc_rk _) (by decide)]; rfl) ?_
            refine s_ishl (pc' := 98) dX5_openedOn_97 rfl ?_
            refine s_ior (pc' := 99) dX5_openedOn_98 rfl ?_
            refine t_istore_n (pc' := 100) (L' := [.ref 24, .ref 1, .int _, .int _, .int _, .int _, .ref _]) dX5_openedOn_99 rfl (Nat.le_of_ble_eq_true rfl) rfl ?_
            refine t_iinc (pc' := 103) (v := nI (k + 1)) (L' := [.ref 24, .ref 1, .int _, .int _, .int _, .int _, .ref _]) dX5_openedOn_100 rfl rfl (nI_inc k) rfl ?_
            refine s_goto (tgt := 11) dX5_openedOn_103 (by decide) ?_
            have n1 : bitI th (nI k) = 1 := (bitI_1 (by omega)).mpr (by rw [← hth]; exact b43)
            obtain ⟨q56, aa, ha1, ha2⟩ := hW.k56 hr k31
            rw [R.f0] at c72
            rw [R.f3]
            exact s_fg [6] rfl (ih (k + 1) _ _ (by omega) (hP.o5 ha1 ha2 (q56.resolve_right c72) n1 h59))
          · refine s_iload (pc' := 77) dX5_openedOn_75 rfl rfl ?_
            refine s_iconst (pc' := 78) (v := 1) dX5_openedOn_77 rfl (by decide) ?_
            refine s_aload (pc' := 80) dX5_openedOn_78 rfl rfl ?_
            refine t_getI (pc' := 83) (j := 3) dX5_openedOn_80 rfl R.sh (rk_lt (kc_rk _)) (fr_X5_146 (kc_rk _)) (by rw [rk_ft (kc_rk _) (by decide)]; rfl) ?_
            refine s_ishl (pc' := 84) dX5_openedOn_83 rfl ?_
            refine s_ior (pc' := 85) dX5_openedOn_84 rfl ?_
            refine t_istore (pc' := 87) (L' := [.ref 24, .ref 1, .int _, .int _, .int _, .int _, .ref _]) dX5_openedOn_85 rfl (Nat.le_of_ble_eq_true rfl) rfl ?_
            refine s_goto (tgt := 100) dX5_openedOn_87 (by decide) ?_
            refine t_iinc (pc' := 103) (v := nI (k + 1)) (L' := [.ref 24, .ref 1, .int _, .int _, .int _, .int _, .ref _]) dX5_openedOn_100 rfl rfl (nI_inc k) rfl ?_
            refine s_goto (tgt := 11) dX5_openedOn_103 (by decide) ?_
            have n1 : bitI th (nI k) = 1 := (bitI_1 (by omega)).mpr (by rw [← hth]; exact b43)
            obtain ⟨q56, aa, ha1, ha2⟩ := hW.k56 hr k31
            rw [R.f0] at c72
            rw [R.f3]
            exact s_fg [6] rfl (ih (k + 1) _ _ (by omega) (hP.o6 ha1 ha2 (by simpa using c72) n1 h59))
        · refine s_ifeqT (tgt := 100) dX5_openedOn_62 (by decide) (by decide) ?_
          refine t_iinc (pc' := 103) (v := nI (k + 1)) (L' := [.ref 24, .ref 1, .int _, .int _, .int _, .int _, .ref _]) dX5_openedOn_100 rfl rfl (nI_inc k) rfl ?_
          refine s_goto (tgt := 11) dX5_openedOn_103 (by decide) ?_
          exact s_fg [6] rfl (ih (k + 1) _ _ (by omega) (hP.no (fun c => wk_4 h59) (fun c => wk_4 h59)))
      · refine s_ifeqT (tgt := 100) dX5_openedOn_46 (by decide) (by decide) ?_
        refine t_iinc (pc' := 103) (v := nI (k + 1)) (L' := [.ref 24, .ref 1, .int _, .int _, .int _, .int _, .ref _]) dX5_openedOn_100 rfl rfl (nI_inc k) rfl ?_
        refine s_goto (tgt := 11) dX5_openedOn_103 (by decide) ?_
        have n1 : bitI th (nI k) ≠ 1 := fun z => by have q := (bitI_1 (by omega)).mp z; rw [← hth, b43] at q; cases q
        exact s_fg [6] rfl (ih (k + 1) _ _ (by omega) (hP.no (fun c => wk_3 n1) (fun c => wk_3 n1)))
    · refine s_ifeqT (tgt := 100) dX5_openedOn_34 (by decide) (by decide) ?_
      refine t_iinc (pc' := 103) (v := nI (k + 1)) (L' := [.ref 24, .ref 1, .int _, .int _, .int _, .int _, .ref _]) dX5_openedOn_100 rfl rfl (nI_inc k) rfl ?_
      refine s_goto (tgt := 11) dX5_openedOn_103 (by decide) ?_
      obtain ⟨n5, n6⟩ := OP.k04 (x := x) (g := J 25) (th := th) k31
      exact s_fg [6] rfl (ih (k + 1) _ _ (by omega) (hP.no n5 n6))
theorem c_X5_openedOn {N : Nat} {S : Nat → Nat × Nat} {I : Nat → Nat → Int32} {J : Nat → Nat → Int64} {Q : Nat → Nat → Option Nat} {κ : Option Value → HP → Prop} {D : Nat → Nat → Int32} {nv nr ns : Nat} {ad td : Nat → Nat} (X : XS N S I Q D nv nr ns ad td 0) (hW : DW D nv nr ns) {x th : Int32} (hth : I 24 4 = th) (hk : ∀ y : Int32, (∀ c, c < 8 → bt y c = opn D x (J 25) th (nI c) nr) → κ (some (.int y)) (N, S, I, J, Q)) : CT E1 M_X5_openedOn [.ref 24, .ref 1, .int x] (N, S, I, J, Q) κ := by
  refine ofSP mk_X5_openedOn (Nat.le_of_ble_eq_true rfl) (L := [.ref 24, .ref 1, .int _, .retAddr _, .retAddr _, .retAddr _, .retAddr _]) rfl ?_
  refine s_aload_n (pc' := 1) dX5_openedOn_0 rfl rfl ?_
  refine t_getI (pc' := 4) dX5_openedOn_1 rfl sh_1 (by decide) fa_X5_208_8 rfl ?_
  refine t_istore_n (pc' := 5) (L' := [.ref 24, .ref 1, .int _, .int _, .retAddr _, .retAddr _, .retAddr _]) dX5_openedOn_4 rfl (Nat.le_of_ble_eq_true rfl) rfl ?_
  refine s_iconst (pc' := 6) (v := 0) dX5_openedOn_5 rfl (by decide) ?_
  refine t_istore (pc' := 8) (L' := [.ref 24, .ref 1, .int _, .int _, .int _, .retAddr _, .retAddr _]) dX5_openedOn_6 rfl (Nat.le_of_ble_eq_true rfl) rfl ?_
  refine s_iconst (pc' := 9) (v := 0) dX5_openedOn_8 rfl (by decide) ?_
  refine t_istore (pc' := 11) (L' := [.ref 24, .ref 1, .int _, .int _, .int _, .int _, .retAddr _]) dX5_openedOn_9 rfl (Nat.le_of_ble_eq_true rfl) rfl ?_
  exact l_X5_openedOn X hW hth hk nr 0 _ _ (by omega) (fun c hc => ⟨by rw [X.fe, opA]; cases hb : bt (D 75 4) c with
    | true => exact (decide_eq_true ((bitI_1 (by omega)).mpr hb)).symm
    | false => exact (decide_eq_false (fun z => by rw [(bitI_1 (by omega)).mp z] at hb; cases hb)).symm, b_0 c⟩)
