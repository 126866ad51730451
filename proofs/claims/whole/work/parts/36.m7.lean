def bst (D : Nat → Nat → Int32) (x : Int32) (g : Nat → Int64) (th v : Int32) (nr r : Nat) : Option Nat := if amt D g r = 0 then none else boS D x g th v (D 64 r) (if 0 < amt D g r then 1 else -1) nr
def plB (D : Nat → Nat → Int32) (r : Nat) : Bool := decide (D 60 r = 0) || decide (bitI (D 75 5) (D 64 r) = 1)
def adC (D : Nat → Nat → Int32) (x : Int32) (g : Nat → Int64) (th v : Int32) (nr r : Nat) : Int64 := if adB D x g th r v = true then (if foS D x g th r v = r then (if plB D r = true then amt D g r else if bst D x g th v nr r = some r then amt D g r else 0) else 0) else 0
def adS (D : Nat → Nat → Int32) (x : Int32) (g : Nat → Int64) (th v : Int32) (nr : Nat) : Nat → Int64
  | 0 => 0
  | k + 1 => adS D x g th v nr k + adC D x g th v nr k
def hwA (D : Nat → Nat → Int32) (x : Int32) (g : Nat → Int64) (th v : Int32) (nr r : Nat) : Int32 := if foS D x g th r v = r then (if plB D r = true then 2 else if bst D x g th v nr r = some r then 2 else 4) else 3
def btA (D : Nat → Nat → Int32) (x : Int32) (g : Nat → Int64) (th v : Int32) (nr r : Nat) : Int32 := if foS D x g th r v = r then (if plB D r = true then -1 else if bst D x g th v nr r = some r then -1 else ixo (bst D x g th v nr r)) else nI (foS D x g th r v)
/-- the spells' numbers on top of a -/
def spA (D : Nat → Nat → Int32) (v : Int32) (a : Int64) : Nat → Int64
  | 0 => a
  | k + 1 => spA D v a k + (if D 72 k = v ∧ D 75 6 < D 74 k then (D 73 k).toInt64 else 0)
/-- the caps that say ls (1 at least, 0 at most), the first k -/
def cpS (D : Nat → Nat → Int32) (x : Int32) (g : Nat → Int64) (th v ls : Int32) (n0 : Int64) : Nat → Int64
  | 0 => n0
  | k + 1 => if wk D x g th k 3 v = true ∧ D 65 k = ls then (if (if ls = 1 then cpS D x g th v ls n0 k < amt D g k else amt D g k < cpS D x g th v ls n0 k) then amt D g k else cpS D x g th v ls n0 k) else cpS D x g th v ls n0 k
def hwC (D : Nat → Nat → Int32) (x : Int32) (g : Nat → Int64) (th v ls : Int32) (n0 : Int64) (r : Nat) : Int32 := if (if ls = 1 then cpS D x g th v ls n0 r < amt D g r else amt D g r < cpS D x g th v ls n0 r) then 2 else 4
theorem m1_ne {k : Nat} (hk : k < 1000) : (-1 : Int32) ≠ nI k := by
  intro h
  have := congrArg Int32.toInt h
  rw [nI_toInt (by omega)] at this
  have e : (-1 : Int32).toInt = -1 := by decide
  rw [e] at this
  omega
theorem ixo_eq {o : Option Nat} {k : Nat} (h : ∀ q, o = some q → q < 1000) (hk : k < 1000) : ixo o = nI k ↔ o = some k := by
  cases o with
  | none => exact ⟨fun z => absurd z (m1_ne hk), fun z => by cases z⟩
  | some q =>
    have := h q rfl
    exact ⟨fun z => by rw [ixo_s] at z; rw [(nI_eq (by omega) (by omega)).mp z], fun z => by cases z; rfl⟩
/-- the same, row 86 untouched -/
def RW4 (I I' : Nat → Nat → Int32) (Wp : Nat → Bool) (hw bt : Nat → Int32) (k : Nat) : Prop := F3 I I' ∧ (∀ r, r < k → Wp r = true → I' 84 r = hw r ∧ I' 85 r = bt r) ∧ (∀ r, (k ≤ r ∨ Wp r = false) → I' 84 r = I 84 r ∧ I' 85 r = I 85 r) ∧ I' 86 = I 86
theorem RW4.to {I I' : Nat → Nat → Int32} {Wp : Nat → Bool} {hw bt : Nat → Int32} {k : Nat} (h : RW4 I I' Wp hw bt k) : RW2 I I' Wp hw bt k := ⟨h.1, h.2.1, h.2.2.1⟩
theorem RW4.of {I I' : Nat → Nat → Int32} {Wp : Nat → Bool} {hw bt : Nat → Int32} {k : Nat} (h : RW2 I I' Wp hw bt k) (e : I' 86 = I 86) : RW4 I I' Wp hw bt k := ⟨h.1, h.2.1, h.2.2, e⟩
theorem RW4.rf {I : Nat → Nat → Int32} {Wp : Nat → Bool} {hw bt : Nat → Int32} : RW4 I I Wp hw bt 0 := RW4.of RW2.rf rfl
theorem RW4.sk {I I' : Nat → Nat → Int32} {Wp : Nat → Bool} {hw bt : Nat → Int32} {k : Nat} (h : RW4 I I' Wp hw bt k) (hk : Wp k = false) : RW4 I I' Wp hw bt (k + 1) := RW4.of (h.to.sk hk) h.2.2.2
theorem RW4.a {I I' : Nat → Nat → Int32} {Wp : Nat → Bool} {hw bt : Nat → Int32} {k : Nat} {x y z : Int32} (h : RW4 I I' Wp hw bt k) (hk : Wp k = true) (h1 : y = hw k) (h2 : z = bt k) : RW4 I (up2 (up2 (up2 I' 85 k x) 84 k y) 85 k z) Wp hw bt (k + 1) := by
  refine RW4.of (h.to.st hk (((F3.rf.up (by decide)).up (by decide)).up (by decide)) ?_ ?_ (fun r hr => ?_)) (by rw [up2_o (by decide), up2_o (by decide), up2_o (by decide)]; exact h.2.2.2)
  · simp (disch := decide) only [up2_d, up2_s]; exact h1
  · simp (disch := decide) only [up2_d, up2_s]; exact h2
  · constructor
    · rw [up2_d (by decide), up2_e hr, up2_d (by decide)]
    · rw [up2_e hr, up2_d (by decide), up2_e hr]
theorem RW4.b {I I' : Nat → Nat → Int32} {Wp : Nat → Bool} {hw bt : Nat → Int32} {k : Nat} {x y : Int32} (h : RW4 I I' Wp hw bt k) (hk : Wp k = true) (h1 : y = hw k) (h2 : x = bt k) : RW4 I (up2 (up2 I' 85 k x) 84 k y) Wp hw bt (k + 1) := by
  refine RW4.of (h.to.st hk ((F3.rf.up (by decide)).up (by decide)) ?_ ?_ (fun r hr => ?_)) (by rw [up2_o (by decide), up2_o (by decide)]; exact h.2.2.2)
  · rw [up2_s]; exact h1
  · simp (disch := decide) only [up2_d, up2_s]; exact h2
  · constructor
    · rw [up2_e hr, up2_d (by decide)]
    · rw [up2_d (by decide), up2_e hr]
theorem RW4.c {I I' : Nat → Nat → Int32} {Wp : Nat → Bool} {hw : Nat → Int32} {k : Nat} {y : Int32} (h : RW4 I I' Wp hw (fun r => I 85 r) k) (hk : Wp k = true) (h1 : y = hw k) : RW4 I (up2 I' 84 k y) Wp hw (fun r => I 85 r) (k + 1) := by
  have h5 := (h.2.2.1 k (Or.inl (Nat.le_refl k))).2
  refine RW4.of (h.to.st hk (F3.rf.up (by decide)) (by rw [up2_s]; exact h1) (by rw [up2_d (by decide)]; exact h5) (fun r hr => ⟨up2_e hr, up2_d (by decide)⟩)) (by rw [up2_o (by decide)]; exact h.2.2.2)
theorem RW4.d {I I' : Nat → Nat → Int32} {Wp : Nat → Bool} {hw bt : Nat → Int32} {k : Nat} {x y : Int32} (h : RW4 I I' Wp hw bt k) (hk : Wp k = true) (h1 : y = hw k) (h2 : x = bt k) : RW4 I (up2 (up2 I' 84 k y) 85 k x) Wp hw bt (k + 1) := by
  refine RW4.of (h.to.st hk ((F3.rf.up (by decide)).up (by decide)) ?_ ?_ (fun r hr => ?_)) (by rw [up2_o (by decide), up2_o (by decide)]; exact h.2.2.2)
  · simp (disch := decide) only [up2_d, up2_s]; exact h1
  · rw [up2_s]; exact h2
  · constructor
    · rw [up2_d (by decide), up2_e hr]
    · rw [up2_e hr, up2_d (by decide)]
theorem PBn.f {I I' D : Nat → Nat → Int32} {x : Int32} {g : Nat → Int64} {th v : Int32} {vj nr : Nat} (h : PBn I I' D x g th v vj nr) : F3 I I' := by
  unfold PBn at h
  split at h
  · rw [h]; exact F3.rf.up (by decide)
  · exact h.1.1
theorem bst_lt {D : Nat → Nat → Int32} {x : Int32} {g : Nat → Int64} {th v : Int32} {nr r q : Nat} (h : bst D x g th v nr r = some q) : q < nr := by
  unfold bst at h
  split at h
  · cases h
  · exact boS_lt _ _ h
theorem c_X12_based {N : Nat} {S : Nat → Nat × Nat} {I : Nat → Nat → Int32} {J : Nat → Nat → Int64} {Q : Nat → Nat → Option Nat} {κ : Option Value → HP → Prop} {D : Nat → Nat → Int32} {nv nr ns b : Nat} {th : Int32} (C : ST I D nv nr ns b th) {vj : Nat} {v : Int32} (hv : v = nI vj) (hvn : vj < nv) (hk : ∀ I', PBn I I' D (nI b) (gM J b) th v vj nr → κ (some (.long (basedV D (nI b) (gM J b) th v vj nr))) (N, S, I', J, Q)) : CT E1 M_X12_based [.ref 54, .int v] (N, S, I, J, Q) κ := by
  refine ofSP mk_X12_based (Nat.le_of_ble_eq_true rfl) (L := [.ref 54, .int _, .retAddr _, .retAddr _]) rfl ?_
  refine s_iconst (pc' := 1) (v := -1) dX12_based_0 rfl (by decide) ?_
  refine t_istore_n (pc' := 2) (L' := [.ref 54, .int _, .int _, .retAddr _]) dX12_based_1 rfl (Nat.le_of_ble_eq_true rfl) rfl ?_
  refine s_iconst (pc' := 3) (v := 0) dX12_based_2 rfl (by decide) ?_
  refine t_istore_n (pc' := 4) (L' := [.ref 54, .int _, .int _, .int _]) dX12_based_3 rfl (Nat.le_of_ble_eq_true rfl) rfl ?_
  exact l_X12_based1 C hv hvn (by
    cases hq : bsS D (nI b) (gM J b) th v nr with
    | none =>
      rw [ixo_n]
      refine s_aload_n (pc' := 52) dX12_based_51 rfl rfl ?_
      refine s_getS (pc' := 55) (b := 86) dX12_based_52 rfl (by decide) rfl (by decide) fa_X12_105_12 rfl rfl ?_
      refine s_iload_n (pc' := 56) dX12_based_55 rfl rfl ?_
      refine s_iconst (pc' := 57) (v := 0) dX12_based_56 rfl (by decide) ?_
      refine t_zast (pc' := 58) (q := vj) dX12_based_57 rfl sh_86 hv (by have := C.1.2.1.nv; omega) rfl ?_
      refine s_iload_n (pc' := 59) dX12_based_58 rfl rfl ?_
      refine s_ifgeF (pc' := 62) (tgt := 70) dX12_based_59 (by decide) rfl (by decide) ?_
      refine s_aload_n (pc' := 63) dX12_based_62 rfl rfl ?_
      refine s_getS (pc' := 66) (b := 56) dX12_based_63 rfl (by decide) rfl (by decide) fa_X12_13_12 rfl rfl ?_
      refine s_iload_n (pc' := 67) dX12_based_66 rfl rfl ?_
      refine t_iald (pc' := 68) (q := vj) dX12_based_67 rfl sh_56 hv (by have := C.1.2.1.nv; omega) ?_
      refine s_i2l (pc' := 69) dX12_based_68 rfl ?_
      exact s_lret dX12_based_69 rfl (by decide) (by decide) (by have z := hk (up2 I 86 vj 0) (by unfold PBn; rw [hq]); unfold basedV at z; rw [hq] at z; rw [up2_d (by decide), C.1.1 56 (by decide) (by decide)]; exact z)
    | some q =>
      rw [ixo_s]
      have hqn := bsS_lt _ _ hq
      have hn30 := C.1.2.1.nr
      refine s_aload_n (pc' := 52) dX12_based_51 rfl rfl ?_
      refine s_getS (pc' := 55) (b := 86) dX12_based_52 rfl (by decide) rfl (by decide) fa_X12_105_12 rfl rfl ?_
      refine s_iload_n (pc' := 56) dX12_based_55 rfl rfl ?_
      refine s_iconst (pc' := 57) (v := 0) dX12_based_56 rfl (by decide) ?_
      refine t_zast (pc' := 58) (q := vj) dX12_based_57 rfl sh_86 hv (by have := C.1.2.1.nv; omega) rfl ?_
      refine s_iload_n (pc' := 59) dX12_based_58 rfl rfl ?_
      refine s_ifgeT (tgt := 70) dX12_based_59 (by decide) (nI_pos' (by omega)) ?_
      refine s_iconst (pc' := 71) (v := 0) dX12_based_70 rfl (by decide) ?_
      refine t_istore_n (pc' := 72) (L' := [.ref 54, .int _, .int _, .int _]) dX12_based_71 rfl (Nat.le_of_ble_eq_true rfl) rfl ?_
      exact l_X12_based2 C hv hvn hqn (fun I' hI => by have z := hk I' (by unfold PBn; rw [hq]; exact hI); unfold basedV at z; rw [hq] at z; exact z) nr 0 _ (by omega) ⟨⟨F3.rf.up (by decide), fun r h => by omega, fun r _ => ⟨up2_d (by decide), up2_d (by decide)⟩⟩, up2_s, fun u hu => up2_e hu⟩) nr 0 (by omega)
theorem l_X12_added1 {N : Nat} {S : Nat → Nat × Nat} {I : Nat → Nat → Int32} {J : Nat → Nat → Int64} {Q : Nat → Nat → Option Nat} {κ : Option Value → HP → Prop} {D : Nat → Nat → Int32} {nv nr ns b : Nat} {th : Int32} (C : ST I D nv nr ns b th) {v : Int32} (hk : ∀ I', RW4 I I' (fun r => adB D (nI b) (gM J b) th r v) (hwA D (nI b) (gM J b) th v nr) (btA D (nI b) (gM J b) th v nr) nr → SP E1 M_X12_added κ 225 [.ref 54, .int v, .long (adS D (nI b) (gM J b) th v nr nr), .retAddr 0, .retAddr 0, .retAddr 0, .retAddr 0, .retAddr 0, .retAddr 0] [] (N, S, I', J, Q) 0 0) : ∀ d : Nat, ∀ k I', k + d = nr → RW4 I I' (fun r => adB D (nI b) (gM J b) th r v) (hwA D (nI b) (gM J b) th v nr) (btA D (nI b) (gM J b) th v nr) k → SP E1 M_X12_added κ 5 [.ref 54, .int v, .long (adS D (nI b) (gM J b) th v nr k), .retAddr 0, .int (nI k), .retAddr 0, .retAddr 0, .retAddr 0, .retAddr 0] [] (N, S, I', J, Q) 0 0 := by
  intro d
  induction d with
  | zero =>
    intro k I' hd hP
    obtain rfl : k = nr := by omega
    have C0 := C
    have hn30 := C.1.2.1.nr
    replace C := C.mv hP.1
    refine s_iload (pc' := 7) dX12_added_5 rfl rfl ?_
    refine s_aload_n (pc' := 8) dX12_added_7 rfl rfl ?_
    refine s_getS (pc' := 11) (b := 75) dX12_added_8 rfl (by decide) rfl (by decide) fa_X12_70_12 rfl rfl ?_
    refine s_iconst (pc' := 12) (v := 1) dX12_added_11 rfl (by decide) ?_
    refine t_iald (pc' := 13) (q := 1) dX12_added_12 rfl sh_75 rfl (by decide) ?_
    refine s_icmpgeT (tgt := 225) dX12_added_13 (by decide) (by rw [C.1.2.1.rn C.1.1]; exact nI_le (Nat.le_refl _) (by have := C.1.2.1.nr; omega)) ?_
    exact s_fg [4] rfl (hk I' hP)
  | succ d ih =>
    intro k I' hd hP
    have C0 := C
    have hn30 := C.1.2.1.nr
    replace C := C.mv hP.1
    refine s_iload (pc' := 7) dX12_added_5 rfl rfl ?_
    refine s_aload_n (pc' := 8) dX12_added_7 rfl rfl ?_
    refine s_getS (pc' := 11) (b := 75) dX12_added_8 rfl (by decide) rfl (by decide) fa_X12_70_12 rfl rfl ?_
    refine s_iconst (pc' := 12) (v := 1) dX12_added_11 rfl (by decide) ?_
    refine t_iald (pc' := 13) (q := 1) dX12_added_12 rfl sh_75 rfl (by decide) ?_
    refine s_icmpgeF (pc' := 16) (tgt := 225) dX12_added_13 (by decide) rfl (by rw [C.1.2.1.rn C.1.1]; exact nI_ge (by omega) (by have := C.1.2.1.nr; omega)) ?_
    refine s_aload_n (pc' := 17) dX12_added_16 rfl rfl ?_
    refine s_iload (pc' := 19) dX12_added_17 rfl rfl ?_
    refine s_iload_n (pc' := 20) dX12_added_19 rfl rfl ?_
    refine s_callV (pc' := 23) (As := [.int _, .int _]) dX12_added_20 rfl mk_X12_adds_ ml_X12_245 im_X12_adds_ se_X12_X12_X12_adds_ sh_54 (by decide) rfl rfl rfl ⟨Nat.le_of_ble_eq_true rfl, Nat.le_of_ble_eq_true rfl, Nat.le_of_ble_eq_true rfl, Nat.le_of_ble_eq_true rfl⟩ (Nat.le_of_ble_eq_true rfl) (e_adds C (r := _) (by omega) (fun a20 => ?_) (fun a20 => ?_))
    · refine s_ifneT (tgt := 29) dX12_added_23 (by decide) (by decide) ?_
      refine s_aload_n (pc' := 30) dX12_added_29 rfl rfl ?_
      refine s_iload (pc' := 32) dX12_added_30 rfl rfl ?_
      refine s_callV (pc' := 35) (As := [.int _]) dX12_added_32 rfl mk_X12_amountOf ml_X12_241 im_X12_amountOf se_X12_X12_X12_amountOf sh_54 (by decide) rfl rfl rfl ⟨Nat.le_of_ble_eq_true rfl, Nat.le_of_ble_eq_true rfl, Nat.le_of_ble_eq_true rfl, Nat.le_of_ble_eq_true rfl⟩ (Nat.le_of_ble_eq_true rfl) (c_X12_amountOf C.1 (r := _) (by omega) ?_)
      refine t_lstore (pc' := 37) (L' := [.ref 54, .int _, .long _, .retAddr _, .int _, .long _, .retAddr _, .retAddr _, .retAddr _]) dX12_added_35 rfl (Nat.le_of_ble_eq_true rfl) rfl ?_
      refine s_aload_n (pc' := 38) dX12_added_37 rfl rfl ?_
      refine s_iload (pc' := 40) dX12_added_38 rfl rfl ?_
      refine s_iload_n (pc' := 41) dX12_added_40 rfl rfl ?_
      refine s_callV (pc' := 44) (As := [.int _, .int _]) dX12_added_41 rfl mk_X12_firstOf ml_X12_247 im_X12_firstOf se_X12_X12_X12_firstOf sh_54 (by decide) rfl rfl rfl ⟨Nat.le_of_ble_eq_true rfl, Nat.le_of_ble_eq_true rfl, Nat.le_of_ble_eq_true rfl, Nat.le_of_ble_eq_true rfl⟩ (Nat.le_of_ble_eq_true rfl) (c_X12_firstOf C (by omega) a20 ?_)
      refine t_istore (pc' := 46) (L' := [.ref 54, .int _, .long _, .retAddr _, .int _, .long _, .retAddr _, .int _, .retAddr _]) dX12_added_44 rfl (Nat.le_of_ble_eq_true rfl) rfl ?_
      refine s_aload_n (pc' := 47) dX12_added_46 rfl rfl ?_
      refine s_getS (pc' := 50) (b := 85) dX12_added_47 rfl (by decide) rfl (by decide) fa_X12_102_12 rfl rfl ?_
      refine s_iload (pc' := 52) dX12_added_50 rfl rfl ?_
      refine s_iconst (pc' := 53) (v := -1) dX12_added_52 rfl (by decide) ?_
      refine t_iast (pc' := 54) dX12_added_53 rfl sh_85 rfl (by omega) ?_
      refine s_iload (pc' := 56) dX12_added_54 rfl rfl ?_
      refine s_iload (pc' := 58) dX12_added_56 rfl rfl ?_
      refine s_icmpeq (pc' := 61) (tgt := 81) dX12_added_58 (by decide) rfl (fun c58 => ?_) (fun c58 => ?_)
      · refine s_aload_n (pc' := 82) dX12_added_81 rfl rfl ?_
        refine s_getS (pc' := 85) (b := 60) dX12_added_82 rfl (by decide) rfl (by decide) fa_X12_25_12 rfl rfl ?_
        refine s_iload (pc' := 87) dX12_added_85 rfl rfl ?_
        refine t_iald (pc' := 88) dX12_added_87 rfl sh_60 rfl (by omega) ?_
        refine s_ifeq (pc' := 91) (tgt := 111) dX12_added_88 (by decide) rfl (fun c88 => ?_) (fun c88 => ?_)
        · refine s_aload_n (pc' := 112) dX12_added_111 rfl rfl ?_
          refine s_getS (pc' := 115) (b := 84) dX12_added_112 rfl (by decide) rfl (by decide) fa_X12_99_12 rfl rfl ?_
          refine s_iload (pc' := 117) dX12_added_115 rfl rfl ?_
          refine s_iconst (pc' := 118) (v := 2) dX12_added_117 rfl (by decide) ?_
          refine t_iast (pc' := 119) dX12_added_118 rfl sh_84 rfl (by omega) ?_
          refine s_lload_n (pc' := 120) dX12_added_119 rfl rfl ?_
          refine s_lload (pc' := 122) dX12_added_120 rfl rfl ?_
          refine s_ladd (pc' := 123) dX12_added_122 rfl ?_
          refine t_lstore_n (pc' := 124) (L' := [.ref 54, .int _, .long _, .retAddr _, .int _, .long _, .retAddr _, .int _, .retAddr _]) dX12_added_123 rfl (Nat.le_of_ble_eq_true rfl) rfl ?_
          refine s_goto (tgt := 219) dX12_added_124 (by decide) ?_
          refine t_iinc (pc' := 222) (v := nI (k + 1)) (L' := [.ref 54, .int _, .long _, .retAddr _, .int _, .long _, .retAddr _, .int _, .retAddr _]) dX12_added_219 rfl rfl (nI_inc k) rfl ?_
          refine s_goto (tgt := 5) dX12_added_222 (by decide) ?_
          have hfo := foS_le (D := D) (x := nI b) (g := gM J b) (th := th) (r := k) (v := v)
          have f0 : foS D (nI b) (gM J b) th k v = k := (nI_eq (by omega) (by omega)).mp c58
          have p0 : plB D k = true := by simp (disch := decide) only [up2_d] at c88; rw [C.1.1 60 (by decide) (by decide)] at c88; simp [plB, c88]
          exact s_fg [5, 6, 7, 8] rfl (s_eq (by simp only [adS, adC, a20, if_true, if_pos f0, p0] <;> rfl) rfl rfl (ih (k + 1) _ (by omega) (hP.b a20 (by rw [hwA, if_pos f0, if_pos p0]) (by rw [btA, if_pos f0, if_pos p0]))))
        · refine s_aload_n (pc' := 92) dX12_added_91 rfl rfl ?_
          refine s_getS (pc' := 95) (b := 75) dX12_added_92 rfl (by decide) rfl (by decide) fa_X12_70_12 rfl rfl ?_
          refine s_iconst (pc' := 96) (v := 5) dX12_added_95 rfl (by decide) ?_
          refine t_iald (pc' := 97) (q := 5) dX12_added_96 rfl sh_75 rfl (by decide) ?_
          refine s_aload_n (pc' := 98) dX12_added_97 rfl rfl ?_
          refine s_getS (pc' := 101) (b := 64) dX12_added_98 rfl (by decide) rfl (by decide) fa_X12_37_12 rfl rfl ?_
          refine s_iload (pc' := 103) dX12_added_101 rfl rfl ?_
          refine t_iald (pc' := 104) dX12_added_103 rfl sh_64 rfl (by omega) ?_
          refine s_ishr (pc' := 105) dX12_added_104 rfl ?_
          refine s_iconst (pc' := 106) (v := 1) dX12_added_105 rfl (by decide) ?_
          refine s_iand (pc' := 107) dX12_added_106 rfl ?_
          refine s_iconst (pc' := 108) (v := 1) dX12_added_107 rfl (by decide) ?_
          refine s_icmpne (pc' := 111) (tgt := 127) dX12_added_108 (by decide) rfl (fun c108 => ?_) (fun c108 => ?_)
          · refine s_lload (pc' := 129) dX12_added_127 rfl rfl ?_
            refine s_lconst (pc' := 130) (v := 0) dX12_added_129 rfl (by decide) ?_
            refine s_lcmp (pc' := 131) dX12_added_130 rfl ?_
            refine s_ifne (pc' := 134) (tgt := 138) dX12_added_131 (by decide) rfl (fun c131 => ?_) (fun c131 => ?_)
            · refine s_aload_n (pc' := 139) dX12_added_138 rfl rfl ?_
              refine s_iload_n (pc' := 140) dX12_added_139 rfl rfl ?_
              refine s_aload_n (pc' := 141) dX12_added_140 rfl rfl ?_
              refine s_getS (pc' := 144) (b := 64) dX12_added_141 rfl (by decide) rfl (by decide) fa_X12_37_12 rfl rfl ?_
              refine s_iload (pc' := 146) dX12_added_144 rfl rfl ?_
              refine t_iald (pc' := 147) dX12_added_146 rfl sh_64 rfl (by omega) ?_
              refine s_lload (pc' := 149) dX12_added_147 rfl rfl ?_
              refine s_lconst (pc' := 150) (v := 0) dX12_added_149 rfl (by decide) ?_
              refine s_lcmp (pc' := 151) dX12_added_150 rfl ?_
              refine s_ifle (pc' := 154) (tgt := 158) dX12_added_151 (by decide) rfl (fun c151 => ?_) (fun c151 => ?_)
              · refine s_iconst (pc' := 159) (v := -1) dX12_added_158 rfl (by decide) ?_
                refine s_callV (pc' := 162) (As := [.int _, .int _, .int _]) dX12_added_159 rfl mk_X12_bestOf ml_X12_254 im_X12_bestOf se_X12_X12_X12_bestOf sh_54 (by decide) rfl rfl rfl ⟨Nat.le_of_ble_eq_true rfl, Nat.le_of_ble_eq_true rfl, Nat.le_of_ble_eq_true rfl, Nat.le_of_ble_eq_true rfl⟩ (Nat.le_of_ble_eq_true rfl) (c_X12_bestOf (C.mv (F3.rf.up (by decide))) ?_)
                refine t_istore (pc' := 164) (L' := [.ref 54, .int _, .long _, .retAddr _, .int _, .long _, .retAddr _, .int _, .int _]) dX12_added_162 rfl (Nat.le_of_ble_eq_true rfl) rfl ?_
                refine s_aload_n (pc' := 165) dX12_added_164 rfl rfl ?_
                refine s_getS (pc' := 168) (b := 84) dX12_added_165 rfl (by decide) rfl (by decide) fa_X12_99_12 rfl rfl ?_
                refine s_iload (pc' := 170) dX12_added_168 rfl rfl ?_
                refine s_iload (pc' := 172) dX12_added_170 rfl rfl ?_
                refine s_iload (pc' := 174) dX12_added_172 rfl rfl ?_
                refine s_icmpne (pc' := 177) (tgt := 181) dX12_added_174 (by decide) rfl (fun c174 => ?_) (fun c174 => ?_)
                · refine s_iconst (pc' := 182) (v := 4) dX12_added_181 rfl (by decide) ?_
                  refine t_iast (pc' := 183) dX12_added_182 rfl sh_84 rfl (by omega) ?_
                  refine s_aload_n (pc' := 184) dX12_added_183 rfl rfl ?_
                  refine s_getS (pc' := 187) (b := 85) dX12_added_184 rfl (by decide) rfl (by decide) fa_X12_102_12 rfl rfl ?_
                  refine s_iload (pc' := 189) dX12_added_187 rfl rfl ?_
                  refine s_iload (pc' := 191) dX12_added_189 rfl rfl ?_
                  refine s_iload (pc' := 193) dX12_added_191 rfl rfl ?_
                  refine s_icmpneT (tgt := 200) dX12_added_193 (by decide) c174 ?_
                  refine s_iload (pc' := 202) dX12_added_200 rfl rfl ?_
                  refine t_iast (pc' := 203) dX12_added_202 rfl sh_85 rfl (by omega) ?_
                  refine s_lload_n (pc' := 204) dX12_added_203 rfl rfl ?_
                  refine s_iload (pc' := 206) dX12_added_204 rfl rfl ?_
                  refine s_iload (pc' := 208) dX12_added_206 rfl rfl ?_
                  refine s_icmpneT (tgt := 216) dX12_added_208 (by decide) c174 ?_
                  refine s_lconst (pc' := 217) (v := 0) dX12_added_216 rfl (by decide) ?_
                  refine s_ladd (pc' := 218) dX12_added_217 rfl ?_
                  refine t_lstore_n (pc' := 219) (L' := [.ref 54, .int _, .long _, .retAddr _, .int _, .long _, .retAddr _, .int _, .int _]) dX12_added_218 rfl (Nat.le_of_ble_eq_true rfl) rfl ?_
                  refine t_iinc (pc' := 222) (v := nI (k + 1)) (L' := [.ref 54, .int _, .long _, .retAddr _, .int _, .long _, .retAddr _, .int _, .int _]) dX12_added_219 rfl rfl (nI_inc k) rfl ?_
                  refine s_goto (tgt := 5) dX12_added_222 (by decide) ?_
                  have hfo := foS_le (D := D) (x := nI b) (g := gM J b) (th := th) (r := k) (v := v)
                  have f0 : foS D (nI b) (gM J b) th k v = k := (nI_eq (by omega) (by omega)).mp c58
                  have p0 : ¬ plB D k = true := by simp (disch := decide) only [up2_d] at c88 c108; rw [C.1.1 60 (by decide) (by decide)] at c88; rw [C.1.1 75 (by decide) (by decide), C.1.1 64 (by decide) (by decide)] at c108; simp [plB, bitI, c88, c108]
                  have b0 : bst D (nI b) (gM J b) th v nr k = boS D (nI b) (gM J b) th v (D 64 k) (-1) nr := by unfold bst; rw [if_neg (fun z => c131 ((lg_cmp_eq _ _).mpr z)), if_neg (Int64.not_lt.mpr ((lg_cmp_le _ _).mp c151))]
                  simp (disch := decide) only [up2_d] at c174
                  rw [C.1.1 64 (by decide) (by decide), ← b0] at c174
                  have b1 : ¬ bst D (nI b) (gM J b) th v nr k = some k := fun z => c174 (by rw [z]; rfl)
                  exact s_fg [5, 6, 7, 8] rfl (s_eq (by simp only [adS, adC, a20, if_true, if_pos f0, if_neg p0, if_neg b1] <;> rfl) rfl rfl (ih (k + 1) _ (by omega) (hP.a a20 (by rw [hwA, if_pos f0, if_neg p0, if_neg b1]) (by simp (disch := decide) only [up2_d]; rw [btA, if_pos f0, if_neg p0, if_neg b1, b0, C.1.1 64 (by decide) (by decide)]))))
                · refine s_iconst (pc' := 178) (v := 2) dX12_added_177 rfl (by decide) ?_
                  refine s_goto (tgt := 182) dX12_added_178 (by decide) ?_
                  refine t_iast (pc' := 183) dX12_added_182 rfl sh_84 rfl (by omega) ?_
                  refine s_aload_n (pc' := 184) dX12_added_183 rfl rfl ?_
                  refine s_getS (pc' := 187) (b := 85) dX12_added_184 rfl (by decide) rfl (by decide) fa_X12_102_12 rfl rfl ?_
                  refine s_iload (pc' := 189) dX12_added_187 rfl rfl ?_
                  refine s_iload (pc' := 191) dX12_added_189 rfl rfl ?_
                  refine s_iload (pc' := 193) dX12_added_191 rfl rfl ?_
                  refine s_icmpneF (pc' := 196) (tgt := 200) dX12_added_193 (by decide) rfl c174 ?_
                  refine s_iconst (pc' := 197) (v := -1) dX12_added_196 rfl (by decide) ?_
                  refine s_goto (tgt := 202) dX12_added_197 (by decide) ?_
                  refine t_iast (pc' := 203) dX12_added_202 rfl sh_85 rfl (by omega) ?_
                  refine s_lload_n (pc' := 204) dX12_added_203 rfl rfl ?_
                  refine s_iload (pc' := 206) dX12_added_204 rfl rfl ?_
                  refine s_iload (pc' := 208) dX12_added_206 rfl rfl ?_
                  refine s_icmpneF (pc' := 211) (tgt := 216) dX12_added_208 (by decide) rfl c174 ?_
                  refine s_lload (pc' := 213) dX12_added_211 rfl rfl ?_
                  refine s_goto (tgt := 217) dX12_added_213 (by decide) ?_
                  refine s_ladd (pc' := 218) dX12_added_217 rfl ?_
                  refine t_lstore_n (pc' := 219) (L' := [.ref 54, .int _, .long _, .retAddr _, .int _, .long _, .retAddr _, .int _, .int _]) dX12_added_218 rfl (Nat.le_of_ble_eq_true rfl) rfl ?_
                  refine t_iinc (pc' := 222) (v := nI (k + 1)) (L' := [.ref 54, .int _, .long _, .retAddr _, .int _, .long _, .retAddr _, .int _, .int _]) dX12_added_219 rfl rfl (nI_inc k) rfl ?_
                  refine s_goto (tgt := 5) dX12_added_222 (by decide) ?_
                  have hfo := foS_le (D := D) (x := nI b) (g := gM J b) (th := th) (r := k) (v := v)
                  have f0 : foS D (nI b) (gM J b) th k v = k := (nI_eq (by omega) (by omega)).mp c58
                  have p0 : ¬ plB D k = true := by simp (disch := decide) only [up2_d] at c88 c108; rw [C.1.1 60 (by decide) (by decide)] at c88; rw [C.1.1 75 (by decide) (by decide), C.1.1 64 (by decide) (by decide)] at c108; simp [plB, bitI, c88, c108]
                  have b0 : bst D (nI b) (gM J b) th v nr k = boS D (nI b) (gM J b) th v (D 64 k) (-1) nr := by unfold bst; rw [if_neg (fun z => c131 ((lg_cmp_eq _ _).mpr z)), if_neg (Int64.not_lt.mpr ((lg_cmp_le _ _).mp c151))]
                  simp (disch := decide) only [up2_d] at c174
                  rw [C.1.1 64 (by decide) (by decide), ← b0] at c174
                  have b1 : bst D (nI b) (gM J b) th v nr k = some k := (ixo_eq (fun q hq => by have := bst_lt hq; omega) (by omega)).mp c174
                  exact s_fg [5, 6, 7, 8] rfl (s_eq (by simp only [adS, adC, a20, if_true, if_pos f0, if_neg p0, if_pos b1] <;> rfl) rfl rfl (ih (k + 1) _ (by omega) (hP.a a20 (by rw [hwA, if_pos f0, if_neg p0, if_pos b1]) (by rw [btA, if_pos f0, if_neg p0, if_pos b1]))))
              · refine s_iconst (pc' := 155) (v := 1) dX12_added_154 rfl (by decide) ?_
                refine s_goto (tgt := 159) dX12_added_155 (by decide) ?_
                refine s_callV (pc' := 162) (As := [.int _, .int _, .int _]) dX12_added_159 rfl mk_X12_bestOf ml_X12_254 im_X12_bestOf se_X12_X12_X12_bestOf sh_54 (by decide) rfl rfl rfl ⟨Nat.le_of_ble_eq_true rfl, Nat.le_of_ble_eq_true rfl, Nat.le_of_ble_eq_true rfl, Nat.le_of_ble_eq_true rfl⟩ (Nat.le_of_ble_eq_true rfl) (c_X12_bestOf (C.mv (F3.rf.up (by decide))) ?_)
                refine t_istore (pc' := 164) (L' := [.ref 54, .int _, .long _, .retAddr _, .int _, .long _, .retAddr _, .int _, .int _]) dX12_added_162 rfl (Nat.le_of_ble_eq_true rfl) rfl ?_
                refine s_aload_n (pc' := 165) dX12_added_164 rfl rfl ?_
                refine s_getS (pc' := 168) (b := 84) dX12_added_165 rfl (by decide) rfl (by decide) fa_X12_99_12 rfl rfl ?_
                refine s_iload (pc' := 170) dX12_added_168 rfl rfl ?_
                refine s_iload (pc' := 172) dX12_added_170 rfl rfl ?_
                refine s_iload (pc' := 174) dX12_added_172 rfl rfl ?_
                refine s_icmpne (pc' := 177) (tgt := 181) dX12_added_174 (by decide) rfl (fun c174 => ?_) (fun c174 => ?_)
                · refine s_iconst (pc' := 182) (v := 4) dX12_added_181 rfl (by decide) ?_
                  refine t_iast (pc' := 183) dX12_added_182 rfl sh_84 rfl (by omega) ?_
                  refine s_aload_n (pc' := 184) dX12_added_183 rfl rfl ?_
                  refine s_getS (pc' := 187) (b := 85) dX12_added_184 rfl (by decide) rfl (by decide) fa_X12_102_12 rfl rfl ?_
                  refine s_iload (pc' := 189) dX12_added_187 rfl rfl ?_
                  refine s_iload (pc' := 191) dX12_added_189 rfl rfl ?_
                  refine s_iload (pc' := 193) dX12_added_191 rfl rfl ?_
                  refine s_icmpneT (tgt := 200) dX12_added_193 (by decide) c174 ?_
                  refine s_iload (pc' := 202) dX12_added_200 rfl rfl ?_
                  refine t_iast (pc' := 203) dX12_added_202 rfl sh_85 rfl (by omega) ?_
                  refine s_lload_n (pc' := 204) dX12_added_203 rfl rfl ?_
                  refine s_iload (pc' := 206) dX12_added_204 rfl rfl ?_
                  refine s_iload (pc' := 208) dX12_added_206 rfl rfl ?_
                  refine s_icmpneT (tgt := 216) dX12_added_208 (by decide) c174 ?_
                  refine s_lconst (pc' := 217) (v := 0) dX12_added_216 rfl (by decide) ?_
                  refine s_ladd (pc' := 218) dX12_added_217 rfl ?_
                  refine t_lstore_n (pc' := 219) (L' := [.ref 54, .int _, .long _, .retAddr _, .int _, .long _, .retAddr _, .int _, .int _]) dX12_added_218 rfl (Nat.le_of_ble_eq_true rfl) rfl ?_
                  refine t_iinc (pc' := 222) (v := nI (k + 1)) (L' := [.ref 54, .int _, .long _, .retAddr _, .int _, .long _, .retAddr _, .int _, .int _]) dX12_added_219 rfl rfl (nI_inc k) rfl ?_
                  refine s_goto (tgt := 5) dX12_added_222 (by decide) ?_
                  have hfo := foS_le (D := D) (x := nI b) (g := gM J b) (th := th) (r := k) (v := v)
                  have f0 : foS D (nI b) (gM J b) th k v = k := (nI_eq (by omega) (by omega)).mp c58
                  have p0 : ¬ plB D k = true := by simp (disch := decide) only [up2_d] at c88 c108; rw [C.1.1 60 (by decide) (by decide)] at c88; rw [C.1.1 75 (by decide) (by decide), C.1.1 64 (by decide) (by decide)] at c108; simp [plB, bitI, c88, c108]
                  have b0 : bst D (nI b) (gM J b) th v nr k = boS D (nI b) (gM J b) th v (D 64 k) 1 nr := by unfold bst; rw [if_neg (fun z => c131 ((lg_cmp_eq _ _).mpr z)), if_pos (Int64.not_le.mp (fun z => c151 ((lg_cmp_le _ _).mpr z)))]
                  simp (disch := decide) only [up2_d] at c174
                  rw [C.1.1 64 (by decide) (by decide), ← b0] at c174
                  have b1 : ¬ bst D (nI b) (gM J b) th v nr k = some k := fun z => c174 (by rw [z]; rfl)
                  exact s_fg [5, 6, 7, 8] rfl (s_eq (by simp only [adS, adC, a20, if_true, if_pos f0, if_neg p0, if_neg b1] <;> rfl) rfl rfl (ih (k + 1) _ (by omega) (hP.a a20 (by rw [hwA, if_pos f0, if_neg p0, if_neg b1]) (by simp (disch := decide) only [up2_d]; rw [btA, if_pos f0, if_neg p0, if_neg b1, b0, C.1.1 64 (by decide) (by decide)]))))
                · refine s_iconst (pc' := 178) (v := 2) dX12_added_177 rfl (by decide) ?_
                  refine s_goto (tgt := 182) dX12_added_178 (by decide) ?_
                  refine t_iast (pc' := 183) dX12_added_182 rfl sh_84 rfl (by omega) ?_
                  refine s_aload_n (pc' := 184) dX12_added_183 rfl rfl ?_
                  refine s_getS (pc' := 187) (b := 85) dX12_added_184 rfl (by decide) rfl (by decide) fa_X12_102_12 rfl rfl ?_
                  refine s_iload (pc' := 189) dX12_added_187 rfl rfl ?_
                  refine s_iload (pc' := 191) dX12_added_189 rfl rfl ?_
                  refine s_iload (pc' := 193) dX12_added_191 rfl rfl ?_
                  refine s_icmpneF (pc' := 196) (tgt := 200) dX12_added_193 (by decide) rfl c174 ?_
                  refine s_iconst (pc' := 197) (v := -1) dX12_added_196 rfl (by decide) ?_
                  refine s_goto (tgt := 202) dX12_added_197 (by decide) ?_
                  refine t_iast (pc' := 203) dX12_added_202 rfl sh_85 rfl (by omega) ?_
                  refine s_lload_n (pc' := 204) dX12_added_203 rfl rfl ?_
                  refine s_iload (pc' := 206) dX12_added_204 rfl rfl ?_
                  refine s_iload (pc' := 208) dX12_added_206 rfl rfl ?_
                  refine s_icmpneF (pc' := 211) (tgt := 216) dX12_added_208 (by decide) rfl c174 ?_
                  refine s_lload (pc' := 213) dX12_added_211 rfl rfl ?_
                  refine s_goto (tgt := 217) dX12_added_213 (by decide) ?_
                  refine s_ladd (pc' := 218) dX12_added_217 rfl ?_
                  refine t_lstore_n (pc' := 219) (L' := [.ref 54, .int _, .long _, .retAddr _, .int _, .long _, .retAddr _, .int _, .int _]) dX12_added_218 rfl (Nat.le_of_ble_eq_true rfl) rfl ?_
                  refine t_iinc (pc' := 222) (v := nI (k + 1)) (L' := [.ref 54, .int _, .long _, .retAddr _, .int _, .long _, .retAddr _, .int _, .int _]) dX12_added_219 rfl rfl (nI_inc k) rfl ?_
                  refine s_goto (tgt := 5) dX12_added_222 (by decide) ?_
                  have hfo := foS_le (D := D) (x := nI b) (g := gM J b) (th := th) (r := k) (v := v)
                  have f0 : foS D (nI b) (gM J b) th k v = k := (nI_eq (by omega) (by omega)).mp c58
                  have p0 : ¬ plB D k = true := by simp (disch := decide) only [up2_d] at c88 c108; rw [C.1.1 60 (by decide) (by decide)] at c88; rw [C.1.1 75 (by decide) (by decide), C.1.1 64 (by decide) (by decide)] at c108; simp [plB, bitI, c88, c108]
                  have b0 : bst D (nI b) (gM J b) th v nr k = boS D (nI b) (gM J b) th v (D 64 k) 1 nr := by unfold bst; rw [if_neg (fun z => c131 ((lg_cmp_eq _ _).mpr z)), if_pos (Int64.not_le.mp (fun z => c151 ((lg_cmp_le _ _).mpr z)))]
                  simp (disch := decide) only [up2_d] at c174
                  rw [C.1.1 64 (by decide) (by decide), ← b0] at c174
                  have b1 : bst D (nI b) (gM J b) th v nr k = some k := (ixo_eq (fun q hq => by have := bst_lt hq; omega) (by omega)).mp c174
                  exact s_fg [5, 6, 7, 8] rfl (s_eq (by simp only [adS, adC, a20, if_true, if_pos f0, if_neg p0, if_pos b1] <;> rfl) rfl rfl (ih (k + 1) _ (by omega) (hP.a a20 (by rw [hwA, if_pos f0, if_neg p0, if_pos b1]) (by rw [btA, if_pos f0, if_neg p0, if_pos b1]))))
            · refine s_iconst (pc' := 135) (v := -1) dX12_added_134 rfl (by decide) ?_
              refine s_goto (tgt := 162) dX12_added_135 (by decide) ?_
              refine t_istore (pc' := 164) (L' := [.ref 54, .int _, .long _, .retAddr _, .int _, .long _, .retAddr _, .int _, .int _]) dX12_added_162 rfl (Nat.le_of_ble_eq_true rfl) rfl ?_
              refine s_aload_n (pc' := 165) dX12_added_164 rfl rfl ?_
              refine s_getS (pc' := 168) (b := 84) dX12_added_165 rfl (by decide) rfl (by decide) fa_X12_99_12 rfl rfl ?_
              refine s_iload (pc' := 170) dX12_added_168 rfl rfl ?_
              refine s_iload (pc' := 172) dX12_added_170 rfl rfl ?_
              refine s_iload (pc' := 174) dX12_added_172 rfl rfl ?_
              refine s_icmpneT (tgt := 181) dX12_added_174 (by decide) (m1_ne (by omega)) ?_
              refine s_iconst (pc' := 182) (v := 4) dX12_added_181 rfl (by decide) ?_
              refine t_iast (pc' := 183) dX12_added_182 rfl sh_84 rfl (by omega) ?_
              refine s_aload_n (pc' := 184) dX12_added_183 rfl rfl ?_
              refine s_getS (pc' := 187) (b := 85) dX12_added_184 rfl (by decide) rfl (by decide) fa_X12_102_12 rfl rfl ?_
              refine s_iload (pc' := 189) dX12_added_187 rfl rfl ?_
              refine s_iload (pc' := 191) dX12_added_189 rfl rfl ?_
              refine s_iload (pc' := 193) dX12_added_191 rfl rfl ?_
              refine s_icmpneT (tgt := 200) dX12_added_193 (by decide) (m1_ne (by omega)) ?_
              refine s_iload (pc' := 202) dX12_added_200 rfl rfl ?_
              refine t_iast (pc' := 203) dX12_added_202 rfl sh_85 rfl (by omega) ?_
              refine s_lload_n (pc' := 204) dX12_added_203 rfl rfl ?_
              refine s_iload (pc' := 206) dX12_added_204 rfl rfl ?_
              refine s_iload (pc' := 208) dX12_added_206 rfl rfl ?_
              refine s_icmpneT (tgt := 216) dX12_added_208 (by decide) (m1_ne (by omega)) ?_
              refine s_lconst (pc' := 217) (v := 0) dX12_added_216 rfl (by decide) ?_
              refine s_ladd (pc' := 218) dX12_added_217 rfl ?_
              refine t_lstore_n (pc' := 219) (L' := [.ref 54, .int _, .long _, .retAddr _, .int _, .long _, .retAddr _, .int _, .int _]) dX12_added_218 rfl (Nat.le_of_ble_eq_true rfl) rfl ?_
              refine t_iinc (pc' := 222) (v := nI (k + 1)) (L' := [.ref 54, .int _, .long _, .retAddr _, .int _, .long _, .retAddr _, .int _, .int _]) dX12_added_219 rfl rfl (nI_inc k) rfl ?_
              refine s_goto (tgt := 5) dX12_added_222 (by decide) ?_
              have hfo := foS_le (D := D) (x := nI b) (g := gM J b) (th := th) (r := k) (v := v)
              have f0 : foS D (nI b) (gM J b) th k v = k := (nI_eq (by omega) (by omega)).mp c58
              have p0 : ¬ plB D k = true := by simp (disch := decide) only [up2_d] at c88 c108; rw [C.1.1 60 (by decide) (by decide)] at c88; rw [C.1.1 75 (by decide) (by decide), C.1.1 64 (by decide) (by decide)] at c108; simp [plB, bitI, c88, c108]
              have b0 : bst D (nI b) (gM J b) th v nr k = none := by unfold bst; rw [if_pos ((lg_cmp_eq _ _).mp c131)]
              have b1 : ¬ bst D (nI b) (gM J b) th v nr k = some k := by rw [b0]; intro z; cases z
              exact s_fg [5, 6, 7, 8] rfl (s_eq (by simp only [adS, adC, a20, if_true, if_pos f0, if_neg p0, if_neg b1] <;> rfl) rfl rfl (ih (k + 1) _ (by omega) (hP.a a20 (by rw [hwA, if_pos f0, if_neg p0, if_neg b1]) (by rw [btA, if_pos f0, if_neg p0, if_neg b1, b0]; rfl))))
          · refine s_aload_n (pc' := 112) dX12_added_111 rfl rfl ?_
            refine s_getS (pc' := 115) (b := 84) dX12_added_112 rfl (by decide) rfl (by decide) fa_X12_99_12 rfl rfl ?_
            refine s_iload (pc' := 117) dX12_added_115 rfl rfl ?_
            refine s_iconst (pc' := 118) (v := 2) dX12_added_117 rfl (by decide) ?_
            refine t_iast (pc' := 119) dX12_added_118 rfl sh_84 rfl (by omega) ?_
            refine s_lload_n (pc' := 120) dX12_added_119 rfl rfl ?_
            refine s_lload (pc' := 122) dX12_added_120 rfl rfl ?_
            refine s_ladd (pc' := 123) dX12_added_122 rfl ?_
            refine t_lstore_n (pc' := 124) (L' := [.ref 54, .int _, .long _, .retAddr _, .int _, .long _, .retAddr _, .int _, .retAddr _]) dX12_added_123 rfl (Nat.le_of_ble_eq_true rfl) rfl ?_
            refine s_goto (tgt := 219) dX12_added_124 (by decide) ?_
            refine t_iinc (pc' := 222) (v := nI (k + 1)) (L' := [.ref 54, .int _, .long _, .retAddr _, .int _, .long _, .retAddr _, .int _, .retAddr _]) dX12_added_219 rfl rfl (nI_inc k) rfl ?_
            refine s_goto (tgt := 5) dX12_added_222 (by decide) ?_
            have hfo := foS_le (D := D) (x := nI b) (g := gM J b) (th := th) (r := k) (v := v)
            have f0 : foS D (nI b) (gM J b) th k v = k := (nI_eq (by omega) (by omega)).mp c58
            have p0 : plB D k = true := by simp (disch := decide) only [up2_d] at c108; rw [C.1.1 75 (by decide) (by decide), C.1.1 64 (by decide) (by decide)] at c108; simp [plB, bitI, c108]
            exact s_fg [5, 6, 7, 8] rfl (s_eq (by simp only [adS, adC, a20, if_true, if_pos f0, p0] <;> rfl) rfl rfl (ih (k + 1) _ (by omega) (hP.b a20 (by rw [hwA, if_pos f0, if_pos p0]) (by rw [btA, if_pos f0, if_pos p0]))))
      · refine s_aload_n (pc' := 62) dX12_added_61 rfl rfl ?_
        refine s_getS (pc' := 65) (b := 84) dX12_added_62 rfl (by decide) rfl (by decide) fa_X12_99_12 rfl rfl ?_
        refine s_iload (pc' := 67) dX12_added_65 rfl rfl ?_
        refine s_iconst (pc' := 68) (v := 3) dX12_added_67 rfl (by decide) ?_
        refine t_iast (pc' := 69) dX12_added_68 rfl sh_84 rfl (by omega) ?_
        refine s_aload_n (pc' := 70) dX12_added_69 rfl rfl ?_
        refine s_getS (pc' := 73) (b := 85) dX12_added_70 rfl (by decide) rfl (by decide) fa_X12_102_12 rfl rfl ?_
        refine s_iload (pc' := 75) dX12_added_73 rfl rfl ?_
        refine s_iload (pc' := 77) dX12_added_75 rfl rfl ?_
        refine t_iast (pc' := 78) dX12_added_77 rfl sh_85 rfl (by omega) ?_
        refine s_goto (tgt := 219) dX12_added_78 (by decide) ?_
        refine t_iinc (pc' := 222) (v := nI (k + 1)) (L' := [.ref 54, .int _, .long _, .retAddr _, .int _, .long _, .retAddr _, .int _, .retAddr _]) dX12_added_219 rfl rfl (nI_inc k) rfl ?_
        refine s_goto (tgt := 5) dX12_added_222 (by decide) ?_
        have hfo := foS_le (D := D) (x := nI b) (g := gM J b) (th := th) (r := k) (v := v)
        have f0 : ¬ foS D (nI b) (gM J b) th k v = k := fun z => c58 (by rw [z])
        exact s_fg [5, 6, 7, 8] rfl (s_eq (by simp only [adS, adC, a20, if_true, if_neg f0, Int64.add_zero] <;> rfl) rfl rfl (ih (k + 1) _ (by omega) (hP.a a20 (by rw [hwA, if_neg f0]) (by rw [btA, if_neg f0]))))
    · refine s_ifneF (pc' := 26) (tgt := 29) dX12_added_23 (by decide) rfl (by decide) ?_
      refine s_goto (tgt := 219) dX12_added_26 (by decide) ?_
      refine t_iinc (pc' := 222) (v := nI (k + 1)) (L' := [.ref 54, .int _, .long _, .retAddr _, .int _, .retAddr _, .retAddr _, .retAddr _, .retAddr _]) dX12_added_219 rfl rfl (nI_inc k) rfl ?_
      refine s_goto (tgt := 5) dX12_added_222 (by decide) ?_
      exact s_fg [5, 6, 7, 8] rfl (s_eq (by simp only [adS, adC, a20, Bool.false_eq_true, if_false, Int64.add_zero] <;> rfl) rfl rfl (ih (k + 1) _ (by omega) (hP.sk a20)))
theorem l_X12_added2 {N : Nat} {S : Nat → Nat × Nat} {I : Nat → Nat → Int32} {J : Nat → Nat → Int64} {Q : Nat → Nat → Option Nat} {κ : Option Value → HP → Prop} {D : Nat → Nat → Int32} {nv nr ns b : Nat} {th : Int32} (C : ST I D nv nr ns b th) {v : Int32} {a : Int64} (hk : κ (some (.long (spA D v a ns))) (N, S, I, J, Q)) : ∀ d : Nat, ∀ k, k + d = ns → SP E1 M_X12_added κ 228 [.ref 54, .int v, .long (spA D v a k), .retAddr 0, .int (nI k), .retAddr 0, .retAddr 0, .retAddr 0, .retAddr 0] [] (N, S, I, J, Q) 0 0 := by
  intro d
  induction d with
  | zero =>
    intro k hd
    obtain rfl : k = ns := by omega
    refine s_iload (pc' := 230) dX12_added_228 rfl rfl ?_
    refine s_aload_n (pc' := 231) dX12_added_230 rfl rfl ?_
    refine s_getS (pc' := 234) (b := 75) dX12_added_231 rfl (by decide) rfl (by decide) fa_X12_70_12 rfl rfl ?_
    refine s_iconst (pc' := 235) (v := 2) dX12_added_234 rfl (by decide) ?_
    refine t_iald (pc' := 236) (q := 2) dX12_added_235 rfl sh_75 rfl (by decide) ?_
    refine s_icmpgeT (tgt := 288) dX12_added_236 (by decide) (by rw [C.1.2.1.sn C.1.1]; exact nI_le (Nat.le_refl _) (by have := C.1.2.1.ns; omega)) ?_
    refine s_lload_n (pc' := 289) dX12_added_288 rfl rfl ?_
    exact s_lret dX12_added_289 rfl (by decide) (by decide) hk
  | succ d ih =>
    intro k hd
    refine s_iload (pc' := 230) dX12_added_228 rfl rfl ?_
    refine s_aload_n (pc' := 231) dX12_added_230 rfl rfl ?_
    refine s_getS (pc' := 234) (b := 75) dX12_added_231 rfl (by decide) rfl (by decide) fa_X12_70_12 rfl rfl ?_
    refine s_iconst (pc' := 235) (v := 2) dX12_added_234 rfl (by decide) ?_
    refine t_iald (pc' := 236) (q := 2) dX12_added_235 rfl sh_75 rfl (by decide) ?_
    refine s_icmpgeF (pc' := 239) (tgt := 288) dX12_added_236 (by decide) rfl (by rw [C.1.2.1.sn C.1.1]; exact nI_ge (by omega) (by have := C.1.2.1.ns; omega)) ?_
    refine s_lload_n (pc' := 240) dX12_added_239 rfl rfl ?_
    refine s_aload_n (pc' := 241) dX12_added_240 rfl rfl ?_
    refine s_getS (pc' := 244) (b := 72) dX12_added_241 rfl (by decide) rfl (by decide) fa_X12_61_12 rfl rfl ?_
    refine s_iload (pc' := 246) dX12_added_244 rfl rfl ?_
    refine t_iald (pc' := 247) dX12_added_246 rfl sh_72 rfl (by have := C.1.2.1.ns; omega) ?_
    refine s_iload_n (pc' := 248) dX12_added_247 rfl rfl ?_
    refine s_icmpne (pc' := 251) (tgt := 279) dX12_added_248 (by decide) rfl (fun c248 => ?_) (fun c248 => ?_)
    · refine s_lconst (pc' := 280) (v := 0) dX12_added_279 rfl (by decide) ?_
      refine s_ladd (pc' := 281) dX12_added_280 rfl ?_
      refine t_lstore_n (pc' := 282) (L' := [.ref 54, .int _, .long _, .retAddr _, .int _, .retAddr _, .retAddr _, .retAddr _, .retAddr _]) dX12_added_281 rfl (Nat.le_of_ble_eq_true rfl) rfl ?_
      refine t_iinc (pc' := 285) (v := nI (k + 1)) (L' := [.ref 54, .int _, .long _, .retAddr _, .int _, .retAddr _, .retAddr _, .retAddr _, .retAddr _]) dX12_added_282 rfl rfl (nI_inc k) rfl ?_
      refine s_goto (tgt := 228) dX12_added_285 (by decide) ?_
      rw [C.1.1 72 (by decide) (by decide)] at c248
      exact s_eq (by simp only [spA, if_neg (show ¬ (D 72 k = v ∧ D 75 6 < D 74 k) from fun z => c248 z.1)]) rfl rfl (ih (k + 1) (by omega))
    · refine s_aload_n (pc' := 252) dX12_added_251 rfl rfl ?_
      refine s_getS (pc' := 255) (b := 74) dX12_added_252 rfl (by decide) rfl (by decide) fa_X12_67_12 rfl rfl ?_
      refine s_iload (pc' := 257) dX12_added_255 rfl rfl ?_
      refine t_iald (pc' := 258) dX12_added_257 rfl sh_74 rfl (by have := C.1.2.1.ns; omega) ?_
      refine s_aload_n (pc' := 259) dX12_added_258 rfl rfl ?_
      refine s_getS (pc' := 262) (b := 75) dX12_added_259 rfl (by decide) rfl (by decide) fa_X12_70_12 rfl rfl ?_
      refine s_bipush (pc' := 264) (v := 6) dX12_added_262 rfl (by decide) ?_
      refine t_iald (pc' := 265) (q := 6) dX12_added_264 rfl sh_75 rfl (by decide) ?_
      refine s_icmple (pc' := 268) (tgt := 279) dX12_added_265 (by decide) rfl (fun c265 => ?_) (fun c265 => ?_)
      · refine s_lconst (pc' := 280) (v := 0) dX12_added_279 rfl (by decide) ?_
        refine s_ladd (pc' := 281) dX12_added_280 rfl ?_
        refine t_lstore_n (pc' := 282) (L' := [.ref 54, .int _, .long _, .retAddr _, .int _, .retAddr _, .retAddr _, .retAddr _, .retAddr _]) dX12_added_281 rfl (Nat.le_of_ble_eq_true rfl) rfl ?_
        refine t_iinc (pc' := 285) (v := nI (k + 1)) (L' := [.ref 54, .int _, .long _, .retAddr _, .int _, .retAddr _, .retAddr _, .retAddr _, .retAddr _]) dX12_added_282 rfl rfl (nI_inc k) rfl ?_
        refine s_goto (tgt := 228) dX12_added_285 (by decide) ?_
        rw [C.1.1 74 (by decide) (by decide), C.1.1 75 (by decide) (by decide)] at c265
        exact s_eq (by simp only [spA, if_neg (show ¬ (D 72 k = v ∧ D 75 6 < D 74 k) from fun z => Int32.not_lt.mpr c265 z.2)]) rfl rfl (ih (k + 1) (by omega))
      · refine s_aload_n (pc' := 269) dX12_added_268 rfl rfl ?_
        refine s_getS (pc' := 272) (b := 73) dX12_added_269 rfl (by decide) rfl (by decide) fa_X12_64_12 rfl rfl ?_
        refine s_iload (pc' := 274) dX12_added_272 rfl rfl ?_
        refine t_iald (pc' := 275) dX12_added_274 rfl sh_73 rfl (by have := C.1.2.1.ns; omega) ?_
        refine s_i2l (pc' := 276) dX12_added_275 rfl ?_
        refine s_goto (tgt := 280) dX12_added_276 (by decide) ?_
        refine s_ladd (pc' := 281) dX12_added_280 rfl ?_
        refine t_lstore_n (pc' := 282) (L' := [.ref 54, .int _, .long _, .retAddr _, .int _, .retAddr _, .retAddr _, .retAddr _, .retAddr _]) dX12_added_281 rfl (Nat.le_of_ble_eq_true rfl) rfl ?_
        refine t_iinc (pc' := 285) (v := nI (k + 1)) (L' := [.ref 54, .int _, .long _, .retAddr _, .int _, .retAddr _, .retAddr _, .retAddr _, .retAddr _]) dX12_added_282 rfl rfl (nI_inc k) rfl ?_
        refine s_goto (tgt := 228) dX12_added_285 (by decide) ?_
        rw [C.1.1 72 (by decide) (by decide)] at c248
        rw [C.1.1 74 (by decide) (by decide), C.1.1 75 (by decide) (by decide)] at c265
        exact s_eq (by simp only [spA, if_pos (show D 72 k = v ∧ D 75 6 < D 74 k from ⟨c248, Int32.not_le.mp c265⟩), C.1.1 73 (by decide) (by decide)]) rfl rfl (ih (k + 1) (by omega))
theorem c_X12_added {N : Nat} {S : Nat → Nat × Nat} {I : Nat → Nat → Int32} {J : Nat → Nat → Int64} {Q : Nat → Nat → Option Nat} {κ : Option Value → HP → Prop} {D : Nat → Nat → Int32} {nv nr ns b : Nat} {th : Int32} (C : ST I D nv nr ns b th) {v : Int32} (hk : ∀ I', RW4 I I' (fun r => adB D (nI b) (gM J b) th r v) (hwA D (nI b) (gM J b) th v nr) (btA D (nI b) (gM J b) th v nr) nr → κ (some (.long (spA D v (adS D (nI b) (gM J b) th v nr nr) ns))) (N, S, I', J, Q)) : CT E1 M_X12_added [.ref 54, .int v] (N, S, I, J, Q) κ := by
  refine ofSP mk_X12_added (Nat.le_of_ble_eq_true rfl) (L := [.ref 54, .int _, .retAddr _, .retAddr _, .retAddr _, .retAddr _, .retAddr _, .retAddr _, .retAddr _]) rfl ?_
  refine s_lconst (pc' := 1) (v := 0) dX12_added_0 rfl (by decide) ?_
  refine t_lstore_n (pc' := 2) (L' := [.ref 54, .int _, .long _, .retAddr _, .retAddr _, .retAddr _, .retAddr _, .retAddr _, .retAddr _]) dX12_added_1 rfl (Nat.le_of_ble_eq_true rfl) rfl ?_
  refine s_iconst (pc' := 3) (v := 0) dX12_added_2 rfl (by decide) ?_
  refine t_istore (pc' := 5) (L' := [.ref 54, .int _, .long _, .retAddr _, .int _, .retAddr _, .retAddr _, .retAddr _, .retAddr _]) dX12_added_3 rfl (Nat.le_of_ble_eq_true rfl) rfl ?_
  exact l_X12_added1 C (fun I' hI => by
    refine s_iconst (pc' := 226) (v := 0) dX12_added_225 rfl (by decide) ?_
    refine t_istore (pc' := 228) (L' := [.ref 54, .int _, .long _, .retAddr _, .int _, .retAddr _, .retAddr _, .retAddr _, .retAddr _]) dX12_added_226 rfl (Nat.le_of_ble_eq_true rfl) rfl ?_
    exact l_X12_added2 (C.mv hI.1) (hk I' hI) ns 0 (by omega)
    ) nr 0 I (by omega) RW4.rf
