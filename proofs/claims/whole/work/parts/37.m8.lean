/-- rules that write v -/
def kvB (D : Nat → Nat → Int32) (v : Int32) (r : Nat) : Bool := decide (D 60 r ≤ 3) && decide (D 61 r = v)
def qrS (D : Nat → Nat → Int32) (x : Int32) (g : Nat → Int64) (th v : Int32) (nr : Nat) : Bool := match bsS D x g th v nr with
  | none => false
  | some q => qrB D x g th v q nr
def hwSS (D : Nat → Nat → Int32) (x : Int32) (g : Nat → Int64) (th v : Int32) (nr r : Nat) : Int32 := match bsS D x g th v nr with
  | none => 0
  | some q => hwS q r
def btSS (D : Nat → Nat → Int32) (x : Int32) (g : Nat → Int64) (th v : Int32) (nr r : Nat) : Int32 := match bsS D x g th v nr with
  | none => 0
  | some q => btS q r
/-- before the caps -/
def num0 (D : Nat → Nat → Int32) (x : Int32) (g : Nat → Int64) (th v : Int32) (vj nr ns : Nat) : Int64 := basedV D x g th v vj nr + spA D v (adS D x g th v nr nr) ns
def num1 (D : Nat → Nat → Int32) (x : Int32) (g : Nat → Int64) (th v : Int32) (vj nr ns : Nat) : Int64 := cpS D x g th v 1 (num0 D x g th v vj nr ns) nr
def num2 (D : Nat → Nat → Int32) (x : Int32) (g : Nat → Int64) (th v : Int32) (vj nr ns : Nat) : Int64 := cpS D x g th v 0 (num1 D x g th v vj nr ns) nr
def finN (D : Nat → Nat → Int32) (vj : Nat) (n : Int64) : Int64 := if D 55 vj = 4 then (if n = 0 then 0 else 1) else if D 55 vj = 2 then n - (D 59 vj).toInt64 else n
/-- the number of the value vj, those that it needs being g -/
def numF (D : Nat → Nat → Int32) (x : Int32) (g : Nat → Int64) (th : Int32) (vj nr ns : Nat) : Int64 := finN D vj (num2 D x g th (nI vj) vj nr ns)
def hwF (D : Nat → Nat → Int32) (x : Int32) (g : Nat → Int64) (th : Int32) (vj nr ns r : Nat) : Int32 :=
  if wk D x g th r 3 (nI vj) = true then (if D 65 r = 1 then hwC D x g th (nI vj) 1 (num0 D x g th (nI vj) vj nr ns) r else hwC D x g th (nI vj) 0 (num1 D x g th (nI vj) vj nr ns) r)
  else if adB D x g th r (nI vj) = true then hwA D x g th (nI vj) nr r
  else if wk D x g th r 2 (nI vj) = true then hwSS D x g th (nI vj) nr r
  else if bitI th (nI r) = 1 then 1 else 0
def btF (D : Nat → Nat → Int32) (x : Int32) (g : Nat → Int64) (th : Int32) (vj nr r : Nat) : Int32 :=
  if adB D x g th r (nI vj) = true then btA D x g th (nI vj) nr r
  else if wk D x g th r 2 (nI vj) = true then btSS D x g th (nI vj) nr r
  else -1
/-- what work() leaves -/
def PW (I I' D : Nat → Nat → Int32) (x : Int32) (g : Nat → Int64) (th : Int32) (vj nr ns : Nat) : Prop := F3 I I' ∧ (∀ r, r < nr → kvB D (nI vj) r = true → I' 84 r = hwF D x g th vj nr ns r ∧ I' 85 r = btF D x g th vj nr r) ∧ (∀ r, (nr ≤ r ∨ kvB D (nI vj) r = false) → I' 84 r = I 84 r ∧ I' 85 r = I 85 r) ∧ I' 86 vj = b2 (qrS D x g th (nI vj) nr) ∧ ∀ u, u ≠ vj → I' 86 u = I 86 u
theorem wk_inv {D : Nat → Nat → Int32} {x : Int32} {g : Nat → Int64} {th : Int32} {r : Nat} {k v : Int32} (h : wk D x g th r k v = true) : D 60 r = k ∧ D 61 r = v ∧ bitI th (nI r) = 1 ∧ hB D x g r = true := by
  simp only [wk, Bool.and_eq_true, decide_eq_true_eq] at h
  exact h
theorem wk_kv {D : Nat → Nat → Int32} {x : Int32} {g : Nat → Int64} {th : Int32} {r : Nat} {k v : Int32} (h : wk D x g th r k v = true) (hk : k ≤ 3) : kvB D v r = true := by
  obtain ⟨h1, h2, -, -⟩ := wk_inv h
  simp only [kvB, Bool.and_eq_true, decide_eq_true_eq]
  exact ⟨by rw [h1]; exact hk, h2⟩
theorem wk_ex {D : Nat → Nat → Int32} {x : Int32} {g : Nat → Int64} {th : Int32} {r : Nat} {k k' v : Int32} (h : wk D x g th r k v = true) (hk : k ≠ k') : wk D x g th r k' v = false := by
  obtain ⟨h1, -, -, -⟩ := wk_inv h
  exact wk_1 (by rw [h1]; exact hk)
theorem adB_kv {D : Nat → Nat → Int32} {x : Int32} {g : Nat → Int64} {th : Int32} {r : Nat} {v : Int32} (h : adB D x g th r v = true) : kvB D v r = true := by
  simp only [adB, Bool.or_eq_true] at h
  rcases h with h | h
  · exact wk_kv h (by decide)
  · exact wk_kv h (by decide)
theorem adB_ex {D : Nat → Nat → Int32} {x : Int32} {g : Nat → Int64} {th : Int32} {r : Nat} {k v : Int32} (h : wk D x g th r k v = true) (h0 : k ≠ 0) (h1 : k ≠ 1) : adB D x g th r v = false := by
  simp only [adB, wk_ex h h0, wk_ex h h1]; rfl
theorem bsS_none {D : Nat → Nat → Int32} {x : Int32} {g : Nat → Int64} {th v : Int32} : ∀ k, bsS D x g th v k = none → ∀ r, r < k → wk D x g th r 2 v = false
  | 0, _, r, h => by omega
  | k + 1, h, r, hr => by
    cases hw : wk D x g th k 2 v with
    | true =>
      cases hb : bsS D x g th v k with
      | none => rw [bsS_s1 hw hb] at h; cases h
      | some q =>
        by_cases hl : D 62 q < D 62 k
        · rw [bsS_s2 hw hb hl] at h; cases h
        · rw [bsS_s3 hw hb hl] at h; cases h
    | false =>
      rw [bsS_s0 hw] at h
      by_cases e : r = k
      · subst e; exact hw
      · exact bsS_none k h r (by omega)
/-- based()'s rows in one shape -/
theorem PBn.rw {I I' D : Nat → Nat → Int32} {x : Int32} {g : Nat → Int64} {th v : Int32} {vj nr : Nat} (h : PBn I I' D x g th v vj nr) : RW2 I I' (fun r => wk D x g th r 2 v) (hwSS D x g th v nr) (btSS D x g th v nr) nr ∧ I' 86 vj = b2 (qrS D x g th v nr) ∧ ∀ u, u ≠ vj → I' 86 u = I 86 u := by
  unfold PBn at h
  cases hb : bsS D x g th v nr with
  | none =>
    rw [hb] at h
    simp only at h
    subst h
    refine ⟨⟨F3.rf.up (by decide), fun r hr hw => ?_, fun r _ => ⟨up2_d (by decide), up2_d (by decide)⟩⟩, by rw [up2_s]; unfold qrS; rw [hb]; rfl, fun u hu => up2_e hu⟩
    have hw2 : wk D x g th r 2 v = true := hw
    rw [bsS_none nr hb r hr] at hw2; cases hw2
  | some q =>
    rw [hb] at h
    have e1 : hwSS D x g th v nr = hwS q := by funext r; unfold hwSS; rw [hb]
    have e2 : btSS D x g th v nr = btS q := by funext r; unfold btSS; rw [hb]
    have e3 : qrS D x g th v nr = qrB D x g th v q nr := by unfold qrS; rw [hb]
    rw [e1, e2, e3]
    exact h
theorem PW_of {I I0 I1 I2 I3 I4 D : Nat → Nat → Int32} {x : Int32} {g : Nat → Int64} {th : Int32} {vj nr ns : Nat} (hl : ∀ r, r < nr → D 65 r = 0 ∨ D 65 r = 1)
    (h0 : RW4 I I0 (kvB D (nI vj)) (fun r => if bitI th (nI r) = 1 then 1 else 0) (fun _ => -1) nr)
    (h1 : PBn I0 I1 D x g th (nI vj) vj nr)
    (h2 : RW4 I1 I2 (fun r => adB D x g th r (nI vj)) (hwA D x g th (nI vj) nr) (btA D x g th (nI vj) nr) nr)
    (h3 : RW4 I2 I3 (fun r => wk D x g th r 3 (nI vj) && decide (D 65 r = 1)) (hwC D x g th (nI vj) 1 (num0 D x g th (nI vj) vj nr ns)) (fun r => I2 85 r) nr)
    (h4 : RW4 I3 I4 (fun r => wk D x g th r 3 (nI vj) && decide (D 65 r = 0)) (hwC D x g th (nI vj) 0 (num1 D x g th (nI vj) vj nr ns)) (fun r => I3 85 r) nr) (h86 : I4 86 = I1 86 ∧ I0 86 = I 86) : PW I I4 D x g th vj nr ns := by
  have hb := h1.rw
  refine ⟨h0.1.tr (hb.1.1.tr (h2.1.tr (h3.1.tr h4.1))), fun r hr hk => ?_, fun r hr => ?_, by rw [h86.1]; exact hb.2.1, fun u hu => by rw [h86.1, ← h86.2]; exact hb.2.2 u hu⟩
  · have k0 := h0.2.1 r hr hk
    unfold hwF btF
    cases w3 : wk D x g th r 3 (nI vj) with
    | true =>
      have wa := adB_ex w3 (by decide) (by decide)
      have w2 := wk_ex w3 (k' := 2) (by decide)
      have s1 := hb.1.2.2 r (Or.inr w2)
      have s2 := h2.2.2.1 r (Or.inr wa)
      have e85 : I4 85 r = -1 := by
        have s3 : I3 85 r = I2 85 r := by
          cases hd : decide (D 65 r = 1) with
          | true => exact (h3.2.1 r hr (by simp only [w3, hd]; rfl)).2
          | false => exact (h3.2.2.1 r (Or.inr (by simp only [w3, hd]; rfl))).2
        have s4 : I4 85 r = I3 85 r := by
          cases hd : decide (D 65 r = 0) with
          | true => exact (h4.2.1 r hr (by simp only [w3, hd]; rfl)).2
          | false => exact (h4.2.2.1 r (Or.inr (by simp only [w3, hd]; rfl))).2
        rw [s4, s3, s2.2, s1.2, k0.2]
      rw [wa, w2]
      refine ⟨?_, by simpa using e85⟩
      rcases hl r hr with e | e
      · have n1 : ¬ D 65 r = 1 := by rw [e]; decide
        rw [if_pos rfl, if_neg n1]
        exact (h4.2.1 r hr (by simp [w3, e])).1
      · rw [if_pos rfl, if_pos e]
        have n0 : ¬ D 65 r = 0 := by rw [e]; decide
        rw [(h4.2.2.1 r (Or.inr (by simp [n0]))).1]
        exact (h3.2.1 r hr (by simp [w3, e])).1
    | false =>
      have s3 := h3.2.2.1 r (Or.inr (by simp [w3]))
      have s4 := h4.2.2.1 r (Or.inr (by simp [w3]))
      rw [s4.1, s4.2, s3.1, s3.2]
      cases wa : adB D x g th r (nI vj) with
      | true =>
        have := h2.2.1 r hr wa
        simpa using this
      | false =>
        have s2 := h2.2.2.1 r (Or.inr wa)
        rw [s2.1, s2.2]
        cases w2 : wk D x g th r 2 (nI vj) with
        | true => have := hb.1.2.1 r hr w2; simpa using this
        | false =>
          have s1 := hb.1.2.2 r (Or.inr w2)
          rw [s1.1, s1.2]
          simpa using k0
  · have n0 := h0.2.2.1 r hr
    have wf : ∀ k : Int32, k ≤ 3 → nr ≤ r ∨ wk D x g th r k (nI vj) = false := fun k hk => hr.elim Or.inl (fun z => Or.inr (by
      cases hw : wk D x g th r k (nI vj) with
      | false => rfl
      | true => rw [wk_kv hw hk] at z; cases z))
    have s1 := hb.1.2.2 r (wf 2 (by decide))
    have s2 := h2.2.2.1 r (hr.elim Or.inl (fun z => Or.inr (by
      show adB D x g th r (nI vj) = false
      cases hw : adB D x g th r (nI vj) with
      | false => rfl
      | true => rw [adB_kv hw] at z; cases z)))
    have s3 := h3.2.2.1 r ((wf 3 (by decide)).elim Or.inl (fun z => Or.inr (by simp [z])))
    have s4 := h4.2.2.1 r ((wf 3 (by decide)).elim Or.inl (fun z => Or.inr (by simp [z])))
    rw [s4.1, s4.2, s3.1, s3.2, s2.1, s2.2, s1.1, s1.2]
    exact n0
theorem DW.lst {D : Nat → Nat → Int32} {nv nr ns r : Nat} (h : DW D nv nr ns) (hr : r < nr) : D 65 r = 0 ∨ D 65 r = 1 := (h.2.1 r hr).2.2.2.2.2.2.2.1
theorem l_X12_capped {N : Nat} {S : Nat → Nat × Nat} {I : Nat → Nat → Int32} {J : Nat → Nat → Int64} {Q : Nat → Nat → Option Nat} {κ : Option Value → HP → Prop} {D : Nat → Nat → Int32} {nv nr ns b : Nat} {th : Int32} (C : ST I D nv nr ns b th) {v ls : Int32} {x0 m : Int64} (hk : ∀ I', RW4 I I' (fun r => wk D (nI b) (gM J b) th r 3 v && decide (D 65 r = ls)) (hwC D (nI b) (gM J b) th v ls m) (fun r => I 85 r) nr → SP E1 M_X12_capped κ 133 [.ref 54, .int v, .long x0, .retAddr 0, .long (cpS D (nI b) (gM J b) th v ls m nr), .retAddr 0, .int ls, .retAddr 0, .retAddr 0, .retAddr 0, .retAddr 0] [] (N, S, I', J, Q) 0 0) : ∀ d : Nat, ∀ k I', k + d = nr → RW4 I I' (fun r => wk D (nI b) (gM J b) th r 3 v && decide (D 65 r = ls)) (hwC D (nI b) (gM J b) th v ls m) (fun r => I 85 r) k → SP E1 M_X12_capped κ 14 [.ref 54, .int v, .long x0, .retAddr 0, .long (cpS D (nI b) (gM J b) th v ls m k), .retAddr 0, .int ls, .int (nI k), .retAddr 0, .retAddr 0, .retAddr 0] [] (N, S, I', J, Q) 0 0 := by
  intro d
  induction d with
  | zero =>
    intro k I' hd hP
    obtain rfl : k = nr := by omega
    have C0 := C
    have hn30 := C.1.2.1.nr
    replace C := C.mv hP.1
    refine s_iload (pc' := 16) dX12_capped_14 rfl rfl ?_
    refine s_aload_n (pc' := 17) dX12_capped_16 rfl rfl ?_
    refine s_getS (pc' := 20) (b := 75) dX12_capped_17 rfl (by decide) rfl (by decide) fa_X12_70_12 rfl rfl ?_
    refine s_iconst (pc' := 21) (v := 1) dX12_capped_20 rfl (by decide) ?_
    refine t_iald (pc' := 22) (q := 1) dX12_capped_21 rfl sh_75 rfl (by decide) ?_
    refine s_icmpgeT (tgt := 133) dX12_capped_22 (by decide) (by rw [C.1.2.1.rn C.1.1]; exact nI_le (Nat.le_refl _) (by have := C.1.2.1.nr; omega)) ?_
    exact s_fg [7] rfl (hk I' hP)
  | succ d ih =>
    intro k I' hd hP
    have C0 := C
    have hn30 := C.1.2.1.nr
    replace C := C.mv hP.1
    refine s_iload (pc' := 16) dX12_capped_14 rfl rfl ?_
    refine s_aload_n (pc' := 17) dX12_capped_16 rfl rfl ?_
    refine s_getS (pc' := 20) (b := 75) dX12_capped_17 rfl (by decide) rfl (by decide) fa_X12_70_12 rfl rfl ?_
    refine s_iconst (pc' := 21) (v := 1) dX12_capped_20 rfl (by decide) ?_
    refine t_iald (pc' := 22) (q := 1) dX12_capped_21 rfl sh_75 rfl (by decide) ?_
    refine s_icmpgeF (pc' := 25) (tgt := 133) dX12_capped_22 (by decide) rfl (by rw [C.1.2.1.rn C.1.1]; exact nI_ge (by omega) (by have := C.1.2.1.nr; omega)) ?_
    refine s_aload_n (pc' := 26) dX12_capped_25 rfl rfl ?_
    refine s_iload (pc' := 28) dX12_capped_26 rfl rfl ?_
    refine s_iconst (pc' := 29) (v := 3) dX12_capped_28 rfl (by decide) ?_
    refine s_iload_n (pc' := 30) dX12_capped_29 rfl rfl ?_
    refine s_callV (pc' := 33) (As := [.int _, .int _, .int _]) dX12_capped_30 rfl mk_X12_works ml_X12_237 im_X12_works se_X12_X12_X12_works sh_54 (by decide) rfl rfl rfl ⟨Nat.le_of_ble_eq_true rfl, Nat.le_of_ble_eq_true rfl, Nat.le_of_ble_eq_true rfl, Nat.le_of_ble_eq_true rfl⟩ (Nat.le_of_ble_eq_true rfl) (e_works C (r := _) (by omega) (fun w30 => ?_) (fun w30 => ?_))
    · refine s_ifeqF (pc' := 36) (tgt := 127) dX12_capped_33 (by decide) rfl (by decide) ?_
      refine s_aload_n (pc' := 37) dX12_capped_36 rfl rfl ?_
      refine s_getS (pc' := 40) (b := 65) dX12_capped_37 rfl (by decide) rfl (by decide) fa_X12_40_12 rfl rfl ?_
      refine s_iload (pc' := 42) dX12_capped_40 rfl rfl ?_
      refine t_iald (pc' := 43) dX12_capped_42 rfl sh_65 rfl (by omega) ?_
      refine s_iload (pc' := 45) dX12_capped_43 rfl rfl ?_
      refine s_icmpeq (pc' := 48) (tgt := 51) dX12_capped_45 (by decide) rfl (fun c45 => ?_) (fun c45 => ?_)
      · refine s_aload_n (pc' := 52) dX12_capped_51 rfl rfl ?_
        refine s_iload (pc' := 54) dX12_capped_52 rfl rfl ?_
        refine s_callV (pc' := 57) (As := [.int _]) dX12_capped_54 rfl mk_X12_amountOf ml_X12_241 im_X12_amountOf se_X12_X12_X12_amountOf sh_54 (by decide) rfl rfl rfl ⟨Nat.le_of_ble_eq_true rfl, Nat.le_of_ble_eq_true rfl, Nat.le_of_ble_eq_true rfl, Nat.le_of_ble_eq_true rfl⟩ (Nat.le_of_ble_eq_true rfl) (c_X12_amountOf C.1 (r := _) (by omega) ?_)
        refine t_lstore (pc' := 59) (L' := [.ref 54, .int _, .long _, .retAddr _, .long _, .retAddr _, .int _, .int _, .long _, .retAddr _, .retAddr _]) dX12_capped_57 rfl (Nat.le_of_ble_eq_true rfl) rfl ?_
        refine s_iload (pc' := 61) dX12_capped_59 rfl rfl ?_
        refine s_iconst (pc' := 62) (v := 1) dX12_capped_61 rfl (by decide) ?_
        refine s_icmpne (pc' := 65) (tgt := 81) dX12_capped_62 (by decide) rfl (fun c62 => ?_) (fun c62 => ?_)
        · refine s_lload (pc' := 83) dX12_capped_81 rfl rfl ?_
          refine s_lload (pc' := 85) dX12_capped_83 rfl rfl ?_
          refine s_lcmp (pc' := 86) dX12_capped_85 rfl ?_
          refine s_ifle (pc' := 89) (tgt := 93) dX12_capped_86 (by decide) rfl (fun c86 => ?_) (fun c86 => ?_)
          · refine s_iconst (pc' := 94) (v := 0) dX12_capped_93 rfl (by decide) ?_
            refine t_istore (pc' := 96) (L' := [.ref 54, .int _, .long _, .retAddr _, .long _, .retAddr _, .int _, .int _, .long _, .retAddr _, .int _]) dX12_capped_94 rfl (Nat.le_of_ble_eq_true rfl) rfl ?_
            refine s_aload_n (pc' := 97) dX12_capped_96 rfl rfl ?_
            refine s_getS (pc' := 100) (b := 84) dX12_capped_97 rfl (by decide) rfl (by decide) fa_X12_99_12 rfl rfl ?_
            refine s_iload (pc' := 102) dX12_capped_100 rfl rfl ?_
            refine s_iload (pc' := 104) dX12_capped_102 rfl rfl ?_
            refine s_ifeqT (tgt := 111) dX12_capped_104 (by decide) (by decide) ?_
            refine s_iconst (pc' := 112) (v := 4) dX12_capped_111 rfl (by decide) ?_
            refine t_iast (pc' := 113) dX12_capped_112 rfl sh_84 rfl (by omega) ?_
            refine s_iload (pc' := 115) dX12_capped_113 rfl rfl ?_
            refine s_ifeqT (tgt := 123) dX12_capped_115 (by decide) (by decide) ?_
            refine s_lload (pc' := 125) dX12_capped_123 rfl rfl ?_
            refine t_lstore (pc' := 127) (L' := [.ref 54, .int _, .long _, .retAddr _, .long _, .retAddr _, .int _, .int _, .long _, .retAddr _, .int _]) dX12_capped_125 rfl (Nat.le_of_ble_eq_true rfl) rfl ?_
            refine t_iinc (pc' := 130) (v := nI (k + 1)) (L' := [.ref 54, .int _, .long _, .retAddr _, .long _, .retAddr _, .int _, .int _, .long _, .retAddr _, .int _]) dX12_capped_127 rfl rfl (nI_inc k) rfl ?_
            refine s_goto (tgt := 14) dX12_capped_130 (by decide) ?_
            rw [C.1.1 65 (by decide) (by decide)] at c45
            have q0 : ¬ (if ls = 1 then cpS D (nI b) (gM J b) th v ls m k < amt D (gM J b) k else amt D (gM J b) k < cpS D (nI b) (gM J b) th v ls m k) := by rw [if_neg c62]; exact Int64.not_lt.mpr ((lg_cmp_le _ _).mp c86)
            exact s_fg [8, 9, 10] rfl (s_eq (by simp only [cpS, if_pos (show wk D (nI b) (gM J b) th k 3 v = true ∧ D 65 k = ls from ⟨w30, c45⟩), if_neg q0] <;> rfl) rfl rfl (ih (k + 1) _ (by omega) (hP.c (by simp [w30, c45]) (by rw [hwC, if_neg q0]))))
          · refine s_iconst (pc' := 90) (v := 1) dX12_capped_89 rfl (by decide) ?_
            refine s_goto (tgt := 94) dX12_capped_90 (by decide) ?_
            refine t_istore (pc' := 96) (L' := [.ref 54, .int _, .long _, .retAddr _, .long _, .retAddr _, .int _, .int _, .long _, .retAddr _, .int _]) dX12_capped_94 rfl (Nat.le_of_ble_eq_true rfl) rfl ?_
            refine s_aload_n (pc' := 97) dX12_capped_96 rfl rfl ?_
            refine s_getS (pc' := 100) (b := 84) dX12_capped_97 rfl (by decide) rfl (by decide) fa_X12_99_12 rfl rfl ?_
            refine s_iload (pc' := 102) dX12_capped_100 rfl rfl ?_
            refine s_iload (pc' := 104) dX12_capped_102 rfl rfl ?_
            refine s_ifeqF (pc' := 107) (tgt := 111) dX12_capped_104 (by decide) rfl (by decide) ?_
            refine s_iconst (pc' := 108) (v := 2) dX12_capped_107 rfl (by decide) ?_
            refine s_goto (tgt := 112) dX12_capped_108 (by decide) ?_
            refine t_iast (pc' := 113) dX12_capped_112 rfl sh_84 rfl (by omega) ?_
            refine s_iload (pc' := 115) dX12_capped_113 rfl rfl ?_
            refine s_ifeqF (pc' := 118) (tgt := 123) dX12_capped_115 (by decide) rfl (by decide) ?_
            refine s_lload (pc' := 120) dX12_capped_118 rfl rfl ?_
            refine s_goto (tgt := 125) dX12_capped_120 (by decide) ?_
            refine t_lstore (pc' := 127) (L' := [.ref 54, .int _, .long _, .retAddr _, .long _, .retAddr _, .int _, .int _, .long _, .retAddr _, .int _]) dX12_capped_125 rfl (Nat.le_of_ble_eq_true rfl) rfl ?_
            refine t_iinc (pc' := 130) (v := nI (k + 1)) (L' := [.ref 54, .int _, .long _, .retAddr _, .long _, .retAddr _, .int _, .int _, .long _, .retAddr _, .int _]) dX12_capped_127 rfl rfl (nI_inc k) rfl ?_
            refine s_goto (tgt := 14) dX12_capped_130 (by decide) ?_
            rw [C.1.1 65 (by decide) (by decide)] at c45
            have q0 : (if ls = 1 then cpS D (nI b) (gM J b) th v ls m k < amt D (gM J b) k else amt D (gM J b) k < cpS D (nI b) (gM J b) th v ls m k) := by rw [if_neg c62]; exact Int64.not_le.mp (fun z => c86 ((lg_cmp_le _ _).mpr z))
            exact s_fg [8, 9, 10] rfl (s_eq (by simp only [cpS, if_pos (show wk D (nI b) (gM J b) th k 3 v = true ∧ D 65 k = ls from ⟨w30, c45⟩), if_pos q0] <;> rfl) rfl rfl (ih (k + 1) _ (by omega) (hP.c (by simp [w30, c45]) (by rw [hwC, if_pos q0]))))
        · refine s_lload (pc' := 67) dX12_capped_65 rfl rfl ?_
          refine s_lload (pc' := 69) dX12_capped_67 rfl rfl ?_
          refine s_lcmp (pc' := 70) dX12_capped_69 rfl ?_
          refine s_ifge (pc' := 73) (tgt := 77) dX12_capped_70 (by decide) rfl (fun c70 => ?_) (fun c70 => ?_)
          · refine s_iconst (pc' := 78) (v := 0) dX12_capped_77 rfl (by decide) ?_
            refine s_goto (tgt := 94) dX12_capped_78 (by decide) ?_
            refine t_istore (pc' := 96) (L' := [.ref 54, .int _, .long _, .retAddr _, .long _, .retAddr _, .int _, .int _, .long _, .retAddr _, .int _]) dX12_capped_94 rfl (Nat.le_of_ble_eq_true rfl) rfl ?_
            refine s_aload_n (pc' := 97) dX12_capped_96 rfl rfl ?_
            refine s_getS (pc' := 100) (b := 84) dX12_capped_97 rfl (by decide) rfl (by decide) fa_X12_99_12 rfl rfl ?_
            refine s_iload (pc' := 102) dX12_capped_100 rfl rfl ?_
            refine s_iload (pc' := 104) dX12_capped_102 rfl rfl ?_
            refine s_ifeqT (tgt := 111) dX12_capped_104 (by decide) (by decide) ?_
            refine s_iconst (pc' := 112) (v := 4) dX12_capped_111 rfl (by decide) ?_
            refine t_iast (pc' := 113) dX12_capped_112 rfl sh_84 rfl (by omega) ?_
            refine s_iload (pc' := 115) dX12_capped_113 rfl rfl ?_
            refine s_ifeqT (tgt := 123) dX12_capped_115 (by decide) (by decide) ?_
            refine s_lload (pc' := 125) dX12_capped_123 rfl rfl ?_
            refine t_lstore (pc' := 127) (L' := [.ref 54, .int _, .long _, .retAddr _, .long _, .retAddr _, .int _, .int _, .long _, .retAddr _, .int _]) dX12_capped_125 rfl (Nat.le_of_ble_eq_true rfl) rfl ?_
            refine t_iinc (pc' := 130) (v := nI (k + 1)) (L' := [.ref 54, .int _, .long _, .retAddr _, .long _, .retAddr _, .int _, .int _, .long _, .retAddr _, .int _]) dX12_capped_127 rfl rfl (nI_inc k) rfl ?_
            refine s_goto (tgt := 14) dX12_capped_130 (by decide) ?_
            rw [C.1.1 65 (by decide) (by decide)] at c45
            have q0 : ¬ (if ls = 1 then cpS D (nI b) (gM J b) th v ls m k < amt D (gM J b) k else amt D (gM J b) k < cpS D (nI b) (gM J b) th v ls m k) := by rw [if_pos c62]; exact Int64.not_lt.mpr ((lg_cmp_ge _ _).mp c70)
            exact s_fg [8, 9, 10] rfl (s_eq (by simp only [cpS, if_pos (show wk D (nI b) (gM J b) th k 3 v = true ∧ D 65 k = ls from ⟨w30, c45⟩), if_neg q0] <;> rfl) rfl rfl (ih (k + 1) _ (by omega) (hP.c (by simp [w30, c45]) (by rw [hwC, if_neg q0]))))
          · refine s_iconst (pc' := 74) (v := 1) dX12_capped_73 rfl (by decide) ?_
            refine s_goto (tgt := 94) dX12_capped_74 (by decide) ?_
            refine t_istore (pc' := 96) (L' := [.ref 54, .int _, .long _, .retAddr _, .long _, .retAddr _, .int _, .int _, .long _, .retAddr _, .int _]) dX12_capped_94 rfl (Nat.le_of_ble_eq_true rfl) rfl ?_
            refine s_aload_n (pc' := 97) dX12_capped_96 rfl rfl ?_
            refine s_getS (pc' := 100) (b := 84) dX12_capped_97 rfl (by decide) rfl (by decide) fa_X12_99_12 rfl rfl ?_
            refine s_iload (pc' := 102) dX12_capped_100 rfl rfl ?_
            refine s_iload (pc' := 104) dX12_capped_102 rfl rfl ?_
            refine s_ifeqF (pc' := 107) (tgt := 111) dX12_capped_104 (by decide) rfl (by decide) ?_
            refine s_iconst (pc' := 108) (v := 2) dX12_capped_107 rfl (by decide) ?_
            refine s_goto (tgt := 112) dX12_capped_108 (by decide) ?_
            refine t_iast (pc' := 113) dX12_capped_112 rfl sh_84 rfl (by omega) ?_
            refine s_iload (pc' := 115) dX12_capped_113 rfl rfl ?_
            refine s_ifeqF (pc' := 118) (tgt := 123) dX12_capped_115 (by decide) rfl (by decide) ?_
            refine s_lload (pc' := 120) dX12_capped_118 rfl rfl ?_
            refine s_goto (tgt := 125) dX12_capped_120 (by decide) ?_
            refine t_lstore (pc' := 127) (L' := [.ref 54, .int _, .long _, .retAddr _, .long _, .retAddr _, .int _, .int _, .long _, .retAddr _, .int _]) dX12_capped_125 rfl (Nat.le_of_ble_eq_true rfl) rfl ?_
            refine t_iinc (pc' := 130) (v := nI (k + 1)) (L' := [.ref 54, .int _, .long _, .retAddr _, .long _, .retAddr _, .int _, .int _, .long _, .retAddr _, .int _]) dX12_capped_127 rfl rfl (nI_inc k) rfl ?_
            refine s_goto (tgt := 14) dX12_capped_130 (by decide) ?_
            rw [C.1.1 65 (by decide) (by decide)] at c45
            have q0 : (if ls = 1 then cpS D (nI b) (gM J b) th v ls m k < amt D (gM J b) k else amt D (gM J b) k < cpS D (nI b) (gM J b) th v ls m k) := by rw [if_pos c62]; exact Int64.not_le.mp (fun z => c70 ((lg_cmp_ge _ _).mpr z))
            exact s_fg [8, 9, 10] rfl (s_eq (by simp only [cpS, if_pos (show wk D (nI b) (gM J b) th k 3 v = true ∧ D 65 k = ls from ⟨w30, c45⟩), if_pos q0] <;> rfl) rfl rfl (ih (k + 1) _ (by omega) (hP.c (by simp [w30, c45]) (by rw [hwC, if_pos q0]))))
      · refine s_goto (tgt := 127) dX12_capped_48 (by decide) ?_
        refine t_iinc (pc' := 130) (v := nI (k + 1)) (L' := [.ref 54, .int _, .long _, .retAddr _, .long _, .retAddr _, .int _, .int _, .retAddr _, .retAddr _, .retAddr _]) dX12_capped_127 rfl rfl (nI_inc k) rfl ?_
        refine s_goto (tgt := 14) dX12_capped_130 (by decide) ?_
        rw [C.1.1 65 (by decide) (by decide)] at c45
        exact s_fg [8, 9, 10] rfl (s_eq (by simp only [cpS, if_neg (show ¬ (wk D (nI b) (gM J b) th k 3 v = true ∧ D 65 k = ls) from fun z => c45 z.2)] <;> rfl) rfl rfl (ih (k + 1) _ (by omega) (hP.sk (by simp [c45]))))
    · refine s_ifeqT (tgt := 127) dX12_capped_33 (by decide) (by decide) ?_
      refine t_iinc (pc' := 130) (v := nI (k + 1)) (L' := [.ref 54, .int _, .long _, .retAddr _, .long _, .retAddr _, .int _, .int _, .retAddr _, .retAddr _, .retAddr _]) dX12_capped_127 rfl rfl (nI_inc k) rfl ?_
      refine s_goto (tgt := 14) dX12_capped_130 (by decide) ?_
      exact s_fg [8, 9, 10] rfl (s_eq (by simp only [cpS, if_neg (show ¬ (wk D (nI b) (gM J b) th k 3 v = true ∧ D 65 k = ls) from fun z => by rw [w30] at z; exact absurd z.1 (by decide))] <;> rfl) rfl rfl (ih (k + 1) _ (by omega) (hP.sk (by simp [w30]))))
theorem c_X12_capped {N : Nat} {S : Nat → Nat × Nat} {I : Nat → Nat → Int32} {J : Nat → Nat → Int64} {Q : Nat → Nat → Option Nat} {κ : Option Value → HP → Prop} {D : Nat → Nat → Int32} {nv nr ns b : Nat} {th : Int32} (C : ST I D nv nr ns b th) {v : Int32} {m : Int64} (hk : ∀ I1 I2, RW4 I I1 (fun r => wk D (nI b) (gM J b) th r 3 v && decide (D 65 r = 1)) (hwC D (nI b) (gM J b) th v 1 m) (fun r => I 85 r) nr → RW4 I1 I2 (fun r => wk D (nI b) (gM J b) th r 3 v && decide (D 65 r = 0)) (hwC D (nI b) (gM J b) th v 0 (cpS D (nI b) (gM J b) th v 1 m nr)) (fun r => I1 85 r) nr → κ (some (.long (cpS D (nI b) (gM J b) th v 0 (cpS D (nI b) (gM J b) th v 1 m nr) nr))) (N, S, I2, J, Q)) : CT E1 M_X12_capped [.ref 54, .int v, .long m] (N, S, I, J, Q) κ := by
  refine ofSP mk_X12_capped (Nat.le_of_ble_eq_true rfl) (L := [.ref 54, .int _, .long _, .retAddr _, .retAddr _, .retAddr _, .retAddr _, .retAddr _, .retAddr _, .retAddr _, .retAddr _]) rfl ?_
  refine s_lload_n (pc' := 1) dX12_capped_0 rfl rfl ?_
  refine t_lstore (pc' := 3) (L' := [.ref 54, .int _, .long _, .retAddr _, .long _, .retAddr _, .retAddr _, .retAddr _, .retAddr _, .retAddr _, .retAddr _]) dX12_capped_1 rfl (Nat.le_of_ble_eq_true rfl) rfl ?_
  refine s_iconst (pc' := 4) (v := 1) dX12_capped_3 rfl (by decide) ?_
  refine t_istore (pc' := 6) (L' := [.ref 54, .int _, .long _, .retAddr _, .long _, .retAddr _, .int _, .retAddr _, .retAddr _, .retAddr _, .retAddr _]) dX12_capped_4 rfl (Nat.le_of_ble_eq_true rfl) rfl ?_
  refine s_iload (pc' := 8) dX12_capped_6 rfl rfl ?_
  refine s_ifltF (pc' := 11) (tgt := 139) dX12_capped_8 (by decide) rfl (by decide) ?_
  refine s_iconst (pc' := 12) (v := 0) dX12_capped_11 rfl (by decide) ?_
  refine t_istore (pc' := 14) (L' := [.ref 54, .int _, .long _, .retAddr _, .long _, .retAddr _, .int _, .int _, .retAddr _, .retAddr _, .retAddr _]) dX12_capped_12 rfl (Nat.le_of_ble_eq_true rfl) rfl ?_
  exact l_X12_capped C (ls := 1) (fun I1 h1 => by
      refine t_iinc (pc' := 136) (v := 0) (L' := [.ref 54, .int _, .long _, .retAddr _, .long _, .retAddr _, .int _, .retAddr _, .retAddr _, .retAddr _, .retAddr _]) dX12_capped_133 rfl rfl (by decide) rfl ?_
      refine s_goto (tgt := 6) dX12_capped_136 (by decide) ?_
      refine s_iload (pc' := 8) dX12_capped_6 rfl rfl ?_
      refine s_ifltF (pc' := 11) (tgt := 139) dX12_capped_8 (by decide) rfl (by decide) ?_
      refine s_iconst (pc' := 12) (v := 0) dX12_capped_11 rfl (by decide) ?_
      refine t_istore (pc' := 14) (L' := [.ref 54, .int _, .long _, .retAddr _, .long _, .retAddr _, .int _, .int _, .retAddr _, .retAddr _, .retAddr _]) dX12_capped_12 rfl (Nat.le_of_ble_eq_true rfl) rfl ?_
      exact l_X12_capped (C.mv h1.1) (ls := 0) (fun I2 h2 => by
          refine t_iinc (pc' := 136) (v := -1) (L' := [.ref 54, .int _, .long _, .retAddr _, .long _, .retAddr _, .int _, .retAddr _, .retAddr _, .retAddr _, .retAddr _]) dX12_capped_133 rfl rfl (by decide) rfl ?_
          refine s_goto (tgt := 6) dX12_capped_136 (by decide) ?_
          refine s_iload (pc' := 8) dX12_capped_6 rfl rfl ?_
          refine s_ifltT (tgt := 139) dX12_capped_8 (by decide) (by decide) ?_
          refine s_lload (pc' := 141) dX12_capped_139 rfl rfl ?_
          exact s_lret dX12_capped_141 rfl (by decide) (by decide) (hk I1 I2 h1 h2)
          ) nr 0 I1 (by omega) RW4.rf
    ) nr 0 I (by omega) RW4.rf
theorem l_X12_work {N : Nat} {S : Nat → Nat × Nat} {I : Nat → Nat → Int32} {J : Nat → Nat → Int64} {Q : Nat → Nat → Option Nat} {κ : Option Value → HP → Prop} {D : Nat → Nat → Int32} {nv nr ns b : Nat} {th : Int32} (C : ST I D nv nr ns b th) {v : Int32} (hk : ∀ I', RW4 I I' (kvB D v) (fun r => if bitI th (nI r) = 1 then 1 else 0) (fun _ => -1) nr → SP E1 M_X12_work κ 67 [.ref 54, .int v, .retAddr 0, .retAddr 0] [] (N, S, I', J, Q) 0 0) : ∀ d : Nat, ∀ k I', k + d = nr → RW4 I I' (kvB D v) (fun r => if bitI th (nI r) = 1 then 1 else 0) (fun _ => -1) k → SP E1 M_X12_work κ 2 [.ref 54, .int v, .int (nI k), .retAddr 0] [] (N, S, I', J, Q) 0 0 := by
  intro d
  induction d with
  | zero =>
    intro k I' hd hP
    obtain rfl : k = nr := by omega
    have C0 := C
    have hn30 := C.1.2.1.nr
    replace C := C.mv hP.1
    refine s_iload_n (pc' := 3) dX12_work_2 rfl rfl ?_
    refine s_aload_n (pc' := 4) dX12_work_3 rfl rfl ?_
    refine s_getS (pc' := 7) (b := 75) dX12_work_4 rfl (by decide) rfl (by decide) fa_X12_70_12 rfl rfl ?_
    refine s_iconst (pc' := 8) (v := 1) dX12_work_7 rfl (by decide) ?_
    refine t_iald (pc' := 9) (q := 1) dX12_work_8 rfl sh_75 rfl (by decide) ?_
    refine s_icmpgeT (tgt := 67) dX12_work_9 (by decide) (by rw [C.1.2.1.rn C.1.1]; exact nI_le (Nat.le_refl _) (by have := C.1.2.1.nr; omega)) ?_
    exact s_fg [2] rfl (hk I' hP)
  | succ d ih =>
    intro k I' hd hP
    have C0 := C
    have hn30 := C.1.2.1.nr
    replace C := C.mv hP.1
    refine s_iload_n (pc' := 3) dX12_work_2 rfl rfl ?_
    refine s_aload_n (pc' := 4) dX12_work_3 rfl rfl ?_
    refine s_getS (pc' := 7) (b := 75) dX12_work_4 rfl (by decide) rfl (by decide) fa_X12_70_12 rfl rfl ?_
    refine s_iconst (pc' := 8) (v := 1) dX12_work_7 rfl (by decide) ?_
    refine t_iald (pc' := 9) (q := 1) dX12_work_8 rfl sh_75 rfl (by decide) ?_
    refine s_icmpgeF (pc' := 12) (tgt := 67) dX12_work_9 (by decide) rfl (by rw [C.1.2.1.rn C.1.1]; exact nI_ge (by omega) (by have := C.1.2.1.nr; omega)) ?_
    refine s_aload_n (pc' := 13) dX12_work_12 rfl rfl ?_
    refine s_getS (pc' := 16) (b := 60) dX12_work_13 rfl (by decide) rfl (by decide) fa_X12_25_12 rfl rfl ?_
    refine s_iload_n (pc' := 17) dX12_work_16 rfl rfl ?_
    refine t_iald (pc' := 18) dX12_work_17 rfl sh_60 rfl (by omega) ?_
    refine s_iconst (pc' := 19) (v := 3) dX12_work_18 rfl (by decide) ?_
    refine s_icmpgt (pc' := 22) (tgt := 61) dX12_work_19 (by decide) rfl (fun c19 => ?_) (fun c19 => ?_)
    · refine t_iinc (pc' := 64) (v := nI (k + 1)) (L' := [.ref 54, .int _, .int _, .retAddr _]) dX12_work_61 rfl rfl (nI_inc k) rfl ?_
      refine s_goto (tgt := 2) dX12_work_64 (by decide) ?_
      rw [C.1.1 60 (by decide) (by decide)] at c19
      exact ih (k + 1) _ (by omega) (hP.sk (by simp only [kvB]; rw [decide_eq_false (Int32.not_le.mpr c19)]; rfl))
    · refine s_aload_n (pc' := 23) dX12_work_22 rfl rfl ?_
      refine s_getS (pc' := 26) (b := 61) dX12_work_23 rfl (by decide) rfl (by decide) fa_X12_28_12 rfl rfl ?_
      refine s_iload_n (pc' := 27) dX12_work_26 rfl rfl ?_
      refine t_iald (pc' := 28) dX12_work_27 rfl sh_61 rfl (by omega) ?_
      refine s_iload_n (pc' := 29) dX12_work_28 rfl rfl ?_
      refine s_icmpeq (pc' := 32) (tgt := 35) dX12_work_29 (by decide) rfl (fun c29 => ?_) (fun c29 => ?_)
      · refine s_aload_n (pc' := 36) dX12_work_35 rfl rfl ?_
        refine s_getS (pc' := 39) (b := 84) dX12_work_36 rfl (by decide) rfl (by decide) fa_X12_99_12 rfl rfl ?_
        refine s_iload_n (pc' := 40) dX12_work_39 rfl rfl ?_
        refine s_aload_n (pc' := 41) dX12_work_40 rfl rfl ?_
        refine s_iload_n (pc' := 42) dX12_work_41 rfl rfl ?_
        refine s_callV (pc' := 45) (As := [.int _]) dX12_work_42 rfl mk_X12_isThere ml_X12_231 im_X12_isThere se_X12_X12_X12_isThere sh_54 (by decide) rfl rfl rfl ⟨Nat.le_of_ble_eq_true rfl, Nat.le_of_ble_eq_true rfl, Nat.le_of_ble_eq_true rfl, Nat.le_of_ble_eq_true rfl⟩ (Nat.le_of_ble_eq_true rfl) (e_isThere C (fun t42 => ?_) (fun t42 => ?_))
        · refine s_ifeqF (pc' := 48) (tgt := 52) dX12_work_45 (by decide) rfl (by decide) ?_
          refine s_iconst (pc' := 49) (v := 1) dX12_work_48 rfl (by decide) ?_
          refine s_goto (tgt := 53) dX12_work_49 (by decide) ?_
          refine t_iast (pc' := 54) dX12_work_53 rfl sh_84 rfl (by omega) ?_
          refine s_aload_n (pc' := 55) dX12_work_54 rfl rfl ?_
          refine s_getS (pc' := 58) (b := 85) dX12_work_55 rfl (by decide) rfl (by decide) fa_X12_102_12 rfl rfl ?_
          refine s_iload_n (pc' := 59) dX12_work_58 rfl rfl ?_
          refine s_iconst (pc' := 60) (v := -1) dX12_work_59 rfl (by decide) ?_
          refine t_iast (pc' := 61) dX12_work_60 rfl sh_85 rfl (by omega) ?_
          refine t_iinc (pc' := 64) (v := nI (k + 1)) (L' := [.ref 54, .int _, .int _, .retAddr _]) dX12_work_61 rfl rfl (nI_inc k) rfl ?_
          refine s_goto (tgt := 2) dX12_work_64 (by decide) ?_
          rw [C.1.1 60 (by decide) (by decide)] at c19
          rw [C.1.1 61 (by decide) (by decide)] at c29
          exact ih (k + 1) _ (by omega) (hP.d (by simp only [kvB, c29]; rw [decide_eq_true (Int32.not_lt.mp c19)]; rfl) (by simp only [if_pos t42]) rfl)
        · refine s_ifeqT (tgt := 52) dX12_work_45 (by decide) (by decide) ?_
          refine s_iconst (pc' := 53) (v := 0) dX12_work_52 rfl (by decide) ?_
          refine t_iast (pc' := 54) dX12_work_53 rfl sh_84 rfl (by omega) ?_
          refine s_aload_n (pc' := 55) dX12_work_54 rfl rfl ?_
          refine s_getS (pc' := 58) (b := 85) dX12_work_55 rfl (by decide) rfl (by decide) fa_X12_102_12 rfl rfl ?_
          refine s_iload_n (pc' := 59) dX12_work_58 rfl rfl ?_
          refine s_iconst (pc' := 60) (v := -1) dX12_work_59 rfl (by decide) ?_
          refine t_iast (pc' := 61) dX12_work_60 rfl sh_85 rfl (by omega) ?_
          refine t_iinc (pc' := 64) (v := nI (k + 1)) (L' := [.ref 54, .int _, .int _, .retAddr _]) dX12_work_61 rfl rfl (nI_inc k) rfl ?_
          refine s_goto (tgt := 2) dX12_work_64 (by decide) ?_
          rw [C.1.1 60 (by decide) (by decide)] at c19
          rw [C.1.1 61 (by decide) (by decide)] at c29
          exact ih (k + 1) _ (by omega) (hP.d (by simp only [kvB, c29]; rw [decide_eq_true (Int32.not_lt.mp c19)]; rfl) (by simp only [if_neg t42]) rfl)
      · refine s_goto (tgt := 61) dX12_work_32 (by decide) ?_
        refine t_iinc (pc' := 64) (v := nI (k + 1)) (L' := [.ref 54, .int _, .int _, .retAddr _]) dX12_work_61 rfl rfl (nI_inc k) rfl ?_
        refine s_goto (tgt := 2) dX12_work_64 (by decide) ?_
        rw [C.1.1 61 (by decide) (by decide)] at c29
        exact ih (k + 1) _ (by omega) (hP.sk (by simp [kvB, c29]))
theorem c_X12_work {N : Nat} {S : Nat → Nat × Nat} {I : Nat → Nat → Int32} {J : Nat → Nat → Int64} {Q : Nat → Nat → Option Nat} {κ : Option Value → HP → Prop} {D : Nat → Nat → Int32} {nv nr ns b : Nat} {th : Int32} (C : ST I D nv nr ns b th) {vj : Nat} (hvn : vj < nv) (hk : ∀ I', PW I I' D (nI b) (gM J b) th vj nr ns → κ none (N, S, I', up2 J 80 (10 * b + vj) (numF D (nI b) (gM J b) th vj nr ns), Q)) : CT E1 M_X12_work [.ref 54, .int (nI vj)] (N, S, I, J, Q) κ := by
  refine ofSP mk_X12_work (Nat.le_of_ble_eq_true rfl) (L := [.ref 54, .int _, .retAddr _, .retAddr _]) rfl ?_
  refine s_iconst (pc' := 1) (v := 0) dX12_work_0 rfl (by decide) ?_
  refine t_istore_n (pc' := 2) (L' := [.ref 54, .int _, .int _, .retAddr _]) dX12_work_1 rfl (Nat.le_of_ble_eq_true rfl) rfl ?_
  exact l_X12_work C (fun I0 h0 => by
      refine s_aload_n (pc' := 68) dX12_work_67 rfl rfl ?_
      refine s_iload_n (pc' := 69) dX12_work_68 rfl rfl ?_
      refine s_callV (pc' := 72) (As := [.int _]) dX12_work_69 rfl mk_X12_based ml_X12_258 im_X12_based se_X12_X12_X12_based sh_54 (by decide) rfl rfl rfl ⟨Nat.le_of_ble_eq_true rfl, Nat.le_of_ble_eq_true rfl, Nat.le_of_ble_eq_true rfl, Nat.le_of_ble_eq_true rfl⟩ (Nat.le_of_ble_eq_true rfl) (c_X12_based (C.mv h0.1) rfl hvn (fun I1 h1 => ?_))
      refine t_lstore_n (pc' := 73) (L' := [.ref 54, .int _, .long _, .retAddr _]) dX12_work_72 rfl (Nat.le_of_ble_eq_true rfl) rfl ?_
      refine s_lload_n (pc' := 74) dX12_work_73 rfl rfl ?_
      refine s_aload_n (pc' := 75) dX12_work_74 rfl rfl ?_
      refine s_iload_n (pc' := 76) dX12_work_75 rfl rfl ?_
      refine s_callV (pc' := 79) (As := [.int _]) dX12_work_76 rfl mk_X12_added ml_X12_261 im_X12_added se_X12_X12_X12_added sh_54 (by decide) rfl rfl rfl ⟨Nat.le_of_ble_eq_true rfl, Nat.le_of_ble_eq_true rfl, Nat.le_of_ble_eq_true rfl, Nat.le_of_ble_eq_true rfl⟩ (Nat.le_of_ble_eq_true rfl) (c_X12_added ((C.mv h0.1).mv h1.f) (fun I2 h2 => ?_))
      refine s_ladd (pc' := 80) dX12_work_79 rfl ?_
      refine t_lstore_n (pc' := 81) (L' := [.ref 54, .int _, .long _, .retAddr _]) dX12_work_80 rfl (Nat.le_of_ble_eq_true rfl) rfl ?_
      refine s_aload_n (pc' := 82) dX12_work_81 rfl rfl ?_
      refine s_iload_n (pc' := 83) dX12_work_82 rfl rfl ?_
      refine s_lload_n (pc' := 84) dX12_work_83 rfl rfl ?_
      refine s_callV (pc' := 87) (As := [.int _, .long _]) dX12_work_84 rfl mk_X12_capped ml_X12_264 im_X12_capped se_X12_X12_X12_capped sh_54 (by decide) rfl rfl rfl ⟨Nat.le_of_ble_eq_true rfl, Nat.le_of_ble_eq_true rfl, Nat.le_of_ble_eq_true rfl, Nat.le_of_ble_eq_true rfl⟩ (Nat.le_of_ble_eq_true rfl) (c_X12_capped (((C.mv h0.1).mv h1.f).mv h2.1) (fun I3 I4 h3 h4 => ?_))
      have C4 := ((((C.mv h0.1).mv h1.f).mv h2.1).mv h3.1).mv h4.1
      refine t_lstore_n (pc' := 88) (L' := [.ref 54, .int _, .long _, .retAddr _]) dX12_work_87 rfl (Nat.le_of_ble_eq_true rfl) rfl ?_
      have h86 : I4 86 = I1 86 ∧ I0 86 = I 86 := ⟨h4.2.2.2.trans (h3.2.2.2.trans h2.2.2.2), h0.2.2.2⟩
      refine s_aload_n (pc' := 89) dX12_work_88 rfl rfl ?_
      refine s_getS (pc' := 92) (b := 55) dX12_work_89 rfl (by decide) rfl (by decide) fa_X12_7_12 rfl rfl ?_
      refine s_iload_n (pc' := 93) dX12_work_92 rfl rfl ?_
      refine t_iald (pc' := 94) dX12_work_93 rfl sh_55 rfl (by have := C.1.2.1.nv; omega) ?_
      refine s_iconst (pc' := 95) (v := 2) dX12_work_94 rfl (by decide) ?_
      refine s_icmpne (pc' := 98) (tgt := 108) dX12_work_95 (by decide) rfl (fun c95 => ?_) (fun c95 => ?_)
      · refine s_aload_n (pc' := 109) dX12_work_108 rfl rfl ?_
        refine s_getS (pc' := 112) (b := 55) dX12_work_109 rfl (by decide) rfl (by decide) fa_X12_7_12 rfl rfl ?_
        refine s_iload_n (pc' := 113) dX12_work_112 rfl rfl ?_
        refine t_iald (pc' := 114) dX12_work_113 rfl sh_55 rfl (by have := C.1.2.1.nv; omega) ?_
        refine s_iconst (pc' := 115) (v := 4) dX12_work_114 rfl (by decide) ?_
        refine s_icmpne (pc' := 118) (tgt := 130) dX12_work_115 (by decide) rfl (fun c115 => ?_) (fun c115 => ?_)
        · refine s_aload_n (pc' := 131) dX12_work_130 rfl rfl ?_
          refine s_getS (pc' := 134) (b := 80) dX12_work_131 rfl (by decide) rfl (by decide) fa_X12_85_12 rfl rfl ?_
          refine s_bipush (pc' := 136) (v := 10) dX12_work_134 rfl (by decide) ?_
          refine s_aload_n (pc' := 137) dX12_work_136 rfl rfl ?_
          refine t_getI (pc' := 140) dX12_work_137 rfl sh_54 (by decide) fa_X12_228_12 rfl ?_
          refine s_imul (pc' := 141) dX12_work_140 rfl ?_
          refine s_iload_n (pc' := 142) dX12_work_141 rfl rfl ?_
          refine s_iadd (pc' := 143) dX12_work_142 rfl ?_
          refine s_lload_n (pc' := 144) dX12_work_143 rfl rfl ?_
          refine t_last (pc' := 145) (q := 10 * b + vj) dX12_work_144 rfl sh_80 (by rw [C4.1.2.2.1, ix10 C.1.2.2.2 (by have := C.1.2.1.nv; omega)]) (by have := C.1.2.1.nv; have := C.1.2.2.2; omega) ?_
          exact s_vret dX12_work_145 rfl (by decide) (by decide) (by have z := hk I4 (PW_of (ns := ns) (fun r hr => C.1.2.1.lst hr) h0 h1 h2 h3 h4 h86); rw [C4.1.1 55 (by decide) (by decide)] at c95 c115; unfold numF finN num2 num1 num0 at z; rw [if_neg c115, if_neg c95] at z; exact z)
        · refine s_lload_n (pc' := 119) dX12_work_118 rfl rfl ?_
          refine s_lconst (pc' := 120) (v := 0) dX12_work_119 rfl (by decide) ?_
          refine s_lcmp (pc' := 121) dX12_work_120 rfl ?_
          refine s_ifeq (pc' := 124) (tgt := 128) dX12_work_121 (by decide) rfl (fun c121 => ?_) (fun c121 => ?_)
          · refine s_lconst (pc' := 129) (v := 0) dX12_work_128 rfl (by decide) ?_
            refine t_lstore_n (pc' := 130) (L' := [.ref 54, .int _, .long _, .retAddr _]) dX12_work_129 rfl (Nat.le_of_ble_eq_true rfl) rfl ?_
            refine s_aload_n (pc' := 131) dX12_work_130 rfl rfl ?_
            refine s_getS (pc' := 134) (b := 80) dX12_work_131 rfl (by decide) rfl (by decide) fa_X12_85_12 rfl rfl ?_
            refine s_bipush (pc' := 136) (v := 10) dX12_work_134 rfl (by decide) ?_
            refine s_aload_n (pc' := 137) dX12_work_136 rfl rfl ?_
            refine t_getI (pc' := 140) dX12_work_137 rfl sh_54 (by decide) fa_X12_228_12 rfl ?_
            refine s_imul (pc' := 141) dX12_work_140 rfl ?_
            refine s_iload_n (pc' := 142) dX12_work_141 rfl rfl ?_
            refine s_iadd (pc' := 143) dX12_work_142 rfl ?_
            refine s_lload_n (pc' := 144) dX12_work_143 rfl rfl ?_
            refine t_last (pc' := 145) (q := 10 * b + vj) dX12_work_144 rfl sh_80 (by rw [C4.1.2.2.1, ix10 C.1.2.2.2 (by have := C.1.2.1.nv; omega)]) (by have := C.1.2.1.nv; have := C.1.2.2.2; omega) ?_
            exact s_vret dX12_work_145 rfl (by decide) (by decide) (by have z := hk I4 (PW_of (ns := ns) (fun r hr => C.1.2.1.lst hr) h0 h1 h2 h3 h4 h86); rw [C4.1.1 55 (by decide) (by decide)] at c95 c115; unfold numF finN num2 num1 num0 at z; rw [if_pos c115, if_pos ((lg_cmp_eq _ _).mp c121)] at z; exact z)
          · refine s_lconst (pc' := 125) (v := 1) dX12_work_124 rfl (by decide) ?_
            refine s_goto (tgt := 129) dX12_work_125 (by decide) ?_
            refine t_lstore_n (pc' := 130) (L' := [.ref 54, .int _, .long _, .retAddr _]) dX12_work_129 rfl (Nat.le_of_ble_eq_true rfl) rfl ?_
            refine s_aload_n (pc' := 131) dX12_work_130 rfl rfl ?_
            refine s_getS (pc' := 134) (b := 80) dX12_work_131 rfl (by decide) rfl (by decide) fa_X12_85_12 rfl rfl ?_
            refine s_bipush (pc' := 136) (v := 10) dX12_work_134 rfl (by decide) ?_
            refine s_aload_n (pc' := 137) dX12_work_136 rfl rfl ?_
            refine t_getI (pc' := 140) dX12_work_137 rfl sh_54 (by decide) fa_X12_228_12 rfl ?_
            refine s_imul (pc' := 141) dX12_work_140 rfl ?_
            refine s_iload_n (pc' := 142) dX12_work_141 rfl rfl ?_
            refine s_iadd (pc' := 143) dX12_work_142 rfl ?_
            refine s_lload_n (pc' := 144) dX12_work_143 rfl rfl ?_
            refine t_last (pc' := 145) (q := 10 * b + vj) dX12_work_144 rfl sh_80 (by rw [C4.1.2.2.1, ix10 C.1.2.2.2 (by have := C.1.2.1.nv; omega)]) (by have := C.1.2.1.nv; have := C.1.2.2.2; omega) ?_
            exact s_vret dX12_work_145 rfl (by decide) (by decide) (by have z := hk I4 (PW_of (ns := ns) (fun r hr => C.1.2.1.lst hr) h0 h1 h2 h3 h4 h86); rw [C4.1.1 55 (by decide) (by decide)] at c95 c115; unfold numF finN num2 num1 num0 at z; rw [if_pos c115, if_neg (fun y => c121 ((lg_cmp_eq _ _).mpr y))] at z; exact z)
      · refine s_lload_n (pc' := 99) dX12_work_98 rfl rfl ?_
        refine s_aload_n (pc' := 100) dX12_work_99 rfl rfl ?_
        refine s_getS (pc' := 103) (b := 59) dX12_work_100 rfl (by decide) rfl (by decide) fa_X12_22_12 rfl rfl ?_
        refine s_iload_n (pc' := 104) dX12_work_103 rfl rfl ?_
        refine t_iald (pc' := 105) dX12_work_104 rfl sh_59 rfl (by have := C.1.2.1.nv; omega) ?_
        refine s_i2l (pc' := 106) dX12_work_105 rfl ?_
        refine s_lsub (pc' := 107) dX12_work_106 rfl ?_
        refine t_lstore_n (pc' := 108) (L' := [.ref 54, .int _, .long _, .retAddr _]) dX12_work_107 rfl (Nat.le_of_ble_eq_true rfl) rfl ?_
        refine s_aload_n (pc' := 109) dX12_work_108 rfl rfl ?_
        refine s_getS (pc' := 112) (b := 55) dX12_work_109 rfl (by decide) rfl (by decide) fa_X12_7_12 rfl rfl ?_
        refine s_iload_n (pc' := 113) dX12_work_112 rfl rfl ?_
        refine t_iald (pc' := 114) dX12_work_113 rfl sh_55 rfl (by have := C.1.2.1.nv; omega) ?_
        refine s_iconst (pc' := 115) (v := 4) dX12_work_114 rfl (by decide) ?_
        refine s_icmpneT (tgt := 130) dX12_work_115 (by decide) (by rw [c95]; decide) ?_
        refine s_aload_n (pc' := 131) dX12_work_130 rfl rfl ?_
        refine s_getS (pc' := 134) (b := 80) dX12_work_131 rfl (by decide) rfl (by decide) fa_X12_85_12 rfl rfl ?_
        refine s_bipush (pc' := 136) (v := 10) dX12_work_134 rfl (by decide) ?_
        refine s_aload_n (pc' := 137) dX12_work_136 rfl rfl ?_
        refine t_getI (pc' := 140) dX12_work_137 rfl sh_54 (by decide) fa_X12_228_12 rfl ?_
        refine s_imul (pc' := 141) dX12_work_140 rfl ?_
        refine s_iload_n (pc' := 142) dX12_work_141 rfl rfl ?_
        refine s_iadd (pc' := 143) dX12_work_142 rfl ?_
        refine s_lload_n (pc' := 144) dX12_work_143 rfl rfl ?_
        refine t_last (pc' := 145) (q := 10 * b + vj) dX12_work_144 rfl sh_80 (by rw [C4.1.2.2.1, ix10 C.1.2.2.2 (by have := C.1.2.1.nv; omega)]) (by have := C.1.2.1.nv; have := C.1.2.2.2; omega) ?_
        exact s_vret dX12_work_145 rfl (by decide) (by decide) (by have z := hk I4 (PW_of (ns := ns) (fun r hr => C.1.2.1.lst hr) h0 h1 h2 h3 h4 h86); rw [C4.1.1 55 (by decide) (by decide)] at c95; unfold numF finN num2 num1 num0 at z; rw [if_neg (by rw [c95]; decide), if_pos c95, ← C4.1.1 59 (by decide) (by decide)] at z; exact z)
    ) nr 0 I (by omega) RW4.rf
