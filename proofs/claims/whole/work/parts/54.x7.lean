/-! ===== the reckoning of a sheet ===== -/
/-- the values in an order in which each comes after those that it needs, and the rules that write them -/
def AR (I : Nat → Nat → Int32) (D : Nat → Nat → Int32) (nv nr : Nat) (ord st : Nat → Nat) : Prop :=
  st 0 = 0 ∧ (∀ p, p < nv → ord p < nv ∧ I 29 p = nI (ord p) ∧ I 31 p = nI (st p) ∧ I 31 (p + 1) = nI (st (p + 1)) ∧ st (p + 1) = st p + cntB (kvB D (nI (ord p))) nr ∧ st (p + 1) ≤ 30 ∧ (∀ r, r < nr → kvB D (nI (ord p)) r = true → I 30 (st p + cntB (kvB D (nI (ord p))) r) = nI r) ∧ (∀ u, u < nv → bt (nd D nr (ord p)) u = true → ∃ q, q < p ∧ ord q = u) ∧ (∀ q, q < p → ord q ≠ ord p)) ∧ ∀ v, v < nv → ∃ p, p < nv ∧ ord p = v
theorem AR.mv {I I' : Nat → Nat → Int32} {D : Nat → Nat → Int32} {nv nr : Nat} {ord st : Nat → Nat} (h : AR I D nv nr ord st) (h1 : I' 29 = I 29) (h2 : I' 30 = I 30) (h3 : I' 31 = I 31) : AR I' D nv nr ord st := by
  unfold AR; rw [h1, h2, h3]; exact h
/-- value v is worked out -/
def LX (I' : Nat → Nat → Int32) (J' : Nat → Nat → Int64) (D : Nat → Nat → Int32) (x th : Int32) (nr ns v : Nat) : Prop :=
  J' 25 v = numF D x (J' 25) th v nr ns ∧ (∀ r, r < nr → kvB D (nI v) r = true → I' 27 r = hwF D x (J' 25) th v nr ns r ∧ I' 28 r = btF D x (J' 25) th v nr r ∧ J' 26 r = amt D (J' 25) r) ∧ bt (I' 24 5) v = qrS D x (J' 25) th (nI v) nr
def RI (I I' : Nat → Nat → Int32) (J J' : Nat → Nat → Int64) (Q Q' : Nat → Nat → Option Nat) (D : Nat → Nat → Int32) (x th : Int32) (nv nr ns : Nat) (ord st : Nat → Nat) (p : Nat) : Prop :=
  FR I I' Q Q' ∧ I' 24 4 = th ∧ (∀ a, a ≠ 25 → a ≠ 26 → J' a = J a) ∧ (∀ q, q < p → LX I' J' D x th nr ns (ord q)) ∧ (∀ u, u < nv → (∀ q, q < p → ord q ≠ u) → bt (I' 24 5) u = false) ∧ ∃ M, hb p (st p) M ∧ ∀ q, q < p → nb (J' 25 (ord q)) M
section XW
variable {I I' I1 I2 I3 I4 I5 I6 : Nat → Nat → Int32} {J J' J1 : Nat → Nat → Int64} {Q Q' Q1 : Nat → Nat → Option Nat} {D : Nat → Nat → Int32} {x th : Int32} {nv nr ns v p : Nat} {ad ord st : Nat → Nat}
theorem XW (hW : DW D nv nr ns) (e25 : J1 25 = J' 25) (g1 : GA I' I1 J' J1 Q' Q1 D x th (nI v) ad nr) (g2 : BP I1 I2 D x (J1 25) th v nr) (g3 : MK I2 I3 D x (J1 25) th (nI v) nr) (g4 : BT I3 I4 D x (J1 25) th (nI v) nr)
    (g5 : C1 I4 I5 D x (J1 25) th (nI v) 1 (num0 D x (J1 25) th (nI v) v nr ns) nr) (g6 : C1 I5 I6 D x (J1 25) th (nI v) 0 (num1 D x (J1 25) th (nI v) v nr ns) nr) :
    (∀ r, r < nr → kvB D (nI v) r = true → I6 27 r = hwF D x (J1 25) th v nr ns r ∧ I6 28 r = btF D x (J1 25) th v nr r) ∧ ∀ r, kvB D (nI v) r = false → I6 27 r = I' 27 r ∧ I6 28 r = I' 28 r := by
  have s2 : ∀ r, wk D x (J1 25) th r 2 (nI v) = false → I2 27 r = I1 27 r ∧ I2 28 r = I1 28 r := fun r h => g2.2.1.2 r (Or.inr h)
  have s3 : ∀ r, adB D x (J1 25) th r (nI v) = false → I3 27 r = I2 27 r ∧ I3 28 r = I2 28 r := fun r h => g3.2.1.2 r (Or.inr h)
  have s4 : ∀ r, adB D x (J1 25) th r (nI v) = false → I4 27 r = I3 27 r ∧ I4 28 r = I3 28 r := fun r h => g4.2.1.2 r (Or.inr h)
  have s5 : ∀ r, wk D x (J1 25) th r 3 (nI v) = false → I5 27 r = I4 27 r ∧ I5 28 r = I4 28 r := fun r h => g5.2.1.2 r (Or.inr (by unfold Wc; rw [h]; rfl))
  have s6 : ∀ r, wk D x (J1 25) th r 3 (nI v) = false → I6 27 r = I5 27 r ∧ I6 28 r = I5 28 r := fun r h => g6.2.1.2 r (Or.inr (by unfold Wc; rw [h]; rfl))
  constructor
  · intro r hr hk
    have k1 := g1.2.2.2.2.1 r hr hk
    rw [← e25] at k1
    unfold hwF btF
    cases w3 : wk D x (J1 25) th r 3 (nI v) with
    | true =>
      have wa := adB_ex w3 (by decide) (by decide)
      have w2 := wk_ex w3 (k' := 2) (by decide)
      have e4 : I4 28 r = -1 := by rw [(s4 r wa).2, (s3 r wa).2, (s2 r w2).2]; exact k1.2.1
      rw [wa, w2, if_pos rfl]
      rcases hW.lst hr with e | e
      · have n1 : ¬ D 65 r = 1 := by rw [e]; decide
        have f5 : I5 27 r = I4 27 r ∧ I5 28 r = I4 28 r := g5.2.1.2 r (Or.inr (by unfold Wc; rw [decide_eq_false n1, Bool.and_false]))
        have f6 := g6.2.1.1 r hr (by unfold Wc; rw [w3, e]; rfl)
        rw [if_neg n1]
        exact ⟨f6.1, by rw [f6.2, f5.2, e4]; rfl⟩
      · have n0 : ¬ D 65 r = 0 := by rw [e]; decide
        have f5 := g5.2.1.1 r hr (by unfold Wc; rw [w3, e]; rfl)
        have f6 : I6 27 r = I5 27 r ∧ I6 28 r = I5 28 r := g6.2.1.2 r (Or.inr (by unfold Wc; rw [decide_eq_false n0, Bool.and_false]))
        rw [if_pos e]
        exact ⟨by rw [f6.1]; exact f5.1, by rw [f6.2, f5.2, e4]; rfl⟩
    | false =>
      rw [(s6 r w3).1, (s6 r w3).2, (s5 r w3).1, (s5 r w3).2]
      cases wa : adB D x (J1 25) th r (nI v) with
      | true => have := g4.2.1.1 r hr wa; simpa using this
      | false =>
        rw [(s4 r wa).1, (s4 r wa).2, (s3 r wa).1, (s3 r wa).2]
        cases w2 : wk D x (J1 25) th r 2 (nI v) with
        | true => have := g2.2.1.1 r hr w2; simpa using this
        | false =>
          rw [(s2 r w2).1, (s2 r w2).2, k1.1, k1.2.1]
          refine ⟨?_, by simp⟩
          simp only [Bool.false_eq_true, if_false]
          by_cases hb1 : bitI th (nI r) = 1
          · rw [if_pos hb1, if_pos hb1]
            by_cases hh : hB D x (J1 25) r = true
            · exfalso
              have hp := Pv_of hk hb1 hh
              obtain ⟨k, hk6, ek⟩ := (hW.2.1 r hr).1
              have h3 := (kv_inv hk).1
              rw [ek] at h3
              have hk3 : k ≤ 3 := (nI_leI (b := 3) (by omega) (by decide)).mp h3
              rcases (show k = 0 ∨ k = 1 ∨ k = 2 ∨ k = 3 by omega) with z | z | z | z <;> rw [z] at ek
              · have := Pv_wk hp (c := 0) ek; unfold adB at wa; rw [this] at wa; cases wa
              · have := Pv_wk hp (c := 1) ek; unfold adB at wa; rw [this, Bool.or_true] at wa; cases wa
              · have := Pv_wk hp (c := 2) ek; rw [this] at w2; cases w2
              · have := Pv_wk hp (c := 3) ek; rw [this] at w3; cases w3
            · rw [if_neg hh]
          · rw [if_neg hb1, if_neg hb1]
  · intro r hk
    have hp : Pv D x (J1 25) th (nI v) r = false := Pv_no hk
    have w2 := wk_nP (c := 2) (by decide) hp
    have w3 := wk_nP (c := 3) (by decide) hp
    have wa := adB_nP hp
    have k1 := g1.2.2.2.2.2.1 r (Or.inr hk)
    rw [(s6 r w3).1, (s6 r w3).2, (s5 r w3).1, (s5 r w3).2, (s4 r wa).1, (s4 r wa).2, (s3 r wa).1, (s3 r wa).2, (s2 r w2).1, (s2 r w2).2]
    exact ⟨k1.1, k1.2.1⟩
theorem RI.step (hW : DW D nv nr ns) (A : AR I D nv nr ord st) (hp : p < nv) (h : RI I I' J J' Q Q' D x th nv nr ns ord st p) (g1 : GA I' I1 J' J1 Q' Q1 D x th (nI (ord p)) ad nr) (g2 : BP I1 I2 D x (J1 25) th (ord p) nr) (g3 : MK I2 I3 D x (J1 25) th (nI (ord p)) nr) (g4 : BT I3 I4 D x (J1 25) th (nI (ord p)) nr)
    (g5 : C1 I4 I5 D x (J1 25) th (nI (ord p)) 1 (num0 D x (J1 25) th (nI (ord p)) (ord p) nr ns) nr) (g6 : C1 I5 I6 D x (J1 25) th (nI (ord p)) 0 (num1 D x (J1 25) th (nI (ord p)) (ord p) nr ns) nr) :
    RI I I6 J (up2 J1 25 (ord p) (numF D x (J1 25) th (ord p) nr ns)) Q Q1 D x th nv nr ns ord st (p + 1) := by
  obtain ⟨h1, h2, h3, h4, h5, M, h6, h7⟩ := h
  obtain ⟨a1, a2, a3, a4, a5, a6, a7, a8, a9⟩ := A.2.1 p hp
  have hn10 := hW.nv
  have e25 : J1 25 = J' 25 := g1.2.2.2.2.2.2 25 (by decide)
  have xw := XW hW e25 g1 g2 g3 g4 g5 g6
  have fh : FH I1 I6 := (((g2.1.tr g3.1).tr g4.1).tr g5.1).tr g6.1
  -- the new numbers and the old ones
  have hag : ∀ u, u < nv → (∀ w, w < nv → bt (nd D nr u) w = true → w ≠ ord p) → AG D x (nI u) nr (J1 25) ((up2 J1 25 (ord p) (numF D x (J1 25) th (ord p) nr ns)) 25) := fun u _ hu => AG_of hW (fun w hw hb => by rw [up2_e (hu w hw hb)])
  have hq5 : I6 24 5 = (if qrS D x (J1 25) th (nI (ord p)) nr = true then I' 24 5 ||| ((1 : Int32) <<< (nI (ord p) &&& 31)) else I' 24 5) := by
    rw [g6.2.2, g5.2.2, g4.2.2, g3.2.2.1, g2.2.2, g1.2.1 5 (by decide)]
  have hb5 : ∀ u, u < nv → bt (I6 24 5) u = (if u = ord p then (bt (I' 24 5) u || qrS D x (J1 25) th (nI (ord p)) nr) else bt (I' 24 5) u) := fun u hu => by
    rw [hq5]
    cases hq : qrS D x (J1 25) th (nI (ord p)) nr with
    | true =>
      rw [if_pos rfl, b_or, bt_one (by omega) (by omega)]
      by_cases e : u = ord p
      · rw [if_pos e, decide_eq_true e]
      · rw [if_neg e, decide_eq_false e, Bool.or_false]
    | false =>
      simp
  have hself : ∀ w, w < nv → bt (nd D nr (ord p)) w = true → w ≠ ord p := fun w hw hb e => by
    obtain ⟨q, q1, q2⟩ := a8 w hw hb
    exact a9 q q1 (q2.trans e)
  refine ⟨?_, ?_, ?_, fun q hq => ?_, fun u hu hne => ?_, ?_⟩
  · exact (h1.tr g1.1).tr fh.fr
  · rw [fh.2 4 (by decide), g1.2.1 4 (by decide)]; exact h2
  · intro a b1 b2; rw [up2_o b1, g1.2.2.2.2.2.2 a b2]; exact h3 a b1 b2
  · by_cases e : q = p
    · subst e
      have ag := hag (ord q) a1 hself
      refine ⟨by rw [up2_s]; exact ag.numF, fun r hr hk => ?_, ?_⟩
      · obtain ⟨x1, x2⟩ := xw.1 r hr hk
        rw [← ag.hwF hr, ← ag.btF hr, ← ag.am hr hk, up2_o (by decide)]
        refine ⟨x1, x2, ?_⟩
        rw [e25]; exact (g1.2.2.2.2.1 r hr hk).2.2
      · rw [hb5 _ a1, if_pos rfl, h5 _ a1 a9, Bool.false_or]
        exact ag.qrS
    · have hqp : q < p := by omega
      obtain ⟨b1, -, -, -, -, -, -, b8, b9⟩ := A.2.1 q (by omega)
      have hne : ord q ≠ ord p := a9 q hqp
      have ag := hag (ord q) b1 (fun w hw hb e => by
        obtain ⟨z, z1, z2⟩ := b8 w hw hb
        exact a9 z (by omega) (z2.trans e))
      obtain ⟨l1, l2, l3⟩ := h4 q hqp
      rw [← e25] at l1 l2 l3
      refine ⟨?_, fun r hr hk => ?_, ?_⟩
      · rw [up2_e hne, l1]; exact ag.numF
      · have hkp : kvB D (nI (ord p)) r = false := by
          cases hc : kvB D (nI (ord p)) r with
          | false => rfl
          | true => exact absurd ((nI_eq (by omega) (by omega)).mp ((kv_inv hk).2.symm.trans (kv_inv hc).2)) hne
        obtain ⟨y1, y2, y3⟩ := l2 r hr hk
        obtain ⟨x1, x2⟩ := xw.2 r hkp
        rw [← ag.hwF hr, ← ag.btF hr, ← ag.am hr hk, up2_o (by decide), x1, x2, (g1.2.2.2.2.2.1 r (Or.inr hkp)).2.2]
        exact ⟨y1, y2, y3⟩
      · rw [hb5 _ b1, if_neg hne, l3]; exact ag.qrS
  · rw [hb5 u hu, if_neg (fun e => hne p (by omega) e.symm)]
    exact h5 u hu (fun q hq => hne q (by omega))
  · have hst : st p + cntB (kvB D (nI (ord p))) nr ≤ 30 := by rw [← a5]; exact a6
    obtain ⟨s1, s2⟩ := hb_step h6 hst
    rw [← a5] at s1 s2
    have hlt := hb_lt s1 (by omega) a6
    have hM : ∀ r, r < nr → kvB D (nI (ord p)) r = true → ∀ o, o < nv → D 67 r = nI o → nb ((J1 25) o) M := fun r hr hk o ho e => by
      obtain ⟨q, q1, q2⟩ := a8 o ho (nd_mem (kv_inv hk) ((rb_bits hW hr (by omega)).mpr (Or.inr e)) nr hr)
      rw [e25, ← q2]; exact h7 q q1
    have hnum := (numF_nb (x := x) (g := J1 25) (th := th) hW a1 hM hlt).1
    refine ⟨max M (640000 + 5 * cntB (kvB D (nI (ord p))) nr * M), ?_, fun q hq => ?_⟩
    · rcases Nat.le_total M (640000 + 5 * cntB (kvB D (nI (ord p))) nr * M) with z | z
      · rw [Nat.max_eq_right z]; exact s1
      · rw [Nat.max_eq_left z]; exact s2
    · by_cases e : q = p
      · subst e; rw [up2_s]; exact hnum.mono (Nat.le_max_right _ _)
      · rw [up2_e (a9 q (by omega)), e25]; exact (h7 q (by omega)).mono (Nat.le_max_left _ _)
/-- amounts are never the least long -/
theorem RI.min (hW : DW D nv nr ns) (A : AR I D nv nr ord st) (hp : p < nv) (h : RI I I' J J' Q Q' D x th nv nr ns ord st p) (e25 : J1 25 = J' 25) : ∀ r, r < nr → kvB D (nI (ord p)) r = true → amt D (J1 25) r ≠ Int64.minValue := by
  obtain ⟨h1, h2, h3, h4, h5, M, h6, h7⟩ := h
  obtain ⟨a1, a2, a3, a4, a5, a6, a7, a8, a9⟩ := A.2.1 p hp
  have hn10 := hW.nv
  have hst : st p + cntB (kvB D (nI (ord p))) nr ≤ 30 := by rw [← a5]; exact a6
  obtain ⟨s1, -⟩ := hb_step h6 hst
  rw [← a5] at s1
  have hlt := hb_lt s1 (by omega) a6
  have hM : ∀ r, r < nr → kvB D (nI (ord p)) r = true → ∀ o, o < nv → D 67 r = nI o → nb ((J1 25) o) M := fun r hr hk o ho e => by
    obtain ⟨q, q1, q2⟩ := a8 o ho (nd_mem (kv_inv hk) ((rb_bits hW hr (by omega)).mpr (Or.inr e)) nr hr)
    rw [e25, ← q2]; exact h7 q q1
  intro r hr hk
  obtain ⟨z1, z2⟩ := (numF_nb (x := x) (g := J1 25) (th := th) hW a1 hM hlt).2 r hr hk
  exact nb_min z1 (by omega)
/-- what reckon() leaves -/
def RD (I I' : Nat → Nat → Int32) (J J' : Nat → Nat → Int64) (Q Q' : Nat → Nat → Option Nat) (D : Nat → Nat → Int32) (x : Int32) (nv nr ns : Nat) : Prop :=
  FR I I' Q Q' ∧ I' 24 4 = thS D x nr ∧ (∀ a, a ≠ 25 → a ≠ 26 → J' a = J a) ∧ (∀ v, v < nv → LX I' J' D x (thS D x nr) nr ns v) ∧ (∀ c, c < 8 → bt (I' 24 6) c = opn D x (J' 25) (thS D x nr) (nI c) nr) ∧ ∀ v, v < nv → nb (J' 25 v) (2 ^ 60)
theorem RD_of {y : Int32} (hW : DW D nv nr ns) (A : AR I D nv nr ord st) (ht : th = thS D x nr) (h : RI I I' J J' Q Q' D x th nv nr ns ord st nv) (hy : ∀ c, c < 8 → bt y c = opn D x (J' 25) th (nI c) nr) : RD I (up2 I' 24 6 y) J J' Q Q' D x nv nr ns := by
  subst ht
  obtain ⟨h1, h2, h3, h4, h5, M, h6, h7⟩ := h
  have hn10 := hW.nv
  have hM : M < 2 ^ 60 := by
    refine hb_lt h6 (by omega) ?_
    rcases Nat.eq_zero_or_pos nv with z | z
    · rw [z, A.1]; omega
    · have := (A.2.1 (nv - 1) (by omega)).2.2.2.2.2.1
      rw [show nv - 1 + 1 = nv by omega] at this; exact this
  refine ⟨h1.up (by decide), by rw [up2_e (by decide)]; exact h2, h3, fun v hv => ?_, fun c hc => by rw [up2_s]; exact hy c hc, fun v hv => ?_⟩
  · obtain ⟨p, p1, rfl⟩ := A.2.2 v hv
    obtain ⟨l1, l2, l3⟩ := h4 p p1
    refine ⟨l1, fun r hr hk => ?_, by rw [up2_e (by decide)]; exact l3⟩
    rw [up2_d (by decide), up2_d (by decide)]; exact l2 r hr hk
  · obtain ⟨p, p1, rfl⟩ := A.2.2 v hv
    exact (h7 p p1).mono (by omega)
end XW
theorem l_X5_reckon {N : Nat} {S : Nat → Nat × Nat} {I : Nat → Nat → Int32} {J : Nat → Nat → Int64} {Q : Nat → Nat → Option Nat} {κ : Option Value → HP → Prop} {D : Nat → Nat → Int32} {nv nr ns : Nat} {ad td : Nat → Nat} (X : XS N S I Q D nv nr ns ad td 0) (hW : DW D nv nr ns) {ord st : Nat → Nat} (A : AR I D nv nr ord st) {x : Int32} {th : Int32} (ht : th = thS D x nr) (hk : ∀ I' J' Q', RD I I' J J' Q Q' D x nv nr ns → κ none (N, S, I', J', Q')) : ∀ d : Nat, ∀ p I' J' Q', p + d = nv → RI I I' J J' Q Q' D x th nv nr ns ord st p → SP E1 M_X5_reckon κ 17 [.ref 24, .ref 1, .int x, .int (nI p), .retAddr 0, .retAddr 0, .retAddr 0] [] (N, S, I', J', Q') 0 0 := by
  intro d
  induction d with
  | zero =>
    intro p I' J' Q' hd hP
    have X2 := X.fr hP.1
    have hn10 := hW.nv
    have hn30 := hW.nr
    obtain rfl : p = nv := by omega
    refine s_iload_n (pc' := 18) dX5_reckon_17 rfl rfl ?_
    refine s_aload_n (pc' := 19) dX5_reckon_18 rfl rfl ?_
    refine t_getI (pc' := 22) dX5_reckon_19 rfl sh_1 (by decide) fa_X5_62_8 rfl ?_
    refine s_icmpgeT (tgt := 154) dX5_reckon_22 (by decide) (by rw [X2.xv]; exact nI_le (Nat.le_refl _) (by omega)) ?_
    refine s_aload_n (pc' := 155) dX5_reckon_154 rfl rfl ?_
    refine s_aload_n (pc' := 156) dX5_reckon_155 rfl rfl ?_
    refine s_aload_n (pc' := 157) dX5_reckon_156 rfl rfl ?_
    refine s_iload_n (pc' := 158) dX5_reckon_157 rfl rfl ?_
    refine s_callV (pc' := 161) (As := [.ref 1, .int _]) dX5_reckon_158 rfl mk_X5_openedOn ml_X5_126 im_X5_openedOn se_X5_X5_X5_openedOn sh_24 (by decide) rfl rfl rfl ⟨Nat.le_of_ble_eq_true rfl, Nat.le_of_ble_eq_true rfl, Nat.le_of_ble_eq_true rfl, Nat.le_of_ble_eq_true rfl⟩ (Nat.le_of_ble_eq_true rfl) (c_X5_openedOn X2 hW hP.2.1 (fun y hy => ?_))
    refine t_putI (pc' := 164) dX5_reckon_161 rfl sh_24 (by decide) fa_X5_32_5 (Or.inl rfl) rfl rfl rfl ?_
    exact s_vret dX5_reckon_164 rfl (by decide) (by decide) (hk _ J' Q' (RD_of hW A ht hP hy))
  | succ d ih =>
    intro p I' J' Q' hd hP
    have X2 := X.fr hP.1
    have hn10 := hW.nv
    have hn30 := hW.nr
    have hp : p < nv := by omega
    obtain ⟨a1, a2, a3, a4, a5, a6, a7, a8, a9⟩ := A.2.1 p hp
    have e29 : I' 29 p = nI (ord p) := by rw [hP.1.2.1]; exact a2
    have e31a : I' 31 p = nI (st p) := by rw [hP.1.2.2.2.1]; exact a3
    have e31b : I' 31 (p + 1) = nI (st p + cntB (kvB D (nI (ord p))) nr) := by rw [hP.1.2.2.2.1, a4, a5]
    have hst : st p + cntB (kvB D (nI (ord p))) nr ≤ 30 := by rw [← a5]; exact a6
    have hpl : ∀ r, r < nr → kvB D (nI (ord p)) r = true → I' 30 (st p + cntB (kvB D (nI (ord p))) r) = nI r := fun r hr hk => by rw [hP.1.2.2.1]; exact a7 r hr hk
    refine s_iload_n (pc' := 18) dX5_reckon_17 rfl rfl ?_
    refine s_aload_n (pc' := 19) dX5_reckon_18 rfl rfl ?_
    refine t_getI (pc' := 22) dX5_reckon_19 rfl sh_1 (by decide) fa_X5_62_8 rfl ?_
    refine s_icmpgeF (pc' := 25) (tgt := 154) dX5_reckon_22 (by decide) rfl (by rw [X2.xv]; exact nI_ge (by omega) (by omega)) ?_
    refine s_aload_n (pc' := 26) dX5_reckon_25 rfl rfl ?_
    refine s_getS (pc' := 29) (b := 29) dX5_reckon_26 rfl (by decide) rfl (by decide) fa_X5_35_5 rfl rfl ?_
    refine s_iload_n (pc' := 30) dX5_reckon_29 rfl rfl ?_
    refine t_iald (pc' := 31) dX5_reckon_30 rfl sh_29 rfl (by omega) ?_
    rw [e29]
    refine t_istore (pc' := 33) (L' := [.ref 24, .ref 1, .int _, .int _, .int _, .retAddr _, .retAddr _]) dX5_reckon_31 rfl (Nat.le_of_ble_eq_true rfl) rfl ?_
    refine s_aload_n (pc' := 34) dX5_reckon_33 rfl rfl ?_
    refine s_aload_n (pc' := 35) dX5_reckon_34 rfl rfl ?_
    refine s_iload_n (pc' := 36) dX5_reckon_35 rfl rfl ?_
    refine s_aload_n (pc' := 37) dX5_reckon_36 rfl rfl ?_
    refine s_getS (pc' := 40) (b := 31) dX5_reckon_37 rfl (by decide) rfl (by decide) fa_X5_41_5 rfl rfl ?_
    refine s_iload_n (pc' := 41) dX5_reckon_40 rfl rfl ?_
    refine t_iald (pc' := 42) dX5_reckon_41 rfl sh_31 rfl (by omega) ?_
    rw [e31a]
    refine s_aload_n (pc' := 43) dX5_reckon_42 rfl rfl ?_
    refine s_getS (pc' := 46) (b := 31) dX5_reckon_43 rfl (by decide) rfl (by decide) fa_X5_41_5 rfl rfl ?_
    refine s_iload_n (pc' := 47) dX5_reckon_46 rfl rfl ?_
    refine s_iconst (pc' := 48) (v := 1) dX5_reckon_47 rfl (by decide) ?_
    refine s_iadd (pc' := 49) dX5_reckon_48 rfl ?_
    refine t_iald (pc' := 50) (q := p + 1) dX5_reckon_49 rfl sh_31 (nI_1 p) (by omega) ?_
    rw [e31b]
    refine s_callV (pc' := 53) (As := [.ref 1, .int _, .int _, .int _]) dX5_reckon_50 rfl mk_X5_gather ml_X5_93 im_X5_gather se_X5_X5_X5_gather sh_24 (by decide) rfl rfl rfl ⟨Nat.le_of_ble_eq_true rfl, Nat.le_of_ble_eq_true rfl, Nat.le_of_ble_eq_true rfl, Nat.le_of_ble_eq_true rfl⟩ (Nat.le_of_ble_eq_true rfl) (c_X5_gather X2 hW (v := ord p) (s := st p) (th := th) (by omega) hP.2.1 hst hpl (fun I1 J1 Q1 g1 => ?_))
    have e25 : J1 25 = J' 25 := g1.2.2.2.2.2.2 25 (by decide)
    have X3 := X2.fr g1.1
    have G1 : GS I1 Q1 D x (J1 25) th (nI (ord p)) nr ad := ⟨by rw [e25]; exact g1.2.2.1, by rw [e25]; exact g1.2.2.2.1⟩
    have hA1 : ∀ r, r < nr → Pv D x (J1 25) th (nI (ord p)) r = true → J1 26 r = amt D (J1 25) r := fun r hr hp => by rw [e25]; exact (g1.2.2.2.2.1 r hr (Pv_kv hp)).2.2
    have h21 : ∀ r, r < nr → Pv D x (J1 25) th (nI (ord p)) r = true → I1 27 r = 2 ∧ I1 28 r = -1 := fun r hr hp => by
      have z := g1.2.2.2.2.1 r hr (Pv_kv hp)
      rw [← e25] at z
      simp only [Pv, Bool.and_eq_true, decide_eq_true_eq] at hp
      rw [if_pos hp.2.1, if_pos hp.2.2] at z
      exact ⟨z.1, z.2.1⟩
    refine s_aload_n (pc' := 54) dX5_reckon_53 rfl rfl ?_
    refine s_aload_n (pc' := 55) dX5_reckon_54 rfl rfl ?_
    refine s_iload (pc' := 57) dX5_reckon_55 rfl rfl ?_
    refine s_callV (pc' := 60) (As := [.ref 1, .int _]) dX5_reckon_57 rfl mk_X5_baseOrSet ml_X5_97 im_X5_baseOrSet se_X5_X5_X5_baseOrSet sh_24 (by decide) rfl rfl rfl ⟨Nat.le_of_ble_eq_true rfl, Nat.le_of_ble_eq_true rfl, Nat.le_of_ble_eq_true rfl, Nat.le_of_ble_eq_true rfl⟩ (Nat.le_of_ble_eq_true rfl) (c_X5_baseOrSet X3 hW (v := ord p) a1 G1 hA1 h21 (fun I2 g2 => ?_))
    have X4 := X3.fr (Q' := Q1) g2.1.fr
    have G2 := G1.fh g2.1
    have h22 : ∀ r, r < nr → adB D x (J1 25) th r (nI (ord p)) = true → I2 27 r = 2 ∧ I2 28 r = -1 := fun r hr ha => by
      have hz : wk D x (J1 25) th r 2 (nI (ord p)) = false := by
        cases hw : wk D x (J1 25) th r 2 (nI (ord p)) with
        | false => rfl
        | true => rw [adB_ex hw (by decide) (by decide)] at ha; cases ha
      rw [(g2.2.1.2 r (Or.inr hz)).1, (g2.2.1.2 r (Or.inr hz)).2]
      exact h21 r hr (adB_Pv ha)
    refine t_lstore (pc' := 62) (L' := [.ref 24, .ref 1, .int _, .int _, .int _, .long _, .retAddr _]) dX5_reckon_60 rfl (Nat.le_of_ble_eq_true rfl) rfl ?_
    refine s_aload_n (pc' := 63) dX5_reckon_62 rfl rfl ?_
    refine s_callV (pc' := 66) (As := []) dX5_reckon_63 rfl mk_X5_markTwice ml_X5_101 im_X5_markTwice se_X5_X5_X5_markTwice sh_24 (by decide) rfl rfl rfl ⟨Nat.le_of_ble_eq_true rfl, Nat.le_of_ble_eq_true rfl, Nat.le_of_ble_eq_true rfl, Nat.le_of_ble_eq_true rfl⟩ (Nat.le_of_ble_eq_true rfl) (c_X5_markTwice X4 hW a1 G2 h22 (fun I3 g3 => ?_))
    have X5 := X4.fr (Q' := Q1) g3.1.fr
    have G3 := G2.fh g3.1
    refine s_aload_n (pc' := 67) dX5_reckon_66 rfl rfl ?_
    refine s_aload_n (pc' := 68) dX5_reckon_67 rfl rfl ?_
    refine s_callV (pc' := 71) (As := [.ref 1]) dX5_reckon_68 rfl mk_X5_beatTyped ml_X5_104 im_X5_beatTyped se_X5_X5_X5_beatTyped sh_24 (by decide) rfl rfl rfl ⟨Nat.le_of_ble_eq_true rfl, Nat.le_of_ble_eq_true rfl, Nat.le_of_ble_eq_true rfl, Nat.le_of_ble_eq_true rfl⟩ (Nat.le_of_ble_eq_true rfl) (c_X5_beatTyped X5 hW a1 G3 hA1 (fun r hr ha => g3.2.1.1 r hr ha) (fun r hr hp2 => hP.min hW A hp e25 r hr (Pv_kv hp2)) (fun I4 g4 => ?_))
    have X6 := X5.fr (Q' := Q1) g4.1.fr
    have G4 := G3.fh g4.1
    refine s_aload_n (pc' := 72) dX5_reckon_71 rfl rfl ?_
    refine s_lload (pc' := 74) dX5_reckon_72 rfl rfl ?_
    refine s_aload_n (pc' := 75) dX5_reckon_74 rfl rfl ?_
    refine s_callV (pc' := 78) (As := []) dX5_reckon_75 rfl mk_X5_boons ml_X5_108 im_X5_boons se_X5_X5_X5_boons sh_24 (by decide) rfl rfl rfl ⟨Nat.le_of_ble_eq_true rfl, Nat.le_of_ble_eq_true rfl, Nat.le_of_ble_eq_true rfl, Nat.le_of_ble_eq_true rfl⟩ (Nat.le_of_ble_eq_true rfl) (c_X5_boons X6 hW a1 G4 hA1 (fun r hr ha => (g4.2.1.1 r hr ha).1) ?_)
    refine s_ladd (pc' := 79) dX5_reckon_78 rfl ?_
    refine s_aload_n (pc' := 80) dX5_reckon_79 rfl rfl ?_
    refine s_iload (pc' := 82) dX5_reckon_80 rfl rfl ?_
    refine s_callV (pc' := 85) (As := [.int _]) dX5_reckon_82 rfl mk_X8_spellsOn ml_X5_112 im_X8_spellsOn se_X8_X8_X8_spellsOn sh_1 (by decide) rfl rfl rfl ⟨Nat.le_of_ble_eq_true rfl, Nat.le_of_ble_eq_true rfl, Nat.le_of_ble_eq_true rfl, Nat.le_of_ble_eq_true rfl⟩ (Nat.le_of_ble_eq_true rfl) (c_X8_spellsOn X6 hW ?_)
    refine s_ladd (pc' := 86) dX5_reckon_85 rfl ?_
    rw [show basedV D x (J1 25) th (nI (ord p)) (ord p) nr + adS D x (J1 25) th (nI (ord p)) nr nr + spA D (nI (ord p)) 0 ns = num0 D x (J1 25) th (nI (ord p)) (ord p) nr ns by unfold num0; rw [spA_add (a := adS D x (J1 25) th (nI (ord p)) nr nr), Int64.add_assoc]]
    refine s_callV (pc' := 89) (As := [.long _]) dX5_reckon_86 rfl mk_X5_capped ml_X5_116 im_X5_capped se_X5_X5_X5_capped sh_24 (by decide) rfl rfl rfl ⟨Nat.le_of_ble_eq_true rfl, Nat.le_of_ble_eq_true rfl, Nat.le_of_ble_eq_true rfl, Nat.le_of_ble_eq_true rfl⟩ (Nat.le_of_ble_eq_true rfl) (c_X5_capped X6 hW a1 G4 hA1 (fun I5 I6 g5 g6 => ?_))
    have X7 := X6.fr (Q' := Q1) (g5.1.tr g6.1).fr
    have hvv := X7.2.1 (ord p) a1
    refine t_lstore (pc' := 91) (L' := [.ref 24, .ref 1, .int _, .int _, .int _, .long _, .retAddr _]) dX5_reckon_89 rfl (Nat.le_of_ble_eq_true rfl) rfl ?_
    refine s_aload_n (pc' := 92) dX5_reckon_91 rfl rfl ?_
    refine s_getS (pc' := 95) (b := 2) dX5_reckon_92 rfl (by decide) rfl (by decide) fa_X5_120_8 rfl rfl ?_
    refine s_iload (pc' := 97) dX5_reckon_95 rfl rfl ?_
    refine t_iald (pc' := 98) dX5_reckon_97 rfl sh_2 rfl (by omega) ?_
    refine s_iconst (pc' := 99) (v := 2) dX5_reckon_98 rfl (by decide) ?_
    refine s_icmpne (pc' := 102) (tgt := 118) dX5_reckon_99 (by decide) rfl (fun c99 => ?_) (fun c99 => ?_)
    · refine s_aload_n (pc' := 119) dX5_reckon_118 rfl rfl ?_
      refine s_getS (pc' := 122) (b := 2) dX5_reckon_119 rfl (by decide) rfl (by decide) fa_X5_120_8 rfl rfl ?_
      refine s_iload (pc' := 124) dX5_reckon_122 rfl rfl ?_
      refine t_iald (pc' := 125) dX5_reckon_124 rfl sh_2 rfl (by omega) ?_
      refine s_iconst (pc' := 126) (v := 4) dX5_reckon_125 rfl (by decide) ?_
      refine s_icmpne (pc' := 129) (tgt := 139) dX5_reckon_126 (by decide) rfl (fun c126 => ?_) (fun c126 => ?_)
      · refine s_aload_n (pc' := 140) dX5_reckon_139 rfl rfl ?_
        refine s_getS (pc' := 143) (b := 25) dX5_reckon_140 rfl (by decide) rfl (by decide) fa_X5_9_5 rfl rfl ?_
        refine s_iload (pc' := 145) dX5_reckon_143 rfl rfl ?_
        refine s_lload (pc' := 147) dX5_reckon_145 rfl rfl ?_
        refine t_last (pc' := 148) dX5_reckon_147 rfl sh_25 rfl (by omega) ?_
        refine t_iinc (pc' := 151) (v := nI (p + 1)) (L' := [.ref 24, .ref 1, .int _, .int _, .int _, .long _, .retAddr _]) dX5_reckon_148 rfl rfl (nI_inc p) rfl ?_
        refine s_goto (tgt := 17) dX5_reckon_151 (by decide) ?_
        rw [hvv.1] at c99
        rw [hvv.1] at c126
        have hfin : numF D x (J1 25) th (ord p) nr ns = (num2 D x (J1 25) th (nI (ord p)) (ord p) nr ns) := by unfold numF finN; rw [if_neg c126, if_neg c99]
        refine s_eq rfl rfl ?_ (s_fg [4, 5] rfl (ih (p + 1) _ _ _ (by omega) (hP.step hW A hp g1 g2 g3 g4 g5 g6)))
        first | (rw [hfin]; done) | (rw [hfin]; rfl)
      · refine s_lload (pc' := 131) dX5_reckon_129 rfl rfl ?_
        refine s_lconst (pc' := 132) (v := 0) dX5_reckon_131 rfl (by decide) ?_
        refine s_lcmp (pc' := 133) dX5_reckon_132 rfl ?_
        refine s_ifeq (pc' := 136) (tgt := 139) dX5_reckon_133 (by decide) rfl (fun c133 => ?_) (fun c133 => ?_)
        · refine s_aload_n (pc' := 140) dX5_reckon_139 rfl rfl ?_
          refine s_getS (pc' := 143) (b := 25) dX5_reckon_140 rfl (by decide) rfl (by decide) fa_X5_9_5 rfl rfl ?_
          refine s_iload (pc' := 145) dX5_reckon_143 rfl rfl ?_
          refine s_lload (pc' := 147) dX5_reckon_145 rfl rfl ?_
          refine t_last (pc' := 148) dX5_reckon_147 rfl sh_25 rfl (by omega) ?_
          refine t_iinc (pc' := 151) (v := nI (p + 1)) (L' := [.ref 24, .ref 1, .int _, .int _, .int _, .long _, .retAddr _]) dX5_reckon_148 rfl rfl (nI_inc p) rfl ?_
          refine s_goto (tgt := 17) dX5_reckon_151 (by decide) ?_
          rw [hvv.1] at c99
          rw [hvv.1] at c126
          replace c126 : D 55 (ord p) = 4 := by simpa using c126
          rw [lg_cmp_eq] at c133
          replace c133 : (num2 D x (J1 25) th (nI (ord p)) (ord p) nr ns) = 0 := c133
          have hfin : numF D x (J1 25) th (ord p) nr ns = (num2 D x (J1 25) th (nI (ord p)) (ord p) nr ns) := by unfold numF finN; rw [if_pos c126, if_pos c133, c133]
          refine s_eq rfl rfl ?_ (s_fg [4, 5] rfl (ih (p + 1) _ _ _ (by omega) (hP.step hW A hp g1 g2 g3 g4 g5 g6)))
          first | (rw [hfin]; done) | (rw [hfin]; rfl)
        · refine s_lconst (pc' := 137) (v := 1) dX5_reckon_136 rfl (by decide) ?_
          refine t_lstore (pc' := 139) (L' := [.ref 24, .ref 1, .int _, .int _, .int _, .long _, .retAddr _]) dX5_reckon_137 rfl (Nat.le_of_ble_eq_true rfl) rfl ?_
          refine s_aload_n (pc' := 140) dX5_reckon_139 rfl rfl ?_
          refine s_getS (pc' := 143) (b := 25) dX5_reckon_140 rfl (by decide) rfl (by decide) fa_X5_9_5 rfl rfl ?_
          refine s_iload (pc' := 145) dX5_reckon_143 rfl rfl ?_
          refine s_lload (pc' := 147) dX5_reckon_145 rfl rfl ?_
          refine t_last (pc' := 148) dX5_reckon_147 rfl sh_25 rfl (by omega) ?_
          refine t_iinc (pc' := 151) (v := nI (p + 1)) (L' := [.ref 24, .ref 1, .int _, .int _, .int _, .long _, .retAddr _]) dX5_reckon_148 rfl rfl (nI_inc p) rfl ?_
          refine s_goto (tgt := 17) dX5_reckon_151 (by decide) ?_
          rw [hvv.1] at c99
          rw [hvv.1] at c126
          replace c126 : D 55 (ord p) = 4 := by simpa using c126
          rw [lg_cmp_eq] at c133
          replace c133 : ¬ (num2 D x (J1 25) th (nI (ord p)) (ord p) nr ns) = 0 := c133
          have hfin : numF D x (J1 25) th (ord p) nr ns = 1 := by unfold numF finN; rw [if_pos c126, if_neg c133]
          refine s_eq rfl rfl ?_ (s_fg [4, 5] rfl (ih (p + 1) _ _ _ (by omega) (hP.step hW A hp g1 g2 g3 g4 g5 g6)))
          first | (rw [hfin]; done) | (rw [hfin]; rfl)
    · refine s_lload (pc' := 104) dX5_reckon_102 rfl rfl ?_
      refine s_aload_n (pc' := 105) dX5_reckon_104 rfl rfl ?_
      refine s_getS (pc' := 108) (b := 4) dX5_reckon_105 rfl (by decide) rfl (by decide) fa_X5_123_8 rfl rfl ?_
      refine s_iload (pc' := 110) dX5_reckon_108 rfl rfl ?_
      refine t_iald (pc' := 111) dX5_reckon_110 rfl sh_4 rfl (by omega) ?_
      refine s_i2l (pc' := 112) dX5_reckon_111 rfl ?_
      refine s_lsub (pc' := 113) dX5_reckon_112 rfl ?_
      refine t_lstore (pc' := 115) (L' := [.ref 24, .ref 1, .int _, .int _, .int _, .long _, .retAddr _]) dX5_reckon_113 rfl (Nat.le_of_ble_eq_true rfl) rfl ?_
      refine s_goto (tgt := 139) dX5_reckon_115 (by decide) ?_
      refine s_aload_n (pc' := 140) dX5_reckon_139 rfl rfl ?_
      refine s_getS (pc' := 143) (b := 25) dX5_reckon_140 rfl (by decide) rfl (by decide) fa_X5_9_5 rfl rfl ?_
      refine s_iload (pc' := 145) dX5_reckon_143 rfl rfl ?_
      refine s_lload (pc' := 147) dX5_reckon_145 rfl rfl ?_
      refine t_last (pc' := 148) dX5_reckon_147 rfl sh_25 rfl (by omega) ?_
      refine t_iinc (pc' := 151) (v := nI (p + 1)) (L' := [.ref 24, .ref 1, .int _, .int _, .int _, .long _, .retAddr _]) dX5_reckon_148 rfl rfl (nI_inc p) rfl ?_
      refine s_goto (tgt := 17) dX5_reckon_151 (by decide) ?_
      rw [hvv.1] at c99
      replace c99 : D 55 (ord p) = 2 := by simpa using c99
      have hfin : numF D x (J1 25) th (ord p) nr ns = (num2 D x (J1 25) th (nI (ord p)) (ord p) nr ns) - (D 59 (ord p)).toInt64 := by unfold numF finN; rw [if_neg (by rw [c99]; decide), if_pos c99]
      refine s_eq rfl rfl ?_ (s_fg [4, 5] rfl (ih (p + 1) _ _ _ (by omega) (hP.step hW A hp g1 g2 g3 g4 g5 g6)))
      rw [hfin, hvv.2.2.1]; rfl
theorem c_X5_reckon {N : Nat} {S : Nat → Nat × Nat} {I : Nat → Nat → Int32} {J : Nat → Nat → Int64} {Q : Nat → Nat → Option Nat} {κ : Option Value → HP → Prop} {D : Nat → Nat → Int32} {nv nr ns : Nat} {ad td : Nat → Nat} (X : XS N S I Q D nv nr ns ad td 0) (hW : DW D nv nr ns) {ord st : Nat → Nat} (A : AR I D nv nr ord st) {x : Int32} (hk : ∀ I' J' Q', RD I I' J J' Q Q' D x nv nr ns → κ none (N, S, I', J', Q')) : CT E1 M_X5_reckon [.ref 24, .ref 1, .int x] (N, S, I, J, Q) κ := by
  refine ofSP mk_X5_reckon (Nat.le_of_ble_eq_true rfl) (L := [.ref 24, .ref 1, .int _, .retAddr _, .retAddr _, .retAddr _, .retAddr _]) rfl ?_
  refine s_aload_n (pc' := 1) dX5_reckon_0 rfl rfl ?_
  refine s_aload_n (pc' := 2) dX5_reckon_1 rfl rfl ?_
  refine s_aload_n (pc' := 3) dX5_reckon_2 rfl rfl ?_
  refine s_iload_n (pc' := 4) dX5_reckon_3 rfl rfl ?_
  refine s_callV (pc' := 7) (As := [.ref 1, .int _]) dX5_reckon_4 rfl mk_X5_thereOn ml_X5_89 im_X5_thereOn se_X5_X5_X5_thereOn sh_24 (by decide) rfl rfl rfl ⟨Nat.le_of_ble_eq_true rfl, Nat.le_of_ble_eq_true rfl, Nat.le_of_ble_eq_true rfl, Nat.le_of_ble_eq_true rfl⟩ (Nat.le_of_ble_eq_true rfl) (c_X5_thereOn X hW ?_)
  refine t_putI (pc' := 10) dX5_reckon_7 rfl sh_24 (by decide) fa_X5_25_5 (Or.inl rfl) rfl rfl rfl ?_
  refine s_aload_n (pc' := 11) dX5_reckon_10 rfl rfl ?_
  refine s_iconst (pc' := 12) (v := 0) dX5_reckon_11 rfl (by decide) ?_
  refine t_putI (pc' := 15) dX5_reckon_12 rfl sh_24 (by decide) fa_X5_29_5 (Or.inl rfl) rfl rfl rfl ?_
  refine s_iconst (pc' := 16) (v := 0) dX5_reckon_15 rfl (by decide) ?_
  refine t_istore_n (pc' := 17) (L' := [.ref 24, .ref 1, .int _, .int _, .retAddr _, .retAddr _, .retAddr _]) dX5_reckon_16 rfl (Nat.le_of_ble_eq_true rfl) rfl ?_
  exact l_X5_reckon X hW A (thr_g hW nr (Nat.le_refl _)) hk nv 0 _ J Q (by omega) ⟨(FR.rf.up (by decide)).up (by decide), by rw [up2_e (by decide), up2_s], fun _ _ _ => rfl, fun q hq => by omega, fun u hu _ => by rw [up2_s]; exact b_0 u, 0, by unfold hb; simp, fun q hq => by omega⟩
