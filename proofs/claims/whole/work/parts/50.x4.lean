/-- what may change behind gather() -/
def FH (I I' : Nat → Nat → Int32) : Prop := (∀ a, a ≠ 24 → a ≠ 27 → a ≠ 28 → a ≠ 33 → a ≠ 34 → a ≠ 35 → I' a = I a) ∧ ∀ j, j ≠ 5 → I' 24 j = I 24 j
/-- rows 27, 28 behind a loop over the rules with W -/
def RV (I I' : Nat → Nat → Int32) (Wp : Nat → Bool) (hw bt : Nat → Int32) (k : Nat) : Prop := (∀ r, r < k → Wp r = true → I' 27 r = hw r ∧ I' 28 r = bt r) ∧ (∀ r, (k ≤ r ∨ Wp r = false) → I' 27 r = I 27 r ∧ I' 28 r = I 28 r)
section FH
variable {I I' I2 : Nat → Nat → Int32} {Q : Nat → Nat → Option Nat} {Wp : Nat → Bool} {hw bt : Nat → Int32} {k r : Nat}
theorem FH.rf : FH I I := ⟨fun _ _ _ _ _ _ _ => rfl, fun _ _ => rfl⟩
theorem FH.tr (h : FH I I') (h2 : FH I' I2) : FH I I2 := ⟨fun a a1 a2 a3 a4 a5 a6 => (h2.1 a a1 a2 a3 a4 a5 a6).trans (h.1 a a1 a2 a3 a4 a5 a6), fun j hj => (h2.2 j hj).trans (h.2 j hj)⟩
theorem FH.up {c j : Nat} {x : Int32} (h : FH I I') (hc : c = 27 ∨ c = 28 ∨ c = 33 ∨ c = 34 ∨ c = 35) : FH I (up2 I' c j x) := ⟨fun a a1 a2 a3 a4 a5 a6 => by rw [up2_o (by omega)]; exact h.1 a a1 a2 a3 a4 a5 a6, fun j hj => by rw [up2_o (by omega)]; exact h.2 j hj⟩
theorem FH.u5 {x : Int32} (h : FH I I') : FH I (up2 I' 24 5 x) := ⟨fun a a1 a2 a3 a4 a5 a6 => by rw [up2_o a1]; exact h.1 a a1 a2 a3 a4 a5 a6, fun j hj => by rw [up2_e hj]; exact h.2 j hj⟩
theorem FH.fl {c n : Nat} {x : Int32} (h : FH I I') (hc : c = 33 ∨ c = 34 ∨ c = 35) : FH I (fl I' c n x) := ⟨fun a a1 a2 a3 a4 a5 a6 => by rw [fl_o (by omega)]; exact h.1 a a1 a2 a3 a4 a5 a6, fun j hj => by rw [fl_o (by omega)]; exact h.2 j hj⟩
theorem FH.fr (h : FH I I') : FR I I' Q Q := ⟨fun a ha => h.1 a (by omega) (by omega) (by omega) (by omega) (by omega) (by omega), h.1 29 (by decide) (by decide) (by decide) (by decide) (by decide) (by decide), h.1 30 (by decide) (by decide) (by decide) (by decide) (by decide) (by decide), h.1 31 (by decide) (by decide) (by decide) (by decide) (by decide) (by decide), fun _ _ => rfl⟩
theorem GS.fh {D : Nat → Nat → Int32} {x : Int32} {g : Nat → Int64} {th v : Int32} {nr : Nat} {ad : Nat → Nat} (h : GS I Q D x g th v nr ad) (f : FH I I') : GS I' Q D x g th v nr ad := ⟨by rw [f.2 11 (by decide)]; exact h.1, h.2⟩
theorem RV.rf : RV I I Wp hw bt 0 := ⟨fun r h => by omega, fun r _ => ⟨rfl, rfl⟩⟩
theorem RV.skip (h : RV I I' Wp hw bt k) (hk : k ≤ r) (hs : ∀ j, k ≤ j → j < r → Wp j = false) : RV I I' Wp hw bt r := by
  refine ⟨fun q hq hp => ?_, fun q hq => h.2 q (hq.elim (fun z => Or.inl (by omega)) Or.inr)⟩
  rcases Nat.lt_or_ge q k with z | z
  · exact h.1 q z hp
  · rw [hs q z hq] at hp; cases hp
theorem RV.sk (h : RV I I' Wp hw bt k) (hk : Wp k = false) : RV I I' Wp hw bt (k + 1) := h.skip (by omega) (fun j h1 h2 => by rw [show j = k by omega]; exact hk)
theorem RV.cg (h : RV I I' Wp hw bt k) (e1 : I2 27 = I' 27) (e2 : I2 28 = I' 28) : RV I I2 Wp hw bt k := ⟨fun q hq hp => by rw [e1, e2]; exact h.1 q hq hp, fun q hq => by rw [e1, e2]; exact h.2 q hq⟩
theorem RV.same (h : RV I I' Wp hw bt k) (h1 : I 27 k = hw k) (h2 : I 28 k = bt k) : RV I I' Wp hw bt (k + 1) := by
  refine ⟨fun q hq hp => ?_, fun q hq => h.2 q (hq.elim (fun z => Or.inl (by omega)) Or.inr)⟩
  by_cases e : q = k
  · subst e; rw [(h.2 q (Or.inl (Nat.le_refl q))).1, (h.2 q (Or.inl (Nat.le_refl q))).2]; exact ⟨h1, h2⟩
  · exact h.1 q (by omega) hp
theorem RV.st {y z : Int32} (h : RV I I' Wp hw bt k) (hk : Wp k = true) (h1 : y = hw k) (h2 : z = bt k) : RV I (up2 (up2 I' 27 k y) 28 k z) Wp hw bt (k + 1) := by
  refine ⟨fun q hq hp => ?_, fun q hq => ?_⟩
  · by_cases e : q = k
    · subst e; rw [up2_d (by decide), up2_s, up2_s]; exact ⟨h1, h2⟩
    · rw [up2_d (by decide), up2_e e, up2_e e, up2_d (by decide)]; exact h.1 q (by omega) hp
  · have e : q ≠ k := fun e => by
      rcases hq with z | z
      · omega
      · rw [e, hk] at z; cases z
    rw [up2_d (by decide), up2_e e, up2_e e, up2_d (by decide)]
    exact h.2 q (hq.elim (fun z => Or.inl (by omega)) Or.inr)
theorem RV.s1 {y : Int32} (h : RV I I' Wp hw (I 28) k) (hk : Wp k = true) (h1 : y = hw k) : RV I (up2 I' 27 k y) Wp hw (I 28) (k + 1) := by
  refine ⟨fun q hq hp => ?_, fun q hq => ?_⟩
  · by_cases e : q = k
    · subst e; rw [up2_s, up2_d (by decide)]; exact ⟨h1, (h.2 q (Or.inl (Nat.le_refl q))).2⟩
    · rw [up2_e e, up2_d (by decide)]; exact h.1 q (by omega) hp
  · have e : q ≠ k := fun e => by
      rcases hq with z | z
      · omega
      · rw [e, hk] at z; cases z
    rw [up2_e e, up2_d (by decide)]
    exact h.2 q (hq.elim (fun z => Or.inl (by omega)) Or.inr)
end FH
/-- the next rule that holds -/
theorem GS.next {I : Nat → Nat → Int32} {Q : Nat → Nat → Option Nat} {D : Nat → Nat → Int32} {x : Int32} {g : Nat → Int64} {th v : Int32} {nr k d : Nat} {ad : Nat → Nat} (G : GS I Q D x g th v nr ad) (hk : k ≤ nr) (hd : cntB (Pv D x g th v) k + (d + 1) = cntB (Pv D x g th v) nr) :
    ∃ r, k ≤ r ∧ r < nr ∧ Pv D x g th v r = true ∧ cntB (Pv D x g th v) k = cntB (Pv D x g th v) r ∧ (∀ j, k ≤ j → j < r → Pv D x g th v j = false) ∧ Q 32 (cntB (Pv D x g th v) r) = some (ad r) ∧ cntB (Pv D x g th v) (r + 1) = cntB (Pv D x g th v) r + 1 ∧ cntB (Pv D x g th v) r < nr ∧ cntB (Pv D x g th v) nr ≤ nr := by
  obtain ⟨r, h1, h2, h3, h4, h5⟩ := cnt_next (P := Pv D x g th v) (n := nr) (nr - k) k (by omega) (by omega)
  have := cntB_le (Pv D x g th v) r
  exact ⟨r, h1, h2, h3, h4.symm, h5, G.2 r h2 h3, cnt_s1 h3, by omega, cntB_le _ _⟩
theorem bsS_skip {D : Nat → Nat → Int32} {x : Int32} {g : Nat → Int64} {th v : Int32} {k r : Nat} (h : k ≤ r) (hs : ∀ j, k ≤ j → j < r → Pv D x g th v j = false) : bsS D x g th v k = bsS D x g th v r := by
  induction r with
  | zero => obtain rfl : k = 0 := by omega
            rfl
  | succ r ih =>
    by_cases e : k = r + 1
    · rw [e]
    · rw [bsS_s0 (wk_nP (by decide) (hs r (by omega) (by omega)))]
      exact ih (by omega) (fun j h1 h2 => hs j h1 (by omega))
theorem qrB_skip {D : Nat → Nat → Int32} {x : Int32} {g : Nat → Int64} {th v : Int32} {q k r : Nat} (h : k ≤ r) (hs : ∀ j, k ≤ j → j < r → Pv D x g th v j = false) : qrB D x g th v q k = qrB D x g th v q r := by
  induction r with
  | zero => obtain rfl : k = 0 := by omega
            rfl
  | succ r ih =>
    by_cases e : k = r + 1
    · rw [e]
    · rw [ih (by omega) (fun j h1 h2 => hs j h1 (by omega)), qrB, wk_nP (by decide) (hs r (by omega) (by omega))]
      simp
theorem bsS_wk {D : Nat → Nat → Int32} {x : Int32} {g : Nat → Int64} {th v : Int32} : ∀ (k q : Nat), bsS D x g th v k = some q → wk D x g th q 2 v = true
  | 0, q, h => by simp [bsS] at h
  | k + 1, q, h => by
    cases hw : wk D x g th k 2 v with
    | false => rw [bsS_s0 hw] at h; exact bsS_wk k q h
    | true =>
      cases hb : bsS D x g th v k with
      | none => rw [bsS_s1 hw hb] at h; rw [← Option.some.inj h]; exact hw
      | some z =>
        by_cases hl : D 62 z < D 62 k
        · rw [bsS_s2 hw hb hl] at h; rw [← Option.some.inj h]; exact hw
        · rw [bsS_s3 hw hb hl] at h; rw [← Option.some.inj h]; exact bsS_wk k z hb
/-- the second loop of baseOrSet() -/
def B2 (I I' : Nat → Nat → Int32) (D : Nat → Nat → Int32) (x : Int32) (g : Nat → Int64) (th : Int32) (v q k : Nat) : Prop :=
  FH I I' ∧ RV I I' (fun r => wk D x g th r 2 (nI v)) (hwS q) (btS q) k ∧ I' 24 5 = (if qrB D x g th (nI v) q k = true then I 24 5 ||| ((1 : Int32) <<< (nI v &&& 31)) else I 24 5)
theorem B2.skip {I I' : Nat → Nat → Int32} {D : Nat → Nat → Int32} {x : Int32} {g : Nat → Int64} {th : Int32} {v q k r : Nat} (h : B2 I I' D x g th v q k) (hk : k ≤ r) (hs : ∀ j, k ≤ j → j < r → Pv D x g th (nI v) j = false) : B2 I I' D x g th v q r :=
  ⟨h.1, h.2.1.skip hk (fun j a b => wk_nP (by decide) (hs j a b)), by rw [← qrB_skip hk hs]; exact h.2.2⟩
/-- what baseOrSet() leaves -/
def BP (I I' : Nat → Nat → Int32) (D : Nat → Nat → Int32) (x : Int32) (g : Nat → Int64) (th : Int32) (v nr : Nat) : Prop :=
  FH I I' ∧ RV I I' (fun r => wk D x g th r 2 (nI v)) (hwSS D x g th (nI v) nr) (btSS D x g th (nI v) nr) nr ∧ I' 24 5 = (if qrS D x g th (nI v) nr = true then I 24 5 ||| ((1 : Int32) <<< (nI v &&& 31)) else I 24 5)
theorem BP_none {I : Nat → Nat → Int32} {D : Nat → Nat → Int32} {x : Int32} {g : Nat → Int64} {th : Int32} {v nr : Nat} (h : bsS D x g th (nI v) nr = none) : BP I I D x g th v nr :=
  ⟨FH.rf, ⟨fun r hr hw => (by have h1 := bsS_none nr h r hr; have h2 : wk D x g th r 2 (nI v) = true := hw; rw [h1] at h2; cases h2), fun r _ => ⟨rfl, rfl⟩⟩, by unfold qrS; rw [h]; rfl⟩
theorem BP_some {I I' : Nat → Nat → Int32} {D : Nat → Nat → Int32} {x : Int32} {g : Nat → Int64} {th : Int32} {v nr q : Nat} (h : bsS D x g th (nI v) nr = some q) (hB : B2 I I' D x g th v q nr) : BP I I' D x g th v nr := by
  have e1 : hwSS D x g th (nI v) nr = hwS q := by funext r; unfold hwSS; rw [h]
  have e2 : btSS D x g th (nI v) nr = btS q := by funext r; unfold btSS; rw [h]
  have e3 : qrS D x g th (nI v) nr = qrB D x g th (nI v) q nr := by unfold qrS; rw [h]
  unfold BP; rw [e1, e2, e3]; exact hB
theorem or_self3 (a b : Int32) : (a ||| b) ||| b = a ||| b := by apply Int32.toBitVec_inj.mp; simp [BitVec.or_assoc]
/-- the first one with P among the first k -/
def fsO (P : Nat → Bool) : Nat → Option Nat
  | 0 => none
  | k + 1 => match fsO P k with
    | some q => some q
    | none => if P k = true then some k else none
theorem fsO_lf (P : Nat → Bool) : ∀ k, (∀ q, fsO P k = some q → lf P k = q ∧ q < k) ∧ (fsO P k = none → lf P k = k)
  | 0 => ⟨fun q h => by simp [fsO] at h, fun _ => rfl⟩
  | k + 1 => by
    have ih := fsO_lf P k
    cases h : fsO P k with
    | some z =>
      obtain ⟨h1, h2⟩ := ih.1 z h
      have e : fsO P (k + 1) = some z := by rw [fsO, h]
      rw [e]
      refine ⟨fun q hq => ?_, fun c => by cases c⟩
      obtain rfl := Option.some.inj hq
      exact ⟨by rw [lf, h1, if_pos h2], by omega⟩
    | none =>
      have h1 := ih.2 h
      by_cases hp : P k = true
      · have e : fsO P (k + 1) = some k := by rw [fsO, h]; simp [hp]
        rw [e]
        refine ⟨fun q hq => ?_, fun c => by cases c⟩
        obtain rfl := Option.some.inj hq
        exact ⟨by rw [lf, h1, if_neg (by omega), if_pos hp], by omega⟩
      · have e : fsO P (k + 1) = none := by rw [fsO, h]; simp [hp]
        rw [e]
        exact ⟨fun q c => (by cases c), fun _ => by rw [lf, h1, if_neg (by omega), if_neg hp]⟩
theorem fsO_skip {P : Nat → Bool} {k r : Nat} (h : k ≤ r) (hs : ∀ j, k ≤ j → j < r → P j = false) : fsO P k = fsO P r := by
  induction r with
  | zero => obtain rfl : k = 0 := by omega
            rfl
  | succ r ih =>
    by_cases e : k = r + 1
    · rw [e]
    · rw [ih (by omega) (fun j h1 h2 => hs j h1 (by omega)), fsO]
      cases fsO P r with
      | some z => rfl
      | none => simp [hs r (by omega) (by omega)]
def Ps (D : Nat → Nat → Int32) (x : Int32) (g : Nat → Int64) (th v : Int32) (s : Nat) (f : Nat) : Bool := adB D x g th f v && decide (D 63 f = nI s)
def hwM (D : Nat → Nat → Int32) (x : Int32) (g : Nat → Int64) (th v : Int32) (r : Nat) : Int32 := if foS D x g th r v = r then 2 else 3
def btM (D : Nat → Nat → Int32) (x : Int32) (g : Nat → Int64) (th v : Int32) (r : Nat) : Int32 := if foS D x g th r v = r then -1 else nI (foS D x g th r v)
theorem foS_none {D : Nat → Nat → Int32} {x : Int32} {g : Nat → Int64} {th v : Int32} {r s : Nat} (ha : adB D x g th r v = true) (hs : D 63 r = nI s) (h : fsO (Ps D x g th v s) r = none) : foS D x g th r v = r := by
  unfold foS
  by_cases h0 : D 63 r = 0
  · rw [if_pos h0]
  · rw [if_neg h0, hs]
    show lf (Ps D x g th v s) (r + 1) = r
    rw [lf, (fsO_lf _ r).2 h, if_neg (by omega), if_pos (by unfold Ps; rw [ha, hs]; simp)]
theorem foS_some {D : Nat → Nat → Int32} {x : Int32} {g : Nat → Int64} {th v : Int32} {r s q : Nat} (h0 : D 63 r ≠ 0) (hs : D 63 r = nI s) (h : fsO (Ps D x g th v s) r = some q) : foS D x g th r v = q ∧ q < r := by
  obtain ⟨h1, h2⟩ := (fsO_lf _ r).1 q h
  refine ⟨?_, h2⟩
  unfold foS
  rw [if_neg h0, hs]
  show lf (Ps D x g th v s) (r + 1) = q
  rw [lf, h1, if_pos h2]
/-- markTwice() -/
def MK (I I' : Nat → Nat → Int32) (D : Nat → Nat → Int32) (x : Int32) (g : Nat → Int64) (th v : Int32) (k : Nat) : Prop :=
  FH I I' ∧ RV I I' (fun r => adB D x g th r v) (hwM D x g th v) (btM D x g th v) k ∧ I' 24 5 = I 24 5 ∧ ∀ s, 1 ≤ s → s ≤ 20 → I' 33 s = ixo (fsO (Ps D x g th v s) k)
theorem MK.skip {I I' : Nat → Nat → Int32} {D : Nat → Nat → Int32} {x : Int32} {g : Nat → Int64} {th v : Int32} {k r : Nat} (h : MK I I' D x g th v k) (hk : k ≤ r) (hs : ∀ j, k ≤ j → j < r → adB D x g th j v = false) : MK I I' D x g th v r :=
  ⟨h.1, h.2.1.skip hk hs, h.2.2.1, fun s h1 h2 => by rw [← fsO_skip hk (fun j a b => by unfold Ps; rw [hs j a b]; rfl)]; exact h.2.2.2 s h1 h2⟩
theorem fsO_s0 {P : Nat → Bool} {k : Nat} (h : P k = false) : fsO P (k + 1) = fsO P k := (fsO_skip (by omega) (fun j h1 h2 => by rw [show j = k by omega]; exact h)).symm
theorem fsO_s1 {P : Nat → Bool} {k : Nat} (h : P k = true) (hn : fsO P k = none) : fsO P (k + 1) = some k := by rw [fsO, hn]; simp [h]
theorem fsO_s2 {P : Nat → Bool} {k q : Nat} (hn : fsO P k = some q) : fsO P (k + 1) = some q := by rw [fsO, hn]
theorem l_X5_baseOrSet1 {N : Nat} {S : Nat → Nat × Nat} {I : Nat → Nat → Int32} {J : Nat → Nat → Int64} {Q : Nat → Nat → Option Nat} {κ : Option Value → HP → Prop} {D : Nat → Nat → Int32} {nv nr ns : Nat} {ad td : Nat → Nat} (X : XS N S I Q D nv nr ns ad td 0) (hW : DW D nv nr ns) {v : Nat} {x th : Int32} (hv : v < nv) (G : GS I Q D x (J 25) th (nI v) nr ad) (hk : SP E1 M_X5_baseOrSet κ 57 [.ref 24, .ref 1, .int (nI v), vr ((bsS D x (J 25) th (nI v) nr).map ad), .retAddr 0, .retAddr 0] [] (N, S, I, J, Q) 0 0) : ∀ d : Nat, ∀ k, k ≤ nr → cntB (Pv D x (J 25) th (nI v)) k + d = cntB (Pv D x (J 25) th (nI v)) nr → SP E1 M_X5_baseOrSet κ 5 [.ref 24, .ref 1, .int (nI v), vr ((bsS D x (J 25) th (nI v) k).map ad), .int (nI (cntB (Pv D x (J 25) th (nI v)) k)), .retAddr 0] [] (N, S, I, J, Q) 0 0 := by
  intro d
  induction d with
  | zero =>
    intro k hk2 hd
    have hn30 := hW.nr
    have G2 := G
    rw [bsS_skip hk2 (cnt_end (nr - k) k (by omega) (by omega))]
    cases hb : bsS D x (J 25) th (nI v) nr with
    | none =>
      rw [hb] at hk
      refine s_iload (pc' := 7) dX5_baseOrSet_5 rfl rfl ?_
      refine s_aload_n (pc' := 8) dX5_baseOrSet_7 rfl rfl ?_
      refine t_getI (pc' := 11) dX5_baseOrSet_8 rfl sh_24 (by decide) fa_X5_50_5 rfl ?_
      refine s_icmpgeT (tgt := 57) dX5_baseOrSet_11 (by decide) (by rw [G2.1]; exact nI_le (by omega) (by have := cntB_le (Pv D x (J 25) th (nI v)) nr; omega)) ?_
      exact s_fg [4] rfl hk
    | some q =>
      rw [hb] at hk
      refine s_iload (pc' := 7) dX5_baseOrSet_5 rfl rfl ?_
      refine s_aload_n (pc' := 8) dX5_baseOrSet_7 rfl rfl ?_
      refine t_getI (pc' := 11) dX5_baseOrSet_8 rfl sh_24 (by decide) fa_X5_50_5 rfl ?_
      refine s_icmpgeT (tgt := 57) dX5_baseOrSet_11 (by decide) (by rw [G2.1]; exact nI_le (by omega) (by have := cntB_le (Pv D x (J 25) th (nI v)) nr; omega)) ?_
      exact s_fg [4] rfl hk
  | succ d ih =>
    intro k hk2 hd
    have hn30 := hW.nr
    have G2 := G
    have X2 := X
    obtain ⟨r, hr1, hr, hpr, hrc, hsk, hq32, hc1, hcl, hcn⟩ := G2.next hk2 hd
    have R := X2.ro hr
    have h94 := R.ge
    rw [hrc, bsS_skip hr1 hsk]
    cases hb : bsS D x (J 25) th (nI v) r with
    | none =>
      refine s_iload (pc' := 7) dX5_baseOrSet_5 rfl rfl ?_
      refine s_aload_n (pc' := 8) dX5_baseOrSet_7 rfl rfl ?_
      refine t_getI (pc' := 11) dX5_baseOrSet_8 rfl sh_24 (by decide) fa_X5_50_5 rfl ?_
      refine s_icmpgeF (pc' := 14) (tgt := 57) dX5_baseOrSet_11 (by decide) rfl (by rw [G2.1]; exact nI_ge (by omega) (by omega)) ?_
      refine s_aload_n (pc' := 15) dX5_baseOrSet_14 rfl rfl ?_
      refine s_getS (pc' := 18) (b := 32) dX5_baseOrSet_15 rfl (by decide) rfl (by decide) fa_X5_46_5 rfl rfl ?_
      refine s_iload (pc' := 20) dX5_baseOrSet_18 rfl rfl ?_
      refine t_aald (pc' := 21) dX5_baseOrSet_20 rfl (Or.inl rfl) sh_32 rfl (by have := hW.nr; omega) hq32 ?_
      refine t_astore (pc' := 23) (L' := [.ref 24, .ref 1, .int _, .null, .int _, .ref _]) dX5_baseOrSet_21 rfl (Nat.le_of_ble_eq_true rfl) rfl ?_
      refine s_aload (pc' := 25) dX5_baseOrSet_23 rfl rfl ?_
      refine t_getI (pc' := 28) (j := 0) dX5_baseOrSet_25 rfl R.sh (rk_lt (kc_rk _)) (fr_X5_129 (kc_rk _)) (by rw [rk_ft (kc_rk _) (by decide)]; rfl) ?_
      refine s_iconst (pc' := 29) (v := 2) dX5_baseOrSet_28 rfl (by decide) ?_
      refine s_icmpne (pc' := 32) (tgt := 51) dX5_baseOrSet_29 (by decide) rfl (fun c29 => ?_) (fun c29 => ?_)
      · refine t_iinc (pc' := 54) (v := nI (cntB (Pv D x (J 25) th (nI v)) r + 1)) (L' := [.ref 24, .ref 1, .int _, .null, .int _, .ref _]) dX5_baseOrSet_51 rfl rfl (nI_inc _) rfl ?_
        refine s_goto (tgt := 5) dX5_baseOrSet_54 (by decide) ?_
        rw [R.f0] at c29
        refine s_fg [5] ?_ (ih (r + 1) (by omega) (by rw [hc1]; omega))
        rw [hc1, bsS_s0 (wk_1 c29), hb]; rfl
      · refine s_aload_nN (pc' := 33) dX5_baseOrSet_32 rfl rfl ?_
        refine s_ifnullN (tgt := 48) dX5_baseOrSet_33 (by decide) ?_
        refine s_aload (pc' := 50) dX5_baseOrSet_48 rfl rfl ?_
        refine t_astore_n (pc' := 51) (L' := [.ref 24, .ref 1, .int _, .ref _, .int _, .ref _]) dX5_baseOrSet_50 rfl (Nat.le_of_ble_eq_true rfl) rfl ?_
        refine t_iinc (pc' := 54) (v := nI (cntB (Pv D x (J 25) th (nI v)) r + 1)) (L' := [.ref 24, .ref 1, .int _, .ref _, .int _, .ref _]) dX5_baseOrSet_51 rfl rfl (nI_inc _) rfl ?_
        refine s_goto (tgt := 5) dX5_baseOrSet_54 (by decide) ?_
        have hw := Pv_wk hpr (c := 2) (by rw [← R.f0]; simpa using c29)
        refine s_fg [5] ?_ (ih (r + 1) (by omega) (by rw [hc1]; omega))
        rw [hc1, bsS_s1 hw hb]; rfl
    | some q =>
      have Rq := X.ro (show q < nr by have := bsS_lt _ _ hb; omega)
      refine s_iload (pc' := 7) dX5_baseOrSet_5 rfl rfl ?_
      refine s_aload_n (pc' := 8) dX5_baseOrSet_7 rfl rfl ?_
      refine t_getI (pc' := 11) dX5_baseOrSet_8 rfl sh_24 (by decide) fa_X5_50_5 rfl ?_
      refine s_icmpgeF (pc' := 14) (tgt := 57) dX5_baseOrSet_11 (by decide) rfl (by rw [G2.1]; exact nI_ge (by omega) (by omega)) ?_
      refine s_aload_n (pc' := 15) dX5_baseOrSet_14 rfl rfl ?_
      refine s_getS (pc' := 18) (b := 32) dX5_baseOrSet_15 rfl (by decide) rfl (by decide) fa_X5_46_5 rfl rfl ?_
      refine s_iload (pc' := 20) dX5_baseOrSet_18 rfl rfl ?_
      refine t_aald (pc' := 21) dX5_baseOrSet_20 rfl (Or.inl rfl) sh_32 rfl (by have := hW.nr; omega) hq32 ?_
      refine t_astore (pc' := 23) (L' := [.ref 24, .ref 1, .int _, .ref _, .int _, .ref _]) dX5_baseOrSet_21 rfl (Nat.le_of_ble_eq_true rfl) rfl ?_
      refine s_aload (pc' := 25) dX5_baseOrSet_23 rfl rfl ?_
      refine t_getI (pc' := 28) (j := 0) dX5_baseOrSet_25 rfl R.sh (rk_lt (kc_rk _)) (fr_X5_129 (kc_rk _)) (by rw [rk_ft (kc_rk _) (by decide)]; rfl) ?_
      refine s_iconst (pc' := 29) (v := 2) dX5_baseOrSet_28 rfl (by decide) ?_
      refine s_icmpne (pc' := 32) (tgt := 51) dX5_baseOrSet_29 (by decide) rfl (fun c29 => ?_) (fun c29 => ?_)
      · refine t_iinc (pc' := 54) (v := nI (cntB (Pv D x (J 25) th (nI v)) r + 1)) (L' := [.ref 24, .ref 1, .int _, .ref _, .int _, .ref _]) dX5_baseOrSet_51 rfl rfl (nI_inc _) rfl ?_
        refine s_goto (tgt := 5) dX5_baseOrSet_54 (by decide) ?_
        rw [R.f0] at c29
        refine s_fg [5] ?_ (ih (r + 1) (by omega) (by rw [hc1]; omega))
        rw [hc1, bsS_s0 (wk_1 c29), hb]; rfl
      · refine s_aload_n (pc' := 33) dX5_baseOrSet_32 rfl rfl ?_
        refine s_ifnull (pc' := 36) dX5_baseOrSet_33 rfl ?_
        refine s_aload (pc' := 38) dX5_baseOrSet_36 rfl rfl ?_
        refine t_getI (pc' := 41) (j := 4) dX5_baseOrSet_38 rfl R.sh (rk_lt (kc_rk _)) (fr_X5_153 (kc_rk _)) (by rw [rk_ft (kc_rk _) (by decide)]; rfl) ?_
        refine s_aload_n (pc' := 42) dX5_baseOrSet_41 rfl rfl ?_
        refine t_getI (pc' := 45) (j := 4) dX5_baseOrSet_42 rfl Rq.sh (rk_lt (kc_rk _)) (fr_X5_153 (kc_rk _)) (by rw [rk_ft (kc_rk _) (by decide)]; rfl) ?_
        refine s_icmple (pc' := 48) (tgt := 51) dX5_baseOrSet_45 (by decide) rfl (fun c45 => ?_) (fun c45 => ?_)
        · refine t_iinc (pc' := 54) (v := nI (cntB (Pv D x (J 25) th (nI v)) r + 1)) (L' := [.ref 24, .ref 1, .int _, .ref _, .int _, .ref _]) dX5_baseOrSet_51 rfl rfl (nI_inc _) rfl ?_
          refine s_goto (tgt := 5) dX5_baseOrSet_54 (by decide) ?_
          have hw := Pv_wk hpr (c := 2) (by rw [← R.f0]; simpa using c29)
          rw [R.f4, Rq.f4] at c45
          refine s_fg [5] ?_ (ih (r + 1) (by omega) (by rw [hc1]; omega))
          rw [hc1, bsS_s3 hw hb (Int32.not_lt.mpr c45)]; rfl
        · refine s_aload (pc' := 50) dX5_baseOrSet_48 rfl rfl ?_
          refine t_astore_n (pc' := 51) (L' := [.ref 24, .ref 1, .int _, .ref _, .int _, .ref _]) dX5_baseOrSet_50 rfl (Nat.le_of_ble_eq_true rfl) rfl ?_
          refine t_iinc (pc' := 54) (v := nI (cntB (Pv D x (J 25) th (nI v)) r + 1)) (L' := [.ref 24, .ref 1, .int _, .ref _, .int _, .ref _]) dX5_baseOrSet_51 rfl rfl (nI_inc _) rfl ?_
          refine s_goto (tgt := 5) dX5_baseOrSet_54 (by decide) ?_
          have hw := Pv_wk hpr (c := 2) (by rw [← R.f0]; simpa using c29)
          rw [R.f4, Rq.f4] at c45
          refine s_fg [5] ?_ (ih (r + 1) (by omega) (by rw [hc1]; omega))
          rw [hc1, bsS_s2 hw hb (Int32.not_le.mp c45)]; rfl
theorem l_X5_baseOrSet2 {N : Nat} {S : Nat → Nat × Nat} {I : Nat → Nat → Int32} {J : Nat → Nat → Int64} {Q : Nat → Nat → Option Nat} {κ : Option Value → HP → Prop} {D : Nat → Nat → Int32} {nv nr ns : Nat} {ad td : Nat → Nat} (X : XS N S I Q D nv nr ns ad td 0) (hW : DW D nv nr ns) {v : Nat} {x th : Int32} (hv : v < nv) (G : GS I Q D x (J 25) th (nI v) nr ad) (hA : ∀ r, r < nr → Pv D x (J 25) th (nI v) r = true → J 26 r = amt D (J 25) r) (h2 : ∀ r, r < nr → Pv D x (J 25) th (nI v) r = true → I 27 r = 2 ∧ I 28 r = -1) {q : Nat} (hq : q < nr) (hwq : wk D x (J 25) th q 2 (nI v) = true) (hk : ∀ I', B2 I I' D x (J 25) th v q nr → SP E1 M_X5_baseOrSet κ 178 [.ref 24, .ref 1, .int (nI v), .ref (ad q), .retAddr 0, .retAddr 0] [] (N, S, I', J, Q) 0 0) : ∀ d : Nat, ∀ k I', k ≤ nr → cntB (Pv D x (J 25) th (nI v)) k + d = cntB (Pv D x (J 25) th (nI v)) nr → B2 I I' D x (J 25) th v q k → SP E1 M_X5_baseOrSet κ 72 [.ref 24, .ref 1, .int (nI v), .ref (ad q), .int (nI (cntB (Pv D x (J 25) th (nI v)) k)), .retAddr 0] [] (N, S, I', J, Q) 0 0 := by
  intro d
  induction d with
  | zero =>
    intro k I' hk2 hd hP
    have hn30 := hW.nr
    have G2 := G.fh hP.1
    replace hP := hP.skip hk2 (cnt_end (nr - k) k (by omega) (by omega))
    refine s_iload (pc' := 74) dX5_baseOrSet_72 rfl rfl ?_
    refine s_aload_n (pc' := 75) dX5_baseOrSet_74 rfl rfl ?_
    refine t_getI (pc' := 78) dX5_baseOrSet_75 rfl sh_24 (by decide) fa_X5_50_5 rfl ?_
    refine s_icmpgeT (tgt := 178) dX5_baseOrSet_78 (by decide) (by rw [G2.1]; exact nI_le (by omega) (by have := cntB_le (Pv D x (J 25) th (nI v)) nr; omega)) ?_
    exact s_fg [4] rfl (hk I' hP)
  | succ d ih =>
    intro k I' hk2 hd hP
    have hn30 := hW.nr
    have G2 := G.fh hP.1
    have X2 := X.fr hP.1.fr
    have Rq := X2.ro hq
    have hq94 := Rq.ge
    have hpq := wk_Pv (by decide) hwq
    obtain ⟨r, hr1, hr, hpr, hrc, hsk, hq32, hc1, hcl, hcn⟩ := G2.next hk2 hd
    have R := X2.ro hr
    have h94 := R.ge
    replace hP := hP.skip hr1 hsk
    rw [hrc]
    refine s_iload (pc' := 74) dX5_baseOrSet_72 rfl rfl ?_
    refine s_aload_n (pc' := 75) dX5_baseOrSet_74 rfl rfl ?_
    refine t_getI (pc' := 78) dX5_baseOrSet_75 rfl sh_24 (by decide) fa_X5_50_5 rfl ?_
    refine s_icmpgeF (pc' := 81) (tgt := 178) dX5_baseOrSet_78 (by decide) rfl (by rw [G2.1]; exact nI_ge (by omega) (by omega)) ?_
    refine s_aload_n (pc' := 82) dX5_baseOrSet_81 rfl rfl ?_
    refine s_getS (pc' := 85) (b := 32) dX5_baseOrSet_82 rfl (by decide) rfl (by decide) fa_X5_46_5 rfl rfl ?_
    refine s_iload (pc' := 87) dX5_baseOrSet_85 rfl rfl ?_
    refine t_aald (pc' := 88) dX5_baseOrSet_87 rfl (Or.inl rfl) sh_32 rfl (by omega) hq32 ?_
    refine t_astore (pc' := 90) (L' := [.ref 24, .ref 1, .int _, .ref _, .int _, .ref _]) dX5_baseOrSet_88 rfl (Nat.le_of_ble_eq_true rfl) rfl ?_
    refine s_aload (pc' := 92) dX5_baseOrSet_90 rfl rfl ?_
    refine t_getI (pc' := 95) (j := 0) dX5_baseOrSet_92 rfl R.sh (rk_lt (kc_rk _)) (fr_X5_129 (kc_rk _)) (by rw [rk_ft (kc_rk _) (by decide)]; rfl) ?_
    refine s_iconst (pc' := 96) (v := 2) dX5_baseOrSet_95 rfl (by decide) ?_
    refine s_icmpne (pc' := 99) (tgt := 172) dX5_baseOrSet_96 (by decide) rfl (fun c96 => ?_) (fun c96 => ?_)
    · refine t_iinc (pc' := 175) (v := nI (cntB (Pv D x (J 25) th (nI v)) r + 1)) (L' := [.ref 24, .ref 1, .int _, .ref _, .int _, .ref _]) dX5_baseOrSet_172 rfl rfl (nI_inc _) rfl ?_
      refine s_goto (tgt := 72) dX5_baseOrSet_175 (by decide) ?_
      rw [R.f0] at c96
      have hw := wk_1 (x := x) (g := J 25) (th := th) (v := nI v) c96
      exact s_fg [5] (by rw [hc1]; rfl) (ih (r + 1) _ (by omega) (by rw [hc1]; omega) ⟨hP.1, hP.2.1.sk hw, by rw [qrB, hw, Bool.false_and, Bool.or_false]; exact hP.2.2⟩)
    · refine s_aload (pc' := 101) dX5_baseOrSet_99 rfl rfl ?_
      refine t_getI (pc' := 104) (j := 1) dX5_baseOrSet_101 rfl R.sh (rk_lt (kc_rk _)) (fr_X5_159 (kc_rk _)) (by rw [rk_ft (kc_rk _) (by decide)]; rfl) ?_
      refine s_aload_n (pc' := 105) dX5_baseOrSet_104 rfl rfl ?_
      refine t_getI (pc' := 108) (j := 1) dX5_baseOrSet_105 rfl Rq.sh (rk_lt (kc_rk _)) (fr_X5_159 (kc_rk _)) (by rw [rk_ft (kc_rk _) (by decide)]; rfl) ?_
      refine s_icmpeq (pc' := 111) (tgt := 172) dX5_baseOrSet_108 (by decide) rfl (fun c108 => ?_) (fun c108 => ?_)
      · refine t_iinc (pc' := 175) (v := nI (cntB (Pv D x (J 25) th (nI v)) r + 1)) (L' := [.ref 24, .ref 1, .int _, .ref _, .int _, .ref _]) dX5_baseOrSet_172 rfl rfl (nI_inc _) rfl ?_
        refine s_goto (tgt := 72) dX5_baseOrSet_175 (by decide) ?_
        have hw := Pv_wk hpr (c := 2) (by rw [← R.f0]; simpa using c96)
        rw [R.f1, Rq.f1] at c108
        obtain rfl := (nI_eq (by omega) (by omega)).mp c108
        exact s_fg [5] (by rw [hc1]; rfl) (ih (r + 1) _ (by omega) (by rw [hc1]; omega) ⟨hP.1, hP.2.1.same (by rw [(h2 r hr hpr).1]; simp [hwS]) (by rw [(h2 r hr hpr).2]; simp [btS]), by rw [qrB]; simpa using hP.2.2⟩)
      · refine s_aload_n (pc' := 112) dX5_baseOrSet_111 rfl rfl ?_
        refine s_aload (pc' := 114) dX5_baseOrSet_112 rfl rfl ?_
        refine t_getI (pc' := 117) (j := 1) dX5_baseOrSet_114 rfl R.sh (rk_lt (kc_rk _)) (fr_X5_159 (kc_rk _)) (by rw [rk_ft (kc_rk _) (by decide)]; rfl) ?_
        rw [R.f1]
        refine s_iconst (pc' := 118) (v := 4) dX5_baseOrSet_117 rfl (by decide) ?_
        refine s_aload_n (pc' := 119) dX5_baseOrSet_118 rfl rfl ?_
        refine t_getI (pc' := 122) (j := 1) dX5_baseOrSet_119 rfl Rq.sh (rk_lt (kc_rk _)) (fr_X5_159 (kc_rk _)) (by rw [rk_ft (kc_rk _) (by decide)]; rfl) ?_
        rw [Rq.f1]
        refine s_callV (pc' := 125) (As := [.int _, .int _, .int _]) dX5_baseOrSet_122 rfl mk_X5_beat ml_X5_162 im_X5_beat se_X5_X5_X5_beat sh_24 (by decide) rfl rfl rfl ⟨Nat.le_of_ble_eq_true rfl, Nat.le_of_ble_eq_true rfl, Nat.le_of_ble_eq_true rfl, Nat.le_of_ble_eq_true rfl⟩ (Nat.le_of_ble_eq_true rfl) (c_X5_beat (r := r) (by omega) ?_)
        refine s_aload (pc' := 127) dX5_baseOrSet_125 rfl rfl ?_
        refine t_getI (pc' := 130) (j := 4) dX5_baseOrSet_127 rfl R.sh (rk_lt (kc_rk _)) (fr_X5_153 (kc_rk _)) (by rw [rk_ft (kc_rk _) (by decide)]; rfl) ?_
        refine s_aload_n (pc' := 131) dX5_baseOrSet_130 rfl rfl ?_
        refine t_getI (pc' := 134) (j := 4) dX5_baseOrSet_131 rfl Rq.sh (rk_lt (kc_rk _)) (fr_X5_153 (kc_rk _)) (by rw [rk_ft (kc_rk _) (by decide)]; rfl) ?_
        refine s_icmpne (pc' := 137) (tgt := 172) dX5_baseOrSet_134 (by decide) rfl (fun c134 => ?_) (fun c134 => ?_)
        · refine t_iinc (pc' := 175) (v := nI (cntB (Pv D x (J 25) th (nI v)) r + 1)) (L' := [.ref 24, .ref 1, .int _, .ref _, .int _, .ref _]) dX5_baseOrSet_172 rfl rfl (nI_inc _) rfl ?_
          refine s_goto (tgt := 72) dX5_baseOrSet_175 (by decide) ?_
          have hw := Pv_wk hpr (c := 2) (by rw [← R.f0]; simpa using c96)
          rw [R.f1, Rq.f1] at c108
          have hne : r ≠ q := fun z => c108 (by rw [z])
          simp (disch := omega) only [up2_d] at c134
          rw [R.f4, Rq.f4] at c134
          exact s_fg [5] (by rw [hc1]; rfl) (ih (r + 1) _ (by omega) (by rw [hc1]; omega) ⟨(hP.1.up (by decide)).up (by decide), hP.2.1.st hw (by simp [hwS, hne]) (by simp [btS, hne]), by rw [qrB, decide_eq_false c134, Bool.false_and, Bool.and_false, Bool.or_false, up2_d (by decide), up2_d (by decide)]; exact hP.2.2⟩)
        · refine s_aload_n (pc' := 138) dX5_baseOrSet_137 rfl rfl ?_
          refine s_getS (pc' := 141) (b := 26) dX5_baseOrSet_138 rfl (by decide) rfl (by decide) fa_X5_15_5 rfl rfl ?_
          refine s_aload (pc' := 143) dX5_baseOrSet_141 rfl rfl ?_
          refine t_getI (pc' := 146) (j := 1) dX5_baseOrSet_143 rfl R.sh (rk_lt (kc_rk _)) (fr_X5_159 (kc_rk _)) (by rw [rk_ft (kc_rk _) (by decide)]; rfl) ?_
          refine t_lald (pc' := 147) (q := r) dX5_baseOrSet_146 rfl sh_26 (by simp (disch := omega) only [up2_d]; exact R.f1) (by omega) ?_
          refine s_aload_n (pc' := 148) dX5_baseOrSet_147 rfl rfl ?_
          refine s_getS (pc' := 151) (b := 26) dX5_baseOrSet_148 rfl (by decide) rfl (by decide) fa_X5_15_5 rfl rfl ?_
          refine s_aload_n (pc' := 152) dX5_baseOrSet_151 rfl rfl ?_
          refine t_getI (pc' := 155) (j := 1) dX5_baseOrSet_152 rfl Rq.sh (rk_lt (kc_rk _)) (fr_X5_159 (kc_rk _)) (by rw [rk_ft (kc_rk _) (by decide)]; rfl) ?_
          refine t_lald (pc' := 156) (q := q) dX5_baseOrSet_155 rfl sh_26 (by simp (disch := omega) only [up2_d]; exact Rq.f1) (by omega) ?_
          refine s_lcmp (pc' := 157) dX5_baseOrSet_156 rfl ?_
          refine s_ifeq (pc' := 160) (tgt := 172) dX5_baseOrSet_157 (by decide) rfl (fun c157 => ?_) (fun c157 => ?_)
          · refine t_iinc (pc' := 175) (v := nI (cntB (Pv D x (J 25) th (nI v)) r + 1)) (L' := [.ref 24, .ref 1, .int _, .ref _, .int _, .ref _]) dX5_baseOrSet_172 rfl rfl (nI_inc _) rfl ?_
            refine s_goto (tgt := 72) dX5_baseOrSet_175 (by decide) ?_
            have hw := Pv_wk hpr (c := 2) (by rw [← R.f0]; simpa using c96)
            rw [R.f1, Rq.f1] at c108
            have hne : r ≠ q := fun z => c108 (by rw [z])
            simp (disch := omega) only [up2_d] at c134
            rw [R.f4, Rq.f4] at c134
            replace c134 : D 62 r = D 62 q := by simpa using c134
            rw [lg_cmp_eq, hA r hr hpr, hA q hq hpq] at c157
            exact s_fg [5] (by rw [hc1]; rfl) (ih (r + 1) _ (by omega) (by rw [hc1]; omega) ⟨(hP.1.up (by decide)).up (by decide), hP.2.1.st hw (by simp [hwS, hne]) (by simp [btS, hne]), by rw [qrB, decide_eq_false (show ¬ amt D (J 25) r ≠ amt D (J 25) q from fun z => z c157), Bool.and_false, Bool.and_false, Bool.or_false, up2_d (by decide), up2_d (by decide)]; exact hP.2.2⟩)
          · refine s_aload_n (pc' := 161) dX5_baseOrSet_160 rfl rfl ?_
            refine s_dup (pc' := 162) dX5_baseOrSet_161 rfl rfl ?_
            refine t_getI (pc' := 165) dX5_baseOrSet_162 rfl sh_24 (by decide) fa_X5_29_5 rfl ?_
            refine s_iconst (pc' := 166) (v := 1) dX5_baseOrSet_165 rfl (by decide) ?_
            refine s_iload_n (pc' := 167) dX5_baseOrSet_166 rfl rfl ?_
            refine s_ishl (pc' := 168) dX5_baseOrSet_167 rfl ?_
            refine s_ior (pc' := 169) dX5_baseOrSet_168 rfl ?_
            refine t_putI (pc' := 172) dX5_baseOrSet_169 rfl sh_24 (by decide) fa_X5_29_5 (Or.inl rfl) rfl rfl rfl ?_
            refine t_iinc (pc' := 175) (v := nI (cntB (Pv D x (J 25) th (nI v)) r + 1)) (L' := [.ref 24, .ref 1, .int _, .ref _, .int _, .ref _]) dX5_baseOrSet_172 rfl rfl (nI_inc _) rfl ?_
            refine s_goto (tgt := 72) dX5_baseOrSet_175 (by decide) ?_
            have hw := Pv_wk hpr (c := 2) (by rw [← R.f0]; simpa using c96)
            rw [R.f1, Rq.f1] at c108
            have hne : r ≠ q := fun z => c108 (by rw [z])
            simp (disch := omega) only [up2_d] at c134
            rw [R.f4, Rq.f4] at c134
            replace c134 : D 62 r = D 62 q := by simpa using c134
            rw [lg_cmp_eq, hA r hr hpr, hA q hq hpq] at c157
            have hqq : qrB D x (J 25) th (nI v) q (r + 1) = true := by rw [qrB, hw, decide_eq_true c134, decide_eq_true c157]; simp
            exact s_fg [5] (by rw [hc1]; rfl) (ih (r + 1) _ (by omega) (by rw [hc1]; omega) ⟨((hP.1.up (by decide)).up (by decide)).u5, (hP.2.1.st hw (by simp [hwS, hne]) (by simp [btS, hne])).cg (up2_o (by decide)) (up2_o (by decide)), by
              rw [up2_s, if_pos hqq, up2_d (by decide), up2_d (by decide), hP.2.2]
              split
              · exact or_self3 _ _
              · rfl⟩)
theorem c_X5_baseOrSet {N : Nat} {S : Nat → Nat × Nat} {I : Nat → Nat → Int32} {J : Nat → Nat → Int64} {Q : Nat → Nat → Option Nat} {κ : Option Value → HP → Prop} {D : Nat → Nat → Int32} {nv nr ns : Nat} {ad td : Nat → Nat} (X : XS N S I Q D nv nr ns ad td 0) (hW : DW D nv nr ns) {v : Nat} {x th : Int32} (hv : v < nv) (G : GS I Q D x (J 25) th (nI v) nr ad) (hA : ∀ r, r < nr → Pv D x (J 25) th (nI v) r = true → J 26 r = amt D (J 25) r) (h2 : ∀ r, r < nr → Pv D x (J 25) th (nI v) r = true → I 27 r = 2 ∧ I 28 r = -1) (hk : ∀ I', BP I I' D x (J 25) th v nr → κ (some (.long (basedV D x (J 25) th (nI v) v nr))) (N, S, I', J, Q)) : CT E1 M_X5_baseOrSet [.ref 24, .ref 1, .int (nI v)] (N, S, I, J, Q) κ := by
  refine ofSP mk_X5_baseOrSet (Nat.le_of_ble_eq_true rfl) (L := [.ref 24, .ref 1, .int _, .retAddr _, .retAddr _, .retAddr _]) rfl ?_
  refine s_null (pc' := 1) dX5_baseOrSet_0 rfl ?_
  refine t_astore_nN (pc' := 2) (L' := [.ref 24, .ref 1, .int _, .null, .retAddr _, .retAddr _]) dX5_baseOrSet_1 rfl (Nat.le_of_ble_eq_true rfl) rfl ?_
  refine s_iconst (pc' := 3) (v := 0) dX5_baseOrSet_2 rfl (by decide) ?_
  refine t_istore (pc' := 5) (L' := [.ref 24, .ref 1, .int _, .null, .int _, .retAddr _]) dX5_baseOrSet_3 rfl (Nat.le_of_ble_eq_true rfl) rfl ?_
  have hn30 := hW.nr
  have hn10 := hW.nv
  refine l_X5_baseOrSet1 X hW hv G ?_ (cntB (Pv D x (J 25) th (nI v)) nr) 0 (Nat.zero_le _) (by simp [cntB])
  cases hb : bsS D x (J 25) th (nI v) nr with
  | none =>
    refine s_aload_nN (pc' := 58) dX5_baseOrSet_57 rfl rfl ?_
    refine s_ifnonnullN (pc' := 61) dX5_baseOrSet_58 rfl ?_
    refine s_aload_n (pc' := 62) dX5_baseOrSet_61 rfl rfl ?_
    refine s_getS (pc' := 65) (b := 3) dX5_baseOrSet_62 rfl (by decide) rfl (by decide) fa_X5_156_8 rfl rfl ?_
    refine s_iload_n (pc' := 66) dX5_baseOrSet_65 rfl rfl ?_
    refine t_iald (pc' := 67) dX5_baseOrSet_66 rfl sh_3 rfl (by omega) ?_
    refine s_i2l (pc' := 68) dX5_baseOrSet_67 rfl ?_
    exact s_lret dX5_baseOrSet_68 rfl (by decide) (by decide) (by rw [(X.2.1 v hv).2.1]; have z := hk I (BP_none hb); unfold basedV at z; rw [hb] at z; exact z)
  | some q =>
    have hwq := bsS_wk _ _ hb
    have hq := bsS_lt _ _ hb
    refine s_aload_n (pc' := 58) dX5_baseOrSet_57 rfl rfl ?_
    refine s_ifnonnull (tgt := 69) dX5_baseOrSet_58 (by decide) ?_
    refine s_iconst (pc' := 70) (v := 0) dX5_baseOrSet_69 rfl (by decide) ?_
    refine t_istore (pc' := 72) (L' := [.ref 24, .ref 1, .int _, .ref _, .int _, .retAddr _]) dX5_baseOrSet_70 rfl (Nat.le_of_ble_eq_true rfl) rfl ?_
    refine l_X5_baseOrSet2 X hW hv G hA h2 hq hwq (fun I' hP => ?_) (cntB (Pv D x (J 25) th (nI v)) nr) 0 I (Nat.zero_le _) (by simp [cntB]) ⟨FH.rf, RV.rf, rfl⟩
    have Rq := (X.fr (I' := I') hP.1.fr).ro hq
    refine s_aload_n (pc' := 179) dX5_baseOrSet_178 rfl rfl ?_
    refine s_getS (pc' := 182) (b := 26) dX5_baseOrSet_179 rfl (by decide) rfl (by decide) fa_X5_15_5 rfl rfl ?_
    refine s_aload_n (pc' := 183) dX5_baseOrSet_182 rfl rfl ?_
    refine t_getI (pc' := 186) (j := 1) dX5_baseOrSet_183 rfl Rq.sh (rk_lt (kc_rk _)) (fr_X5_159 (kc_rk _)) (by rw [rk_ft (kc_rk _) (by decide)]; rfl) ?_
    refine t_lald (pc' := 187) (q := q) dX5_baseOrSet_186 rfl sh_26 Rq.f1 (by omega) ?_
    exact s_lret dX5_baseOrSet_187 rfl (by decide) (by decide) (by rw [hA q hq (wk_Pv (by decide) hwq)]; have z := hk I' (BP_some hb hP); unfold basedV at z; rw [hb] at z; exact z)
theorem ixo_none {o : Option Nat} (h : ∀ q, o = some q → q < 1000) (e : ixo o = -1) : o = none := by
  cases o with
  | none => rfl
  | some q => exact absurd e.symm (m1_ne (h q rfl))
theorem adB_le {D : Nat → Nat → Int32} {nv nr ns r : Nat} {x : Int32} {g : Nat → Int64} {th v : Int32} (hW : DW D nv nr ns) (hr : r < nr) (hp : Pv D x g th v r = true) (h : D 60 r ≤ 1) : adB D x g th r v = true := by
  obtain ⟨k, hk, e⟩ := (hW.2.1 r hr).1
  rw [e] at h
  have : k ≤ 1 := (nI_leI (b := 1) (by omega) (by decide)).mp h
  unfold adB
  rcases (show k = 0 ∨ k = 1 by omega) with rfl | rfl
  · rw [Pv_wk hp (c := 0) e]; rfl
  · rw [Pv_wk hp (c := 1) e, Bool.or_true]
theorem l_X5_markTwice {N : Nat} {S : Nat → Nat × Nat} {I : Nat → Nat → Int32} {J : Nat → Nat → Int64} {Q : Nat → Nat → Option Nat} {κ : Option Value → HP → Prop} {D : Nat → Nat → Int32} {nv nr ns : Nat} {ad td : Nat → Nat} (X : XS N S I Q D nv nr ns ad td 0) (hW : DW D nv nr ns) {v : Nat} {x th : Int32} (hv : v < nv) (G : GS I Q D x (J 25) th (nI v) nr ad) (h2 : ∀ r, r < nr → adB D x (J 25) th r (nI v) = true → I 27 r = 2 ∧ I 28 r = -1) (hk : ∀ I', MK I I' D x (J 25) th (nI v) nr → κ none (N, S, I', J, Q)) : ∀ d : Nat, ∀ k I', k ≤ nr → cntB (Pv D x (J 25) th (nI v)) k + d = cntB (Pv D x (J 25) th (nI v)) nr → MK I I' D x (J 25) th (nI v) k → SP E1 M_X5_markTwice κ 10 [.ref 24, .int (nI (cntB (Pv D x (J 25) th (nI v)) k)), .retAddr 0] [] (N, S, I', J, Q) 0 0 := by
  intro d
  induction d with
  | zero =>
    intro k I' hk2 hd hP
    have hn30 := hW.nr
    have G2 := G.fh hP.1
    replace hP := hP.skip hk2 (fun j a b => adB_nP (cnt_end (nr - k) k (by omega) (by omega) j a b))
    refine s_iload_n (pc' := 11) dX5_markTwice_10 rfl rfl ?_
    refine s_aload_n (pc' := 12) dX5_markTwice_11 rfl rfl ?_
    refine t_getI (pc' := 15) dX5_markTwice_12 rfl sh_24 (by decide) fa_X5_50_5 rfl ?_
    refine s_icmpgeT (tgt := 96) dX5_markTwice_15 (by decide) (by rw [G2.1]; exact nI_le (by omega) (by have := cntB_le (Pv D x (J 25) th (nI v)) nr; omega)) ?_
    exact s_vret dX5_markTwice_96 rfl (by decide) (by decide) (hk I' hP)
  | succ d ih =>
    intro k I' hk2 hd hP
    have hn30 := hW.nr
    have G2 := G.fh hP.1
    have X2 := X.fr hP.1.fr
    obtain ⟨r, hr1, hr, hpr, hrc, hsk, hq32, hc1, hcl, hcn⟩ := G2.next hk2 hd
    have R := X2.ro hr
    have h94 := R.ge
    replace hP := hP.skip hr1 (fun j a b => adB_nP (hsk j a b))
    obtain ⟨s, hs20, hs2⟩ := (hW.2.1 r hr).2.2.2.2.2.1
    rw [hrc]
    refine s_iload_n (pc' := 11) dX5_markTwice_10 rfl rfl ?_
    refine s_aload_n (pc' := 12) dX5_markTwice_11 rfl rfl ?_
    refine t_getI (pc' := 15) dX5_markTwice_12 rfl sh_24 (by decide) fa_X5_50_5 rfl ?_
    refine s_icmpgeF (pc' := 18) (tgt := 96) dX5_markTwice_15 (by decide) rfl (by rw [G2.1]; exact nI_ge (by omega) (by omega)) ?_
    refine s_aload_n (pc' := 19) dX5_markTwice_18 rfl rfl ?_
    refine s_getS (pc' := 22) (b := 32) dX5_markTwice_19 rfl (by decide) rfl (by decide) fa_X5_46_5 rfl rfl ?_
    refine s_iload_n (pc' := 23) dX5_markTwice_22 rfl rfl ?_
    refine t_aald (pc' := 24) dX5_markTwice_23 rfl (Or.inl rfl) sh_32 rfl (by omega) hq32 ?_
    refine t_astore_n (pc' := 25) (L' := [.ref 24, .int _, .ref _]) dX5_markTwice_24 rfl (Nat.le_of_ble_eq_true rfl) rfl ?_
    refine s_aload_n (pc' := 26) dX5_markTwice_25 rfl rfl ?_
    refine t_getI (pc' := 29) (j := 0) dX5_markTwice_26 rfl R.sh (rk_lt (kc_rk _)) (fr_X5_129 (kc_rk _)) (by rw [rk_ft (kc_rk _) (by decide)]; rfl) ?_
    refine s_iconst (pc' := 30) (v := 1) dX5_markTwice_29 rfl (by decide) ?_
    refine s_icmpgt (pc' := 33) (tgt := 90) dX5_markTwice_30 (by decide) rfl (fun c30 => ?_) (fun c30 => ?_)
    · refine t_iinc (pc' := 93) (v := nI (cntB (Pv D x (J 25) th (nI v)) r + 1)) (L' := [.ref 24, .int _, .ref _]) dX5_markTwice_90 rfl rfl (nI_inc _) rfl ?_
      refine s_goto (tgt := 10) dX5_markTwice_93 (by decide) ?_
      rw [R.f0] at c30
      have ha : adB D x (J 25) th r (nI v) = false := by unfold adB; rw [wk_1 (fun z => by rw [z] at c30; exact absurd c30 (by decide)), wk_1 (fun z => by rw [z] at c30; exact absurd c30 (by decide))]; rfl
      exact s_fg [2] (by rw [hc1]; rfl) (ih (r + 1) _ (by omega) (by rw [hc1]; omega) (hP.skip (by omega) (fun j a b => by rw [show j = r by omega]; exact ha)))
    · refine s_aload_n (pc' := 34) dX5_markTwice_33 rfl rfl ?_
      refine t_getI (pc' := 37) (j := 5) dX5_markTwice_34 rfl R.sh (rk_lt (kc_rk _)) (fr_X5_172 (kc_rk _)) (by rw [rk_ft (kc_rk _) (by decide)]; rfl) ?_
      refine s_ifne (pc' := 40) (tgt := 43) dX5_markTwice_37 (by decide) rfl (fun c37 => ?_) (fun c37 => ?_)
      · rw [R.f5] at c37
        have hs1 : 1 ≤ s := by
          rcases Nat.eq_zero_or_pos s with z | z
          · rw [z] at hs2; exact absurd hs2 c37
          · exact z
        have hs33 := hP.2.2.2 s hs1 hs20
        rw [← R.f5] at c37
        refine s_aload_n (pc' := 44) dX5_markTwice_43 rfl rfl ?_
        refine s_getS (pc' := 47) (b := 33) dX5_markTwice_44 rfl (by decide) rfl (by decide) fa_X5_53_5 rfl rfl ?_
        refine s_aload_n (pc' := 48) dX5_markTwice_47 rfl rfl ?_
        refine t_getI (pc' := 51) (j := 5) dX5_markTwice_48 rfl R.sh (rk_lt (kc_rk _)) (fr_X5_172 (kc_rk _)) (by rw [rk_ft (kc_rk _) (by decide)]; rfl) ?_
        refine t_iald (pc' := 52) (q := s) dX5_markTwice_51 rfl sh_33 (by rw [R.f5]; exact hs2) (by omega) ?_
        refine s_iconst (pc' := 53) (v := -1) dX5_markTwice_52 rfl (by decide) ?_
        refine s_icmpne (pc' := 56) (tgt := 72) dX5_markTwice_53 (by decide) rfl (fun c53 => ?_) (fun c53 => ?_)
        · refine s_aload_n (pc' := 73) dX5_markTwice_72 rfl rfl ?_
          refine s_aload_n (pc' := 74) dX5_markTwice_73 rfl rfl ?_
          refine t_getI (pc' := 77) (j := 1) dX5_markTwice_74 rfl R.sh (rk_lt (kc_rk _)) (fr_X5_159 (kc_rk _)) (by rw [rk_ft (kc_rk _) (by decide)]; rfl) ?_
          rw [R.f1]
          refine s_iconst (pc' := 78) (v := 3) dX5_markTwice_77 rfl (by decide) ?_
          refine s_aload_n (pc' := 79) dX5_markTwice_78 rfl rfl ?_
          refine s_getS (pc' := 82) (b := 33) dX5_markTwice_79 rfl (by decide) rfl (by decide) fa_X5_53_5 rfl rfl ?_
          refine s_aload_n (pc' := 83) dX5_markTwice_82 rfl rfl ?_
          refine t_getI (pc' := 86) (j := 5) dX5_markTwice_83 rfl R.sh (rk_lt (kc_rk _)) (fr_X5_172 (kc_rk _)) (by rw [rk_ft (kc_rk _) (by decide)]; rfl) ?_
          refine t_iald (pc' := 87) (q := s) dX5_markTwice_86 rfl sh_33 (by rw [R.f5]; exact hs2) (by omega) ?_
          refine s_callV (pc' := 90) (As := [.int _, .int _, .int _]) dX5_markTwice_87 rfl mk_X5_beat ml_X5_162 im_X5_beat se_X5_X5_X5_beat sh_24 (by decide) rfl rfl rfl ⟨Nat.le_of_ble_eq_true rfl, Nat.le_of_ble_eq_true rfl, Nat.le_of_ble_eq_true rfl, Nat.le_of_ble_eq_true rfl⟩ (Nat.le_of_ble_eq_true rfl) (c_X5_beat (r := r) (by omega) ?_)
          refine t_iinc (pc' := 93) (v := nI (cntB (Pv D x (J 25) th (nI v)) r + 1)) (L' := [.ref 24, .int _, .ref _]) dX5_markTwice_90 rfl rfl (nI_inc _) rfl ?_
          refine s_goto (tgt := 10) dX5_markTwice_93 (by decide) ?_
          have ha : adB D x (J 25) th r (nI v) = true := adB_le hW hr hpr (by rw [← R.f0]; exact Int32.not_lt.mp c30)
          obtain ⟨w2, w3⟩ := h2 r hr ha
          rw [hs33] at c53
          rw [hs33]
          cases hn : fsO (Ps D x (J 25) th (nI v) s) r with
          | none => rw [hn] at c53; exact absurd rfl c53
          | some q =>
            rw [R.f5] at c37
            obtain ⟨hf, hlt⟩ := foS_some c37 hs2 hn
            have hne : ¬ foS D x (J 25) th r (nI v) = r := by omega
            exact s_fg [2] (by rw [hc1]; rfl) (ih (r + 1) _ (by omega) (by rw [hc1]; omega) ⟨(hP.1.up (by decide)).up (by decide), hP.2.1.st ha (by simp [hwM, hne]) (by unfold btM; rw [if_neg hne, hf]; rfl), by rw [up2_d (by decide), up2_d (by decide)]; exact hP.2.2.1, fun u a b => by
              rw [up2_d (by decide), up2_d (by decide)]
              by_cases e : u = s
              · subst e; rw [fsO_s2 hn, ← hn]; exact hP.2.2.2 u a b
              · rw [fsO_s0 (by unfold Ps; rw [hs2, decide_eq_false (fun z => e ((nI_eq (by omega) (by omega)).mp z.symm)), Bool.and_false])]; exact hP.2.2.2 u a b⟩)
        · 
          refine s_aload_n (pc' := 57) dX5_markTwice_56 rfl rfl ?_
          refine s_getS (pc' := 60) (b := 33) dX5_markTwice_57 rfl (by decide) rfl (by decide) fa_X5_53_5 rfl rfl ?_
          refine s_aload_n (pc' := 61) dX5_markTwice_60 rfl rfl ?_
          refine t_getI (pc' := 64) (j := 5) dX5_markTwice_61 rfl R.sh (rk_lt (kc_rk _)) (fr_X5_172 (kc_rk _)) (by rw [rk_ft (kc_rk _) (by decide)]; rfl) ?_
          refine s_aload_n (pc' := 65) dX5_markTwice_64 rfl rfl ?_
          refine t_getI (pc' := 68) (j := 1) dX5_markTwice_65 rfl R.sh (rk_lt (kc_rk _)) (fr_X5_159 (kc_rk _)) (by rw [rk_ft (kc_rk _) (by decide)]; rfl) ?_
          rw [R.f1]
          refine t_iast (pc' := 69) (q := s) dX5_markTwice_68 rfl sh_33 (by rw [R.f5]; exact hs2) (by omega) ?_
          refine s_goto (tgt := 90) dX5_markTwice_69 (by decide) ?_
          refine t_iinc (pc' := 93) (v := nI (cntB (Pv D x (J 25) th (nI v)) r + 1)) (L' := [.ref 24, .int _, .ref _]) dX5_markTwice_90 rfl rfl (nI_inc _) rfl ?_
          refine s_goto (tgt := 10) dX5_markTwice_93 (by decide) ?_
          have ha : adB D x (J 25) th r (nI v) = true := adB_le hW hr hpr (by rw [← R.f0]; exact Int32.not_lt.mp c30)
          obtain ⟨w2, w3⟩ := h2 r hr ha
          rw [hs33] at c53
          have hn : fsO (Ps D x (J 25) th (nI v) s) r = none := ixo_none (fun q hq => by have := ((fsO_lf _ r).1 q hq).2; omega) (by simpa using c53)
          have hf := foS_none ha hs2 hn
          exact s_fg [2] (by rw [hc1]; rfl) (ih (r + 1) _ (by omega) (by rw [hc1]; omega) ⟨hP.1.up (by decide), (hP.2.1.same (by rw [w2]; simp [hwM, hf]) (by rw [w3]; simp [btM, hf])).cg (up2_o (by decide)) (up2_o (by decide)), by rw [up2_d (by decide)]; exact hP.2.2.1, fun u a b => by
            by_cases e : u = s
            · subst e; rw [up2_s, fsO_s1 (by unfold Ps; rw [ha, hs2]; simp) hn]; rfl
            · rw [up2_e e, fsO_s0 (by unfold Ps; rw [hs2, decide_eq_false (fun z => e ((nI_eq (by omega) (by omega)).mp z.symm)), Bool.and_false])]; exact hP.2.2.2 u a b⟩)
      · refine s_goto (tgt := 90) dX5_markTwice_40 (by decide) ?_
        refine t_iinc (pc' := 93) (v := nI (cntB (Pv D x (J 25) th (nI v)) r + 1)) (L' := [.ref 24, .int _, .ref _]) dX5_markTwice_90 rfl rfl (nI_inc _) rfl ?_
        refine s_goto (tgt := 10) dX5_markTwice_93 (by decide) ?_
        have ha : adB D x (J 25) th r (nI v) = true := adB_le hW hr hpr (by rw [← R.f0]; exact Int32.not_lt.mp c30)
        obtain ⟨w2, w3⟩ := h2 r hr ha
        rw [R.f5] at c37
        replace c37 : D 63 r = 0 := by simpa using c37
        have hf : foS D x (J 25) th r (nI v) = r := by unfold foS; rw [if_pos c37]
        exact s_fg [2] (by rw [hc1]; rfl) (ih (r + 1) _ (by omega) (by rw [hc1]; omega) ⟨hP.1, hP.2.1.same (by rw [w2]; simp [hwM, hf]) (by rw [w3]; simp [btM, hf]), hP.2.2.1, fun s a b => by rw [fsO_s0 (by unfold Ps; rw [c37, decide_eq_false (fun z => nI_ne0 (n := s) (by omega) (by omega) z.symm), Bool.and_false])]; exact hP.2.2.2 s a b⟩)
theorem c_X5_markTwice {N : Nat} {S : Nat → Nat × Nat} {I : Nat → Nat → Int32} {J : Nat → Nat → Int64} {Q : Nat → Nat → Option Nat} {κ : Option Value → HP → Prop} {D : Nat → Nat → Int32} {nv nr ns : Nat} {ad td : Nat → Nat} (X : XS N S I Q D nv nr ns ad td 0) (hW : DW D nv nr ns) {v : Nat} {x th : Int32} (hv : v < nv) (G : GS I Q D x (J 25) th (nI v) nr ad) (h2 : ∀ r, r < nr → adB D x (J 25) th r (nI v) = true → I 27 r = 2 ∧ I 28 r = -1) (hk : ∀ I', MK I I' D x (J 25) th (nI v) nr → κ none (N, S, I', J, Q)) : CT E1 M_X5_markTwice [.ref 24] (N, S, I, J, Q) κ := by
  refine ofSP mk_X5_markTwice (Nat.le_of_ble_eq_true rfl) (L := [.ref 24, .retAddr _, .retAddr _]) rfl ?_
  refine s_aload_n (pc' := 1) dX5_markTwice_0 rfl rfl ?_
  refine s_getS (pc' := 4) (b := 33) dX5_markTwice_1 rfl (by decide) rfl (by decide) fa_X5_53_5 rfl rfl ?_
  refine s_iconst (pc' := 5) (v := -1) dX5_markTwice_4 rfl (by decide) ?_
  refine s_callS (pc' := 8) (As := [.ref 33, .int _]) dX5_markTwice_5 rfl mk_J7_fill_53178 ml_X5_166 sm_J7_fill_53178 rfl rfl ⟨Nat.le_of_ble_eq_true rfl, Nat.le_of_ble_eq_true rfl, Nat.le_of_ble_eq_true rfl, Nat.le_of_ble_eq_true rfl⟩ (Nat.le_of_ble_eq_true rfl) (c_J7_fill_53178 (by decide) (fun {_ _ _} => sh_33) ?_)
  refine s_iconst (pc' := 9) (v := 0) dX5_markTwice_8 rfl (by decide) ?_
  refine t_istore_n (pc' := 10) (L' := [.ref 24, .int _, .retAddr _]) dX5_markTwice_9 rfl (Nat.le_of_ble_eq_true rfl) rfl ?_
  exact l_X5_markTwice X hW hv G h2 hk (cntB (Pv D x (J 25) th (nI v)) nr) 0 _ (Nat.zero_le _) (by simp [cntB]) ⟨FH.rf.fl (by decide), RV.rf.cg (fl_o (by decide)) (fl_o (by decide)), by rw [fl_o (by decide)], fun s a b => by rw [fl_i (by omega)]; rfl⟩
