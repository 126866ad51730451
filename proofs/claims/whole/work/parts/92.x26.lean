/-! ===== the same entries ===== -/
/-- the rules before k are the same -/
def EQR (D D' : Nat → Nat → Int32) (k : Nat) : Prop := ∀ i, 60 ≤ i → i ≤ 71 → ∀ r, r < k → D' i r = D i r
def EQD (D D' : Nat → Nat → Int32) : Prop := ∀ i, 55 ≤ i → i ≤ 75 → ∀ j, j < lenA i → D' i j = D i j
section EQ
variable {N : Nat} {S : Nat → Nat × Nat} {I I' : Nat → Nat → Int32} {Q Q' : Nat → Nat → Option Nat} {D D' : Nat → Nat → Int32} {nv nr ns n : Nat} {ad td : Nat → Nat} {r a t k o : Nat}
theorem EQR.le (h : EQR D D' nr) (hk : k ≤ nr) : EQR D D' k := fun i a b r hr => h i a b r (by omega)
theorem EQR.nds : ∀ k, EQR D D' k → ∀ v, nd D' k v = nd D k v
  | 0, _, v => rfl
  | k + 1, h, v => by
    rw [nd, nd, EQR.nds k (h.le (Nat.le_succ _)) v]; unfold rb
    rw [h 60 (by decide) (by decide) k (by omega), h 61 (by decide) (by decide) k (by omega), h 67 (by decide) (by decide) k (by omega), h 69 (by decide) (by decide) k (by omega), h 70 (by decide) (by decide) k (by omega)]
theorem EQR.ndf (h : EQR D D' k) : nd D' k = nd D k := by funext v; exact EQR.nds k h v
theorem EQR.rc (h : EQR D D' nr) : RC D' nr = RC D nr := by unfold RC; rw [h.ndf]
theorem EQR.ac (h : EQR D D' nr) (hA : AC D nv nr) : AC D' nv nr := by unfold AC; rw [h.ndf]; exact hA
theorem EQR.nt (h : EQR D D' nr) (hN : NT I D nv nr o) : NT I D' nv nr o := by unfold NT; rw [h.rc]; exact hN
theorem EQR.ro (h : EQR D D' nr) (hr : r < nr) (R : RO N S I Q D r a t) : RO N S I Q D' r a t := by
  unfold RO
  rw [h 60 (by decide) (by decide) r hr, h 61 (by decide) (by decide) r hr, h 62 (by decide) (by decide) r hr, h 63 (by decide) (by decide) r hr, h 64 (by decide) (by decide) r hr, h 65 (by decide) (by decide) r hr, h 66 (by decide) (by decide) r hr, h 67 (by decide) (by decide) r hr, h 68 (by decide) (by decide) r hr, h 69 (by decide) (by decide) r hr, h 70 (by decide) (by decide) r hr, h 71 (by decide) (by decide) r hr]
  exact R
theorem EQR.t64 (h : EQR D D' nr) (ht : T64 D nr) : T64 D' nr := fun r hr z => by
  rw [h 60 (by decide) (by decide) r hr] at z
  rw [h 64 (by decide) (by decide) r hr]; exact ht r hr z
theorem lenA_v {i j : Nat} (h1 : 55 ≤ i) (h2 : i ≤ 59) (hj : j < 10) : j < lenA i := by unfold lenA; rw [if_pos (by omega)]; exact hj
theorem lenA_r {i j : Nat} (h1 : 60 ≤ i) (h2 : i ≤ 71) (hj : j < 30) : j < lenA i := by unfold lenA; rw [if_neg (by omega), if_pos (by omega)]; exact hj
theorem lenA_s {i j : Nat} (h1 : 72 ≤ i) (h2 : i ≤ 74) (hj : j < 10) : j < lenA i := by unfold lenA; rw [if_neg (by omega), if_neg (by omega), if_pos (by omega)]; exact hj
theorem EQD.rr (h : EQD D D') (hn : nr ≤ 30) : EQR D D' nr := fun i a b r hr => h i (by omega) (by omega) r (lenA_r a b (by omega))
theorem EQD.v (h : EQD D D') {i j : Nat} (h1 : 55 ≤ i) (h2 : i ≤ 59) (hj : j < 10) : D' i j = D i j := h i h1 (by omega) j (lenA_v h1 h2 hj)
theorem EQD.s (h : EQD D D') {i j : Nat} (h1 : 72 ≤ i) (h2 : i ≤ 74) (hj : j < 10) : D' i j = D i j := h i (by omega) (by omega) j (lenA_s h1 h2 hj)
theorem EQD.h (h : EQD D D') {j : Nat} (hj : j < 7) : D' 75 j = D 75 j := h 75 (by decide) (by decide) j hj
theorem EQD.dw (h : EQD D D') (hW : DW D nv nr ns) : DW D' nv nr ns := by
  have hv := hW.nv; have hr0 := hW.nr; have hs := hW.ns
  have R := h.rr hr0
  obtain ⟨q1, q2, q3, q4, q5⟩ := hW
  refine ⟨?_, fun r hr => ?_, fun v hv => ?_, fun k hk => ?_, ?_⟩
  · rw [h.h (by decide), h.h (by decide), h.h (by decide)]; exact q1
  · rw [R 60 (by decide) (by decide) r hr, R 61 (by decide) (by decide) r hr, R 62 (by decide) (by decide) r hr, R 63 (by decide) (by decide) r hr, R 64 (by decide) (by decide) r hr, R 65 (by decide) (by decide) r hr, R 66 (by decide) (by decide) r hr, R 67 (by decide) (by decide) r hr, R 68 (by decide) (by decide) r hr, R 69 (by decide) (by decide) r hr, R 70 (by decide) (by decide) r hr]
    exact q2 r hr
  · rw [h.v (i := 55) (by decide) (by decide) (by omega), h.v (i := 56) (by decide) (by decide) (by omega), h.v (i := 57) (by decide) (by decide) (by omega), h.v (i := 58) (by decide) (by decide) (by omega), h.v (i := 59) (by decide) (by decide) (by omega)]; exact q3 v hv
  · rw [h.s (i := 72) (by decide) (by decide) (by omega), h.s (i := 73) (by decide) (by decide) (by omega), h.s (i := 74) (by decide) (by decide) (by omega)]; exact q4 k hk
  · rw [h.h (by decide), h.h (by decide), h.h (by decide), h.h (by decide)]; exact q5
theorem EQD.xs (h : EQD D D') (hW : DW D nv nr ns) (X : XS N S I Q D nv nr ns ad td o) : XS N S I Q D' nv nr ns ad td o := by
  have hv := hW.nv; have hr0 := hW.nr; have hs := hW.ns
  have R := h.rr hr0
  obtain ⟨q1, q2, q3, q4⟩ := X
  refine ⟨?_, fun v hv => ?_, fun r hr => ⟨(q3 r hr).1, R.ro hr (q3 r hr).2⟩, fun k hk => ?_⟩
  · rw [h.h (by decide), h.h (by decide), h.h (by decide), h.h (by decide)]; exact q1
  · rw [R.ndf, h.v (i := 55) (by decide) (by decide) (by omega), h.v (i := 56) (by decide) (by decide) (by omega), h.v (i := 57) (by decide) (by decide) (by omega), h.v (i := 58) (by decide) (by decide) (by omega), h.v (i := 59) (by decide) (by decide) (by omega)]; exact q2 v hv
  · rw [h.s (i := 72) (by decide) (by decide) (by omega), h.s (i := 73) (by decide) (by decide) (by omega), h.s (i := 74) (by decide) (by decide) (by omega)]; exact q4 k hk
theorem EQD.spb (h : EQD D D') (hv : nv ≤ 10) (hs : SPB D nv n) : SPB D' nv n := fun v hv => by
  rw [h.v (i := 59) (by decide) (by decide) (by omega)]; exact hs v hv
end EQ
/-! ===== copyOf ===== -/
theorem cpy_in {f g : Nat → Int32} {k : Nat} (hk : k < 10) : va_cpy f g 0 0 10 k = f k := by
  unfold va_cpy; rw [if_pos (by omega), Nat.zero_add, Nat.sub_zero]
def CP (I I' : Nat → Nat → Int32) (o p : Nat) (f c : Nat → Prop) : Prop :=
  (∀ a, (a ≤ p ∨ p + 11 < a) → I' a = I a) ∧ (∀ j, f j → I' (p + 1) j = I (o + 1) j) ∧ (∀ i, 2 ≤ i → i ≤ 11 → c i → ∀ k, k < 10 → I' (p + i) k = I (o + i) k)
def CQ (Q Q' : Nat → Nat → Option Nat) (o p k : Nat) : Prop := (∀ a, a ≠ p + 8 → Q' a = Q a) ∧ ∀ r, r < k → Q' (p + 8) r = Q (o + 8) r
section CP
variable {N : Nat} {S : Nat → Nat × Nat} {I I' : Nat → Nat → Int32} {Q Q' : Nat → Nat → Option Nat} {D : Nat → Nat → Int32} {nv nr ns : Nat} {ad td : Nat → Nat} {o p k : Nat} {f c : Nat → Prop}
theorem CP.z : CP I I o p (fun _ => False) (fun _ => False) := ⟨fun _ _ => rfl, fun _ h => h.elim, fun _ _ _ h => h.elim⟩
theorem CP.u {a b j : Nat} (h : CP I I' o p f c) (hop : o + 11 ≤ p ∨ p + 11 ≤ o) (ha : a = p + 1) (hb : b = o + 1) : CP I (up2 I' a j (I' b j)) o p (fun q => q = j ∨ f q) c := by
  subst ha; subst hb
  obtain ⟨h1, h2, h3⟩ := h
  refine ⟨fun a ha => by rw [up2_o (by omega)]; exact h1 a ha, fun q hq => ?_, fun i i1 i2 hi k hk => ?_⟩
  · by_cases e : q = j
    · rw [e, up2_s, h1 (o + 1) (by omega)]
    · rw [up2_e e]; exact h2 q (hq.resolve_left e)
  · rw [up2_d (by omega)]; exact h3 i i1 i2 hi k hk
theorem CP.r {a b i : Nat} (h : CP I I' o p f c) (hop : o + 11 ≤ p ∨ p + 11 ≤ o) (ha : a = p + i) (hb : b = o + i) (i1 : 2 ≤ i) (i2 : i ≤ 11) : CP I (row I' a (va_cpy (I' b) (I' a) 0 0 10)) o p f (fun q => q = i ∨ c q) := by
  subst ha; subst hb
  obtain ⟨h1, h2, h3⟩ := h
  refine ⟨fun a ha => by rw [row_o (by omega)]; exact h1 a ha, fun q hq => ?_, fun q q1 q2 hq k hk => ?_⟩
  · rw [row_o (by omega)]; exact h2 q hq
  · by_cases e : q = i
    · rw [e, row_s, cpy_in hk, h1 (o + i) (by omega)]
    · rw [row_o (by omega)]; exact h3 q q1 q2 (hq.resolve_left e) k hk
theorem CQ.z : CQ Q Q o p 0 := ⟨fun _ _ => rfl, fun _ h => absurd h (Nat.not_lt_zero _)⟩
theorem CQ.s {a : Nat} {v : Option Nat} (h : CQ Q Q' o p k) (ha : a = p + 8) (hv : v = Q (o + 8) k) : CQ Q (up2 Q' a k v) o p (k + 1) := by
  subst ha
  refine ⟨fun a ha => by rw [up2_o ha]; exact h.1 a ha, fun r hr => ?_⟩
  by_cases e : r = k
  · rw [e, up2_s, hv]
  · rw [up2_e e]; exact h.2 r (by omega)
/-- all that copyOf copies -/
def CPY (I I' : Nat → Nat → Int32) (Q Q' : Nat → Nat → Option Nat) (o p : Nat) : Prop := CP I I' o p (fun j => j = 0 ∨ j = 7 ∨ j = 9 ∨ (13 ≤ j ∧ j ≤ 16)) (fun i => i ≠ 8) ∧ CQ Q Q' o p 30
theorem CPY.xs (h : CPY I I' Q Q' o p) (ho : o ≤ 11) (hp : p ≤ 11) (hW : DW D nv nr ns) (X : XS N S I Q D nv nr ns ad td o) : XS N S I' Q' D nv nr ns ad td p := by
  have hv := hW.nv; have hr0 := hW.nr; have hs := hW.ns
  obtain ⟨⟨h1, h2, h3⟩, h4, h5⟩ := h
  obtain ⟨q1, q2, q3, q4⟩ := X
  refine ⟨?_, fun v hv => ?_, fun r hr => ⟨by rw [h5 r (by omega)]; exact (q3 r hr).1, (q3 r hr).2.mv (fun a ha => h1 a (by omega)) (fun a ha => h4 a (by omega))⟩, fun k hk => ?_⟩
  · rw [h2 0 (by simp), h2 7 (by simp), h2 9 (by simp), h2 13 (by simp), h2 14 (by simp), h2 15 (by simp), h2 16 (by simp)]; exact q1
  · rw [h3 2 (by decide) (by decide) (by decide) v (by omega), h3 3 (by decide) (by decide) (by decide) v (by omega), h3 4 (by decide) (by decide) (by decide) v (by omega), h3 5 (by decide) (by decide) (by decide) v (by omega), h3 6 (by decide) (by decide) (by decide) v (by omega)]; exact q2 v hv
  · rw [h3 9 (by decide) (by decide) (by decide) k (by omega), h3 10 (by decide) (by decide) (by decide) k (by omega), h3 11 (by decide) (by decide) (by decide) k (by omega)]; exact q4 k hk
theorem CPY.nt (h : CPY I I' Q Q' o p) (hW : DW D nv nr ns) (hN : NT I D nv nr o) : NT I' D nv nr p := fun v hv u => by
  have h10 := hW.nv
  rw [h.1.2.2 7 (by decide) (by decide) (by decide) v (by omega)]; exact hN v hv u
theorem CPY.qr (h : CPY I I' Q Q' o p) (hq : QR N S Q (o + 8)) : QR N S Q' (p + 8) := fun r hr => by
  rw [h.2.2 r hr]; exact hq r hr
end CP
section TN
variable {E : EV} {M : MD} {κ : Option Value → HP → Prop} {pc pc' : Nat} {L st : List Value} {cs ss : Nat} {N : Nat} {S : Nat → Nat × Nat} {I : Nat → Nat → Int32} {J : Nat → Nat → Int64} {Q : Nat → Nat → Option Nat} {a n ci : Nat} {i : Int32} {q : Nat}
theorem t_aaldN (hd : decode M.2.1 pc = .ok (.aaload, 1)) (hp : pc + 1 = pc') (hk : ci = 16 ∨ ci = 17) (hs : Sh E (N, S, I, J, Q) a ci n) (hi : i = nI q) (hq : q < n) (hb : Q a q = none) (k : SP E M κ pc' L (.null :: st) (N, S, I, J, Q) cs ss) : SP E M κ pc L (.int i :: .ref a :: st) (N, S, I, J, Q) cs ss := t_aaldV hd hp hk hs hi hq (by rw [hb]; exact k)
end TN
set_option maxHeartbeats 200000 in
theorem l_X8_copyOf_k {N : Nat} {S : Nat → Nat × Nat} {I : Nat → Nat → Int32} {J : Nat → Nat → Int64} {Q : Nat → Nat → Option Nat} {κ : Option Value → HP → Prop} (hq : QR N S Q 8) (hk : ∀ Q', CQ Q Q' 0 11 30 → SP E1 M_X8_copyOf κ 132 [.ref 12, .ref 1, .int (nI 30)] [] (N, S, I, J, Q') 0 0) : ∀ d : Nat, ∀ k Q', k + d = 30 → CQ Q Q' 0 11 k → SP E1 M_X8_copyOf κ 108 [.ref 12, .ref 1, .int (nI k)] [] (N, S, I, J, Q') 0 0 := by
  intro d
  induction d with
  | zero =>
    intro k Q' hd g
    obtain rfl : k = 30 := by omega
    refine s_iload_n (pc' := 109) dX8_copyOf_108 rfl rfl ?_
    refine s_bipush (pc' := 111) (v := 30) dX8_copyOf_109 rfl (by decide) ?_
    refine s_icmpgeT (tgt := 132) dX8_copyOf_111 (by decide) (by decide) ?_
    exact hk _ g
  | succ d ih =>
    intro k Q' hd g
    rcases hq k (by omega) with z | ⟨b, kk, z1, z2, z3, z4⟩
    · refine s_iload_n (pc' := 109) dX8_copyOf_108 rfl rfl ?_
      refine s_bipush (pc' := 111) (v := 30) dX8_copyOf_109 rfl (by decide) ?_
      refine s_icmpgeF (pc' := 114) (tgt := 132) dX8_copyOf_111 (by decide) rfl (nI_ge (b := 30) (by omega) (by decide)) ?_
      refine s_aload_n (pc' := 115) dX8_copyOf_114 rfl rfl ?_
      refine s_getS (pc' := 118) (b := 19) dX8_copyOf_115 rfl (by decide) rfl (by decide) fa_X8_39_8 rfl rfl ?_
      refine s_iload_n (pc' := 119) dX8_copyOf_118 rfl rfl ?_
      refine s_aload_n (pc' := 120) dX8_copyOf_119 rfl rfl ?_
      refine s_getS (pc' := 123) (b := 8) dX8_copyOf_120 rfl (by decide) rfl (by decide) fa_X8_39_8 rfl rfl ?_
      refine s_iload_n (pc' := 124) dX8_copyOf_123 rfl rfl ?_
      refine t_aaldN (pc' := 125) dX8_copyOf_124 rfl (Or.inl rfl) sh_8 rfl (by omega) (by rw [g.1 8 (by decide)]; exact z) ?_
      refine t_aastN (pc' := 126) dX8_copyOf_125 rfl sh_19 rfl (by omega) (fun _ _ => rfl) ?_
      refine t_iinc (pc' := 129) (v := nI (k + 1)) (L' := [.ref 12, .ref 1, .int _]) dX8_copyOf_126 rfl rfl (nI_inc k) rfl ?_
      refine s_goto (tgt := 108) dX8_copyOf_129 (by decide) ?_
      exact ih (k + 1) _ (by omega) (g.s rfl z.symm)
    · refine s_iload_n (pc' := 109) dX8_copyOf_108 rfl rfl ?_
      refine s_bipush (pc' := 111) (v := 30) dX8_copyOf_109 rfl (by decide) ?_
      refine s_icmpgeF (pc' := 114) (tgt := 132) dX8_copyOf_111 (by decide) rfl (nI_ge (b := 30) (by omega) (by decide)) ?_
      refine s_aload_n (pc' := 115) dX8_copyOf_114 rfl rfl ?_
      refine s_getS (pc' := 118) (b := 19) dX8_copyOf_115 rfl (by decide) rfl (by decide) fa_X8_39_8 rfl rfl ?_
      refine s_iload_n (pc' := 119) dX8_copyOf_118 rfl rfl ?_
      refine s_aload_n (pc' := 120) dX8_copyOf_119 rfl rfl ?_
      refine s_getS (pc' := 123) (b := 8) dX8_copyOf_120 rfl (by decide) rfl (by decide) fa_X8_39_8 rfl rfl ?_
      refine s_iload_n (pc' := 124) dX8_copyOf_123 rfl rfl ?_
      refine t_aald (pc' := 125) dX8_copyOf_124 rfl (Or.inl rfl) sh_8 rfl (by omega) (by rw [g.1 8 (by decide)]; exact z1) ?_
      refine t_aast (pc' := 126) dX8_copyOf_125 rfl sh_19 rfl (by omega) (Sh.dy (by decide) z3 z4) (kc_rk _) (fun _ _ => rfl) ?_
      refine t_iinc (pc' := 129) (v := nI (k + 1)) (L' := [.ref 12, .ref 1, .int _]) dX8_copyOf_126 rfl rfl (nI_inc k) rfl ?_
      refine s_goto (tgt := 108) dX8_copyOf_129 (by decide) ?_
      exact ih (k + 1) _ (by omega) (g.s rfl z1.symm)
set_option maxHeartbeats 200000 in
theorem c_X8_copyOf_k {N : Nat} {S : Nat → Nat × Nat} {I : Nat → Nat → Int32} {J : Nat → Nat → Int64} {Q : Nat → Nat → Option Nat} {κ : Option Value → HP → Prop} (hq : QR N S Q 8) (hk : ∀ I' Q', CPY I I' Q Q' 0 11 → κ none (N, S, I', J, Q')) : CT E1 M_X8_copyOf [.ref 12, .ref 1] (N, S, I, J, Q) κ := by
  refine ofSP mk_X8_copyOf (Nat.le_of_ble_eq_true rfl) (L := [.ref 12, .ref 1, .retAddr _]) rfl ?_
  refine s_aload_n (pc' := 1) dX8_copyOf_0 rfl rfl ?_
  refine s_aload_n (pc' := 2) dX8_copyOf_1 rfl rfl ?_
  refine t_getI (pc' := 5) dX8_copyOf_2 rfl sh_1 (by decide) fa_X8_9_8 rfl ?_
  refine t_putI (pc' := 8) dX8_copyOf_5 rfl sh_12 (by decide) fa_X8_9_8 (Or.inl rfl) rfl rfl rfl ?_
  have g1 := (CP.z (I := I) (o := 0) (p := 11)).u (a := 12) (b := 1) (j := 0) (by decide) rfl rfl
  generalize up2 I 12 0 (I 1 0) = I1 at g1 ⊢
  refine s_aload_n (pc' := 9) dX8_copyOf_8 rfl rfl ?_
  refine s_getS (pc' := 12) (b := 2) dX8_copyOf_9 rfl (by decide) rfl (by decide) fa_X8_15_8 rfl rfl ?_
  refine s_iconst (pc' := 13) (v := 0) dX8_copyOf_12 rfl (by decide) ?_
  refine s_aload_n (pc' := 14) dX8_copyOf_13 rfl rfl ?_
  refine s_getS (pc' := 17) (b := 13) dX8_copyOf_14 rfl (by decide) rfl (by decide) fa_X8_15_8 rfl rfl ?_
  refine s_iconst (pc' := 18) (v := 0) dX8_copyOf_17 rfl (by decide) ?_
  refine s_bipush (pc' := 20) (v := 10) dX8_copyOf_18 rfl (by decide) ?_
  refine t_copyI (pc' := 23) dX8_copyOf_20 rfl ml_X8_67 sh_2 sh_13 (show (0 : Int32) = nI 0 from rfl) (show (0 : Int32) = nI 0 from rfl) (show (10 : Int32) = nI 10 from rfl) (by decide) (by decide) (by decide) (Nat.le_of_ble_eq_true rfl) ?_
  have g2 := g1.r (a := 13) (b := 2) (i := 2) (by decide) rfl rfl (by decide) (by decide)
  generalize row I1 13 (va_cpy (I1 2) (I1 13) 0 0 10) = I2 at g2 ⊢
  refine s_aload_n (pc' := 24) dX8_copyOf_23 rfl rfl ?_
  refine s_getS (pc' := 27) (b := 3) dX8_copyOf_24 rfl (by decide) rfl (by decide) fa_X8_19_8 rfl rfl ?_
  refine s_iconst (pc' := 28) (v := 0) dX8_copyOf_27 rfl (by decide) ?_
  refine s_aload_n (pc' := 29) dX8_copyOf_28 rfl rfl ?_
  refine s_getS (pc' := 32) (b := 14) dX8_copyOf_29 rfl (by decide) rfl (by decide) fa_X8_19_8 rfl rfl ?_
  refine s_iconst (pc' := 33) (v := 0) dX8_copyOf_32 rfl (by decide) ?_
  refine s_bipush (pc' := 35) (v := 10) dX8_copyOf_33 rfl (by decide) ?_
  refine t_copyI (pc' := 38) dX8_copyOf_35 rfl ml_X8_67 sh_3 sh_14 (show (0 : Int32) = nI 0 from rfl) (show (0 : Int32) = nI 0 from rfl) (show (10 : Int32) = nI 10 from rfl) (by decide) (by decide) (by decide) (Nat.le_of_ble_eq_true rfl) ?_
  have g3 := g2.r (a := 14) (b := 3) (i := 3) (by decide) rfl rfl (by decide) (by decide)
  generalize row I2 14 (va_cpy (I2 3) (I2 14) 0 0 10) = I3 at g3 ⊢
  refine s_aload_n (pc' := 39) dX8_copyOf_38 rfl rfl ?_
  refine s_getS (pc' := 42) (b := 4) dX8_copyOf_39 rfl (by decide) rfl (by decide) fa_X8_22_8 rfl rfl ?_
  refine s_iconst (pc' := 43) (v := 0) dX8_copyOf_42 rfl (by decide) ?_
  refine s_aload_n (pc' := 44) dX8_copyOf_43 rfl rfl ?_
  refine s_getS (pc' := 47) (b := 15) dX8_copyOf_44 rfl (by decide) rfl (by decide) fa_X8_22_8 rfl rfl ?_
  refine s_iconst (pc' := 48) (v := 0) dX8_copyOf_47 rfl (by decide) ?_
  refine s_bipush (pc' := 50) (v := 10) dX8_copyOf_48 rfl (by decide) ?_
  refine t_copyI (pc' := 53) dX8_copyOf_50 rfl ml_X8_67 sh_4 sh_15 (show (0 : Int32) = nI 0 from rfl) (show (0 : Int32) = nI 0 from rfl) (show (10 : Int32) = nI 10 from rfl) (by decide) (by decide) (by decide) (Nat.le_of_ble_eq_true rfl) ?_
  have g4 := g3.r (a := 15) (b := 4) (i := 4) (by decide) rfl rfl (by decide) (by decide)
  generalize row I3 15 (va_cpy (I3 4) (I3 15) 0 0 10) = I4 at g4 ⊢
  refine s_aload_n (pc' := 54) dX8_copyOf_53 rfl rfl ?_
  refine s_getS (pc' := 57) (b := 5) dX8_copyOf_54 rfl (by decide) rfl (by decide) fa_X8_25_8 rfl rfl ?_
  refine s_iconst (pc' := 58) (v := 0) dX8_copyOf_57 rfl (by decide) ?_
  refine s_aload_n (pc' := 59) dX8_copyOf_58 rfl rfl ?_
  refine s_getS (pc' := 62) (b := 16) dX8_copyOf_59 rfl (by decide) rfl (by decide) fa_X8_25_8 rfl rfl ?_
  refine s_iconst (pc' := 63) (v := 0) dX8_copyOf_62 rfl (by decide) ?_
  refine s_bipush (pc' := 65) (v := 10) dX8_copyOf_63 rfl (by decide) ?_
  refine t_copyI (pc' := 68) dX8_copyOf_65 rfl ml_X8_67 sh_5 sh_16 (show (0 : Int32) = nI 0 from rfl) (show (0 : Int32) = nI 0 from rfl) (show (10 : Int32) = nI 10 from rfl) (by decide) (by decide) (by decide) (Nat.le_of_ble_eq_true rfl) ?_
  have g5 := g4.r (a := 16) (b := 5) (i := 5) (by decide) rfl rfl (by decide) (by decide)
  generalize row I4 16 (va_cpy (I4 5) (I4 16) 0 0 10) = I5 at g5 ⊢
  refine s_aload_n (pc' := 69) dX8_copyOf_68 rfl rfl ?_
  refine s_getS (pc' := 72) (b := 6) dX8_copyOf_69 rfl (by decide) rfl (by decide) fa_X8_28_8 rfl rfl ?_
  refine s_iconst (pc' := 73) (v := 0) dX8_copyOf_72 rfl (by decide) ?_
  refine s_aload_n (pc' := 74) dX8_copyOf_73 rfl rfl ?_
  refine s_getS (pc' := 77) (b := 17) dX8_copyOf_74 rfl (by decide) rfl (by decide) fa_X8_28_8 rfl rfl ?_
  refine s_iconst (pc' := 78) (v := 0) dX8_copyOf_77 rfl (by decide) ?_
  refine s_bipush (pc' := 80) (v := 10) dX8_copyOf_78 rfl (by decide) ?_
  refine t_copyI (pc' := 83) dX8_copyOf_80 rfl ml_X8_67 sh_6 sh_17 (show (0 : Int32) = nI 0 from rfl) (show (0 : Int32) = nI 0 from rfl) (show (10 : Int32) = nI 10 from rfl) (by decide) (by decide) (by decide) (Nat.le_of_ble_eq_true rfl) ?_
  have g6 := g5.r (a := 17) (b := 6) (i := 6) (by decide) rfl rfl (by decide) (by decide)
  generalize row I5 17 (va_cpy (I5 6) (I5 17) 0 0 10) = I6 at g6 ⊢
  refine s_aload_n (pc' := 84) dX8_copyOf_83 rfl rfl ?_
  refine s_getS (pc' := 87) (b := 7) dX8_copyOf_84 rfl (by decide) rfl (by decide) fa_X8_31_8 rfl rfl ?_
  refine s_iconst (pc' := 88) (v := 0) dX8_copyOf_87 rfl (by decide) ?_
  refine s_aload_n (pc' := 89) dX8_copyOf_88 rfl rfl ?_
  refine s_getS (pc' := 92) (b := 18) dX8_copyOf_89 rfl (by decide) rfl (by decide) fa_X8_31_8 rfl rfl ?_
  refine s_iconst (pc' := 93) (v := 0) dX8_copyOf_92 rfl (by decide) ?_
  refine s_bipush (pc' := 95) (v := 10) dX8_copyOf_93 rfl (by decide) ?_
  refine t_copyI (pc' := 98) dX8_copyOf_95 rfl ml_X8_67 sh_7 sh_18 (show (0 : Int32) = nI 0 from rfl) (show (0 : Int32) = nI 0 from rfl) (show (10 : Int32) = nI 10 from rfl) (by decide) (by decide) (by decide) (Nat.le_of_ble_eq_true rfl) ?_
  have g7 := g6.r (a := 18) (b := 7) (i := 7) (by decide) rfl rfl (by decide) (by decide)
  generalize row I6 18 (va_cpy (I6 7) (I6 18) 0 0 10) = I7 at g7 ⊢
  refine s_aload_n (pc' := 99) dX8_copyOf_98 rfl rfl ?_
  refine s_aload_n (pc' := 100) dX8_copyOf_99 rfl rfl ?_
  refine t_getI (pc' := 103) dX8_copyOf_100 rfl sh_1 (by decide) fa_X8_34_8 rfl ?_
  refine t_putI (pc' := 106) dX8_copyOf_103 rfl sh_12 (by decide) fa_X8_34_8 (Or.inl rfl) rfl rfl rfl ?_
  have g8 := g7.u (a := 12) (b := 1) (j := 7) (by decide) rfl rfl
  generalize up2 I7 12 7 (I7 1 7) = I8 at g8 ⊢
  refine s_iconst (pc' := 107) (v := 0) dX8_copyOf_106 rfl (by decide) ?_
  refine t_istore_n (pc' := 108) (L' := [.ref 12, .ref 1, .int _]) dX8_copyOf_107 rfl (Nat.le_of_ble_eq_true rfl) rfl ?_
  refine l_X8_copyOf_k hq (fun Q1 gq => ?_) 30 0 _ (by omega) CQ.z
  refine s_aload_n (pc' := 133) dX8_copyOf_132 rfl rfl ?_
  refine s_aload_n (pc' := 134) dX8_copyOf_133 rfl rfl ?_
  refine t_getI (pc' := 137) dX8_copyOf_134 rfl sh_1 (by decide) fa_X8_43_8 rfl ?_
  refine t_putI (pc' := 140) dX8_copyOf_137 rfl sh_12 (by decide) fa_X8_43_8 (Or.inl rfl) rfl rfl rfl ?_
  have g9 := g8.u (a := 12) (b := 1) (j := 9) (by decide) rfl rfl
  generalize up2 I8 12 9 (I8 1 9) = I9 at g9 ⊢
  refine s_aload_n (pc' := 141) dX8_copyOf_140 rfl rfl ?_
  refine s_getS (pc' := 144) (b := 9) dX8_copyOf_141 rfl (by decide) rfl (by decide) fa_X8_46_8 rfl rfl ?_
  refine s_iconst (pc' := 145) (v := 0) dX8_copyOf_144 rfl (by decide) ?_
  refine s_aload_n (pc' := 146) dX8_copyOf_145 rfl rfl ?_
  refine s_getS (pc' := 149) (b := 20) dX8_copyOf_146 rfl (by decide) rfl (by decide) fa_X8_46_8 rfl rfl ?_
  refine s_iconst (pc' := 150) (v := 0) dX8_copyOf_149 rfl (by decide) ?_
  refine s_bipush (pc' := 152) (v := 10) dX8_copyOf_150 rfl (by decide) ?_
  refine t_copyI (pc' := 155) dX8_copyOf_152 rfl ml_X8_67 sh_9 sh_20 (show (0 : Int32) = nI 0 from rfl) (show (0 : Int32) = nI 0 from rfl) (show (10 : Int32) = nI 10 from rfl) (by decide) (by decide) (by decide) (Nat.le_of_ble_eq_true rfl) ?_
  have g10 := g9.r (a := 20) (b := 9) (i := 9) (by decide) rfl rfl (by decide) (by decide)
  generalize row I9 20 (va_cpy (I9 9) (I9 20) 0 0 10) = I10 at g10 ⊢
  refine s_aload_n (pc' := 156) dX8_copyOf_155 rfl rfl ?_
  refine s_getS (pc' := 159) (b := 10) dX8_copyOf_156 rfl (by decide) rfl (by decide) fa_X8_49_8 rfl rfl ?_
  refine s_iconst (pc' := 160) (v := 0) dX8_copyOf_159 rfl (by decide) ?_
  refine s_aload_n (pc' := 161) dX8_copyOf_160 rfl rfl ?_
  refine s_getS (pc' := 164) (b := 21) dX8_copyOf_161 rfl (by decide) rfl (by decide) fa_X8_49_8 rfl rfl ?_
  refine s_iconst (pc' := 165) (v := 0) dX8_copyOf_164 rfl (by decide) ?_
  refine s_bipush (pc' := 167) (v := 10) dX8_copyOf_165 rfl (by decide) ?_
  refine t_copyI (pc' := 170) dX8_copyOf_167 rfl ml_X8_67 sh_10 sh_21 (show (0 : Int32) = nI 0 from rfl) (show (0 : Int32) = nI 0 from rfl) (show (10 : Int32) = nI 10 from rfl) (by decide) (by decide) (by decide) (Nat.le_of_ble_eq_true rfl) ?_
  have g11 := g10.r (a := 21) (b := 10) (i := 10) (by decide) rfl rfl (by decide) (by decide)
  generalize row I10 21 (va_cpy (I10 10) (I10 21) 0 0 10) = I11 at g11 ⊢
  refine s_aload_n (pc' := 171) dX8_copyOf_170 rfl rfl ?_
  refine s_getS (pc' := 174) (b := 11) dX8_copyOf_171 rfl (by decide) rfl (by decide) fa_X8_52_8 rfl rfl ?_
  refine s_iconst (pc' := 175) (v := 0) dX8_copyOf_174 rfl (by decide) ?_
  refine s_aload_n (pc' := 176) dX8_copyOf_175 rfl rfl ?_
  refine s_getS (pc' := 179) (b := 22) dX8_copyOf_176 rfl (by decide) rfl (by decide) fa_X8_52_8 rfl rfl ?_
  refine s_iconst (pc' := 180) (v := 0) dX8_copyOf_179 rfl (by decide) ?_
  refine s_bipush (pc' := 182) (v := 10) dX8_copyOf_180 rfl (by decide) ?_
  refine t_copyI (pc' := 185) dX8_copyOf_182 rfl ml_X8_67 sh_11 sh_22 (show (0 : Int32) = nI 0 from rfl) (show (0 : Int32) = nI 0 from rfl) (show (10 : Int32) = nI 10 from rfl) (by decide) (by decide) (by decide) (Nat.le_of_ble_eq_true rfl) ?_
  have g12 := g11.r (a := 22) (b := 11) (i := 11) (by decide) rfl rfl (by decide) (by decide)
  generalize row I11 22 (va_cpy (I11 11) (I11 22) 0 0 10) = I12 at g12 ⊢
  refine s_aload_n (pc' := 186) dX8_copyOf_185 rfl rfl ?_
  refine s_aload_n (pc' := 187) dX8_copyOf_186 rfl rfl ?_
  refine t_getI (pc' := 190) dX8_copyOf_187 rfl sh_1 (by decide) fa_X8_55_8 rfl ?_
  refine t_putI (pc' := 193) dX8_copyOf_190 rfl sh_12 (by decide) fa_X8_55_8 (Or.inl rfl) rfl rfl rfl ?_
  have g13 := g12.u (a := 12) (b := 1) (j := 13) (by decide) rfl rfl
  generalize up2 I12 12 13 (I12 1 13) = I13 at g13 ⊢
  refine s_aload_n (pc' := 194) dX8_copyOf_193 rfl rfl ?_
  refine s_aload_n (pc' := 195) dX8_copyOf_194 rfl rfl ?_
  refine t_getI (pc' := 198) dX8_copyOf_195 rfl sh_1 (by decide) fa_X8_58_8 rfl ?_
  refine t_putI (pc' := 201) dX8_copyOf_198 rfl sh_12 (by decide) fa_X8_58_8 (Or.inl rfl) rfl rfl rfl ?_
  have g14 := g13.u (a := 12) (b := 1) (j := 14) (by decide) rfl rfl
  generalize up2 I13 12 14 (I13 1 14) = I14 at g14 ⊢
  refine s_aload_n (pc' := 202) dX8_copyOf_201 rfl rfl ?_
  refine s_aload_n (pc' := 203) dX8_copyOf_202 rfl rfl ?_
  refine t_getI (pc' := 206) dX8_copyOf_203 rfl sh_1 (by decide) fa_X8_61_8 rfl ?_
  refine t_putI (pc' := 209) dX8_copyOf_206 rfl sh_12 (by decide) fa_X8_61_8 (Or.inl rfl) rfl rfl rfl ?_
  have g15 := g14.u (a := 12) (b := 1) (j := 15) (by decide) rfl rfl
  generalize up2 I14 12 15 (I14 1 15) = I15 at g15 ⊢
  refine s_aload_n (pc' := 210) dX8_copyOf_209 rfl rfl ?_
  refine s_aload_n (pc' := 211) dX8_copyOf_210 rfl rfl ?_
  refine t_getI (pc' := 214) dX8_copyOf_211 rfl sh_1 (by decide) fa_X8_64_8 rfl ?_
  refine t_putI (pc' := 217) dX8_copyOf_214 rfl sh_12 (by decide) fa_X8_64_8 (Or.inl rfl) rfl rfl rfl ?_
  have g16 := g15.u (a := 12) (b := 1) (j := 16) (by decide) rfl rfl
  generalize up2 I15 12 16 (I15 1 16) = I16 at g16 ⊢
  exact s_vret dX8_copyOf_217 rfl (by decide) (by decide) (hk _ _ ⟨⟨g16.1, fun j hj => g16.2.1 j (by omega), fun i i1 i2 i3 => g16.2.2 i i1 i2 (by omega)⟩, gq⟩)
set_option maxHeartbeats 200000 in
theorem l_X8_copyOf_b {N : Nat} {S : Nat → Nat × Nat} {I : Nat → Nat → Int32} {J : Nat → Nat → Int64} {Q : Nat → Nat → Option Nat} {κ : Option Value → HP → Prop} (hq : QR N S Q 19) (hk : ∀ Q', CQ Q Q' 11 0 30 → SP E1 M_X8_copyOf κ 132 [.ref 1, .ref 12, .int (nI 30)] [] (N, S, I, J, Q') 0 0) : ∀ d : Nat, ∀ k Q', k + d = 30 → CQ Q Q' 11 0 k → SP E1 M_X8_copyOf κ 108 [.ref 1, .ref 12, .int (nI k)] [] (N, S, I, J, Q') 0 0 := by
  intro d
  induction d with
  | zero =>
    intro k Q' hd g
    obtain rfl : k = 30 := by omega
    refine s_iload_n (pc' := 109) dX8_copyOf_108 rfl rfl ?_
    refine s_bipush (pc' := 111) (v := 30) dX8_copyOf_109 rfl (by decide) ?_
    refine s_icmpgeT (tgt := 132) dX8_copyOf_111 (by decide) (by decide) ?_
    exact hk _ g
  | succ d ih =>
    intro k Q' hd g
    rcases hq k (by omega) with z | ⟨b, kk, z1, z2, z3, z4⟩
    · refine s_iload_n (pc' := 109) dX8_copyOf_108 rfl rfl ?_
      refine s_bipush (pc' := 111) (v := 30) dX8_copyOf_109 rfl (by decide) ?_
      refine s_icmpgeF (pc' := 114) (tgt := 132) dX8_copyOf_111 (by decide) rfl (nI_ge (b := 30) (by omega) (by decide)) ?_
      refine s_aload_n (pc' := 115) dX8_copyOf_114 rfl rfl ?_
      refine s_getS (pc' := 118) (b := 8) dX8_copyOf_115 rfl (by decide) rfl (by decide) fa_X8_39_8 rfl rfl ?_
      refine s_iload_n (pc' := 119) dX8_copyOf_118 rfl rfl ?_
      refine s_aload_n (pc' := 120) dX8_copyOf_119 rfl rfl ?_
      refine s_getS (pc' := 123) (b := 19) dX8_copyOf_120 rfl (by decide) rfl (by decide) fa_X8_39_8 rfl rfl ?_
      refine s_iload_n (pc' := 124) dX8_copyOf_123 rfl rfl ?_
      refine t_aaldN (pc' := 125) dX8_copyOf_124 rfl (Or.inl rfl) sh_19 rfl (by omega) (by rw [g.1 19 (by decide)]; exact z) ?_
      refine t_aastN (pc' := 126) dX8_copyOf_125 rfl sh_8 rfl (by omega) (fun _ _ => rfl) ?_
      refine t_iinc (pc' := 129) (v := nI (k + 1)) (L' := [.ref 1, .ref 12, .int _]) dX8_copyOf_126 rfl rfl (nI_inc k) rfl ?_
      refine s_goto (tgt := 108) dX8_copyOf_129 (by decide) ?_
      exact ih (k + 1) _ (by omega) (g.s rfl z.symm)
    · refine s_iload_n (pc' := 109) dX8_copyOf_108 rfl rfl ?_
      refine s_bipush (pc' := 111) (v := 30) dX8_copyOf_109 rfl (by decide) ?_
      refine s_icmpgeF (pc' := 114) (tgt := 132) dX8_copyOf_111 (by decide) rfl (nI_ge (b := 30) (by omega) (by decide)) ?_
      refine s_aload_n (pc' := 115) dX8_copyOf_114 rfl rfl ?_
      refine s_getS (pc' := 118) (b := 8) dX8_copyOf_115 rfl (by decide) rfl (by decide) fa_X8_39_8 rfl rfl ?_
      refine s_iload_n (pc' := 119) dX8_copyOf_118 rfl rfl ?_
      refine s_aload_n (pc' := 120) dX8_copyOf_119 rfl rfl ?_
      refine s_getS (pc' := 123) (b := 19) dX8_copyOf_120 rfl (by decide) rfl (by decide) fa_X8_39_8 rfl rfl ?_
      refine s_iload_n (pc' := 124) dX8_copyOf_123 rfl rfl ?_
      refine t_aald (pc' := 125) dX8_copyOf_124 rfl (Or.inl rfl) sh_19 rfl (by omega) (by rw [g.1 19 (by decide)]; exact z1) ?_
      refine t_aast (pc' := 126) dX8_copyOf_125 rfl sh_8 rfl (by omega) (Sh.dy (by decide) z3 z4) (kc_rk _) (fun _ _ => rfl) ?_
      refine t_iinc (pc' := 129) (v := nI (k + 1)) (L' := [.ref 1, .ref 12, .int _]) dX8_copyOf_126 rfl rfl (nI_inc k) rfl ?_
      refine s_goto (tgt := 108) dX8_copyOf_129 (by decide) ?_
      exact ih (k + 1) _ (by omega) (g.s rfl z1.symm)
set_option maxHeartbeats 200000 in
theorem c_X8_copyOf_b {N : Nat} {S : Nat → Nat × Nat} {I : Nat → Nat → Int32} {J : Nat → Nat → Int64} {Q : Nat → Nat → Option Nat} {κ : Option Value → HP → Prop} (hq : QR N S Q 19) (hk : ∀ I' Q', CPY I I' Q Q' 11 0 → κ none (N, S, I', J, Q')) : CT E1 M_X8_copyOf [.ref 1, .ref 12] (N, S, I, J, Q) κ := by
  refine ofSP mk_X8_copyOf (Nat.le_of_ble_eq_true rfl) (L := [.ref 1, .ref 12, .retAddr _]) rfl ?_
  refine s_aload_n (pc' := 1) dX8_copyOf_0 rfl rfl ?_
  refine s_aload_n (pc' := 2) dX8_copyOf_1 rfl rfl ?_
  refine t_getI (pc' := 5) dX8_copyOf_2 rfl sh_12 (by decide) fa_X8_9_8 rfl ?_
  refine t_putI (pc' := 8) dX8_copyOf_5 rfl sh_1 (by decide) fa_X8_9_8 (Or.inl rfl) rfl rfl rfl ?_
  have g1 := (CP.z (I := I) (o := 11) (p := 0)).u (a := 1) (b := 12) (j := 0) (by decide) rfl rfl
  generalize up2 I 1 0 (I 12 0) = I1 at g1 ⊢
  refine s_aload_n (pc' := 9) dX8_copyOf_8 rfl rfl ?_
  refine s_getS (pc' := 12) (b := 13) dX8_copyOf_9 rfl (by decide) rfl (by decide) fa_X8_15_8 rfl rfl ?_
  refine s_iconst (pc' := 13) (v := 0) dX8_copyOf_12 rfl (by decide) ?_
  refine s_aload_n (pc' := 14) dX8_copyOf_13 rfl rfl ?_
  refine s_getS (pc' := 17) (b := 2) dX8_copyOf_14 rfl (by decide) rfl (by decide) fa_X8_15_8 rfl rfl ?_
  refine s_iconst (pc' := 18) (v := 0) dX8_copyOf_17 rfl (by decide) ?_
  refine s_bipush (pc' := 20) (v := 10) dX8_copyOf_18 rfl (by decide) ?_
  refine t_copyI (pc' := 23) dX8_copyOf_20 rfl ml_X8_67 sh_13 sh_2 (show (0 : Int32) = nI 0 from rfl) (show (0 : Int32) = nI 0 from rfl) (show (10 : Int32) = nI 10 from rfl) (by decide) (by decide) (by decide) (Nat.le_of_ble_eq_true rfl) ?_
  have g2 := g1.r (a := 2) (b := 13) (i := 2) (by decide) rfl rfl (by decide) (by decide)
  generalize row I1 2 (va_cpy (I1 13) (I1 2) 0 0 10) = I2 at g2 ⊢
  refine s_aload_n (pc' := 24) dX8_copyOf_23 rfl rfl ?_
  refine s_getS (pc' := 27) (b := 14) dX8_copyOf_24 rfl (by decide) rfl (by decide) fa_X8_19_8 rfl rfl ?_
  refine s_iconst (pc' := 28) (v := 0) dX8_copyOf_27 rfl (by decide) ?_
  refine s_aload_n (pc' := 29) dX8_copyOf_28 rfl rfl ?_
  refine s_getS (pc' := 32) (b := 3) dX8_copyOf_29 rfl (by decide) rfl (by decide) fa_X8_19_8 rfl rfl ?_
  refine s_iconst (pc' := 33) (v := 0) dX8_copyOf_32 rfl (by decide) ?_
  refine s_bipush (pc' := 35) (v := 10) dX8_copyOf_33 rfl (by decide) ?_
  refine t_copyI (pc' := 38) dX8_copyOf_35 rfl ml_X8_67 sh_14 sh_3 (show (0 : Int32) = nI 0 from rfl) (show (0 : Int32) = nI 0 from rfl) (show (10 : Int32) = nI 10 from rfl) (by decide) (by decide) (by decide) (Nat.le_of_ble_eq_true rfl) ?_
  have g3 := g2.r (a := 3) (b := 14) (i := 3) (by decide) rfl rfl (by decide) (by decide)
  generalize row I2 3 (va_cpy (I2 14) (I2 3) 0 0 10) = I3 at g3 ⊢
  refine s_aload_n (pc' := 39) dX8_copyOf_38 rfl rfl ?_
  refine s_getS (pc' := 42) (b := 15) dX8_copyOf_39 rfl (by decide) rfl (by decide) fa_X8_22_8 rfl rfl ?_
  refine s_iconst (pc' := 43) (v := 0) dX8_copyOf_42 rfl (by decide) ?_
  refine s_aload_n (pc' := 44) dX8_copyOf_43 rfl rfl ?_
  refine s_getS (pc' := 47) (b := 4) dX8_copyOf_44 rfl (by decide) rfl (by decide) fa_X8_22_8 rfl rfl ?_
  refine s_iconst (pc' := 48) (v := 0) dX8_copyOf_47 rfl (by decide) ?_
  refine s_bipush (pc' := 50) (v := 10) dX8_copyOf_48 rfl (by decide) ?_
  refine t_copyI (pc' := 53) dX8_copyOf_50 rfl ml_X8_67 sh_15 sh_4 (show (0 : Int32) = nI 0 from rfl) (show (0 : Int32) = nI 0 from rfl) (show (10 : Int32) = nI 10 from rfl) (by decide) (by decide) (by decide) (Nat.le_of_ble_eq_true rfl) ?_
  have g4 := g3.r (a := 4) (b := 15) (i := 4) (by decide) rfl rfl (by decide) (by decide)
  generalize row I3 4 (va_cpy (I3 15) (I3 4) 0 0 10) = I4 at g4 ⊢
  refine s_aload_n (pc' := 54) dX8_copyOf_53 rfl rfl ?_
  refine s_getS (pc' := 57) (b := 16) dX8_copyOf_54 rfl (by decide) rfl (by decide) fa_X8_25_8 rfl rfl ?_
  refine s_iconst (pc' := 58) (v := 0) dX8_copyOf_57 rfl (by decide) ?_
  refine s_aload_n (pc' := 59) dX8_copyOf_58 rfl rfl ?_
  refine s_getS (pc' := 62) (b := 5) dX8_copyOf_59 rfl (by decide) rfl (by decide) fa_X8_25_8 rfl rfl ?_
  refine s_iconst (pc' := 63) (v := 0) dX8_copyOf_62 rfl (by decide) ?_
  refine s_bipush (pc' := 65) (v := 10) dX8_copyOf_63 rfl (by decide) ?_
  refine t_copyI (pc' := 68) dX8_copyOf_65 rfl ml_X8_67 sh_16 sh_5 (show (0 : Int32) = nI 0 from rfl) (show (0 : Int32) = nI 0 from rfl) (show (10 : Int32) = nI 10 from rfl) (by decide) (by decide) (by decide) (Nat.le_of_ble_eq_true rfl) ?_
  have g5 := g4.r (a := 5) (b := 16) (i := 5) (by decide) rfl rfl (by decide) (by decide)
  generalize row I4 5 (va_cpy (I4 16) (I4 5) 0 0 10) = I5 at g5 ⊢
  refine s_aload_n (pc' := 69) dX8_copyOf_68 rfl rfl ?_
  refine s_getS (pc' := 72) (b := 17) dX8_copyOf_69 rfl (by decide) rfl (by decide) fa_X8_28_8 rfl rfl ?_
  refine s_iconst (pc' := 73) (v := 0) dX8_copyOf_72 rfl (by decide) ?_
  refine s_aload_n (pc' := 74) dX8_copyOf_73 rfl rfl ?_
  refine s_getS (pc' := 77) (b := 6) dX8_copyOf_74 rfl (by decide) rfl (by decide) fa_X8_28_8 rfl rfl ?_
  refine s_iconst (pc' := 78) (v := 0) dX8_copyOf_77 rfl (by decide) ?_
  refine s_bipush (pc' := 80) (v := 10) dX8_copyOf_78 rfl (by decide) ?_
  refine t_copyI (pc' := 83) dX8_copyOf_80 rfl ml_X8_67 sh_17 sh_6 (show (0 : Int32) = nI 0 from rfl) (show (0 : Int32) = nI 0 from rfl) (show (10 : Int32) = nI 10 from rfl) (by decide) (by decide) (by decide) (Nat.le_of_ble_eq_true rfl) ?_
  have g6 := g5.r (a := 6) (b := 17) (i := 6) (by decide) rfl rfl (by decide) (by decide)
  generalize row I5 6 (va_cpy (I5 17) (I5 6) 0 0 10) = I6 at g6 ⊢
  refine s_aload_n (pc' := 84) dX8_copyOf_83 rfl rfl ?_
  refine s_getS (pc' := 87) (b := 18) dX8_copyOf_84 rfl (by decide) rfl (by decide) fa_X8_31_8 rfl rfl ?_
  refine s_iconst (pc' := 88) (v := 0) dX8_copyOf_87 rfl (by decide) ?_
  refine s_aload_n (pc' := 89) dX8_copyOf_88 rfl rfl ?_
  refine s_getS (pc' := 92) (b := 7) dX8_copyOf_89 rfl (by decide) rfl (by decide) fa_X8_31_8 rfl rfl ?_
  refine s_iconst (pc' := 93) (v := 0) dX8_copyOf_92 rfl (by decide) ?_
  refine s_bipush (pc' := 95) (v := 10) dX8_copyOf_93 rfl (by decide) ?_
  refine t_copyI (pc' := 98) dX8_copyOf_95 rfl ml_X8_67 sh_18 sh_7 (show (0 : Int32) = nI 0 from rfl) (show (0 : Int32) = nI 0 from rfl) (show (10 : Int32) = nI 10 from rfl) (by decide) (by decide) (by decide) (Nat.le_of_ble_eq_true rfl) ?_
  have g7 := g6.r (a := 7) (b := 18) (i := 7) (by decide) rfl rfl (by decide) (by decide)
  generalize row I6 7 (va_cpy (I6 18) (I6 7) 0 0 10) = I7 at g7 ⊢
  refine s_aload_n (pc' := 99) dX8_copyOf_98 rfl rfl ?_
  refine s_aload_n (pc' := 100) dX8_copyOf_99 rfl rfl ?_
  refine t_getI (pc' := 103) dX8_copyOf_100 rfl sh_12 (by decide) fa_X8_34_8 rfl ?_
  refine t_putI (pc' := 106) dX8_copyOf_103 rfl sh_1 (by decide) fa_X8_34_8 (Or.inl rfl) rfl rfl rfl ?_
  have g8 := g7.u (a := 1) (b := 12) (j := 7) (by decide) rfl rfl
  generalize up2 I7 1 7 (I7 12 7) = I8 at g8 ⊢
  refine s_iconst (pc' := 107) (v := 0) dX8_copyOf_106 rfl (by decide) ?_
  refine t_istore_n (pc' := 108) (L' := [.ref 1, .ref 12, .int _]) dX8_copyOf_107 rfl (Nat.le_of_ble_eq_true rfl) rfl ?_
  refine l_X8_copyOf_b hq (fun Q1 gq => ?_) 30 0 _ (by omega) CQ.z
  refine s_aload_n (pc' := 133) dX8_copyOf_132 rfl rfl ?_
  refine s_aload_n (pc' := 134) dX8_copyOf_133 rfl rfl ?_
  refine t_getI (pc' := 137) dX8_copyOf_134 rfl sh_12 (by decide) fa_X8_43_8 rfl ?_
  refine t_putI (pc' := 140) dX8_copyOf_137 rfl sh_1 (by decide) fa_X8_43_8 (Or.inl rfl) rfl rfl rfl ?_
  have g9 := g8.u (a := 1) (b := 12) (j := 9) (by decide) rfl rfl
  generalize up2 I8 1 9 (I8 12 9) = I9 at g9 ⊢
  refine s_aload_n (pc' := 141) dX8_copyOf_140 rfl rfl ?_
  refine s_getS (pc' := 144) (b := 20) dX8_copyOf_141 rfl (by decide) rfl (by decide) fa_X8_46_8 rfl rfl ?_
  refine s_iconst (pc' := 145) (v := 0) dX8_copyOf_144 rfl (by decide) ?_
  refine s_aload_n (pc' := 146) dX8_copyOf_145 rfl rfl ?_
  refine s_getS (pc' := 149) (b := 9) dX8_copyOf_146 rfl (by decide) rfl (by decide) fa_X8_46_8 rfl rfl ?_
  refine s_iconst (pc' := 150) (v := 0) dX8_copyOf_149 rfl (by decide) ?_
  refine s_bipush (pc' := 152) (v := 10) dX8_copyOf_150 rfl (by decide) ?_
  refine t_copyI (pc' := 155) dX8_copyOf_152 rfl ml_X8_67 sh_20 sh_9 (show (0 : Int32) = nI 0 from rfl) (show (0 : Int32) = nI 0 from rfl) (show (10 : Int32) = nI 10 from rfl) (by decide) (by decide) (by decide) (Nat.le_of_ble_eq_true rfl) ?_
  have g10 := g9.r (a := 9) (b := 20) (i := 9) (by decide) rfl rfl (by decide) (by decide)
  generalize row I9 9 (va_cpy (I9 20) (I9 9) 0 0 10) = I10 at g10 ⊢
  refine s_aload_n (pc' := 156) dX8_copyOf_155 rfl rfl ?_
  refine s_getS (pc' := 159) (b := 21) dX8_copyOf_156 rfl (by decide) rfl (by decide) fa_X8_49_8 rfl rfl ?_
  refine s_iconst (pc' := 160) (v := 0) dX8_copyOf_159 rfl (by decide) ?_
  refine s_aload_n (pc' := 161) dX8_copyOf_160 rfl rfl ?_
  refine s_getS (pc' := 164) (b := 10) dX8_copyOf_161 rfl (by decide) rfl (by decide) fa_X8_49_8 rfl rfl ?_
  refine s_iconst (pc' := 165) (v := 0) dX8_copyOf_164 rfl (by decide) ?_
  refine s_bipush (pc' := 167) (v := 10) dX8_copyOf_165 rfl (by decide) ?_
  refine t_copyI (pc' := 170) dX8_copyOf_167 rfl ml_X8_67 sh_21 sh_10 (show (0 : Int32) = nI 0 from rfl) (show (0 : Int32) = nI 0 from rfl) (show (10 : Int32) = nI 10 from rfl) (by decide) (by decide) (by decide) (Nat.le_of_ble_eq_true rfl) ?_
  have g11 := g10.r (a := 10) (b := 21) (i := 10) (by decide) rfl rfl (by decide) (by decide)
  generalize row I10 10 (va_cpy (I10 21) (I10 10) 0 0 10) = I11 at g11 ⊢
  refine s_aload_n (pc' := 171) dX8_copyOf_170 rfl rfl ?_
  refine s_getS (pc' := 174) (b := 22) dX8_copyOf_171 rfl (by decide) rfl (by decide) fa_X8_52_8 rfl rfl ?_
  refine s_iconst (pc' := 175) (v := 0) dX8_copyOf_174 rfl (by decide) ?_
  refine s_aload_n (pc' := 176) dX8_copyOf_175 rfl rfl ?_
  refine s_getS (pc' := 179) (b := 11) dX8_copyOf_176 rfl (by decide) rfl (by decide) fa_X8_52_8 rfl rfl ?_
  refine s_iconst (pc' := 180) (v := 0) dX8_copyOf_179 rfl (by decide) ?_
  refine s_bipush (pc' := 182) (v := 10) dX8_copyOf_180 rfl (by decide) ?_
  refine t_copyI (pc' := 185) dX8_copyOf_182 rfl ml_X8_67 sh_22 sh_11 (show (0 : Int32) = nI 0 from rfl) (show (0 : Int32) = nI 0 from rfl) (show (10 : Int32) = nI 10 from rfl) (by decide) (by decide) (by decide) (Nat.le_of_ble_eq_true rfl) ?_
  have g12 := g11.r (a := 11) (b := 22) (i := 11) (by decide) rfl rfl (by decide) (by decide)
  generalize row I11 11 (va_cpy (I11 22) (I11 11) 0 0 10) = I12 at g12 ⊢
  refine s_aload_n (pc' := 186) dX8_copyOf_185 rfl rfl ?_
  refine s_aload_n (pc' := 187) dX8_copyOf_186 rfl rfl ?_
  refine t_getI (pc' := 190) dX8_copyOf_187 rfl sh_12 (by decide) fa_X8_55_8 rfl ?_
  refine t_putI (pc' := 193) dX8_copyOf_190 rfl sh_1 (by decide) fa_X8_55_8 (Or.inl rfl) rfl rfl rfl ?_
  have g13 := g12.u (a := 1) (b := 12) (j := 13) (by decide) rfl rfl
  generalize up2 I12 1 13 (I12 12 13) = I13 at g13 ⊢
  refine s_aload_n (pc' := 194) dX8_copyOf_193 rfl rfl ?_
  refine s_aload_n (pc' := 195) dX8_copyOf_194 rfl rfl ?_
  refine t_getI (pc' := 198) dX8_copyOf_195 rfl sh_12 (by decide) fa_X8_58_8 rfl ?_
  refine t_putI (pc' := 201) dX8_copyOf_198 rfl sh_1 (by decide) fa_X8_58_8 (Or.inl rfl) rfl rfl rfl ?_
  have g14 := g13.u (a := 1) (b := 12) (j := 14) (by decide) rfl rfl
  generalize up2 I13 1 14 (I13 12 14) = I14 at g14 ⊢
  refine s_aload_n (pc' := 202) dX8_copyOf_201 rfl rfl ?_
  refine s_aload_n (pc' := 203) dX8_copyOf_202 rfl rfl ?_
  refine t_getI (pc' := 206) dX8_copyOf_203 rfl sh_12 (by decide) fa_X8_61_8 rfl ?_
  refine t_putI (pc' := 209) dX8_copyOf_206 rfl sh_1 (by decide) fa_X8_61_8 (Or.inl rfl) rfl rfl rfl ?_
  have g15 := g14.u (a := 1) (b := 12) (j := 15) (by decide) rfl rfl
  generalize up2 I14 1 15 (I14 12 15) = I15 at g15 ⊢
  refine s_aload_n (pc' := 210) dX8_copyOf_209 rfl rfl ?_
  refine s_aload_n (pc' := 211) dX8_copyOf_210 rfl rfl ?_
  refine t_getI (pc' := 214) dX8_copyOf_211 rfl sh_12 (by decide) fa_X8_64_8 rfl ?_
  refine t_putI (pc' := 217) dX8_copyOf_214 rfl sh_1 (by decide) fa_X8_64_8 (Or.inl rfl) rfl rfl rfl ?_
  have g16 := g15.u (a := 1) (b := 12) (j := 16) (by decide) rfl rfl
  generalize up2 I15 1 16 (I15 12 16) = I16 at g16 ⊢
  exact s_vret dX8_copyOf_217 rfl (by decide) (by decide) (hk _ _ ⟨⟨g16.1, fun j hj => g16.2.1 j (by omega), fun i i1 i2 i3 => g16.2.2 i i1 i2 (by omega)⟩, gq⟩)
set_option maxHeartbeats 200000 in
theorem c_X11_image {N : Nat} {S : Nat → Nat × Nat} {I : Nat → Nat → Int32} {J : Nat → Nat → Int64} {Q : Nat → Nat → Option Nat} {κ : Option Value → HP → Prop} (hq : QR N S Q 8) (hk : ∀ I' Q', CPY I I' Q Q' 0 11 → κ (some (.int 1)) (N, S, up2 (up2 I' 0 3 1) 0 5 0, J, Q')) : CT E1 M_X11_image [.ref 0] (N, S, I, J, Q) κ := by
  refine ofSP mk_X11_image (Nat.le_of_ble_eq_true rfl) (L := [.ref 0]) rfl ?_
  refine s_aload_n (pc' := 1) dX11_image_0 rfl rfl ?_
  refine s_getS (pc' := 4) (b := 12) dX11_image_1 rfl (by decide) rfl (by decide) fa_X11_16_11 rfl rfl ?_
  refine s_aload_n (pc' := 5) dX11_image_4 rfl rfl ?_
  refine s_getS (pc' := 8) (b := 1) dX11_image_5 rfl (by decide) rfl (by decide) fa_X11_10_11 rfl rfl ?_
  refine s_callV (pc' := 11) (As := [.ref 1]) dX11_image_8 rfl mk_X8_copyOf ml_X11_176 im_X8_copyOf se_X8_X8_X8_copyOf sh_12 (by decide) rfl rfl rfl ⟨Nat.le_of_ble_eq_true rfl, Nat.le_of_ble_eq_true rfl, Nat.le_of_ble_eq_true rfl, Nat.le_of_ble_eq_true rfl⟩ (Nat.le_of_ble_eq_true rfl) (c_X8_copyOf_k hq (fun I1 Q1 g1 => ?_))
  refine s_aload_n (pc' := 12) dX11_image_11 rfl rfl ?_
  refine s_iconst (pc' := 13) (v := 1) dX11_image_12 rfl (by decide) ?_
  refine t_putI (pc' := 16) dX11_image_13 rfl sh_0 (by decide) fa_X11_28_11 (Or.inl rfl) rfl rfl rfl ?_
  refine s_aload_n (pc' := 17) dX11_image_16 rfl rfl ?_
  refine s_iconst (pc' := 18) (v := 1) dX11_image_17 rfl (by decide) ?_
  refine s_callV (pc' := 21) (As := [.int _]) dX11_image_18 rfl mk_X11_done ml_X11_100 im_X11_done se_X11_X11_X11_done sh_0 (by decide) rfl rfl rfl ⟨Nat.le_of_ble_eq_true rfl, Nat.le_of_ble_eq_true rfl, Nat.le_of_ble_eq_true rfl, Nat.le_of_ble_eq_true rfl⟩ (Nat.le_of_ble_eq_true rfl) (c_X11_done ?_)
  exact s_iret dX11_image_21 rfl (by decide) (by decide) (hk _ _ g1)
set_option maxHeartbeats 400000 in
theorem nI_ge2 {x : Int32} {k : Nat} (h : x = nI k) (hc : ¬ x < 20) (hk : k ≤ 20 := by omega) : k = 20 := by
  rw [h] at hc
  rcases Nat.lt_or_ge k 20 with z | z
  · exact absurd (nI_lt (b := 20) z (by decide)) hc
  · omega
set_option maxHeartbeats 200000 in
theorem c_X11_back {N : Nat} {S : Nat → Nat × Nat} {I : Nat → Nat → Int32} {J : Nat → Nat → Int64} {Q : Nat → Nat → Option Nat} {κ : Option Value → HP → Prop} {D : Nat → Nat → Int32} {nv nr ns : Nat} {ad td : Nat → Nat} {e : Nat} (X : XB N S I J Q D nv nr ns ad td e) (he : e + 1 < 2 ^ 30) {k : Nat} (hk1 : I 0 4 = nI k) (hk2 : k ≤ 20) (hq : QR N S Q 19) {D' : Nat → Nat → Int32} {nv' nr' ns' : Nat} {ad' td' : Nat → Nat} (him : I 0 3 ≠ 0 → DW D' nv' nr' ns' ∧ AC D' nv' nr' ∧ XS N S I Q D' nv' nr' ns' ad' td' 11 ∧ NT I D' nv' nr' 11) (k1 : k = 20 → κ (some (.int (-1))) (N, S, up2 I 0 5 2, J, Q)) (k2 : k ≠ 20 → I 0 3 = 0 → κ (some (.int (-1))) (N, S, up2 I 0 5 3, J, Q)) (k3 : k ≠ 20 → I 0 3 ≠ 0 → ∀ I1 Q1, CPY (up2 I 0 4 (I 0 4 + 1)) I1 Q Q1 11 0 → ∀ I', FG I1 I' → XB N S I' J (up2 Q1 0 7 (some 42)) D' nv' nr' ns' ad' td' (e + 1) → κ (some (.int (D' 75 6))) (N, S, up2 I' 0 5 0, J, up2 Q1 0 7 (some 42))) : CT E1 M_X11_back [.ref 0] (N, S, I, J, Q) κ := by
  refine ofSP mk_X11_back (Nat.le_of_ble_eq_true rfl) (L := [.ref 0]) rfl ?_
  refine s_aload_n (pc' := 1) dX11_back_0 rfl rfl ?_
  refine t_getI (pc' := 4) dX11_back_1 rfl sh_0 (by decide) fa_X11_32_11 rfl ?_
  refine s_bipush (pc' := 6) (v := 20) dX11_back_4 rfl (by decide) ?_
  refine s_icmplt (pc' := 9) (tgt := 15) dX11_back_6 (by decide) rfl (fun c6 => ?_) (fun c6 => ?_)
  · refine s_aload_n (pc' := 16) dX11_back_15 rfl rfl ?_
    refine t_getI (pc' := 19) dX11_back_16 rfl sh_0 (by decide) fa_X11_28_11 rfl ?_
    refine s_ifne (pc' := 22) (tgt := 28) dX11_back_19 (by decide) rfl (fun c19 => ?_) (fun c19 => ?_)
    · refine s_aload_n (pc' := 29) dX11_back_28 rfl rfl ?_
      refine s_dup (pc' := 30) dX11_back_29 rfl rfl ?_
      refine t_getI (pc' := 33) dX11_back_30 rfl sh_0 (by decide) fa_X11_32_11 rfl ?_
      refine s_iconst (pc' := 34) (v := 1) dX11_back_33 rfl (by decide) ?_
      refine s_iadd (pc' := 35) dX11_back_34 rfl ?_
      refine t_putI (pc' := 38) dX11_back_35 rfl sh_0 (by decide) fa_X11_32_11 (Or.inl rfl) rfl rfl rfl ?_
      refine s_aload_n (pc' := 39) dX11_back_38 rfl rfl ?_
      refine s_getS (pc' := 42) (b := 1) dX11_back_39 rfl (by decide) rfl (by decide) fa_X11_10_11 rfl rfl ?_
      refine s_aload_n (pc' := 43) dX11_back_42 rfl rfl ?_
      refine s_getS (pc' := 46) (b := 12) dX11_back_43 rfl (by decide) rfl (by decide) fa_X11_16_11 rfl rfl ?_
      refine s_callV (pc' := 49) (As := [.ref 12]) dX11_back_46 rfl mk_X8_copyOf ml_X11_176 im_X8_copyOf se_X8_X8_X8_copyOf sh_1 (by decide) rfl rfl rfl ⟨Nat.le_of_ble_eq_true rfl, Nat.le_of_ble_eq_true rfl, Nat.le_of_ble_eq_true rfl, Nat.le_of_ble_eq_true rfl⟩ (Nat.le_of_ble_eq_true rfl) (c_X8_copyOf_b hq (fun I1 Q1 g1 => ?_))
      obtain ⟨W2, A2, S2, T2⟩ := him c19
      have S3 := g1.xs (by decide) (by decide) W2 (S2.mv (fun a a1 a2 _ => up2_o (by omega)) rfl (fun a ha => up2_o (by omega)) (fun _ _ => rfl))
      have T3 : NT I1 D' nv' nr' 0 := g1.nt W2 (fun v hv u => by rw [up2_o (by decide)]; exact T2 v hv u)
      have r1 : ∀ a, 11 < a → I1 a = I a := fun a ha => (g1.1.1 a (by omega)).trans (up2_o (by omega))
      refine s_aload_n (pc' := 50) dX11_back_49 rfl rfl ?_
      refine s_aload_n (pc' := 51) dX11_back_50 rfl rfl ?_
      refine s_getS (pc' := 54) (b := 42) dX11_back_51 rfl (by decide) rfl (by decide) fa_X11_44_11 rfl rfl ?_
      refine t_putR (pc' := 57) (r := some _) dX11_back_54 rfl rfl sh_0 (by decide) fa_X11_48_11 (Or.inl rfl) rfl (fun _ => rfl) ?_
      refine s_aload_n (pc' := 58) dX11_back_57 rfl rfl ?_
      refine s_getS (pc' := 61) (b := 23) dX11_back_58 rfl (by decide) rfl (by decide) fa_X11_24_11 rfl rfl ?_
      refine s_callV (pc' := 64) (As := []) dX11_back_61 rfl mk_X1_forget ml_X11_97 im_X1_forget se_X1_X1_X1_forget sh_23 (by decide) rfl rfl rfl ⟨Nat.le_of_ble_eq_true rfl, Nat.le_of_ble_eq_true rfl, Nat.le_of_ble_eq_true rfl, Nat.le_of_ble_eq_true rfl⟩ (Nat.le_of_ble_eq_true rfl) (c_X1_forget (S3.mv (fun _ _ _ _ => rfl) (up2_o (by decide)) (fun _ _ => rfl) (fun a ha => up2_o (by omega))) W2 A2 T3 (by rw [r1 31 (by decide)]; exact X.2.2.2.2.2.1) (J0 := J) (e := e) (BK.hd X.2.2.2.2.2.2 (r1 23 (by decide)) (r1 36 (by decide)) (r1 37 (by decide))) he (fun I2 f2 X2 => ?_))
      refine s_aload_n (pc' := 65) dX11_back_64 rfl rfl ?_
      refine s_aload_n (pc' := 66) dX11_back_65 rfl rfl ?_
      refine s_getS (pc' := 69) (b := 1) dX11_back_66 rfl (by decide) rfl (by decide) fa_X11_10_11 rfl rfl ?_
      refine t_getI (pc' := 72) dX11_back_69 rfl sh_1 (by decide) fa_X11_156_8 rfl ?_
      refine s_callV (pc' := 75) (As := [.int _]) dX11_back_72 rfl mk_X11_done ml_X11_100 im_X11_done se_X11_X11_X11_done sh_0 (by decide) rfl rfl rfl ⟨Nat.le_of_ble_eq_true rfl, Nat.le_of_ble_eq_true rfl, Nat.le_of_ble_eq_true rfl, Nat.le_of_ble_eq_true rfl⟩ (Nat.le_of_ble_eq_true rfl) (c_X11_done ?_)
      exact s_iret dX11_back_75 rfl (by decide) (by decide) (by have q := k3 (fun z => by rw [hk1, z] at c6; exact absurd c6 (by decide)) c19 I1 Q1 g1 I2 f2 X2; rw [X2.1.tn]; exact q)
    · refine s_aload_n (pc' := 23) dX11_back_22 rfl rfl ?_
      refine s_iconst (pc' := 24) (v := 3) dX11_back_23 rfl (by decide) ?_
      refine s_callV (pc' := 27) (As := [.int _]) dX11_back_24 rfl mk_X11_refused ml_X11_87 im_X11_refused se_X11_X11_X11_refused sh_0 (by decide) rfl rfl rfl ⟨Nat.le_of_ble_eq_true rfl, Nat.le_of_ble_eq_true rfl, Nat.le_of_ble_eq_true rfl, Nat.le_of_ble_eq_true rfl⟩ (Nat.le_of_ble_eq_true rfl) (c_X11_refused ?_)
      exact s_iret dX11_back_27 rfl (by decide) (by decide) (k2 (fun z => by rw [hk1, z] at c6; exact absurd c6 (by decide)) (by first | exact c19 | exact Decidable.not_not.mp c19))
  · refine s_aload_n (pc' := 10) dX11_back_9 rfl rfl ?_
    refine s_iconst (pc' := 11) (v := 2) dX11_back_10 rfl (by decide) ?_
    refine s_callV (pc' := 14) (As := [.int _]) dX11_back_11 rfl mk_X11_refused ml_X11_87 im_X11_refused se_X11_X11_X11_refused sh_0 (by decide) rfl rfl rfl ⟨Nat.le_of_ble_eq_true rfl, Nat.le_of_ble_eq_true rfl, Nat.le_of_ble_eq_true rfl, Nat.le_of_ble_eq_true rfl⟩ (Nat.le_of_ble_eq_true rfl) (c_X11_refused ?_)
    exact s_iret dX11_back_14 rfl (by decide) (by decide) (k1 (by have := nI_ge2 hk1 c6; omega))
