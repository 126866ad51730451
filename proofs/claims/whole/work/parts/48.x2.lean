/-! ===== the class: its objects stand for the data D ===== -/
/-- a test's object -/
def TO (N : Nat) (S : Nat → Nat × Nat) (I : Nat → Nat → Int32) (t : Nat) (how of num : Int32) : Prop := (t = 42 ∨ 94 ≤ t) ∧ t < N ∧ S t = (9, 0) ∧ I t 0 = how ∧ (how ≠ 0 → I t 1 = of) ∧ (2 < how → I t 2 = num)
/-- a rule's object -/
def RO (N : Nat) (S : Nat → Nat × Nat) (I : Nat → Nat → Int32) (Q : Nat → Nat → Option Nat) (D : Nat → Nat → Int32) (r a t : Nat) : Prop :=
  (94 ≤ a ∧ a < N ∧ S a = (kc (D 60 r), 0) ∧ Q a 2 = some t ∧ TO N S I t (D 69 r) (D 70 r) (D 71 r)) ∧ I a 0 = D 60 r ∧ I a 1 = nI r ∧ I a 3 = D 61 r ∧ I a 4 = D 62 r ∧ I a 5 = D 63 r ∧ I a 6 = (if D 60 r ≤ 3 then D 61 r else -1) ∧ I a 7 = D 66 r ∧ I a 8 = D 67 r ∧ I a 9 = D 68 r ∧ (D 60 r = 1 → I a 10 = D 64 r) ∧ (D 60 r = 3 → I a 10 = 1 - D 65 r)
/-- the class's sheet, in the cells behind o -/
def XS (N : Nat) (S : Nat → Nat × Nat) (I : Nat → Nat → Int32) (Q : Nat → Nat → Option Nat) (D : Nat → Nat → Int32) (nv nr ns : Nat) (ad td : Nat → Nat) (o : Nat) : Prop :=
  (I (o + 1) 0 = nI nv ∧ I (o + 1) 7 = nI nr ∧ I (o + 1) 9 = nI ns ∧ I (o + 1) 13 = D 75 6 ∧ I (o + 1) 14 = D 75 3 ∧ I (o + 1) 15 = D 75 4 ∧ I (o + 1) 16 = D 75 5) ∧
  (∀ v, v < nv → I (o + 2) v = D 55 v ∧ I (o + 3) v = D 56 v ∧ I (o + 4) v = D 59 v ∧ I (o + 5) v = D 57 v + 8 * D 58 v ∧ I (o + 6) v = nd D nr v) ∧
  (∀ r, r < nr → Q (o + 8) r = some (ad r) ∧ RO N S I Q D r (ad r) (td r)) ∧
  (∀ k, k < ns → I (o + 9) k = D 72 k ∧ I (o + 10) k = D 73 k ∧ I (o + 11) k = D 74 k)
section XS
variable {N : Nat} {S : Nat → Nat × Nat} {I I' : Nat → Nat → Int32} {J' : Nat → Nat → Int64} {Q Q' : Nat → Nat → Option Nat} {D : Nat → Nat → Int32} {nv nr ns : Nat} {ad td : Nat → Nat} {r a t : Nat}
theorem TO.mv {how of num : Int32} (h : TO N S I t how of num) (h1 : ∀ a, (a = 42 ∨ 94 ≤ a) → I' a = I a) : TO N S I' t how of num := by
  obtain ⟨q1, q2, q3, q4, q5, q6⟩ := h
  have e := h1 t q1
  exact ⟨q1, q2, q3, by rw [e]; exact q4, by rw [e]; exact q5, by rw [e]; exact q6⟩
theorem RO.mv (h : RO N S I Q D r a t) (h1 : ∀ a, (a = 42 ∨ 94 ≤ a) → I' a = I a) (h2 : ∀ a, 94 ≤ a → Q' a = Q a) : RO N S I' Q' D r a t := by
  obtain ⟨⟨q1, q2, q3, q4, q5⟩, q6⟩ := h
  have e := h1 a (Or.inr q1)
  exact ⟨⟨q1, q2, q3, by rw [h2 a q1]; exact q4, q5.mv h1⟩, by rw [e]; exact q6⟩
theorem XS.mv {o : Nat} (h : XS N S I Q D nv nr ns ad td o) (h0 : ∀ a, o + 1 ≤ a → a ≤ o + 11 → a ≠ o + 7 → I' a = I a) (hq : Q' (o + 8) = Q (o + 8)) (h1 : ∀ a, (a = 42 ∨ 94 ≤ a) → I' a = I a) (h2 : ∀ a, 94 ≤ a → Q' a = Q a) : XS N S I' Q' D nv nr ns ad td o := by
  obtain ⟨q1, q2, q3, q4⟩ := h
  refine ⟨by rw [h0 (o + 1) (by omega) (by omega) (by omega)]; exact q1, fun v hv => ?_, fun r hr => ⟨by rw [hq]; exact (q3 r hr).1, (q3 r hr).2.mv h1 h2⟩, fun k hk => ?_⟩
  · rw [h0 (o + 2) (by omega) (by omega) (by omega), h0 (o + 3) (by omega) (by omega) (by omega), h0 (o + 4) (by omega) (by omega) (by omega), h0 (o + 5) (by omega) (by omega) (by omega), h0 (o + 6) (by omega) (by omega) (by omega)]; exact q2 v hv
  · rw [h0 (o + 9) (by omega) (by omega) (by omega), h0 (o + 10) (by omega) (by omega) (by omega), h0 (o + 11) (by omega) (by omega) (by omega)]; exact q4 k hk
/-- what the reckoning may change -/
def FR (I I' : Nat → Nat → Int32) (Q Q' : Nat → Nat → Option Nat) : Prop := (∀ a, (a < 24 ∨ 35 < a) → I' a = I a) ∧ I' 29 = I 29 ∧ I' 30 = I 30 ∧ I' 31 = I 31 ∧ ∀ a, a ≠ 32 → Q' a = Q a
theorem FR.rf : FR I I Q Q := ⟨fun _ _ => rfl, rfl, rfl, rfl, fun _ _ => rfl⟩
theorem FR.tr {I2 : Nat → Nat → Int32} {Q2 : Nat → Nat → Option Nat} (h : FR I I' Q Q') (h2 : FR I' I2 Q' Q2) : FR I I2 Q Q2 :=
  ⟨fun a ha => (h2.1 a ha).trans (h.1 a ha), h2.2.1.trans h.2.1, h2.2.2.1.trans h.2.2.1, h2.2.2.2.1.trans h.2.2.2.1, fun a ha => (h2.2.2.2.2 a ha).trans (h.2.2.2.2 a ha)⟩
theorem FR.up {c j : Nat} {x : Int32} (h : FR I I' Q Q') (hc : 24 ≤ c ∧ c ≤ 35 ∧ c ≠ 29 ∧ c ≠ 30 ∧ c ≠ 31) : FR I (up2 I' c j x) Q Q' :=
  ⟨fun a ha => by rw [up2_o (by omega)]; exact h.1 a ha, by rw [up2_o (by omega)]; exact h.2.1, by rw [up2_o (by omega)]; exact h.2.2.1, by rw [up2_o (by omega)]; exact h.2.2.2.1, h.2.2.2.2⟩
theorem FR.uq {j : Nat} {x : Option Nat} (h : FR I I' Q Q') : FR I I' Q (up2 Q' 32 j x) := ⟨h.1, h.2.1, h.2.2.1, h.2.2.2.1, fun a ha => by rw [up2_o ha]; exact h.2.2.2.2 a ha⟩
theorem XS.fr (h : XS N S I Q D nv nr ns ad td 0) (f : FR I I' Q Q') : XS N S I' Q' D nv nr ns ad td 0 :=
  h.mv (fun a h1 h2 _ => f.1 a (by omega)) (f.2.2.2.2 8 (by decide)) (fun a ha => f.1 a (by omega)) (fun a ha => f.2.2.2.2 a (by omega))
variable {J : Nat → Nat → Int64}
theorem RO.sh (h : RO N S I Q D r a t) : Sh E1 (N, S, I', J', Q') a (kc (D 60 r)) 0 := Sh.dy (by decide) h.1.2.1 h.1.2.2.1
theorem TO.sh {how of num : Int32} (h : TO N S I t how of num) : Sh E1 (N, S, I', J', Q') t 9 0 := Sh.dy (by decide) h.2.1 h.2.2.1
theorem XS.ro (h : XS N S I Q D nv nr ns ad td 0) (hr : r < nr) : RO N S I Q D r (ad r) (td r) := (h.2.2.1 r hr).2
theorem XS.q (h : XS N S I Q D nv nr ns ad td 0) (hr : r < nr) : Q 8 r = some (ad r) := (h.2.2.1 r hr).1
theorem XS.xv (h : XS N S I Q D nv nr ns ad td 0) : I 1 0 = nI nv := h.1.1
theorem XS.xr (h : XS N S I Q D nv nr ns ad td 0) : I 1 7 = nI nr := h.1.2.1
theorem XS.xs (h : XS N S I Q D nv nr ns ad td 0) : I 1 9 = nI ns := h.1.2.2.1
theorem XS.tn (h : XS N S I Q D nv nr ns ad td 0) : I 1 13 = D 75 6 := h.1.2.2.2.1
theorem XS.md (h : XS N S I Q D nv nr ns ad td 0) : I 1 14 = D 75 3 := h.1.2.2.2.2.1
theorem XS.fe (h : XS N S I Q D nv nr ns ad td 0) : I 1 15 = D 75 4 := h.1.2.2.2.2.2.1
theorem XS.sk (h : XS N S I Q D nv nr ns ad td 0) : I 1 16 = D 75 5 := h.1.2.2.2.2.2.2
theorem RO.ge (h : RO N S I Q D r a t) : 94 ≤ a := h.1.1
theorem RO.f0 (h : RO N S I Q D r a t) : I a 0 = D 60 r := h.2.1
theorem RO.f1 (h : RO N S I Q D r a t) : I a 1 = nI r := h.2.2.1
theorem RO.f2 (h : RO N S I Q D r a t) : Q a 2 = some t := h.1.2.2.2.1
theorem RO.to (h : RO N S I Q D r a t) : TO N S I t (D 69 r) (D 70 r) (D 71 r) := h.1.2.2.2.2
theorem RO.f3 (h : RO N S I Q D r a t) : I a 3 = D 61 r := h.2.2.2.1
theorem RO.f4 (h : RO N S I Q D r a t) : I a 4 = D 62 r := h.2.2.2.2.1
theorem RO.f5 (h : RO N S I Q D r a t) : I a 5 = D 63 r := h.2.2.2.2.2.1
theorem RO.f6 (h : RO N S I Q D r a t) : I a 6 = (if D 60 r ≤ 3 then D 61 r else -1) := h.2.2.2.2.2.2.1
theorem RO.f7 (h : RO N S I Q D r a t) : I a 7 = D 66 r := h.2.2.2.2.2.2.2.1
theorem RO.f8 (h : RO N S I Q D r a t) : I a 8 = D 67 r := h.2.2.2.2.2.2.2.2.1
theorem RO.f9 (h : RO N S I Q D r a t) : I a 9 = D 68 r := h.2.2.2.2.2.2.2.2.2.1
theorem RO.f10 (h : RO N S I Q D r a t) (e : D 60 r = 1) : I a 10 = D 64 r := h.2.2.2.2.2.2.2.2.2.2.1 e
theorem RO.f11 (h : RO N S I Q D r a t) (e : D 60 r = 3) : I a 10 = 1 - D 65 r := h.2.2.2.2.2.2.2.2.2.2.2 e
end XS
theorem bit01 (x j : Int32) : bitI x j = 0 ∨ bitI x j = 1 := by
  unfold bitI
  have h : ∀ y : Int32, y &&& 1 = 0 ∨ y &&& 1 = 1 := fun y => by
    obtain ⟨j, h1, h2⟩ := pk_andE y (m := 1) 1 (by decide)
    have : j = 0 ∨ j = 1 := by omega
    rcases this with rfl | rfl
    · exact Or.inl h2
    · exact Or.inr h2
  exact h _
theorem bit_n0 {x j : Int32} (h : ¬ bitI x j = 0) : bitI x j = 1 := (bit01 x j).resolve_left h
/-- rule r writes v -/
theorem wr_kv {D : Nat → Nat → Int32} {r v : Nat} (hv : v < 1000) : (if D 60 r ≤ 3 then D 61 r else -1) = nI v ↔ kvB D (nI v) r = true := by
  unfold kvB
  by_cases h : D 60 r ≤ 3
  · simp [h]
  · simp [h, m1_ne hv]
/-- the next one with P behind the first k -/
theorem cnt_next {P : Nat → Bool} {n : Nat} : ∀ d k, k + d = n → cntB P k < cntB P n → ∃ r, k ≤ r ∧ r < n ∧ P r = true ∧ cntB P r = cntB P k ∧ ∀ j, k ≤ j → j < r → P j = false
  | 0, k, h, hc => by
    obtain rfl : k = n := by omega
    omega
  | d + 1, k, h, hc => by
    cases hp : P k with
    | true => exact ⟨k, Nat.le_refl _, by omega, hp, rfl, fun j h1 h2 => by omega⟩
    | false =>
      have e : cntB P (k + 1) = cntB P k := by rw [cntB, hp]; rfl
      obtain ⟨r, h1, h2, h3, h4, h5⟩ := cnt_next (n := n) d (k + 1) (by omega) (by rw [e]; exact hc)
      refine ⟨r, by omega, h2, h3, h4.trans e, fun j a1 a2 => ?_⟩
      by_cases ej : j = k
      · rw [ej]; exact hp
      · exact h5 j (by omega) a2
theorem cnt_s1 {P : Nat → Bool} {k : Nat} (h : P k = true) : cntB P (k + 1) = cntB P k + 1 := by rw [cntB, if_pos h]
theorem cnt_s0 {P : Nat → Bool} {k : Nat} (h : P k = false) : cntB P (k + 1) = cntB P k := by rw [cntB, h]; rfl
theorem cnt_mono {P : Nat → Bool} {a b : Nat} (h : a ≤ b) : cntB P a ≤ cntB P b := by
  induction b with
  | zero => obtain rfl : a = 0 := by omega
            exact Nat.le_refl _
  | succ b ih =>
    by_cases e : a = b + 1
    · rw [e]; exact Nat.le_refl _
    · have := ih (by omega)
      rw [cntB]; omega
theorem cnt_end {P : Nat → Bool} {n : Nat} : ∀ d k, k + d = n → cntB P k = cntB P n → ∀ j, k ≤ j → j < n → P j = false
  | 0, k, h, _, j, h1, h2 => by omega
  | d + 1, k, h, hc, j, h1, h2 => by
    cases hp : P k with
    | true =>
      have e := cnt_s1 hp
      have := cnt_mono (P := P) (show k + 1 ≤ n by omega)
      omega
    | false =>
      have e := cnt_s0 hp
      by_cases ej : j = k
      · rw [ej]; exact hp
      · exact cnt_end d (k + 1) (by omega) (e.trans hc) j (by omega) h2
theorem cnt_inj {P : Nat → Bool} {a b : Nat} (ha : P a = true) (hb : P b = true) (h : cntB P a = cntB P b) : a = b := by
  rcases Nat.lt_trichotomy a b with q | q | q
  · have e := cnt_s1 ha
    have := cnt_mono (P := P) (show a + 1 ≤ b by omega)
    omega
  · exact q
  · have e := cnt_s1 hb
    have := cnt_mono (P := P) (show b + 1 ≤ a by omega)
    omega
theorem c_X9_holds {N : Nat} {S : Nat → Nat × Nat} {I : Nat → Nat → Int32} {J : Nat → Nat → Int64} {Q : Nat → Nat → Option Nat} {κ : Option Value → HP → Prop} {D : Nat → Nat → Int32} {nv nr ns r t : Nat} {x : Int32} (hW : DW D nv nr ns) (hr : r < nr) (T : TO N S I t (D 69 r) (D 70 r) (D 71 r)) (ht : hB D x (J 25) r = true → κ (some (.int 1)) (N, S, I, J, Q)) (hf : hB D x (J 25) r = false → κ (some (.int 0)) (N, S, I, J, Q)) : CT E1 M_X9_holds [.ref t, .int x, .ref 25] (N, S, I, J, Q) κ := by
  refine ofSP mk_X9_holds (Nat.le_of_ble_eq_true rfl) (L := [.ref _, .int _, .ref 25]) rfl ?_
  refine s_aload_n (pc' := 1) dX9_holds_0 rfl rfl ?_
  refine t_getI (pc' := 4) dX9_holds_1 rfl T.sh (by decide) fa_X9_9_9 rfl ?_
  rcases hW.how hr (DA.rf (I := D)) with e6 | e6 | e6 | e6 | e6
  · refine s_tabOut (tgt := 112) dX9_holds_4 (by rw [T.2.2.2.1, e6]; decide) (by decide) ?_
    refine s_iconst (pc' := 113) (v := 1) dX9_holds_112 rfl (by decide) ?_
    exact s_zret dX9_holds_113 rfl rfl (by decide) (by decide) (ht (by simp [hB, e6]))
  · refine s_tabIn (tgt := 36) (off := 32) dX9_holds_4 (by rw [T.2.2.2.1, e6]; decide) (by rw [T.2.2.2.1, e6]; decide) (by rw [T.2.2.2.1, e6]; rfl) (by decide) ?_
    refine s_iload_n (pc' := 37) dX9_holds_36 rfl rfl ?_
    refine s_aload_n (pc' := 38) dX9_holds_37 rfl rfl ?_
    refine t_getI (pc' := 41) dX9_holds_38 rfl T.sh (by decide) fa_X9_15_9 rfl ?_
    refine s_ishr (pc' := 42) dX9_holds_41 rfl ?_
    refine s_iconst (pc' := 43) (v := 1) dX9_holds_42 rfl (by decide) ?_
    refine s_iand (pc' := 44) dX9_holds_43 rfl ?_
    refine s_ifeq (pc' := 47) (tgt := 51) dX9_holds_44 (by decide) rfl (fun c44 => ?_) (fun c44 => ?_)
    · refine s_iconst (pc' := 52) (v := 0) dX9_holds_51 rfl (by decide) ?_
      exact s_zret dX9_holds_52 rfl rfl (by decide) (by decide) (hf (by rw [T.2.2.2.2.1 (by rw [e6]; decide)] at c44; have q1 : bitI x (D 70 r) = 0 := c44; simp [hB, e6, q1]))
    · refine s_iconst (pc' := 48) (v := 1) dX9_holds_47 rfl (by decide) ?_
      refine s_goto (tgt := 52) dX9_holds_48 (by decide) ?_
      exact s_zret dX9_holds_52 rfl rfl (by decide) (by decide) (ht (by rw [T.2.2.2.2.1 (by rw [e6]; decide)] at c44; have q1 : bitI x (D 70 r) = 1 := bit_n0 c44; simp [hB, e6, q1]))
  · refine s_tabIn (tgt := 53) (off := 49) dX9_holds_4 (by rw [T.2.2.2.1, e6]; decide) (by rw [T.2.2.2.1, e6]; decide) (by rw [T.2.2.2.1, e6]; rfl) (by decide) ?_
    refine s_iload_n (pc' := 54) dX9_holds_53 rfl rfl ?_
    refine s_aload_n (pc' := 55) dX9_holds_54 rfl rfl ?_
    refine t_getI (pc' := 58) dX9_holds_55 rfl T.sh (by decide) fa_X9_15_9 rfl ?_
    refine s_ishr (pc' := 59) dX9_holds_58 rfl ?_
    refine s_iconst (pc' := 60) (v := 1) dX9_holds_59 rfl (by decide) ?_
    refine s_iand (pc' := 61) dX9_holds_60 rfl ?_
    refine s_ifne (pc' := 64) (tgt := 68) dX9_holds_61 (by decide) rfl (fun c61 => ?_) (fun c61 => ?_)
    · refine s_iconst (pc' := 69) (v := 0) dX9_holds_68 rfl (by decide) ?_
      exact s_zret dX9_holds_69 rfl rfl (by decide) (by decide) (hf (by rw [T.2.2.2.2.1 (by rw [e6]; decide)] at c61; have q1 : bitI x (D 70 r) = 1 := bit_n0 c61; simp [hB, e6, q1]))
    · refine s_iconst (pc' := 65) (v := 1) dX9_holds_64 rfl (by decide) ?_
      refine s_goto (tgt := 69) dX9_holds_65 (by decide) ?_
      exact s_zret dX9_holds_69 rfl rfl (by decide) (by decide) (ht (by rw [T.2.2.2.2.1 (by rw [e6]; decide)] at c61; have q1 : bitI x (D 70 r) = 0 := c61; simp [hB, e6, q1]))
  · refine s_tabIn (tgt := 70) (off := 66) dX9_holds_4 (by rw [T.2.2.2.1, e6]; decide) (by rw [T.2.2.2.1, e6]; decide) (by rw [T.2.2.2.1, e6]; rfl) (by decide) ?_
    obtain ⟨o, ho1, ho2, eo⟩ := hW.ofv hr (DA.rf (I := D)) (Or.inl e6)
    refine s_aload_n (pc' := 71) dX9_holds_70 rfl rfl ?_
    refine s_aload_n (pc' := 72) dX9_holds_71 rfl rfl ?_
    refine t_getI (pc' := 75) dX9_holds_72 rfl T.sh (by decide) fa_X9_15_9 rfl ?_
    refine t_lald (pc' := 76) (q := o) dX9_holds_75 rfl sh_25 (by rw [T.2.2.2.2.1 (by rw [e6]; decide)]; exact ho2) (by have := hW.nv; omega) ?_
    refine s_aload_n (pc' := 77) dX9_holds_76 rfl rfl ?_
    refine t_getI (pc' := 80) dX9_holds_77 rfl T.sh (by decide) fa_X9_18_9 rfl ?_
    refine s_i2l (pc' := 81) dX9_holds_80 rfl ?_
    refine s_lcmp (pc' := 82) dX9_holds_81 rfl ?_
    refine s_iflt (pc' := 85) (tgt := 89) dX9_holds_82 (by decide) rfl (fun c82 => ?_) (fun c82 => ?_)
    · refine s_iconst (pc' := 90) (v := 0) dX9_holds_89 rfl (by decide) ?_
      exact s_zret dX9_holds_90 rfl rfl (by decide) (by decide) (hf (by rw [lg_cmp_lt, T.2.2.2.2.2 (by rw [e6]; decide)] at c82; rw [eo] at c82; rw [hB_3 e6]; exact decide_eq_false (fun z => Int64.not_lt.mpr z c82)))
    · refine s_iconst (pc' := 86) (v := 1) dX9_holds_85 rfl (by decide) ?_
      refine s_goto (tgt := 90) dX9_holds_86 (by decide) ?_
      exact s_zret dX9_holds_90 rfl rfl (by decide) (by decide) (ht (by rw [lg_cmp_lt, T.2.2.2.2.2 (by rw [e6]; decide)] at c82; rw [eo] at c82; rw [hB_3 e6]; exact decide_eq_true (Int64.not_lt.mp c82)))
  · refine s_tabIn (tgt := 91) (off := 87) dX9_holds_4 (by rw [T.2.2.2.1, e6]; decide) (by rw [T.2.2.2.1, e6]; decide) (by rw [T.2.2.2.1, e6]; rfl) (by decide) ?_
    obtain ⟨o, ho1, ho2, eo⟩ := hW.ofv hr (DA.rf (I := D)) (Or.inr e6)
    refine s_aload_n (pc' := 92) dX9_holds_91 rfl rfl ?_
    refine s_aload_n (pc' := 93) dX9_holds_92 rfl rfl ?_
    refine t_getI (pc' := 96) dX9_holds_93 rfl T.sh (by decide) fa_X9_15_9 rfl ?_
    refine t_lald (pc' := 97) (q := o) dX9_holds_96 rfl sh_25 (by rw [T.2.2.2.2.1 (by rw [e6]; decide)]; exact ho2) (by have := hW.nv; omega) ?_
    refine s_aload_n (pc' := 98) dX9_holds_97 rfl rfl ?_
    refine t_getI (pc' := 101) dX9_holds_98 rfl T.sh (by decide) fa_X9_18_9 rfl ?_
    refine s_i2l (pc' := 102) dX9_holds_101 rfl ?_
    refine s_lcmp (pc' := 103) dX9_holds_102 rfl ?_
    refine s_ifge (pc' := 106) (tgt := 110) dX9_holds_103 (by decide) rfl (fun c103 => ?_) (fun c103 => ?_)
    · refine s_iconst (pc' := 111) (v := 0) dX9_holds_110 rfl (by decide) ?_
      exact s_zret dX9_holds_111 rfl rfl (by decide) (by decide) (hf (by rw [lg_cmp_ge, T.2.2.2.2.2 (by rw [e6]; decide)] at c103; rw [eo] at c103; rw [hB_4 e6]; exact decide_eq_false (fun z => Int64.not_le.mpr z c103)))
    · refine s_iconst (pc' := 107) (v := 1) dX9_holds_106 rfl (by decide) ?_
      refine s_goto (tgt := 111) dX9_holds_107 (by decide) ?_
      exact s_zret dX9_holds_111 rfl rfl (by decide) (by decide) (ht (by rw [lg_cmp_ge, T.2.2.2.2.2 (by rw [e6]; decide)] at c103; rw [eo] at c103; rw [hB_4 e6]; exact decide_eq_true (Int64.not_le.mp c103)))
def tB (how of : Int32) : Int32 := if 2 < how then (1 : Int32) <<< (of &&& 31) else 0
def hk5 (how : Int32) : Prop := how = 0 ∨ how = 1 ∨ how = 2 ∨ how = 3 ∨ how = 4
theorem tB_1 {how of : Int32} (h : how = 3 ∨ how = 4) : tB how of = (1 : Int32) <<< (of &&& 31) := by rcases h with rfl | rfl <;> exact if_pos (by decide)
theorem tB_0 {how of : Int32} (h : hk5 how) (h3 : how ≠ 3) (h4 : how ≠ 4) : tB how of = 0 := by
  rcases h with rfl | rfl | rfl | e | e
  · exact if_neg (by decide)
  · exact if_neg (by decide)
  · exact if_neg (by decide)
  · exact absurd e h3
  · exact absurd e h4
theorem c_X9_readBits {N : Nat} {S : Nat → Nat × Nat} {I : Nat → Nat → Int32} {J : Nat → Nat → Int64} {Q : Nat → Nat → Option Nat} {κ : Option Value → HP → Prop} {t : Nat} {how of num : Int32} (hh : hk5 how) (T : TO N S I t how of num) (hk : κ (some (.int (tB how of))) (N, S, I, J, Q)) : CT E1 M_X9_readBits [.ref t] (N, S, I, J, Q) κ := by
  refine ofSP mk_X9_readBits (Nat.le_of_ble_eq_true rfl) (L := [.ref _]) rfl ?_
  refine s_aload_n (pc' := 1) dX9_readBits_0 rfl rfl ?_
  refine t_getI (pc' := 4) dX9_readBits_1 rfl T.sh (by decide) fa_X9_9_9 rfl ?_
  refine s_iconst (pc' := 5) (v := 3) dX9_readBits_4 rfl (by decide) ?_
  refine s_icmpeq (pc' := 8) (tgt := 16) dX9_readBits_5 (by decide) rfl (fun c5 => ?_) (fun c5 => ?_)
  · refine s_iconst (pc' := 17) (v := 1) dX9_readBits_16 rfl (by decide) ?_
    refine s_aload_n (pc' := 18) dX9_readBits_17 rfl rfl ?_
    refine t_getI (pc' := 21) dX9_readBits_18 rfl T.sh (by decide) fa_X9_15_9 rfl ?_
    refine s_ishl (pc' := 22) dX9_readBits_21 rfl ?_
    refine s_goto (tgt := 26) dX9_readBits_22 (by decide) ?_
    exact s_iret dX9_readBits_26 rfl (by decide) (by decide) (by rw [T.2.2.2.1] at c5; rw [tB_1 (Or.inl c5)] at hk; rw [T.2.2.2.2.1 (by rw [c5]; decide)]; exact hk)
  · refine s_aload_n (pc' := 9) dX9_readBits_8 rfl rfl ?_
    refine t_getI (pc' := 12) dX9_readBits_9 rfl T.sh (by decide) fa_X9_9_9 rfl ?_
    refine s_iconst (pc' := 13) (v := 4) dX9_readBits_12 rfl (by decide) ?_
    refine s_icmpne (pc' := 16) (tgt := 25) dX9_readBits_13 (by decide) rfl (fun c13 => ?_) (fun c13 => ?_)
    · refine s_iconst (pc' := 26) (v := 0) dX9_readBits_25 rfl (by decide) ?_
      exact s_iret dX9_readBits_26 rfl (by decide) (by decide) (by rw [T.2.2.2.1] at c5 c13; rw [tB_0 hh c5 c13] at hk; exact hk)
    · refine s_iconst (pc' := 17) (v := 1) dX9_readBits_16 rfl (by decide) ?_
      refine s_aload_n (pc' := 18) dX9_readBits_17 rfl rfl ?_
      refine t_getI (pc' := 21) dX9_readBits_18 rfl T.sh (by decide) fa_X9_15_9 rfl ?_
      refine s_ishl (pc' := 22) dX9_readBits_21 rfl ?_
      refine s_goto (tgt := 26) dX9_readBits_22 (by decide) ?_
      exact s_iret dX9_readBits_26 rfl (by decide) (by decide) (by rw [T.2.2.2.1] at c13; rw [tB_1 (Or.inr (by simpa using c13))] at hk; rw [T.2.2.2.2.1 (by rw [show how = 4 by simpa using c13]; decide)]; exact hk)
theorem rb_tB {D : Nat → Nat → Int32} {r : Nat} : rb D r = tB (D 69 r) (D 70 r) ||| (if D 67 r < 0 then 0 else (1 : Int32) <<< (D 67 r &&& 31)) := rfl
theorem c_X6_readBits {N : Nat} {S : Nat → Nat × Nat} {I : Nat → Nat → Int32} {J : Nat → Nat → Int64} {Q : Nat → Nat → Option Nat} {κ : Option Value → HP → Prop} {D : Nat → Nat → Int32} {r a t : Nat} (R : RO N S I Q D r a t) (hh : hk5 (D 69 r)) (hb : D 67 r = -1 ∨ ¬ D 67 r < 0) (hk : κ (some (.int (rb D r))) (N, S, I, J, Q)) : CT E1 M_X6_readBits [.ref a] (N, S, I, J, Q) κ := by
  refine ofSP mk_X6_readBits (Nat.le_of_ble_eq_true rfl) (L := [.ref _]) rfl ?_
  refine s_aload_n (pc' := 1) dX6_readBits_0 rfl rfl ?_
  refine t_getR (pc' := 4) dX6_readBits_1 rfl R.sh (rk_lt (kc_rk _)) (fr_X6_18 (kc_rk _)) (rk_ft (kc_rk _) (by decide)) R.f2 ?_
  refine s_callV (pc' := 7) (As := []) dX6_readBits_4 rfl mk_X9_readBits ml_X6_43 im_X9_readBits se_X9_X9_X9_readBits R.to.sh (by decide) rfl rfl rfl ⟨Nat.le_of_ble_eq_true rfl, Nat.le_of_ble_eq_true rfl, Nat.le_of_ble_eq_true rfl, Nat.le_of_ble_eq_true rfl⟩ (Nat.le_of_ble_eq_true rfl) (c_X9_readBits hh R.to ?_)
  refine s_aload_n (pc' := 8) dX6_readBits_7 rfl rfl ?_
  refine t_getI (pc' := 11) (j := 8) dX6_readBits_8 rfl R.sh (rk_lt (kc_rk _)) (fr_X6_37 (kc_rk _)) (by rw [rk_ft (kc_rk _) (by decide)]; rfl) ?_
  refine s_iconst (pc' := 12) (v := -1) dX6_readBits_11 rfl (by decide) ?_
  refine s_icmpne (pc' := 15) (tgt := 19) dX6_readBits_12 (by decide) rfl (fun c12 => ?_) (fun c12 => ?_)
  · refine s_iconst (pc' := 20) (v := 1) dX6_readBits_19 rfl (by decide) ?_
    refine s_aload_n (pc' := 21) dX6_readBits_20 rfl rfl ?_
    refine t_getI (pc' := 24) (j := 8) dX6_readBits_21 rfl R.sh (rk_lt (kc_rk _)) (fr_X6_37 (kc_rk _)) (by rw [rk_ft (kc_rk _) (by decide)]; rfl) ?_
    refine s_ishl (pc' := 25) dX6_readBits_24 rfl ?_
    refine s_ior (pc' := 26) dX6_readBits_25 rfl ?_
    exact s_iret dX6_readBits_26 rfl (by decide) (by decide) (by rw [R.f8] at c12 ⊢; rw [rb_tB, if_neg (hb.resolve_left c12)] at hk; exact hk)
  · refine s_iconst (pc' := 16) (v := 0) dX6_readBits_15 rfl (by decide) ?_
    refine s_goto (tgt := 25) dX6_readBits_16 (by decide) ?_
    refine s_ior (pc' := 26) dX6_readBits_25 rfl ?_
    exact s_iret dX6_readBits_26 rfl (by decide) (by decide) (by rw [R.f8] at c12; rw [rb_tB, if_pos (by rw [show D 67 r = -1 by simpa using c12]; decide)] at hk; exact hk)
theorem c_X6_amountBy {N : Nat} {S : Nat → Nat × Nat} {I : Nat → Nat → Int32} {J : Nat → Nat → Int64} {Q : Nat → Nat → Option Nat} {κ : Option Value → HP → Prop} {D : Nat → Nat → Int32} {r a t : Nat} (R : RO N S I Q D r a t) (hb : D 67 r = -1 ∨ ∃ o, o < 10 ∧ D 67 r = nI o) (hk : κ (some (.long (amt D (J 25) r))) (N, S, I, J, Q)) : CT E1 M_X6_amountBy [.ref a, .ref 25] (N, S, I, J, Q) κ := by
  refine ofSP mk_X6_amountBy (Nat.le_of_ble_eq_true rfl) (L := [.ref _, .ref 25]) rfl ?_
  refine s_aload_n (pc' := 1) dX6_amountBy_0 rfl rfl ?_
  refine t_getI (pc' := 4) (j := 8) dX6_amountBy_1 rfl R.sh (rk_lt (kc_rk _)) (fr_X6_37 (kc_rk _)) (by rw [rk_ft (kc_rk _) (by decide)]; rfl) ?_
  refine s_iconst (pc' := 5) (v := -1) dX6_amountBy_4 rfl (by decide) ?_
  refine s_icmpne (pc' := 8) (tgt := 16) dX6_amountBy_5 (by decide) rfl (fun c5 => ?_) (fun c5 => ?_)
  · rw [R.f8] at c5
    obtain ⟨o, ho1, ho2⟩ := hb.resolve_left c5
    refine s_aload_n (pc' := 17) dX6_amountBy_16 rfl rfl ?_
    refine t_getI (pc' := 20) (j := 7) dX6_amountBy_17 rfl R.sh (rk_lt (kc_rk _)) (fr_X6_34 (kc_rk _)) (by rw [rk_ft (kc_rk _) (by decide)]; rfl) ?_
    refine s_i2l (pc' := 21) dX6_amountBy_20 rfl ?_
    refine s_aload_n (pc' := 22) dX6_amountBy_21 rfl rfl ?_
    refine s_aload_n (pc' := 23) dX6_amountBy_22 rfl rfl ?_
    refine t_getI (pc' := 26) (j := 8) dX6_amountBy_23 rfl R.sh (rk_lt (kc_rk _)) (fr_X6_37 (kc_rk _)) (by rw [rk_ft (kc_rk _) (by decide)]; rfl) ?_
    refine t_lald (pc' := 27) (q := o) dX6_amountBy_26 rfl sh_25 (by rw [R.f8]; exact ho2) ho1 ?_
    refine s_aload_n (pc' := 28) dX6_amountBy_27 rfl rfl ?_
    refine t_getI (pc' := 31) (j := 9) dX6_amountBy_28 rfl R.sh (rk_lt (kc_rk _)) (fr_X6_40 (kc_rk _)) (by rw [rk_ft (kc_rk _) (by decide)]; rfl) ?_
    refine s_i2l (pc' := 32) dX6_amountBy_31 rfl ?_
    refine s_lmul (pc' := 33) dX6_amountBy_32 rfl ?_
    refine s_ldc2 (pc' := 36) dX6_amountBy_33 rfl kl_X6_49 ?_
    refine s_ldiv (pc' := 37) dX6_amountBy_36 rfl (by decide) ?_
    refine s_ladd (pc' := 38) dX6_amountBy_37 rfl ?_
    exact s_lret dX6_amountBy_38 rfl (by decide) (by decide) (by rw [amt_1 (Int32.not_lt.mpr (by rw [ho2]; exact nI_pos' (by omega)))] at hk; rw [R.f7, R.f9, show o = (D 67 r).toNatClampNeg by rw [ho2, nI_clamp (by omega)]]; exact hk)
  · refine s_aload_n (pc' := 9) dX6_amountBy_8 rfl rfl ?_
    refine t_getI (pc' := 12) (j := 7) dX6_amountBy_9 rfl R.sh (rk_lt (kc_rk _)) (fr_X6_34 (kc_rk _)) (by rw [rk_ft (kc_rk _) (by decide)]; rfl) ?_
    refine s_i2l (pc' := 13) dX6_amountBy_12 rfl ?_
    refine s_goto (tgt := 38) dX6_amountBy_13 (by decide) ?_
    exact s_lret dX6_amountBy_38 rfl (by decide) (by decide) (by rw [R.f8] at c5; rw [amt_0 (by rw [show D 67 r = -1 by simpa using c5]; decide), Int64.add_zero] at hk; rw [R.f7]; exact hk)
theorem l_X5_thereOn {N : Nat} {S : Nat → Nat × Nat} {I : Nat → Nat → Int32} {J : Nat → Nat → Int64} {Q : Nat → Nat → Option Nat} {κ : Option Value → HP → Prop} {D : Nat → Nat → Int32} {nv nr ns : Nat} {ad td : Nat → Nat} (X : XS N S I Q D nv nr ns ad td 0) (hW : DW D nv nr ns) {x : Int32} (hk : κ (some (.int (thr D x (J 25) nr nr))) (N, S, I, J, Q)) : ∀ d : Nat, ∀ k, k + d = nr → SP E1 M_X5_thereOn κ 17 [.ref 24, .ref 1, .int x, .int (thr D x (J 25) nr k), .int (nI (nr - k) - 1), .retAddr 0] [] (N, S, I, J, Q) 0 0 := by
  intro d
  induction d with
  | zero =>
    intro k hd
    obtain rfl : k = nr := by omega
    rw [Nat.sub_self]
    refine s_iload (pc' := 19) dX5_thereOn_17 rfl rfl ?_
    refine s_ifltT (tgt := 83) dX5_thereOn_19 (by decide) (by decide) ?_
    refine s_iload_n (pc' := 84) dX5_thereOn_83 rfl rfl ?_
    exact s_iret dX5_thereOn_84 rfl (by decide) (by decide) hk
  | succ d ih =>
    intro k hd
    have hr : nr - (k + 1) < nr := by omega
    have hn30 := hW.nr
    have R := X.ro hr
    rw [show nr - k = (nr - (k + 1)) + 1 by omega, nI_pred]
    refine s_iload (pc' := 19) dX5_thereOn_17 rfl rfl ?_
    refine s_ifltF (pc' := 22) (tgt := 83) dX5_thereOn_19 (by decide) rfl (nI_pos (by omega)) ?_
    refine s_aload_n (pc' := 23) dX5_thereOn_22 rfl rfl ?_
    refine s_getS (pc' := 26) (b := 8) dX5_thereOn_23 rfl (by decide) rfl (by decide) fa_X5_83_8 rfl rfl ?_
    refine s_iload (pc' := 28) dX5_thereOn_26 rfl rfl ?_
    refine t_aald (pc' := 29) dX5_thereOn_28 rfl (Or.inl rfl) sh_8 rfl (by omega) (X.q hr) ?_
    refine t_astore (pc' := 31) (L' := [.ref 24, .ref 1, .int _, .int _, .int _, .ref _]) dX5_thereOn_29 rfl (Nat.le_of_ble_eq_true rfl) rfl ?_
    refine s_aload (pc' := 33) dX5_thereOn_31 rfl rfl ?_
    refine t_getI (pc' := 36) (j := 0) dX5_thereOn_33 rfl R.sh (rk_lt (kc_rk _)) (fr_X5_129 (kc_rk _)) (by rw [rk_ft (kc_rk _) (by decide)]; rfl) ?_
    refine s_iconst (pc' := 37) (v := 4) dX5_thereOn_36 rfl (by decide) ?_
    refine s_icmpne (pc' := 40) (tgt := 77) dX5_thereOn_37 (by decide) rfl (fun c37 => ?_) (fun c37 => ?_)
    · refine t_iinc (pc' := 80) (v := nI (nr - (k + 1)) - 1) (L' := [.ref 24, .ref 1, .int _, .int _, .int _, .ref _]) dX5_thereOn_77 rfl rfl (dec1 _) rfl ?_
      refine s_goto (tgt := 17) dX5_thereOn_80 (by decide) ?_
      rw [R.f0] at c37
      refine s_fg [5] ?_ (ih (k + 1) (by omega))
      rw [thr, if_neg (fun z => c37 z.1)]; rfl
    · refine s_iload_n (pc' := 41) dX5_thereOn_40 rfl rfl ?_
      refine s_iload (pc' := 43) dX5_thereOn_41 rfl rfl ?_
      refine s_callSN (pc' := 46) (As := [.int _, .int _]) dX5_thereOn_43 rfl mk_X11_hasBit mn_X5_132 sm_X11_hasBit rfl rfl ⟨Nat.le_of_ble_eq_true rfl, Nat.le_of_ble_eq_true rfl, Nat.le_of_ble_eq_true rfl, Nat.le_of_ble_eq_true rfl⟩ (Nat.le_of_ble_eq_true rfl) (e_hasBit (j := _) rfl (by omega) (fun b43 => ?_) (fun b43 => ?_))
      · refine s_ifeqF (pc' := 49) (tgt := 77) dX5_thereOn_46 (by decide) rfl (by decide) ?_
        refine s_aload (pc' := 51) dX5_thereOn_49 rfl rfl ?_
        refine t_getR (pc' := 54) dX5_thereOn_51 rfl R.sh (rk_lt (kc_rk _)) (fr_X5_136 (kc_rk _)) (rk_ft (kc_rk _) (by decide)) R.f2 ?_
        refine s_iload_n (pc' := 55) dX5_thereOn_54 rfl rfl ?_
        refine s_aload_n (pc' := 56) dX5_thereOn_55 rfl rfl ?_
        refine s_getS (pc' := 59) (b := 25) dX5_thereOn_56 rfl (by decide) rfl (by decide) fa_X5_9_5 rfl rfl ?_
        refine s_callV (pc' := 62) (As := [.int _, .ref 25]) dX5_thereOn_59 rfl mk_X9_holds ml_X5_140 im_X9_holds se_X9_X9_X9_holds R.to.sh (by decide) rfl rfl rfl ⟨Nat.le_of_ble_eq_true rfl, Nat.le_of_ble_eq_true rfl, Nat.le_of_ble_eq_true rfl, Nat.le_of_ble_eq_true rfl⟩ (Nat.le_of_ble_eq_true rfl) (c_X9_holds hW (r := _) (by omega) R.to (fun h59 => ?_) (fun h59 => ?_))
        · refine s_ifeqF (pc' := 65) (tgt := 77) dX5_thereOn_62 (by decide) rfl (by decide) ?_
          refine s_iload_n (pc' := 66) dX5_thereOn_65 rfl rfl ?_
          refine s_iconst (pc' := 67) (v := 1) dX5_thereOn_66 rfl (by decide) ?_
          refine s_aload (pc' := 69) dX5_thereOn_67 rfl rfl ?_
          refine t_getI (pc' := 72) (j := 3) dX5_thereOn_69 rfl R.sh (rk_lt (kc_rk _)) (fr_X5_146 (kc_rk _)) (by rw [rk_ft (kc_rk _) (by decide)]; rfl) ?_
          refine s_ishl (pc' := 73) dX5_thereOn_72 rfl ?_
          refine s_iconst (pc' := 74) (v := -1) dX5_thereOn_73 rfl (by decide) ?_
          refine s_ixor (pc' := 75) dX5_thereOn_74 rfl ?_
          refine s_iand (pc' := 76) dX5_thereOn_75 rfl ?_
          refine t_istore_n (pc' := 77) (L' := [.ref 24, .ref 1, .int _, .int _, .int _, .ref _]) dX5_thereOn_76 rfl (Nat.le_of_ble_eq_true rfl) rfl ?_
          refine t_iinc (pc' := 80) (v := nI (nr - (k + 1)) - 1) (L' := [.ref 24, .ref 1, .int _, .int _, .int _, .ref _]) dX5_thereOn_77 rfl rfl (dec1 _) rfl ?_
          refine s_goto (tgt := 17) dX5_thereOn_80 (by decide) ?_
          rw [R.f0] at c37
          refine s_fg [5] ?_ (ih (k + 1) (by omega))
          rw [thr, if_pos ⟨by simpa using c37, (bitI_1 (by omega)).mpr b43, h59⟩, R.f3]; rfl
        · refine s_ifeqT (tgt := 77) dX5_thereOn_62 (by decide) (by decide) ?_
          refine t_iinc (pc' := 80) (v := nI (nr - (k + 1)) - 1) (L' := [.ref 24, .ref 1, .int _, .int _, .int _, .ref _]) dX5_thereOn_77 rfl rfl (dec1 _) rfl ?_
          refine s_goto (tgt := 17) dX5_thereOn_80 (by decide) ?_
          refine s_fg [5] ?_ (ih (k + 1) (by omega))
          rw [thr, if_neg (fun z => by rw [h59] at z; exact absurd z.2.2 (by decide))]; rfl
      · refine s_ifeqT (tgt := 77) dX5_thereOn_46 (by decide) (by decide) ?_
        refine t_iinc (pc' := 80) (v := nI (nr - (k + 1)) - 1) (L' := [.ref 24, .ref 1, .int _, .int _, .int _, .ref _]) dX5_thereOn_77 rfl rfl (dec1 _) rfl ?_
        refine s_goto (tgt := 17) dX5_thereOn_80 (by decide) ?_
        refine s_fg [5] ?_ (ih (k + 1) (by omega))
        rw [thr, if_neg (fun z => by have q := (bitI_1 (by omega)).mp z.2.1; rw [b43] at q; cases q)]; rfl
theorem c_X5_thereOn {N : Nat} {S : Nat → Nat × Nat} {I : Nat → Nat → Int32} {J : Nat → Nat → Int64} {Q : Nat → Nat → Option Nat} {κ : Option Value → HP → Prop} {D : Nat → Nat → Int32} {nv nr ns : Nat} {ad td : Nat → Nat} (X : XS N S I Q D nv nr ns ad td 0) (hW : DW D nv nr ns) {x : Int32} (hk : κ (some (.int (thr D x (J 25) nr nr))) (N, S, I, J, Q)) : CT E1 M_X5_thereOn [.ref 24, .ref 1, .int x] (N, S, I, J, Q) κ := by
  refine ofSP mk_X5_thereOn (Nat.le_of_ble_eq_true rfl) (L := [.ref 24, .ref 1, .int _, .retAddr _, .retAddr _, .retAddr _]) rfl ?_
  refine s_iconst (pc' := 1) (v := 1) dX5_thereOn_0 rfl (by decide) ?_
  refine s_aload_n (pc' := 2) dX5_thereOn_1 rfl rfl ?_
  refine t_getI (pc' := 5) dX5_thereOn_2 rfl sh_1 (by decide) fa_X5_80_8 rfl ?_
  refine s_ishl (pc' := 6) dX5_thereOn_5 rfl ?_
  refine s_iconst (pc' := 7) (v := 1) dX5_thereOn_6 rfl (by decide) ?_
  refine s_isub (pc' := 8) dX5_thereOn_7 rfl ?_
  refine t_istore_n (pc' := 9) (L' := [.ref 24, .ref 1, .int _, .int _, .retAddr _, .retAddr _]) dX5_thereOn_8 rfl (Nat.le_of_ble_eq_true rfl) rfl ?_
  refine s_aload_n (pc' := 10) dX5_thereOn_9 rfl rfl ?_
  refine t_getI (pc' := 13) dX5_thereOn_10 rfl sh_1 (by decide) fa_X5_80_8 rfl ?_
  refine s_iconst (pc' := 14) (v := 1) dX5_thereOn_13 rfl (by decide) ?_
  refine s_isub (pc' := 15) dX5_thereOn_14 rfl ?_
  refine t_istore (pc' := 17) (L' := [.ref 24, .ref 1, .int _, .int _, .int _, .retAddr _]) dX5_thereOn_15 rfl (Nat.le_of_ble_eq_true rfl) rfl ?_
  rw [X.xr]
  exact l_X5_thereOn X hW hk nr 0 (by omega)
theorem c_X5_beat {N : Nat} {S : Nat → Nat × Nat} {I : Nat → Nat → Int32} {J : Nat → Nat → Int64} {Q : Nat → Nat → Option Nat} {κ : Option Value → HP → Prop} {r : Nat} {w b : Int32} (hr : r < 30) (hk : κ none (N, S, up2 (up2 I 27 r w) 28 r b, J, Q)) : CT E1 M_X5_beat [.ref 24, .int (nI r), .int w, .int b] (N, S, I, J, Q) κ := by
  refine ofSP mk_X5_beat (Nat.le_of_ble_eq_true rfl) (L := [.ref 24, .int _, .int _, .int _]) rfl ?_
  refine s_aload_n (pc' := 1) dX5_beat_0 rfl rfl ?_
  refine s_getS (pc' := 4) (b := 27) dX5_beat_1 rfl (by decide) rfl (by decide) fa_X5_18_5 rfl rfl ?_
  refine s_iload_n (pc' := 5) dX5_beat_4 rfl rfl ?_
  refine s_iload_n (pc' := 6) dX5_beat_5 rfl rfl ?_
  refine t_iast (pc' := 7) dX5_beat_6 rfl sh_27 rfl hr ?_
  refine s_aload_n (pc' := 8) dX5_beat_7 rfl rfl ?_
  refine s_getS (pc' := 11) (b := 28) dX5_beat_8 rfl (by decide) rfl (by decide) fa_X5_22_5 rfl rfl ?_
  refine s_iload_n (pc' := 12) dX5_beat_11 rfl rfl ?_
  refine s_iload_n (pc' := 13) dX5_beat_12 rfl rfl ?_
  refine t_iast (pc' := 14) dX5_beat_13 rfl sh_28 rfl hr ?_
  exact s_vret dX5_beat_14 rfl (by decide) (by decide) hk
/-- the plan of value v from place s on, the first k rules being looked at -/
def PLN (I I' : Nat → Nat → Int32) (D : Nat → Nat → Int32) (v s k : Nat) : Prop := (∀ a, a ≠ 30 → I' a = I a) ∧ (∀ j, j < s → I' 30 j = I 30 j) ∧ ∀ r, r < k → kvB D (nI v) r = true → I' 30 (s + cntB (kvB D (nI v)) r) = nI r
theorem PLN.rf {I : Nat → Nat → Int32} {D : Nat → Nat → Int32} {v s : Nat} : PLN I I D v s 0 := ⟨fun _ _ => rfl, fun _ _ => rfl, fun r h => by omega⟩
theorem PLN.s0 {I I' : Nat → Nat → Int32} {D : Nat → Nat → Int32} {v s k : Nat} (h : PLN I I' D v s k) (hk : kvB D (nI v) k = false) : PLN I I' D v s (k + 1) := ⟨h.1, h.2.1, fun r hr hb => by
  by_cases e : r = k
  · rw [e, hk] at hb; cases hb
  · exact h.2.2 r (by omega) hb⟩
theorem PLN.s1 {I I' : Nat → Nat → Int32} {D : Nat → Nat → Int32} {v s k : Nat} (h : PLN I I' D v s k) (hk : kvB D (nI v) k = true) : PLN I (up2 I' 30 (s + cntB (kvB D (nI v)) k) (nI k)) D v s (k + 1) := ⟨fun a ha => by rw [up2_o ha]; exact h.1 a ha, fun j hj => by rw [up2_e (by omega)]; exact h.2.1 j hj, fun r hr hb => by
  by_cases e : r = k
  · rw [e, up2_s]
  · have := cnt_mono (P := kvB D (nI v)) (show r + 1 ≤ k by omega)
    have e1 := cnt_s1 hb
    rw [up2_e (by omega)]
    exact h.2.2 r (by omega) hb⟩
theorem XS.pl {N : Nat} {S : Nat → Nat × Nat} {I I' : Nat → Nat → Int32} {Q : Nat → Nat → Option Nat} {D : Nat → Nat → Int32} {nv nr ns : Nat} {ad td : Nat → Nat} (X : XS N S I Q D nv nr ns ad td 0) (h : ∀ a, (a < 24 ∨ 35 < a) → I' a = I a) : XS N S I' Q D nv nr ns ad td 0 :=
  X.mv (fun a h1 h2 _ => h a (by omega)) rfl (fun a ha => h a (by omega)) (fun _ _ => rfl)
theorem l_X5_plannedWith {N : Nat} {S : Nat → Nat × Nat} {I : Nat → Nat → Int32} {J : Nat → Nat → Int64} {Q : Nat → Nat → Option Nat} {κ : Option Value → HP → Prop} {D : Nat → Nat → Int32} {nv nr ns : Nat} {ad td : Nat → Nat} (X : XS N S I Q D nv nr ns ad td 0) (hW : DW D nv nr ns) {v s : Nat} (hv : v < 1000) (hs : s + cntB (kvB D (nI v)) nr ≤ 30) (hk : ∀ I', PLN I I' D v s nr → κ (some (.int (nI (s + cntB (kvB D (nI v)) nr)))) (N, S, I', J, Q)) : ∀ d : Nat, ∀ k I', k + d = nr → PLN I I' D v s k → SP E1 M_X5_plannedWith κ 6 [.ref 24, .ref 1, .int (nI v), .int (nI s), .int (nI (s + cntB (kvB D (nI v)) k)), .int (nI k)] [] (N, S, I', J, Q) 0 0 := by
  intro d
  induction d with
  | zero =>
    intro k I' hd hP
    have X2 := X.pl (I' := I') (fun a ha => hP.1 a (by omega))
    obtain rfl : k = nr := by omega
    refine s_iload (pc' := 8) dX5_plannedWith_6 rfl rfl ?_
    refine s_aload_n (pc' := 9) dX5_plannedWith_8 rfl rfl ?_
    refine t_getI (pc' := 12) dX5_plannedWith_9 rfl sh_1 (by decide) fa_X5_80_8 rfl ?_
    refine s_icmpgeT (tgt := 47) dX5_plannedWith_12 (by decide) (by rw [X2.xr]; exact nI_le (Nat.le_refl _) (by have := hW.nr; omega)) ?_
    refine s_iload (pc' := 49) dX5_plannedWith_47 rfl rfl ?_
    exact s_iret dX5_plannedWith_49 rfl (by decide) (by decide) (hk I' hP)
  | succ d ih =>
    intro k I' hd hP
    have X2 := X.pl (I' := I') (fun a ha => hP.1 a (by omega))
    have hn30 := hW.nr
    have hr : k < nr := by omega
    have R := X2.ro hr
    refine s_iload (pc' := 8) dX5_plannedWith_6 rfl rfl ?_
    refine s_aload_n (pc' := 9) dX5_plannedWith_8 rfl rfl ?_
    refine t_getI (pc' := 12) dX5_plannedWith_9 rfl sh_1 (by decide) fa_X5_80_8 rfl ?_
    refine s_icmpgeF (pc' := 15) (tgt := 47) dX5_plannedWith_12 (by decide) rfl (by rw [X2.xr]; exact nI_ge (by omega) (by omega)) ?_
    refine s_aload_n (pc' := 16) dX5_plannedWith_15 rfl rfl ?_
    refine s_getS (pc' := 19) (b := 8) dX5_plannedWith_16 rfl (by decide) rfl (by decide) fa_X5_83_8 rfl rfl ?_
    refine s_iload (pc' := 21) dX5_plannedWith_19 rfl rfl ?_
    refine t_aald (pc' := 22) dX5_plannedWith_21 rfl (Or.inl rfl) sh_8 rfl (by omega) (X2.q hr) ?_
    refine t_getI (pc' := 25) (j := 6) dX5_plannedWith_22 rfl R.sh (rk_lt (kc_rk _)) (fr_X5_86 (kc_rk _)) (by rw [rk_ft (kc_rk _) (by decide)]; rfl) ?_
    refine s_iload_n (pc' := 26) dX5_plannedWith_25 rfl rfl ?_
    refine s_icmpne (pc' := 29) (tgt := 41) dX5_plannedWith_26 (by decide) rfl (fun c26 => ?_) (fun c26 => ?_)
    · refine t_iinc (pc' := 44) (v := nI (k + 1)) (L' := [.ref 24, .ref 1, .int _, .int _, .int _, .int _]) dX5_plannedWith_41 rfl rfl (nI_inc k) rfl ?_
      refine s_goto (tgt := 6) dX5_plannedWith_44 (by decide) ?_
      rw [R.f6, Ne, wr_kv hv] at c26
      have q : kvB D (nI v) k = false := by simpa using c26
      exact s_eq (by rw [cnt_s0 q]) rfl rfl (ih (k + 1) I' (by omega) (hP.s0 q))
    · have q : kvB D (nI v) k = true := (wr_kv hv).mp (by rw [← R.f6]; simpa using c26)
      refine s_aload_n (pc' := 30) dX5_plannedWith_29 rfl rfl ?_
      refine s_getS (pc' := 33) (b := 30) dX5_plannedWith_30 rfl (by decide) rfl (by decide) fa_X5_38_5 rfl rfl ?_
      refine s_iload (pc' := 35) dX5_plannedWith_33 rfl rfl ?_
      refine s_iload (pc' := 37) dX5_plannedWith_35 rfl rfl ?_
      refine t_iast (pc' := 38) dX5_plannedWith_37 rfl sh_30 rfl (by have := cnt_s1 q; have := cnt_mono (P := kvB D (nI v)) (show k + 1 ≤ nr by omega); omega) ?_
      refine t_iinc (pc' := 41) (v := nI (s + cntB (kvB D (nI v)) k + 1)) (L' := [.ref 24, .ref 1, .int _, .int _, .int _, .int _]) dX5_plannedWith_38 rfl rfl (nI_inc _) rfl ?_
      refine t_iinc (pc' := 44) (v := nI (k + 1)) (L' := [.ref 24, .ref 1, .int _, .int _, .int _, .int _]) dX5_plannedWith_41 rfl rfl (nI_inc k) rfl ?_
      refine s_goto (tgt := 6) dX5_plannedWith_44 (by decide) ?_
      exact s_eq (by rw [cnt_s1 q]; rfl) rfl rfl (ih (k + 1) _ (by omega) (hP.s1 q))
theorem c_X5_plannedWith {N : Nat} {S : Nat → Nat × Nat} {I : Nat → Nat → Int32} {J : Nat → Nat → Int64} {Q : Nat → Nat → Option Nat} {κ : Option Value → HP → Prop} {D : Nat → Nat → Int32} {nv nr ns : Nat} {ad td : Nat → Nat} (X : XS N S I Q D nv nr ns ad td 0) (hW : DW D nv nr ns) {v s : Nat} (hv : v < 1000) (hs : s + cntB (kvB D (nI v)) nr ≤ 30) (hk : ∀ I', PLN I I' D v s nr → κ (some (.int (nI (s + cntB (kvB D (nI v)) nr)))) (N, S, I', J, Q)) : CT E1 M_X5_plannedWith [.ref 24, .ref 1, .int (nI v), .int (nI s)] (N, S, I, J, Q) κ := by
  refine ofSP mk_X5_plannedWith (Nat.le_of_ble_eq_true rfl) (L := [.ref 24, .ref 1, .int _, .int _, .retAddr _, .retAddr _]) rfl ?_
  refine s_iload_n (pc' := 1) dX5_plannedWith_0 rfl rfl ?_
  refine t_istore (pc' := 3) (L' := [.ref 24, .ref 1, .int _, .int _, .int _, .retAddr _]) dX5_plannedWith_1 rfl (Nat.le_of_ble_eq_true rfl) rfl ?_
  refine s_iconst (pc' := 4) (v := 0) dX5_plannedWith_3 rfl (by decide) ?_
  refine t_istore (pc' := 6) (L' := [.ref 24, .ref 1, .int _, .int _, .int _, .int _]) dX5_plannedWith_4 rfl (Nat.le_of_ble_eq_true rfl) rfl ?_
  exact l_X5_plannedWith X hW hv hs hk nr 0 I (by omega) PLN.rf
