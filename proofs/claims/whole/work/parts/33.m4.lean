/-! ===== what the sheets are, out of the model's rows 55 .. 75 (D), the set of choices x, the numbers g ===== -/
def bitI (x j : Int32) : Int32 := (x >>> (j &&& 31)) &&& 1
def DA (I D : Nat → Nat → Int32) : Prop := ∀ i, 55 ≤ i → i ≤ 75 → I i = D i
theorem DA.up {I D : Nat → Nat → Int32} (h : DA I D) {a j : Nat} {x : Int32} (ha : a < 55 ∨ 75 < a) : DA (up2 I a j x) D := fun i h1 h2 => by
  rw [up2_o (by omega)]; exact h i h1 h2
theorem DA.rf {I : Nat → Nat → Int32} : DA I I := fun _ _ _ => rfl
def hB (D : Nat → Nat → Int32) (x : Int32) (g : Nat → Int64) (r : Nat) : Bool :=
  if D 69 r = 0 then true
  else if D 69 r = 1 then decide (bitI x (D 70 r) = 1)
  else if D 69 r = 2 then decide (bitI x (D 70 r) = 0)
  else if D 69 r = 3 then decide ((D 71 r).toInt64 ≤ g (D 70 r).toNatClampNeg)
  else decide (g (D 70 r).toNatClampNeg < (D 71 r).toInt64)
def amt (D : Nat → Nat → Int32) (g : Nat → Int64) (r : Nat) : Int64 := (D 66 r).toInt64 + (if 0 ≤ D 67 r then g (D 67 r).toNatClampNeg * (D 68 r).toInt64 / 2 else 0)
def wk (D : Nat → Nat → Int32) (x : Int32) (g : Nat → Int64) (th : Int32) (r : Nat) (k v : Int32) : Bool := decide (D 60 r = k) && (decide (D 61 r = v) && (decide (bitI th (nI r) = 1) && hB D x g r))
/-- which rules are there, the last k of nr being looked at -/
def thr (D : Nat → Nat → Int32) (x : Int32) (g : Nat → Int64) (nr : Nat) : Nat → Int32
  | 0 => ((1 : Int32) <<< (nI nr &&& 31)) - 1
  | k + 1 => if D 60 (nr - (k + 1)) = 4 ∧ bitI (thr D x g nr k) (nI (nr - (k + 1))) = 1 ∧ hB D x g (nr - (k + 1)) = true then thr D x g nr k &&& (((1 : Int32) <<< (D 61 (nr - (k + 1)) &&& 31)) ^^^ (-1)) else thr D x g nr k
def ixo (o : Option Nat) : Int32 := match o with
  | none => -1
  | some r => nI r
/-- the SET that counts, of the first k rules -/
def bsS (D : Nat → Nat → Int32) (x : Int32) (g : Nat → Int64) (th v : Int32) : Nat → Option Nat
  | 0 => none
  | k + 1 => if wk D x g th k 2 v = true then (match bsS D x g th v k with
      | none => some k
      | some q => if D 62 q < D 62 k then some k else some q) else bsS D x g th v k
def adB (D : Nat → Nat → Int32) (x : Int32) (g : Nat → Int64) (th : Int32) (r : Nat) (v : Int32) : Bool := wk D x g th r 0 v || wk D x g th r 1 v
/-- the least j below n with P, or n -/
def lf (P : Nat → Bool) : Nat → Nat
  | 0 => 0
  | n + 1 => if lf P n < n then lf P n else if P n = true then n else n + 1
def foS (D : Nat → Nat → Int32) (x : Int32) (g : Nat → Int64) (th : Int32) (r : Nat) (v : Int32) : Nat := if D 63 r = 0 then r else lf (fun f => adB D x g th f v && decide (D 63 f = D 63 r)) (r + 1)
def ctB (D : Nat → Nat → Int32) (x : Int32) (g : Nat → Int64) (th : Int32) (r : Nat) (v : Int32) : Bool := adB D x g th r v && decide (foS D x g th r v = r)
def boS (D : Nat → Nat → Int32) (x : Int32) (g : Nat → Int64) (th v t sg : Int32) : Nat → Option Nat
  | 0 => none
  | k + 1 => if ctB D x g th k v = true ∧ D 60 k = 1 ∧ D 64 k = t ∧ 0 < amt D g k * sg.toInt64 then (match boS D x g th v t sg k with
      | none => some k
      | some q => if amt D g q * sg.toInt64 < amt D g k * sg.toInt64 then some k else some q) else boS D x g th v t sg k
def DW (D : Nat → Nat → Int32) (nv nr ns : Nat) : Prop :=
  (nv ≤ 10 ∧ nr ≤ 30 ∧ ns ≤ 10 ∧ D 75 0 = nI nv ∧ D 75 1 = nI nr ∧ D 75 2 = nI ns) ∧
  (∀ r, r < nr → (∃ k, k ≤ 6 ∧ D 60 r = nI k) ∧ (∃ a, a < 30 ∧ D 61 r = nI a ∧ (D 60 r < 4 → a < nv) ∧ (D 60 r = 4 → a < r) ∧ (4 < D 60 r → a < 8)) ∧ (D 69 r = 0 ∨ ((D 69 r = 1 ∨ D 69 r = 2) ∧ ∃ o, o < 8 ∧ D 70 r = nI o) ∨ ((D 69 r = 3 ∨ D 69 r = 4) ∧ D 60 r ≠ 4 ∧ ∃ o, o < nv ∧ D 70 r = nI o)) ∧ (D 67 r = -1 ∨ ∃ o, o < nv ∧ D 67 r = nI o) ∧ (∃ a, a ≤ 9 ∧ D 62 r = nI a) ∧ (∃ a, a ≤ 20 ∧ D 63 r = nI a) ∧ (∃ a, a ≤ 5 ∧ D 64 r = nI a ∧ (D 60 r = 1 → 1 ≤ a)) ∧ (D 65 r = 0 ∨ D 65 r = 1) ∧ inR (D 66 r) (-1000) 1000 ∧ (∃ a, a ≤ 9 ∧ D 68 r = nI a)) ∧
  (∀ v, v < nv → inR (D 55 v) 0 4 ∧ inR (D 56 v) (-99) 99 ∧ inR (D 59 v) 0 600000 ∧ (D 55 v = 3 → ∃ c s : Nat, 1 ≤ c ∧ c ≤ 5 ∧ 2 ≤ s ∧ s ≤ 12 ∧ D 57 v = nI c ∧ D 58 v = nI s) ∧ (D 55 v ≠ 3 → D 57 v = 0 ∧ D 58 v = 0)) ∧
  (∀ k, k < ns → (∃ v, v < nv ∧ D 72 k = nI v) ∧ inR (D 73 k) (-20) 20 ∧ (∃ t, t ≤ 1020 ∧ D 74 k = nI t)) ∧
  (∃ m f s t, m < 256 ∧ f < 256 ∧ s < 64 ∧ t ≤ 1000 ∧ D 75 3 = nI m ∧ D 75 4 = nI f ∧ D 75 5 = nI s ∧ D 75 6 = nI t)
theorem DW.nv {D : Nat → Nat → Int32} {nv nr ns : Nat} (h : DW D nv nr ns) : nv ≤ 10 := h.1.1
theorem DW.nr {D : Nat → Nat → Int32} {nv nr ns : Nat} (h : DW D nv nr ns) : nr ≤ 30 := h.1.2.1
theorem DW.ns {D : Nat → Nat → Int32} {nv nr ns : Nat} (h : DW D nv nr ns) : ns ≤ 10 := h.1.2.2.1
theorem DW.vn {I D : Nat → Nat → Int32} {nv nr ns : Nat} (h : DW D nv nr ns) (hD : DA I D) : I 75 0 = nI nv := by rw [hD 75 (by decide) (by decide)]; exact h.1.2.2.2.1
theorem DW.rn {I D : Nat → Nat → Int32} {nv nr ns : Nat} (h : DW D nv nr ns) (hD : DA I D) : I 75 1 = nI nr := by rw [hD 75 (by decide) (by decide)]; exact h.1.2.2.2.2.1
theorem DW.sn {I D : Nat → Nat → Int32} {nv nr ns : Nat} (h : DW D nv nr ns) (hD : DA I D) : I 75 2 = nI ns := by rw [hD 75 (by decide) (by decide)]; exact h.1.2.2.2.2.2
theorem DW.how {I D : Nat → Nat → Int32} {nv nr ns r : Nat} (h : DW D nv nr ns) (hr : r < nr) (hD : DA I D) : I 69 r = 0 ∨ I 69 r = 1 ∨ I 69 r = 2 ∨ I 69 r = 3 ∨ I 69 r = 4 := by
  rw [hD 69 (by decide) (by decide)]
  rcases (h.2.1 r hr).2.2.1 with e | ⟨e | e, -⟩ | ⟨e | e, -⟩
  · exact Or.inl e
  · exact Or.inr (Or.inl e)
  · exact Or.inr (Or.inr (Or.inl e))
  · exact Or.inr (Or.inr (Or.inr (Or.inl e)))
  · exact Or.inr (Or.inr (Or.inr (Or.inr e)))
theorem DW.ofv {I D : Nat → Nat → Int32} {nv nr ns r : Nat} (h : DW D nv nr ns) (hr : r < nr) (hD : DA I D) (e : I 69 r = 3 ∨ I 69 r = 4) : ∃ o, o < nv ∧ I 70 r = nI o ∧ o = (D 70 r).toNatClampNeg := by
  rw [hD 69 (by decide) (by decide)] at e
  rw [hD 70 (by decide) (by decide)]
  have hn := h.nv
  rcases (h.2.1 r hr).2.2.1 with z | ⟨z, -⟩ | ⟨-, -, o, h1, h2⟩
  · rcases e with e | e <;> rw [z] at e <;> exact absurd e (by decide)
  · rcases e with e | e <;> rcases z with z | z <;> rw [z] at e <;> exact absurd e (by decide)
  · exact ⟨o, h1, h2, by rw [h2, nI_clamp (by omega)]⟩
theorem DW.byv {I D : Nat → Nat → Int32} {nv nr ns r : Nat} (h : DW D nv nr ns) (hr : r < nr) (hD : DA I D) (e : ¬ I 67 r < 0) : ∃ o, o < nv ∧ I 67 r = nI o ∧ o = (D 67 r).toNatClampNeg := by
  rw [hD 67 (by decide) (by decide)] at e ⊢
  have hn := h.nv
  rcases (h.2.1 r hr).2.2.2.1 with z | ⟨o, h1, h2⟩
  · rw [z] at e; exact absurd (by decide) e
  · exact ⟨o, h1, h2, by rw [h2, nI_clamp (by omega)]⟩
/-- the sheet at hand: rows, set, place -/
def SC (I D : Nat → Nat → Int32) (nv nr ns b : Nat) : Prop := DA I D ∧ DW D nv nr ns ∧ I 54 38 = nI b ∧ b < 256
theorem SC.up {I D : Nat → Nat → Int32} {nv nr ns b : Nat} (h : SC I D nv nr ns b) {a j : Nat} {x : Int32} (ha : 75 < a) : SC (up2 I a j x) D nv nr ns b := ⟨h.1.up (Or.inr ha), h.2.1, by rw [up2_d (by omega)]; exact h.2.2.1, h.2.2.2⟩
def gM (J : Nat → Nat → Int64) (b : Nat) : Nat → Int64 := fun v => J 80 (10 * b + v)
theorem ix10 {b v : Nat} (hb : b < 256) (hv : v < 10) : (10 : Int32) * nI b + nI v = nI (10 * b + v) := by
  show nI 10 * nI b + nI v = _
  rw [pk_mul, nI_add]
theorem amt_0 {D : Nat → Nat → Int32} {g : Nat → Int64} {r : Nat} (h : D 67 r < 0) : amt D g r = (D 66 r).toInt64 + 0 := by
  unfold amt; rw [if_neg (Int32.not_le.mpr h)]
theorem amt_1 {D : Nat → Nat → Int32} {g : Nat → Int64} {r : Nat} (h : ¬ D 67 r < 0) : amt D g r = (D 66 r).toInt64 + g (D 67 r).toNatClampNeg * (D 68 r).toInt64 / 2 := by
  unfold amt; rw [if_pos (Int32.not_lt.mp h)]
theorem wk_of {D : Nat → Nat → Int32} {x : Int32} {g : Nat → Int64} {th : Int32} {r : Nat} {k v : Int32} (h1 : D 60 r = k) (h2 : D 61 r = v) (h3 : bitI th (nI r) = 1) (h4 : hB D x g r = true) : wk D x g th r k v = true := by simp [wk, h1, h2, h3, h4]
theorem wk_1 {D : Nat → Nat → Int32} {x : Int32} {g : Nat → Int64} {th : Int32} {r : Nat} {k v : Int32} (h : D 60 r ≠ k) : wk D x g th r k v = false := by simp [wk, h]
theorem wk_2 {D : Nat → Nat → Int32} {x : Int32} {g : Nat → Int64} {th : Int32} {r : Nat} {k v : Int32} (h : D 61 r ≠ v) : wk D x g th r k v = false := by simp [wk, h]
theorem wk_3 {D : Nat → Nat → Int32} {x : Int32} {g : Nat → Int64} {th : Int32} {r : Nat} {k v : Int32} (h : bitI th (nI r) ≠ 1) : wk D x g th r k v = false := by simp [wk, h]
theorem wk_4 {D : Nat → Nat → Int32} {x : Int32} {g : Nat → Int64} {th : Int32} {r : Nat} {k v : Int32} (h : hB D x g r = false) : wk D x g th r k v = false := by simp [wk, h]
theorem lf_le (P : Nat → Bool) : ∀ n, lf P n ≤ n
  | 0 => Nat.le_refl 0
  | n + 1 => by
    have := lf_le P n
    unfold lf
    split
    · omega
    · split <;> omega
theorem lf_spec (P : Nat → Bool) : ∀ n, (∀ j, j < lf P n → P j = false) ∧ (lf P n < n → P (lf P n) = true)
  | 0 => ⟨fun j h => by simp [lf] at h, fun h => by simp [lf] at h⟩
  | n + 1 => by
    have ih := lf_spec P n
    have hle := lf_le P n
    by_cases h1 : lf P n < n
    · have e : lf P (n + 1) = lf P n := by rw [lf, if_pos h1]
      rw [e]; exact ⟨ih.1, fun _ => ih.2 h1⟩
    · have e0 : lf P n = n := by omega
      rw [e0] at ih
      by_cases h2 : P n = true
      · have e : lf P (n + 1) = n := by rw [lf, if_neg h1, if_pos h2]
        rw [e]; exact ⟨ih.1, fun _ => h2⟩
      · have e : lf P (n + 1) = n + 1 := by rw [lf, if_neg h1, if_neg h2]
        rw [e]
        refine ⟨fun j hj => ?_, fun h => by omega⟩
        by_cases hj2 : j = n
        · subst hj2; simpa using h2
        · exact ih.1 j (by omega)
theorem lf_eq {P : Nat → Bool} {n j : Nat} (hj : j < n) (h1 : P j = true) (h2 : ∀ i, i < j → P i = false) : lf P n = j := by
  have h := lf_spec P n
  rcases Nat.lt_trichotomy (lf P n) j with h3 | h3 | h3
  · have := h.2 (by omega); rw [h2 _ h3] at this; cases this
  · exact h3
  · have := h.1 j h3; rw [h1] at this; cases this
theorem hB_3 {D : Nat → Nat → Int32} {x : Int32} {g : Nat → Int64} {r : Nat} (e : D 69 r = 3) : hB D x g r = decide ((D 71 r).toInt64 ≤ g (D 70 r).toNatClampNeg) := by
  unfold hB; rw [if_neg (by rw [e]; decide), if_neg (by rw [e]; decide), if_neg (by rw [e]; decide), if_pos e]
theorem hB_4 {D : Nat → Nat → Int32} {x : Int32} {g : Nat → Int64} {r : Nat} (e : D 69 r = 4) : hB D x g r = decide (g (D 70 r).toNatClampNeg < (D 71 r).toInt64) := by
  unfold hB; rw [if_neg (by rw [e]; decide), if_neg (by rw [e]; decide), if_neg (by rw [e]; decide), if_neg (by rw [e]; decide)]
theorem dec1 (x : Int32) : x + Int32.ofInt (-1) = x - 1 := by rw [Int32.sub_eq_add_neg]; rfl
theorem up2_uu {α : Type} {f : Nat → Nat → α} {a j : Nat} {x y : α} : up2 (up2 f a j x) a j y = up2 f a j y := by
  funext b i
  by_cases h : b = a
  · by_cases h2 : i = j
    · simp [up2, h, h2]
    · simp [up2, h, h2]
  · simp [up2, h]
theorem up2_id {α : Type} {f : Nat → Nat → α} {a j : Nat} : up2 f a j (f a j) = f := by
  funext b i
  by_cases h : b = a
  · by_cases h2 : i = j
    · simp [up2, h, h2]
    · simp [up2, h, h2]
  · simp [up2, h]
theorem c_X12_holds {N : Nat} {S : Nat → Nat × Nat} {I : Nat → Nat → Int32} {J : Nat → Nat → Int64} {Q : Nat → Nat → Option Nat} {κ : Option Value → HP → Prop} {D : Nat → Nat → Int32} {nv nr ns b : Nat} (C : SC I D nv nr ns b) {r : Nat} (hr : r < nr) (ht : hB D (nI b) (gM J b) r = true → κ (some (.int 1)) (N, S, I, J, Q)) (hf : hB D (nI b) (gM J b) r = false → κ (some (.int 0)) (N, S, I, J, Q)) : CT E1 M_X12_holds [.ref 54, .int (nI r)] (N, S, I, J, Q) κ := by
  refine ofSP mk_X12_holds (Nat.le_of_ble_eq_true rfl) (L := [.ref 54, .int _]) rfl ?_
  refine s_aload_n (pc' := 1) dX12_holds_0 rfl rfl ?_
  refine s_getS (pc' := 4) (b := 69) dX12_holds_1 rfl (by decide) rfl (by decide) fa_X12_52_12 rfl rfl ?_
  refine s_iload_n (pc' := 5) dX12_holds_4 rfl rfl ?_
  refine t_iald (pc' := 6) dX12_holds_5 rfl sh_69 rfl (by have := C.2.1.nr; omega) ?_
  rcases C.2.1.how hr C.1 with e6 | e6 | e6 | e6 | e6
  · refine s_tabIn (tgt := 36) (off := 30) dX12_holds_6 (by rw [e6]; decide) (by rw [e6]; decide) (by rw [e6]; rfl) (by decide) ?_
    refine s_iconst (pc' := 37) (v := 1) dX12_holds_36 rfl (by decide) ?_
    exact s_zret dX12_holds_37 rfl rfl (by decide) (by decide) (ht (by rw [C.1 69 (by decide) (by decide)] at e6; simp [hB, e6]))
  · refine s_tabIn (tgt := 38) (off := 32) dX12_holds_6 (by rw [e6]; decide) (by rw [e6]; decide) (by rw [e6]; rfl) (by decide) ?_
    refine s_aload_n (pc' := 39) dX12_holds_38 rfl rfl ?_
    refine t_getI (pc' := 42) dX12_holds_39 rfl sh_54 (by decide) fa_X12_228_12 rfl ?_
    refine s_aload_n (pc' := 43) dX12_holds_42 rfl rfl ?_
    refine s_getS (pc' := 46) (b := 70) dX12_holds_43 rfl (by decide) rfl (by decide) fa_X12_55_12 rfl rfl ?_
    refine s_iload_n (pc' := 47) dX12_holds_46 rfl rfl ?_
    refine t_iald (pc' := 48) dX12_holds_47 rfl sh_70 rfl (by have := C.2.1.nr; omega) ?_
    refine s_ishr (pc' := 49) dX12_holds_48 rfl ?_
    refine s_iconst (pc' := 50) (v := 1) dX12_holds_49 rfl (by decide) ?_
    refine s_iand (pc' := 51) dX12_holds_50 rfl ?_
    refine s_iconst (pc' := 52) (v := 1) dX12_holds_51 rfl (by decide) ?_
    refine s_icmpne (pc' := 55) (tgt := 59) dX12_holds_52 (by decide) rfl (fun c52 => ?_) (fun c52 => ?_)
    · refine s_iconst (pc' := 60) (v := 0) dX12_holds_59 rfl (by decide) ?_
      exact s_zret dX12_holds_60 rfl rfl (by decide) (by decide) (hf (by rw [C.1 69 (by decide) (by decide)] at e6; rw [C.2.2.1, C.1 70 (by decide) (by decide)] at c52; simp [hB, e6, bitI, c52]))
    · refine s_iconst (pc' := 56) (v := 1) dX12_holds_55 rfl (by decide) ?_
      refine s_goto (tgt := 60) dX12_holds_56 (by decide) ?_
      exact s_zret dX12_holds_60 rfl rfl (by decide) (by decide) (ht (by rw [C.1 69 (by decide) (by decide)] at e6; rw [C.2.2.1, C.1 70 (by decide) (by decide)] at c52; simp [hB, e6, bitI, c52]))
  · refine s_tabIn (tgt := 61) (off := 55) dX12_holds_6 (by rw [e6]; decide) (by rw [e6]; decide) (by rw [e6]; rfl) (by decide) ?_
    refine s_aload_n (pc' := 62) dX12_holds_61 rfl rfl ?_
    refine t_getI (pc' := 65) dX12_holds_62 rfl sh_54 (by decide) fa_X12_228_12 rfl ?_
    refine s_aload_n (pc' := 66) dX12_holds_65 rfl rfl ?_
    refine s_getS (pc' := 69) (b := 70) dX12_holds_66 rfl (by decide) rfl (by decide) fa_X12_55_12 rfl rfl ?_
    refine s_iload_n (pc' := 70) dX12_holds_69 rfl rfl ?_
    refine t_iald (pc' := 71) dX12_holds_70 rfl sh_70 rfl (by have := C.2.1.nr; omega) ?_
    refine s_ishr (pc' := 72) dX12_holds_71 rfl ?_
    refine s_iconst (pc' := 73) (v := 1) dX12_holds_72 rfl (by decide) ?_
    refine s_iand (pc' := 74) dX12_holds_73 rfl ?_
    refine s_ifne (pc' := 77) (tgt := 81) dX12_holds_74 (by decide) rfl (fun c74 => ?_) (fun c74 => ?_)
    · refine s_iconst (pc' := 82) (v := 0) dX12_holds_81 rfl (by decide) ?_
      exact s_zret dX12_holds_82 rfl rfl (by decide) (by decide) (hf (by rw [C.1 69 (by decide) (by decide)] at e6; rw [C.2.2.1, C.1 70 (by decide) (by decide)] at c74; simp [hB, e6, bitI, c74]))
    · refine s_iconst (pc' := 78) (v := 1) dX12_holds_77 rfl (by decide) ?_
      refine s_goto (tgt := 82) dX12_holds_78 (by decide) ?_
      exact s_zret dX12_holds_82 rfl rfl (by decide) (by decide) (ht (by rw [C.1 69 (by decide) (by decide)] at e6; rw [C.2.2.1, C.1 70 (by decide) (by decide)] at c74; simp [hB, e6, bitI, c74]))
  · refine s_tabIn (tgt := 83) (off := 77) dX12_holds_6 (by rw [e6]; decide) (by rw [e6]; decide) (by rw [e6]; rfl) (by decide) ?_
    obtain ⟨o, ho1, ho2, eo⟩ := C.2.1.ofv hr C.1 (Or.inl e6)
    refine s_aload_n (pc' := 84) dX12_holds_83 rfl rfl ?_
    refine s_getS (pc' := 87) (b := 80) dX12_holds_84 rfl (by decide) rfl (by decide) fa_X12_85_12 rfl rfl ?_
    refine s_bipush (pc' := 89) (v := 10) dX12_holds_87 rfl (by decide) ?_
    refine s_aload_n (pc' := 90) dX12_holds_89 rfl rfl ?_
    refine t_getI (pc' := 93) dX12_holds_90 rfl sh_54 (by decide) fa_X12_228_12 rfl ?_
    refine s_imul (pc' := 94) dX12_holds_93 rfl ?_
    refine s_aload_n (pc' := 95) dX12_holds_94 rfl rfl ?_
    refine s_getS (pc' := 98) (b := 70) dX12_holds_95 rfl (by decide) rfl (by decide) fa_X12_55_12 rfl rfl ?_
    refine s_iload_n (pc' := 99) dX12_holds_98 rfl rfl ?_
    refine t_iald (pc' := 100) dX12_holds_99 rfl sh_70 rfl (by have := C.2.1.nr; omega) ?_
    refine s_iadd (pc' := 101) dX12_holds_100 rfl ?_
    refine t_lald (pc' := 102) (q := 10 * b + o) dX12_holds_101 rfl sh_80 (by rw [C.2.2.1, ho2, ix10 C.2.2.2 (by have := C.2.1.nv; omega)]) (by have := C.2.1.nv; have := C.2.2.2; omega) ?_
    refine s_aload_n (pc' := 103) dX12_holds_102 rfl rfl ?_
    refine s_getS (pc' := 106) (b := 71) dX12_holds_103 rfl (by decide) rfl (by decide) fa_X12_58_12 rfl rfl ?_
    refine s_iload_n (pc' := 107) dX12_holds_106 rfl rfl ?_
    refine t_iald (pc' := 108) dX12_holds_107 rfl sh_71 rfl (by have := C.2.1.nr; omega) ?_
    refine s_i2l (pc' := 109) dX12_holds_108 rfl ?_
    refine s_lcmp (pc' := 110) dX12_holds_109 rfl ?_
    refine s_iflt (pc' := 113) (tgt := 117) dX12_holds_110 (by decide) rfl (fun c110 => ?_) (fun c110 => ?_)
    · refine s_iconst (pc' := 118) (v := 0) dX12_holds_117 rfl (by decide) ?_
      exact s_zret dX12_holds_118 rfl rfl (by decide) (by decide) (hf (by rw [C.1 69 (by decide) (by decide)] at e6; rw [lg_cmp_lt, C.1 71 (by decide) (by decide)] at c110; rw [eo] at c110; rw [hB_3 e6]; exact decide_eq_false (fun z => Int64.not_lt.mpr z c110)))
    · refine s_iconst (pc' := 114) (v := 1) dX12_holds_113 rfl (by decide) ?_
      refine s_goto (tgt := 118) dX12_holds_114 (by decide) ?_
      exact s_zret dX12_holds_118 rfl rfl (by decide) (by decide) (ht (by rw [C.1 69 (by decide) (by decide)] at e6; rw [lg_cmp_lt, C.1 71 (by decide) (by decide)] at c110; rw [eo] at c110; rw [hB_3 e6]; exact decide_eq_true (Int64.not_lt.mp c110)))
  · refine s_tabOut (tgt := 119) dX12_holds_6 (by rw [e6]; decide) (by decide) ?_
    obtain ⟨o, ho1, ho2, eo⟩ := C.2.1.ofv hr C.1 (Or.inr e6)
    refine s_aload_n (pc' := 120) dX12_holds_119 rfl rfl ?_
    refine s_getS (pc' := 123) (b := 80) dX12_holds_120 rfl (by decide) rfl (by decide) fa_X12_85_12 rfl rfl ?_
    refine s_bipush (pc' := 125) (v := 10) dX12_holds_123 rfl (by decide) ?_
    refine s_aload_n (pc' := 126) dX12_holds_125 rfl rfl ?_
    refine t_getI (pc' := 129) dX12_holds_126 rfl sh_54 (by decide) fa_X12_228_12 rfl ?_
    refine s_imul (pc' := 130) dX12_holds_129 rfl ?_
    refine s_aload_n (pc' := 131) dX12_holds_130 rfl rfl ?_
    refine s_getS (pc' := 134) (b := 70) dX12_holds_131 rfl (by decide) rfl (by decide) fa_X12_55_12 rfl rfl ?_
    refine s_iload_n (pc' := 135) dX12_holds_134 rfl rfl ?_
    refine t_iald (pc' := 136) dX12_holds_135 rfl sh_70 rfl (by have := C.2.1.nr; omega) ?_
    refine s_iadd (pc' := 137) dX12_holds_136 rfl ?_
    refine t_lald (pc' := 138) (q := 10 * b + o) dX12_holds_137 rfl sh_80 (by rw [C.2.2.1, ho2, ix10 C.2.2.2 (by have := C.2.1.nv; omega)]) (by have := C.2.1.nv; have := C.2.2.2; omega) ?_
    refine s_aload_n (pc' := 139) dX12_holds_138 rfl rfl ?_
    refine s_getS (pc' := 142) (b := 71) dX12_holds_139 rfl (by decide) rfl (by decide) fa_X12_58_12 rfl rfl ?_
    refine s_iload_n (pc' := 143) dX12_holds_142 rfl rfl ?_
    refine t_iald (pc' := 144) dX12_holds_143 rfl sh_71 rfl (by have := C.2.1.nr; omega) ?_
    refine s_i2l (pc' := 145) dX12_holds_144 rfl ?_
    refine s_lcmp (pc' := 146) dX12_holds_145 rfl ?_
    refine s_ifge (pc' := 149) (tgt := 153) dX12_holds_146 (by decide) rfl (fun c146 => ?_) (fun c146 => ?_)
    · refine s_iconst (pc' := 154) (v := 0) dX12_holds_153 rfl (by decide) ?_
      exact s_zret dX12_holds_154 rfl rfl (by decide) (by decide) (hf (by rw [C.1 69 (by decide) (by decide)] at e6; rw [lg_cmp_ge, C.1 71 (by decide) (by decide)] at c146; rw [eo] at c146; rw [hB_4 e6]; exact decide_eq_false (fun z => Int64.not_le.mpr z c146)))
    · refine s_iconst (pc' := 150) (v := 1) dX12_holds_149 rfl (by decide) ?_
      refine s_goto (tgt := 154) dX12_holds_150 (by decide) ?_
      exact s_zret dX12_holds_154 rfl rfl (by decide) (by decide) (ht (by rw [C.1 69 (by decide) (by decide)] at e6; rw [lg_cmp_ge, C.1 71 (by decide) (by decide)] at c146; rw [eo] at c146; rw [hB_4 e6]; exact decide_eq_true (Int64.not_le.mp c146)))
theorem c_X12_isThere {N : Nat} {S : Nat → Nat × Nat} {I : Nat → Nat → Int32} {J : Nat → Nat → Int64} {Q : Nat → Nat → Option Nat} {κ : Option Value → HP → Prop} {D : Nat → Nat → Int32} {nv nr ns b : Nat} (C : SC I D nv nr ns b) {r : Nat} (ht : bitI (I 81 b) (nI r) = 1 → κ (some (.int 1)) (N, S, I, J, Q)) (hf : bitI (I 81 b) (nI r) ≠ 1 → κ (some (.int 0)) (N, S, I, J, Q)) : CT E1 M_X12_isThere [.ref 54, .int (nI r)] (N, S, I, J, Q) κ := by
  refine ofSP mk_X12_isThere (Nat.le_of_ble_eq_true rfl) (L := [.ref 54, .int _]) rfl ?_
  refine s_aload_n (pc' := 1) dX12_isThere_0 rfl rfl ?_
  refine s_getS (pc' := 4) (b := 81) dX12_isThere_1 rfl (by decide) rfl (by decide) fa_X12_89_12 rfl rfl ?_
  refine s_aload_n (pc' := 5) dX12_isThere_4 rfl rfl ?_
  refine t_getI (pc' := 8) dX12_isThere_5 rfl sh_54 (by decide) fa_X12_228_12 rfl ?_
  refine t_iald (pc' := 9) (q := b) dX12_isThere_8 rfl sh_81 C.2.2.1 C.2.2.2 ?_
  refine s_iload_n (pc' := 10) dX12_isThere_9 rfl rfl ?_
  refine s_ishr (pc' := 11) dX12_isThere_10 rfl ?_
  refine s_iconst (pc' := 12) (v := 1) dX12_isThere_11 rfl (by decide) ?_
  refine s_iand (pc' := 13) dX12_isThere_12 rfl ?_
  refine s_iconst (pc' := 14) (v := 1) dX12_isThere_13 rfl (by decide) ?_
  refine s_icmpne (pc' := 17) (tgt := 21) dX12_isThere_14 (by decide) rfl (fun c14 => ?_) (fun c14 => ?_)
  · refine s_iconst (pc' := 22) (v := 0) dX12_isThere_21 rfl (by decide) ?_
    exact s_zret dX12_isThere_22 rfl rfl (by decide) (by decide) (hf c14)
  · refine s_iconst (pc' := 18) (v := 1) dX12_isThere_17 rfl (by decide) ?_
    refine s_goto (tgt := 22) dX12_isThere_18 (by decide) ?_
    exact s_zret dX12_isThere_22 rfl rfl (by decide) (by decide) (ht c14)
theorem l_X12_findThere {N : Nat} {S : Nat → Nat × Nat} {I : Nat → Nat → Int32} {J : Nat → Nat → Int64} {Q : Nat → Nat → Option Nat} {κ : Option Value → HP → Prop} {D : Nat → Nat → Int32} {nv nr ns b : Nat} (C : SC I D nv nr ns b) (hk : κ none (N, S, up2 I 81 b (thr D (nI b) (gM J b) nr nr), J, Q)) : ∀ d : Nat, ∀ k, k + d = nr → SP E1 M_X12_findThere κ 28 [.ref 54, .int (nI (nr - k) - 1)] [] (N, S, up2 I 81 b (thr D (nI b) (gM J b) nr k), J, Q) 0 0 := by
  intro d
  induction d with
  | zero =>
    intro k hd
    obtain rfl : k = nr := by omega
    rw [Nat.sub_self]
    refine s_iload_n (pc' := 29) dX12_findThere_28 rfl rfl ?_
    refine s_ifltT (tgt := 86) dX12_findThere_29 (by decide) (by decide) ?_
    exact s_vret dX12_findThere_86 rfl (by decide) (by decide) hk
  | succ d ih =>
    intro k hd
    have hr : nr - (k + 1) < nr := by omega
    have hn30 := C.2.1.nr
    rw [show nr - k = (nr - (k + 1)) + 1 by omega, nI_pred]
    replace C := C.up (a := 81) (j := b) (x := thr D (nI b) (gM J b) nr k) (by decide)
    refine s_iload_n (pc' := 29) dX12_findThere_28 rfl rfl ?_
    refine s_ifltF (pc' := 32) (tgt := 86) dX12_findThere_29 (by decide) rfl (nI_pos (by omega)) ?_
    refine s_aload_n (pc' := 33) dX12_findThere_32 rfl rfl ?_
    refine s_getS (pc' := 36) (b := 60) dX12_findThere_33 rfl (by decide) rfl (by decide) fa_X12_25_12 rfl rfl ?_
    refine s_iload_n (pc' := 37) dX12_findThere_36 rfl rfl ?_
    refine t_iald (pc' := 38) dX12_findThere_37 rfl sh_60 rfl (by omega) ?_
    refine s_iconst (pc' := 39) (v := 4) dX12_findThere_38 rfl (by decide) ?_
    refine s_icmpne (pc' := 42) (tgt := 80) dX12_findThere_39 (by decide) rfl (fun c39 => ?_) (fun c39 => ?_)
    · refine t_iinc (pc' := 83) (v := nI (nr - (k + 1)) - 1) (L' := [.ref 54, .int _]) dX12_findThere_80 rfl rfl (dec1 _) rfl ?_
      refine s_goto (tgt := 28) dX12_findThere_83 (by decide) ?_
      rw [C.1 60 (by decide) (by decide)] at c39
      exact s_eq rfl rfl (by rw [thr, if_neg (fun z => c39 z.1)]) (ih (k + 1) (by omega))
    · refine s_aload_n (pc' := 43) dX12_findThere_42 rfl rfl ?_
      refine s_iload_n (pc' := 44) dX12_findThere_43 rfl rfl ?_
      refine s_callV (pc' := 47) (As := [.int _]) dX12_findThere_44 rfl mk_X12_isThere ml_X12_231 im_X12_isThere se_X12_X12_X12_isThere sh_54 (by decide) rfl rfl rfl ⟨Nat.le_of_ble_eq_true rfl, Nat.le_of_ble_eq_true rfl, Nat.le_of_ble_eq_true rfl, Nat.le_of_ble_eq_true rfl⟩ (Nat.le_of_ble_eq_true rfl) (c_X12_isThere C (fun t44 => ?_) (fun t44 => ?_))
      · refine s_ifeqF (pc' := 50) (tgt := 80) dX12_findThere_47 (by decide) rfl (by decide) ?_
        refine s_aload_n (pc' := 51) dX12_findThere_50 rfl rfl ?_
        refine s_iload_n (pc' := 52) dX12_findThere_51 rfl rfl ?_
        refine s_callV (pc' := 55) (As := [.int _]) dX12_findThere_52 rfl mk_X12_holds ml_X12_234 im_X12_holds se_X12_X12_X12_holds sh_54 (by decide) rfl rfl rfl ⟨Nat.le_of_ble_eq_true rfl, Nat.le_of_ble_eq_true rfl, Nat.le_of_ble_eq_true rfl, Nat.le_of_ble_eq_true rfl⟩ (Nat.le_of_ble_eq_true rfl) (c_X12_holds C (r := _) (by omega) (fun h52 => ?_) (fun h52 => ?_))
        · refine s_ifeqF (pc' := 58) (tgt := 80) dX12_findThere_55 (by decide) rfl (by decide) ?_
          refine s_aload_n (pc' := 59) dX12_findThere_58 rfl rfl ?_
          refine s_getS (pc' := 62) (b := 81) dX12_findThere_59 rfl (by decide) rfl (by decide) fa_X12_89_12 rfl rfl ?_
          refine s_aload_n (pc' := 63) dX12_findThere_62 rfl rfl ?_
          refine t_getI (pc' := 66) dX12_findThere_63 rfl sh_54 (by decide) fa_X12_228_12 rfl ?_
          refine s_dup2 (pc' := 67) dX12_findThere_66 rfl rfl rfl ?_
          refine t_iald (pc' := 68) (q := b) dX12_findThere_67 rfl sh_81 C.2.2.1 C.2.2.2 ?_
          refine s_iconst (pc' := 69) (v := 1) dX12_findThere_68 rfl (by decide) ?_
          refine s_aload_n (pc' := 70) dX12_findThere_69 rfl rfl ?_
          refine s_getS (pc' := 73) (b := 61) dX12_findThere_70 rfl (by decide) rfl (by decide) fa_X12_28_12 rfl rfl ?_
          refine s_iload_n (pc' := 74) dX12_findThere_73 rfl rfl ?_
          refine t_iald (pc' := 75) dX12_findThere_74 rfl sh_61 rfl (by omega) ?_
          refine s_ishl (pc' := 76) dX12_findThere_75 rfl ?_
          refine s_iconst (pc' := 77) (v := -1) dX12_findThere_76 rfl (by decide) ?_
          refine s_ixor (pc' := 78) dX12_findThere_77 rfl ?_
          refine s_iand (pc' := 79) dX12_findThere_78 rfl ?_
          refine t_iast (pc' := 80) (q := b) dX12_findThere_79 rfl sh_81 C.2.2.1 C.2.2.2 ?_
          refine t_iinc (pc' := 83) (v := nI (nr - (k + 1)) - 1) (L' := [.ref 54, .int _]) dX12_findThere_80 rfl rfl (dec1 _) rfl ?_
          refine s_goto (tgt := 28) dX12_findThere_83 (by decide) ?_
          rw [C.1 60 (by decide) (by decide)] at c39
          rw [up2_s] at t44
          exact s_eq rfl rfl (by rw [thr, if_pos ⟨c39, t44, h52⟩, up2_uu, up2_s, C.1 61 (by decide) (by decide)]) (ih (k + 1) (by omega))
        · refine s_ifeqT (tgt := 80) dX12_findThere_55 (by decide) (by decide) ?_
          refine t_iinc (pc' := 83) (v := nI (nr - (k + 1)) - 1) (L' := [.ref 54, .int _]) dX12_findThere_80 rfl rfl (dec1 _) rfl ?_
          refine s_goto (tgt := 28) dX12_findThere_83 (by decide) ?_
          exact s_eq rfl rfl (by rw [thr, if_neg (fun z => by rw [h52] at z; exact absurd z.2.2 (by decide))]) (ih (k + 1) (by omega))
      · refine s_ifeqT (tgt := 80) dX12_findThere_47 (by decide) (by decide) ?_
        refine t_iinc (pc' := 83) (v := nI (nr - (k + 1)) - 1) (L' := [.ref 54, .int _]) dX12_findThere_80 rfl rfl (dec1 _) rfl ?_
        refine s_goto (tgt := 28) dX12_findThere_83 (by decide) ?_
        rw [up2_s] at t44
        exact s_eq rfl rfl (by rw [thr, if_neg (fun z => t44 z.2.1)]) (ih (k + 1) (by omega))
theorem c_X12_findThere {N : Nat} {S : Nat → Nat × Nat} {I : Nat → Nat → Int32} {J : Nat → Nat → Int64} {Q : Nat → Nat → Option Nat} {κ : Option Value → HP → Prop} {D : Nat → Nat → Int32} {nv nr ns b : Nat} (C : SC I D nv nr ns b) (hk : κ none (N, S, up2 I 81 b (thr D (nI b) (gM J b) nr nr), J, Q)) : CT E1 M_X12_findThere [.ref 54] (N, S, I, J, Q) κ := by
  refine ofSP mk_X12_findThere (Nat.le_of_ble_eq_true rfl) (L := [.ref 54, .retAddr _]) rfl ?_
  refine s_aload_n (pc' := 1) dX12_findThere_0 rfl rfl ?_
  refine s_getS (pc' := 4) (b := 81) dX12_findThere_1 rfl (by decide) rfl (by decide) fa_X12_89_12 rfl rfl ?_
  refine s_aload_n (pc' := 5) dX12_findThere_4 rfl rfl ?_
  refine t_getI (pc' := 8) dX12_findThere_5 rfl sh_54 (by decide) fa_X12_228_12 rfl ?_
  refine s_iconst (pc' := 9) (v := 1) dX12_findThere_8 rfl (by decide) ?_
  refine s_aload_n (pc' := 10) dX12_findThere_9 rfl rfl ?_
  refine s_getS (pc' := 13) (b := 75) dX12_findThere_10 rfl (by decide) rfl (by decide) fa_X12_70_12 rfl rfl ?_
  refine s_iconst (pc' := 14) (v := 1) dX12_findThere_13 rfl (by decide) ?_
  refine t_iald (pc' := 15) (q := 1) dX12_findThere_14 rfl sh_75 rfl (by decide) ?_
  refine s_ishl (pc' := 16) dX12_findThere_15 rfl ?_
  refine s_iconst (pc' := 17) (v := 1) dX12_findThere_16 rfl (by decide) ?_
  refine s_isub (pc' := 18) dX12_findThere_17 rfl ?_
  refine t_iast (pc' := 19) (q := b) dX12_findThere_18 rfl sh_81 C.2.2.1 C.2.2.2 ?_
  refine s_aload_n (pc' := 20) dX12_findThere_19 rfl rfl ?_
  refine s_getS (pc' := 23) (b := 75) dX12_findThere_20 rfl (by decide) rfl (by decide) fa_X12_70_12 rfl rfl ?_
  refine s_iconst (pc' := 24) (v := 1) dX12_findThere_23 rfl (by decide) ?_
  refine t_iald (pc' := 25) (q := 1) dX12_findThere_24 rfl sh_75 rfl (by decide) ?_
  refine s_iconst (pc' := 26) (v := 1) dX12_findThere_25 rfl (by decide) ?_
  refine s_isub (pc' := 27) dX12_findThere_26 rfl ?_
  refine t_istore_n (pc' := 28) (L' := [.ref 54, .int _]) dX12_findThere_27 rfl (Nat.le_of_ble_eq_true rfl) rfl ?_
  have hrn := C.2.1.rn C.1
  (try simp (disch := decide) only [up2_d, up2_e, up2_s])
  refine s_eq ?_ rfl ?_ (l_X12_findThere C hk nr 0 (by omega))
  · rw [hrn, Nat.sub_zero]
  · rw [hrn]; rfl
theorem c_X12_amountOf {N : Nat} {S : Nat → Nat × Nat} {I : Nat → Nat → Int32} {J : Nat → Nat → Int64} {Q : Nat → Nat → Option Nat} {κ : Option Value → HP → Prop} {D : Nat → Nat → Int32} {nv nr ns b : Nat} (C : SC I D nv nr ns b) {r : Nat} (hr : r < nr) (hk : κ (some (.long (amt D (gM J b) r))) (N, S, I, J, Q)) : CT E1 M_X12_amountOf [.ref 54, .int (nI r)] (N, S, I, J, Q) κ := by
  refine ofSP mk_X12_amountOf (Nat.le_of_ble_eq_true rfl) (L := [.ref 54, .int _]) rfl ?_
  refine s_aload_n (pc' := 1) dX12_amountOf_0 rfl rfl ?_
  refine s_getS (pc' := 4) (b := 66) dX12_amountOf_1 rfl (by decide) rfl (by decide) fa_X12_43_12 rfl rfl ?_
  refine s_iload_n (pc' := 5) dX12_amountOf_4 rfl rfl ?_
  refine t_iald (pc' := 6) dX12_amountOf_5 rfl sh_66 rfl (by have := C.2.1.nr; omega) ?_
  refine s_i2l (pc' := 7) dX12_amountOf_6 rfl ?_
  refine s_aload_n (pc' := 8) dX12_amountOf_7 rfl rfl ?_
  refine s_getS (pc' := 11) (b := 67) dX12_amountOf_8 rfl (by decide) rfl (by decide) fa_X12_46_12 rfl rfl ?_
  refine s_iload_n (pc' := 12) dX12_amountOf_11 rfl rfl ?_
  refine t_iald (pc' := 13) dX12_amountOf_12 rfl sh_67 rfl (by have := C.2.1.nr; omega) ?_
  refine s_ifge (pc' := 16) (tgt := 20) dX12_amountOf_13 (by decide) rfl (fun c13 => ?_) (fun c13 => ?_)
  · obtain ⟨o, ho1, ho2, eo⟩ := C.2.1.byv hr C.1 (Int32.not_lt.mpr c13)
    refine s_aload_n (pc' := 21) dX12_amountOf_20 rfl rfl ?_
    refine s_getS (pc' := 24) (b := 80) dX12_amountOf_21 rfl (by decide) rfl (by decide) fa_X12_85_12 rfl rfl ?_
    refine s_bipush (pc' := 26) (v := 10) dX12_amountOf_24 rfl (by decide) ?_
    refine s_aload_n (pc' := 27) dX12_amountOf_26 rfl rfl ?_
    refine t_getI (pc' := 30) dX12_amountOf_27 rfl sh_54 (by decide) fa_X12_228_12 rfl ?_
    refine s_imul (pc' := 31) dX12_amountOf_30 rfl ?_
    refine s_aload_n (pc' := 32) dX12_amountOf_31 rfl rfl ?_
    refine s_getS (pc' := 35) (b := 67) dX12_amountOf_32 rfl (by decide) rfl (by decide) fa_X12_46_12 rfl rfl ?_
    refine s_iload_n (pc' := 36) dX12_amountOf_35 rfl rfl ?_
    refine t_iald (pc' := 37) dX12_amountOf_36 rfl sh_67 rfl (by have := C.2.1.nr; omega) ?_
    refine s_iadd (pc' := 38) dX12_amountOf_37 rfl ?_
    refine t_lald (pc' := 39) (q := 10 * b + o) dX12_amountOf_38 rfl sh_80 (by rw [C.2.2.1, ho2, ix10 C.2.2.2 (by have := C.2.1.nv; omega)]) (by have := C.2.1.nv; have := C.2.2.2; omega) ?_
    refine s_aload_n (pc' := 40) dX12_amountOf_39 rfl rfl ?_
    refine s_getS (pc' := 43) (b := 68) dX12_amountOf_40 rfl (by decide) rfl (by decide) fa_X12_49_12 rfl rfl ?_
    refine s_iload_n (pc' := 44) dX12_amountOf_43 rfl rfl ?_
    refine t_iald (pc' := 45) dX12_amountOf_44 rfl sh_68 rfl (by have := C.2.1.nr; omega) ?_
    refine s_i2l (pc' := 46) dX12_amountOf_45 rfl ?_
    refine s_lmul (pc' := 47) dX12_amountOf_46 rfl ?_
    refine s_ldc2 (pc' := 50) dX12_amountOf_47 rfl kl_X12_145 ?_
    refine s_ldiv (pc' := 51) dX12_amountOf_50 rfl (by decide) ?_
    refine s_ladd (pc' := 52) dX12_amountOf_51 rfl ?_
    exact s_lret dX12_amountOf_52 rfl (by decide) (by decide) (by rw [C.1 67 (by decide) (by decide)] at c13; rw [amt_1 (Int32.not_lt.mpr c13)] at hk; rw [C.1 66 (by decide) (by decide), C.1 68 (by decide) (by decide), eo]; exact hk)
  · refine s_lconst (pc' := 17) (v := 0) dX12_amountOf_16 rfl (by decide) ?_
    refine s_goto (tgt := 51) dX12_amountOf_17 (by decide) ?_
    refine s_ladd (pc' := 52) dX12_amountOf_51 rfl ?_
    exact s_lret dX12_amountOf_52 rfl (by decide) (by decide) (by rw [C.1 67 (by decide) (by decide)] at c13; rw [amt_0 (Int32.not_le.mp c13)] at hk; rw [C.1 66 (by decide) (by decide)]; exact hk)
theorem c_X12_works {N : Nat} {S : Nat → Nat × Nat} {I : Nat → Nat → Int32} {J : Nat → Nat → Int64} {Q : Nat → Nat → Option Nat} {κ : Option Value → HP → Prop} {D : Nat → Nat → Int32} {nv nr ns b : Nat} (C : SC I D nv nr ns b) {r : Nat} {k v : Int32} (hr : r < nr) (ht : wk D (nI b) (gM J b) (I 81 b) r k v = true → κ (some (.int 1)) (N, S, I, J, Q)) (hf : wk D (nI b) (gM J b) (I 81 b) r k v = false → κ (some (.int 0)) (N, S, I, J, Q)) : CT E1 M_X12_works [.ref 54, .int (nI r), .int k, .int v] (N, S, I, J, Q) κ := by
  refine ofSP mk_X12_works (Nat.le_of_ble_eq_true rfl) (L := [.ref 54, .int _, .int _, .int _]) rfl ?_
  refine s_aload_n (pc' := 1) dX12_works_0 rfl rfl ?_
  refine s_getS (pc' := 4) (b := 60) dX12_works_1 rfl (by decide) rfl (by decide) fa_X12_25_12 rfl rfl ?_
  refine s_iload_n (pc' := 5) dX12_works_4 rfl rfl ?_
  refine t_iald (pc' := 6) dX12_works_5 rfl sh_60 rfl (by have := C.2.1.nr; omega) ?_
  refine s_iload_n (pc' := 7) dX12_works_6 rfl rfl ?_
  refine s_icmpne (pc' := 10) (tgt := 40) dX12_works_7 (by decide) rfl (fun c7 => ?_) (fun c7 => ?_)
  · refine s_iconst (pc' := 41) (v := 0) dX12_works_40 rfl (by decide) ?_
    exact s_zret dX12_works_41 rfl rfl (by decide) (by decide) (hf (wk_1 (by rw [← C.1 60 (by decide) (by decide)]; exact c7)))
  · refine s_aload_n (pc' := 11) dX12_works_10 rfl rfl ?_
    refine s_getS (pc' := 14) (b := 61) dX12_works_11 rfl (by decide) rfl (by decide) fa_X12_28_12 rfl rfl ?_
    refine s_iload_n (pc' := 15) dX12_works_14 rfl rfl ?_
    refine t_iald (pc' := 16) dX12_works_15 rfl sh_61 rfl (by have := C.2.1.nr; omega) ?_
    refine s_iload_n (pc' := 17) dX12_works_16 rfl rfl ?_
    refine s_icmpne (pc' := 20) (tgt := 40) dX12_works_17 (by decide) rfl (fun c17 => ?_) (fun c17 => ?_)
    · refine s_iconst (pc' := 41) (v := 0) dX12_works_40 rfl (by decide) ?_
      exact s_zret dX12_works_41 rfl rfl (by decide) (by decide) (hf (wk_2 (by rw [← C.1 61 (by decide) (by decide)]; exact c17)))
    · refine s_aload_n (pc' := 21) dX12_works_20 rfl rfl ?_
      refine s_iload_n (pc' := 22) dX12_works_21 rfl rfl ?_
      refine s_callV (pc' := 25) (As := [.int _]) dX12_works_22 rfl mk_X12_isThere ml_X12_231 im_X12_isThere se_X12_X12_X12_isThere sh_54 (by decide) rfl rfl rfl ⟨Nat.le_of_ble_eq_true rfl, Nat.le_of_ble_eq_true rfl, Nat.le_of_ble_eq_true rfl, Nat.le_of_ble_eq_true rfl⟩ (Nat.le_of_ble_eq_true rfl) (c_X12_isThere C (fun t22 => ?_) (fun t22 => ?_))
      · refine s_ifeqF (pc' := 28) (tgt := 40) dX12_works_25 (by decide) rfl (by decide) ?_
        refine s_aload_n (pc' := 29) dX12_works_28 rfl rfl ?_
        refine s_iload_n (pc' := 30) dX12_works_29 rfl rfl ?_
        refine s_callV (pc' := 33) (As := [.int _]) dX12_works_30 rfl mk_X12_holds ml_X12_234 im_X12_holds se_X12_X12_X12_holds sh_54 (by decide) rfl rfl rfl ⟨Nat.le_of_ble_eq_true rfl, Nat.le_of_ble_eq_true rfl, Nat.le_of_ble_eq_true rfl, Nat.le_of_ble_eq_true rfl⟩ (Nat.le_of_ble_eq_true rfl) (c_X12_holds C (r := _) (by omega) (fun h30 => ?_) (fun h30 => ?_))
        · refine s_ifeqF (pc' := 36) (tgt := 40) dX12_works_33 (by decide) rfl (by decide) ?_
          refine s_iconst (pc' := 37) (v := 1) dX12_works_36 rfl (by decide) ?_
          refine s_goto (tgt := 41) dX12_works_37 (by decide) ?_
          exact s_zret dX12_works_41 rfl rfl (by decide) (by decide) (ht (wk_of (by rw [← C.1 60 (by decide) (by decide)]; exact c7) (by rw [← C.1 61 (by decide) (by decide)]; exact c17) t22 h30))
        · refine s_ifeqT (tgt := 40) dX12_works_33 (by decide) (by decide) ?_
          refine s_iconst (pc' := 41) (v := 0) dX12_works_40 rfl (by decide) ?_
          exact s_zret dX12_works_41 rfl rfl (by decide) (by decide) (hf (wk_4 h30))
      · refine s_ifeqT (tgt := 40) dX12_works_25 (by decide) (by decide) ?_
        refine s_iconst (pc' := 41) (v := 0) dX12_works_40 rfl (by decide) ?_
        exact s_zret dX12_works_41 rfl rfl (by decide) (by decide) (hf (wk_3 t22))
theorem c_X12_adds_ {N : Nat} {S : Nat → Nat × Nat} {I : Nat → Nat → Int32} {J : Nat → Nat → Int64} {Q : Nat → Nat → Option Nat} {κ : Option Value → HP → Prop} {D : Nat → Nat → Int32} {nv nr ns b : Nat} (C : SC I D nv nr ns b) {r : Nat} {v : Int32} (hr : r < nr) (ht : adB D (nI b) (gM J b) (I 81 b) r v = true → κ (some (.int 1)) (N, S, I, J, Q)) (hf : adB D (nI b) (gM J b) (I 81 b) r v = false → κ (some (.int 0)) (N, S, I, J, Q)) : CT E1 M_X12_adds_ [.ref 54, .int (nI r), .int v] (N, S, I, J, Q) κ := by
  refine ofSP mk_X12_adds_ (Nat.le_of_ble_eq_true rfl) (L := [.ref 54, .int _, .int _]) rfl ?_
  refine s_aload_n (pc' := 1) dX12_adds__0 rfl rfl ?_
  refine s_iload_n (pc' := 2) dX12_adds__1 rfl rfl ?_
  refine s_iconst (pc' := 3) (v := 0) dX12_adds__2 rfl (by decide) ?_
  refine s_iload_n (pc' := 4) dX12_adds__3 rfl rfl ?_
  refine s_callV (pc' := 7) (As := [.int _, .int _, .int _]) dX12_adds__4 rfl mk_X12_works ml_X12_237 im_X12_works se_X12_X12_X12_works sh_54 (by decide) rfl rfl rfl ⟨Nat.le_of_ble_eq_true rfl, Nat.le_of_ble_eq_true rfl, Nat.le_of_ble_eq_true rfl, Nat.le_of_ble_eq_true rfl⟩ (Nat.le_of_ble_eq_true rfl) (c_X12_works C (r := _) (by omega) (fun w4 => ?_) (fun w4 => ?_))
  · refine s_ifneT (tgt := 20) dX12_adds__7 (by decide) (by decide) ?_
    refine s_iconst (pc' := 21) (v := 1) dX12_adds__20 rfl (by decide) ?_
    refine s_goto (tgt := 25) dX12_adds__21 (by decide) ?_
    exact s_zret dX12_adds__25 rfl rfl (by decide) (by decide) (ht (by simp [adB, w4]))
  · refine s_ifneF (pc' := 10) (tgt := 20) dX12_adds__7 (by decide) rfl (by decide) ?_
    refine s_aload_n (pc' := 11) dX12_adds__10 rfl rfl ?_
    refine s_iload_n (pc' := 12) dX12_adds__11 rfl rfl ?_
    refine s_iconst (pc' := 13) (v := 1) dX12_adds__12 rfl (by decide) ?_
    refine s_iload_n (pc' := 14) dX12_adds__13 rfl rfl ?_
    refine s_callV (pc' := 17) (As := [.int _, .int _, .int _]) dX12_adds__14 rfl mk_X12_works ml_X12_237 im_X12_works se_X12_X12_X12_works sh_54 (by decide) rfl rfl rfl ⟨Nat.le_of_ble_eq_true rfl, Nat.le_of_ble_eq_true rfl, Nat.le_of_ble_eq_true rfl, Nat.le_of_ble_eq_true rfl⟩ (Nat.le_of_ble_eq_true rfl) (c_X12_works C (r := _) (by omega) (fun w14 => ?_) (fun w14 => ?_))
    · refine s_ifeqF (pc' := 20) (tgt := 24) dX12_adds__17 (by decide) rfl (by decide) ?_
      refine s_iconst (pc' := 21) (v := 1) dX12_adds__20 rfl (by decide) ?_
      refine s_goto (tgt := 25) dX12_adds__21 (by decide) ?_
      exact s_zret dX12_adds__25 rfl rfl (by decide) (by decide) (ht (by simp [adB, w14]))
    · refine s_ifeqT (tgt := 24) dX12_adds__17 (by decide) (by decide) ?_
      refine s_iconst (pc' := 25) (v := 0) dX12_adds__24 rfl (by decide) ?_
      exact s_zret dX12_adds__25 rfl rfl (by decide) (by decide) (hf (by simp [adB, w4, w14]))
