/-- two sets of numbers that agree where the rules of value v look -/
def AG (D : Nat → Nat → Int32) (x : Int32) (v : Int32) (nr : Nat) (g g' : Nat → Int64) : Prop := ∀ r, r < nr → kvB D v r = true → hB D x g r = hB D x g' r ∧ amt D g r = amt D g' r
section CG
variable {D : Nat → Nat → Int32} {x : Int32} {v : Int32} {nr : Nat} {g g' : Nat → Int64} {th : Int32}
theorem AG.wk (h : AG D x v nr g g') {r : Nat} {k : Int32} (hr : r < nr) (hk : k ≤ 3) : wk D x g th r k v = wk D x g' th r k v := by
  by_cases h1 : D 60 r = k
  · by_cases h2 : D 61 r = v
    · have hkv : kvB D v r = true := by simp only [kvB, h2, decide_true, Bool.and_true, decide_eq_true_eq]; rw [h1]; exact hk
      unfold Jvm.Pilot.CHeroSheetLaw_law_r7408_42258b.wk
      rw [(h r hr hkv).1]
    · rw [wk_2 h2, wk_2 h2]
  · rw [wk_1 h1, wk_1 h1]
theorem AG.adB (h : AG D x v nr g g') {r : Nat} (hr : r < nr) : adB D x g th r v = adB D x g' th r v := by
  unfold Jvm.Pilot.CHeroSheetLaw_law_r7408_42258b.adB
  rw [h.wk hr (by decide), h.wk hr (by decide)]
theorem AG.bsS (h : AG D x v nr g g') : ∀ k, k ≤ nr → bsS D x g th v k = bsS D x g' th v k
  | 0, _ => rfl
  | k + 1, hk => by
    have ih := AG.bsS h k (by omega)
    unfold Jvm.Pilot.CHeroSheetLaw_law_r7408_42258b.bsS
    rw [ih, h.wk (by omega) (by decide)]
theorem lf_congr {P P' : Nat → Bool} : ∀ n, (∀ i, i < n → P i = P' i) → lf P n = lf P' n
  | 0, _ => rfl
  | n + 1, h => by
    unfold lf
    rw [lf_congr n (fun i hi => h i (by omega)), h n (by omega)]
theorem AG.foS (h : AG D x v nr g g') {r : Nat} (hr : r < nr) : foS D x g th r v = foS D x g' th r v := by
  unfold Jvm.Pilot.CHeroSheetLaw_law_r7408_42258b.foS
  rw [lf_congr (r + 1) (fun i hi => by show (Jvm.Pilot.CHeroSheetLaw_law_r7408_42258b.adB D x g th i v && decide (D 63 i = D 63 r)) = _; rw [h.adB (th := th) (show i < nr by omega)])]
theorem AG.ctB (h : AG D x v nr g g') {r : Nat} (hr : r < nr) : ctB D x g th r v = ctB D x g' th r v := by
  unfold Jvm.Pilot.CHeroSheetLaw_law_r7408_42258b.ctB
  rw [h.adB hr, h.foS hr]
theorem AG.am (h : AG D x v nr g g') {r : Nat} (hr : r < nr) (hk : kvB D v r = true) : amt D g r = amt D g' r := (h r hr hk).2
theorem ctB_kv {r : Nat} (h : Jvm.Pilot.CHeroSheetLaw_law_r7408_42258b.ctB D x g th r v = true) : kvB D v r = true := by
  simp only [Jvm.Pilot.CHeroSheetLaw_law_r7408_42258b.ctB, Bool.and_eq_true] at h
  exact adB_kv h.1
theorem boS_kv {t sg : Int32} : ∀ (k q : Nat), boS D x g th v t sg k = some q → kvB D v q = true
  | 0, q, h => by simp [boS] at h
  | k + 1, q, h => by
    by_cases hc : Jvm.Pilot.CHeroSheetLaw_law_r7408_42258b.ctB D x g th k v = true ∧ D 60 k = 1 ∧ D 64 k = t ∧ 0 < amt D g k * sg.toInt64
    · cases hb : boS D x g th v t sg k with
      | none => rw [boS_s1 hc hb] at h; cases h; exact ctB_kv hc.1
      | some z =>
        by_cases hl : amt D g z * sg.toInt64 < amt D g k * sg.toInt64
        · rw [boS_s2 hc hb hl] at h; cases h; exact ctB_kv hc.1
        · rw [boS_s3 hc hb hl] at h; rw [← Option.some.inj h]; exact boS_kv k z hb
    · rw [boS_s0 hc] at h; exact boS_kv k q h
theorem bsS_kv : ∀ (k q : Nat), Jvm.Pilot.CHeroSheetLaw_law_r7408_42258b.bsS D x g th v k = some q → kvB D v q = true
  | 0, q, h => by simp [Jvm.Pilot.CHeroSheetLaw_law_r7408_42258b.bsS] at h
  | k + 1, q, h => by
    cases hw : Jvm.Pilot.CHeroSheetLaw_law_r7408_42258b.wk D x g th k 2 v with
    | false => rw [bsS_s0 hw] at h; exact bsS_kv k q h
    | true =>
      cases hb : Jvm.Pilot.CHeroSheetLaw_law_r7408_42258b.bsS D x g th v k with
      | none => rw [bsS_s1 hw hb] at h; cases h; exact wk_kv hw (by decide)
      | some z =>
        by_cases hl : D 62 z < D 62 k
        · rw [bsS_s2 hw hb hl] at h; cases h; exact wk_kv hw (by decide)
        · rw [bsS_s3 hw hb hl] at h; rw [← Option.some.inj h]; exact bsS_kv k z hb
theorem AG.boS (h : AG D x v nr g g') {t sg : Int32} : ∀ k, k ≤ nr → boS D x g th v t sg k = boS D x g' th v t sg k
  | 0, _ => rfl
  | k + 1, hk => by
    have ih := AG.boS h (t := t) (sg := sg) k (by omega)
    by_cases hc : Jvm.Pilot.CHeroSheetLaw_law_r7408_42258b.ctB D x g th k v = true
    · have hkv := ctB_kv hc
      have ha := h.am (show k < nr by omega) hkv
      by_cases hb : D 60 k = 1 ∧ D 64 k = t ∧ 0 < amt D g k * sg.toInt64
      · have h1 : Jvm.Pilot.CHeroSheetLaw_law_r7408_42258b.ctB D x g th k v = true ∧ D 60 k = 1 ∧ D 64 k = t ∧ 0 < amt D g k * sg.toInt64 := ⟨hc, hb⟩
        have h2 : Jvm.Pilot.CHeroSheetLaw_law_r7408_42258b.ctB D x g' th k v = true ∧ D 60 k = 1 ∧ D 64 k = t ∧ 0 < amt D g' k * sg.toInt64 := by rw [← h.ctB (by omega), ← ha]; exact h1
        cases ho : Jvm.Pilot.CHeroSheetLaw_law_r7408_42258b.boS D x g th v t sg k with
        | none => rw [boS_s1 h1 ho, boS_s1 h2 (by rw [← ih]; exact ho)]
        | some z =>
          have ho' : Jvm.Pilot.CHeroSheetLaw_law_r7408_42258b.boS D x g' th v t sg k = some z := by rw [← ih]; exact ho
          have hz := boS_lt k z ho
          have hz2 := h.am (show z < nr by omega) (boS_kv k z ho)
          by_cases hl : amt D g z * sg.toInt64 < amt D g k * sg.toInt64
          · rw [boS_s2 h1 ho hl, boS_s2 h2 ho' (by rw [← hz2, ← ha]; exact hl)]
          · rw [boS_s3 h1 ho hl, boS_s3 h2 ho' (by rw [← hz2, ← ha]; exact hl)]
      · rw [boS_s0 (fun z => hb z.2), boS_s0 (fun z => hb (by rw [ha]; exact z.2))]; exact ih
    · rw [boS_s0 (fun z => hc z.1), boS_s0 (fun z => hc (by rw [h.ctB (by omega)]; exact z.1))]; exact ih
theorem AG.bst (h : AG D x v nr g g') {r : Nat} (hr : r < nr) (hk : kvB D v r = true) : bst D x g th v nr r = bst D x g' th v nr r := by
  unfold Jvm.Pilot.CHeroSheetLaw_law_r7408_42258b.bst
  rw [h.am hr hk, h.boS nr (Nat.le_refl _)]
theorem AG.adC (h : AG D x v nr g g') {r : Nat} (hr : r < nr) : adC D x g th v nr r = adC D x g' th v nr r := by
  unfold Jvm.Pilot.CHeroSheetLaw_law_r7408_42258b.adC
  rw [h.adB hr]
  by_cases ha : Jvm.Pilot.CHeroSheetLaw_law_r7408_42258b.adB D x g' th r v = true
  · have hk := adB_kv ha
    rw [if_pos ha, if_pos ha, h.foS hr, h.bst hr hk, h.am hr hk]
  · rw [if_neg ha, if_neg ha]
theorem AG.adS (h : AG D x v nr g g') : ∀ k, k ≤ nr → adS D x g th v nr k = adS D x g' th v nr k
  | 0, _ => rfl
  | k + 1, hk => by
    unfold Jvm.Pilot.CHeroSheetLaw_law_r7408_42258b.adS
    rw [AG.adS h k (by omega), h.adC (by omega)]
theorem AG.basedV (h : AG D x v nr g g') {vj : Nat} : basedV D x g th v vj nr = basedV D x g' th v vj nr := by
  unfold Jvm.Pilot.CHeroSheetLaw_law_r7408_42258b.basedV
  rw [h.bsS nr (Nat.le_refl _)]
  cases hb : Jvm.Pilot.CHeroSheetLaw_law_r7408_42258b.bsS D x g' th v nr with
  | none => rfl
  | some q => exact h.am (bsS_lt _ _ hb) (bsS_kv _ _ hb)
theorem AG.cpS (h : AG D x v nr g g') {ls : Int32} {n : Int64} : ∀ k, k ≤ nr → cpS D x g th v ls n k = cpS D x g' th v ls n k
  | 0, _ => rfl
  | k + 1, hk => by
    have ih := AG.cpS h (ls := ls) (n := n) k (by omega)
    unfold Jvm.Pilot.CHeroSheetLaw_law_r7408_42258b.cpS
    rw [ih, h.wk (by omega) (by decide)]
    by_cases hw : Jvm.Pilot.CHeroSheetLaw_law_r7408_42258b.wk D x g' th k 3 v = true
    · rw [h.am (show k < nr by omega) (wk_kv hw (by decide))]
    · rw [if_neg (fun z => hw z.1), if_neg (fun z => hw z.1)]
theorem AG.num2 (h : AG D x v nr g g') {vj ns : Nat} : num0 D x g th v vj nr ns = num0 D x g' th v vj nr ns ∧ num1 D x g th v vj nr ns = num1 D x g' th v vj nr ns ∧ num2 D x g th v vj nr ns = num2 D x g' th v vj nr ns := by
  have e0 : num0 D x g th v vj nr ns = num0 D x g' th v vj nr ns := by unfold num0; rw [h.basedV, h.adS nr (Nat.le_refl _)]
  have e1 : num1 D x g th v vj nr ns = num1 D x g' th v vj nr ns := by unfold num1; rw [e0, h.cpS nr (Nat.le_refl _)]
  exact ⟨e0, e1, by unfold Jvm.Pilot.CHeroSheetLaw_law_r7408_42258b.num2; rw [e1, h.cpS nr (Nat.le_refl _)]⟩
theorem AG.qrS (h : AG D x v nr g g') : qrS D x g th v nr = qrS D x g' th v nr := by
  unfold Jvm.Pilot.CHeroSheetLaw_law_r7408_42258b.qrS
  rw [h.bsS nr (Nat.le_refl _)]
  cases hb : Jvm.Pilot.CHeroSheetLaw_law_r7408_42258b.bsS D x g' th v nr with
  | none => rfl
  | some q =>
    have hq := h.am (bsS_lt _ _ hb) (bsS_kv _ _ hb)
    have : ∀ k, k ≤ nr → qrB D x g th v q k = qrB D x g' th v q k := by
      intro k
      induction k with
      | zero => intro _; rfl
      | succ k ih =>
        intro hk
        unfold qrB
        rw [ih (by omega), h.wk (by omega) (by decide)]
        by_cases hw : Jvm.Pilot.CHeroSheetLaw_law_r7408_42258b.wk D x g' th k 2 v = true
        · rw [h.am (show k < nr by omega) (wk_kv hw (by decide)), hq]
        · simp [hw]
    exact this nr (Nat.le_refl _)
end CG
theorem AG.numF {D : Nat → Nat → Int32} {x th : Int32} {vj nr ns : Nat} {g g' : Nat → Int64} (h : AG D x (nI vj) nr g g') : numF D x g th vj nr ns = numF D x g' th vj nr ns := by
  unfold Jvm.Pilot.CHeroSheetLaw_law_r7408_42258b.numF; rw [h.num2.2.2]
theorem AG.hwC {D : Nat → Nat → Int32} {x th v ls : Int32} {nr r : Nat} {g g' : Nat → Int64} {n : Int64} (h : AG D x v nr g g') (hr : r < nr) (hk : kvB D v r = true) : hwC D x g th v ls n r = hwC D x g' th v ls n r := by
  unfold Jvm.Pilot.CHeroSheetLaw_law_r7408_42258b.hwC
  rw [h.cpS r (by omega), h.am hr hk]
theorem AG.hwA {D : Nat → Nat → Int32} {x th v : Int32} {nr r : Nat} {g g' : Nat → Int64} (h : AG D x v nr g g') (hr : r < nr) (hk : kvB D v r = true) : hwA D x g th v nr r = hwA D x g' th v nr r := by
  unfold Jvm.Pilot.CHeroSheetLaw_law_r7408_42258b.hwA
  rw [h.foS hr, h.bst hr hk]
theorem AG.btA {D : Nat → Nat → Int32} {x th v : Int32} {nr r : Nat} {g g' : Nat → Int64} (h : AG D x v nr g g') (hr : r < nr) (hk : kvB D v r = true) : btA D x g th v nr r = btA D x g' th v nr r := by
  unfold Jvm.Pilot.CHeroSheetLaw_law_r7408_42258b.btA
  rw [h.foS hr, h.bst hr hk]
theorem AG.hwSS {D : Nat → Nat → Int32} {x th v : Int32} {nr r : Nat} {g g' : Nat → Int64} (h : AG D x v nr g g') : hwSS D x g th v nr r = hwSS D x g' th v nr r := by
  unfold Jvm.Pilot.CHeroSheetLaw_law_r7408_42258b.hwSS
  rw [h.bsS nr (Nat.le_refl _)]
theorem AG.btSS {D : Nat → Nat → Int32} {x th v : Int32} {nr r : Nat} {g g' : Nat → Int64} (h : AG D x v nr g g') : btSS D x g th v nr r = btSS D x g' th v nr r := by
  unfold Jvm.Pilot.CHeroSheetLaw_law_r7408_42258b.btSS
  rw [h.bsS nr (Nat.le_refl _)]
theorem AG.hwF {D : Nat → Nat → Int32} {x th : Int32} {vj nr ns r : Nat} {g g' : Nat → Int64} (h : AG D x (nI vj) nr g g') (hr : r < nr) : hwF D x g th vj nr ns r = hwF D x g' th vj nr ns r := by
  have e3 := h.wk (th := th) (k := 3) hr (by decide)
  have e2 := h.wk (th := th) (k := 2) hr (by decide)
  have ea := h.adB (th := th) hr
  unfold Jvm.Pilot.CHeroSheetLaw_law_r7408_42258b.hwF
  rw [e3, e2, ea]
  by_cases hw : Jvm.Pilot.CHeroSheetLaw_law_r7408_42258b.wk D x g' th r 3 (nI vj) = true
  · have hk := wk_kv hw (by decide)
    rw [if_pos hw, if_pos hw, h.num2.1, h.num2.2.1, h.hwC hr hk, h.hwC hr hk]
  · rw [if_neg hw, if_neg hw]
    by_cases ha : Jvm.Pilot.CHeroSheetLaw_law_r7408_42258b.adB D x g' th r (nI vj) = true
    · rw [if_pos ha, if_pos ha]; exact h.hwA hr (adB_kv ha)
    · rw [if_neg ha, if_neg ha, h.hwSS]
theorem AG.btF {D : Nat → Nat → Int32} {x th : Int32} {vj nr r : Nat} {g g' : Nat → Int64} (h : AG D x (nI vj) nr g g') (hr : r < nr) : btF D x g th vj nr r = btF D x g' th vj nr r := by
  have e2 := h.wk (th := th) (k := 2) hr (by decide)
  have ea := h.adB (th := th) hr
  unfold Jvm.Pilot.CHeroSheetLaw_law_r7408_42258b.btF
  rw [e2, ea]
  by_cases ha : Jvm.Pilot.CHeroSheetLaw_law_r7408_42258b.adB D x g' th r (nI vj) = true
  · rw [if_pos ha, if_pos ha]; exact h.btA hr (adB_kv ha)
  · rw [if_neg ha, if_neg ha, h.btSS]
