/-! ===== mend, the front, ways ===== -/
/-- the set m lies within the set a -/
def wn (a m : Nat) : Prop := nI m &&& (nI a ^^^ (-1)) = 0
def MdP (D : Nat → Nat → Int32) (nv nr ns a m : Nat) : Prop := m < 256 ∧ wn a m ∧ LW D nv nr ns m = true ∧ ∀ b, b < 256 → wn a b → LW D nv nr ns b = true → pcn (nI b) < pcn (nI m) ∨ (pcn (nI b) = pcn (nI m) ∧ b ≤ m)
theorem MdP.uniq {D : Nat → Nat → Int32} {nv nr ns a m m' : Nat} (h : MdP D nv nr ns a m) (h' : MdP D nv nr ns a m') : m = m' := by
  have h1 := h.2.2.2 m' h'.1 h'.2.1 h'.2.2.1
  have h2 := h'.2.2.2 m h.1 h.2.1 h.2.2.1
  omega
theorem pcn_0 : ∀ b, b < 256 → pcn (nI b) = 0 → b = 0 := by decide +kernel
theorem wn_0 {a : Nat} : wn a 0 := by unfold wn; apply b_ext; intro i _; rw [b_and]; show (bt 0 i && _) = _; rw [b_0]; rfl
theorem LW_0 {D : Nat → Nat → Int32} {nv nr ns : Nat} : LW D nv nr ns 0 = true := by
  unfold LW
  have : ∀ k, k ≤ 8 → lwB (OS D nv nr ns) 0 k = true := by
    intro k
    induction k with
    | zero => intro _; rfl
    | succ k ih => intro hk; exact lwB_s1 (ih (by omega)) (by show bt 0 k = false; exact b_0 k) (by omega)
  exact this 8 (Nat.le_refl _)
/-- mended(), the sets above k being looked at -/
def MI (D : Nat → Nat → Int32) (nv nr ns a k m : Nat) : Prop := m < 256 ∧ wn a m ∧ LW D nv nr ns m = true ∧ (m = 0 ∨ k < m) ∧ ∀ b, k < b → b < 256 → wn a b → LW D nv nr ns b = true → pcn (nI b) < pcn (nI m) ∨ (pcn (nI b) = pcn (nI m) ∧ b ≤ m)
section MI
variable {D : Nat → Nat → Int32} {nv nr ns a k m : Nat}
theorem MI.no (h : MI D nv nr ns a (k + 1) m) (hn : wn a (k + 1) → LW D nv nr ns (k + 1) = true → pcn (nI (k + 1)) ≤ pcn (nI m)) (hk : k + 1 < 256) : MI D nv nr ns a k m := by
  obtain ⟨h1, h2, h3, h4, h5⟩ := h
  refine ⟨h1, h2, h3, by omega, fun b hb hb2 w l => ?_⟩
  by_cases e : b = k + 1
  · subst e
    have := hn w l
    rcases h4 with z | z
    · subst z
      have e0 : pcn (nI 0) = 0 := by decide
      rw [e0] at this ⊢
      have := pcn_0 (k + 1) hk (by omega)
      omega
    · omega
  · exact h5 b (by omega) hb2 w l
theorem MI.yes (h : MI D nv nr ns a (k + 1) m) (hk : k + 1 < 256) (w : wn a (k + 1)) (l : LW D nv nr ns (k + 1) = true) (hp : pcn (nI m) < pcn (nI (k + 1))) : MI D nv nr ns a k (k + 1) := by
  obtain ⟨h1, h2, h3, h4, h5⟩ := h
  refine ⟨hk, w, l, by omega, fun b hb hb2 w' l' => ?_⟩
  by_cases e : b = k + 1
  · subst e; omega
  · have := h5 b (by omega) hb2 w' l'; omega
theorem MI.fin (h : MI D nv nr ns a 0 m) : MdP D nv nr ns a m := by
  obtain ⟨h1, h2, h3, h4, h5⟩ := h
  refine ⟨h1, h2, h3, fun b hb w l => ?_⟩
  rcases Nat.eq_zero_or_pos b with z | z
  · subst z
    have e0 : pcn (nI 0) = 0 := by decide
    rw [e0]; omega
  · exact h5 b z hb w l
end MI
/-- the sheet c does not better b, nor is it an earlier like one -/
noncomputable def okB (D : Nat → Nat → Int32) (nv nr ns v w c b : Nat) : Bool := decide ((¬ (gS D nv nr ns b v < gS D nv nr ns c v ∨ gS D nv nr ns b w < gS D nv nr ns c w) ∨ (gS D nv nr ns c v < gS D nv nr ns b v ∨ gS D nv nr ns c w < gS D nv nr ns b w)) ∧ (¬ (gS D nv nr ns c v = gS D nv nr ns b v ∧ gS D nv nr ns c w = gS D nv nr ns b w) ∨ b ≤ c))
noncomputable def gdA (D : Nat → Nat → Int32) (nv nr ns v w : Nat) : Nat → Nat → Bool
  | 0, _ => true
  | k + 1, b => gdA D nv nr ns v w k b && (!LW D nv nr ns k || okB D nv nr ns v w k b)
noncomputable def gd (D : Nat → Nat → Int32) (nv nr ns v w k b : Nat) : Bool := LW D nv nr ns b && gdA D nv nr ns v w k b
section GD
variable {D : Nat → Nat → Int32} {nv nr ns v w k b c : Nat} {I I' : Nat → Nat → Int32} {J J' : Nat → Nat → Int64}
theorem gdA_of : ∀ k, (∀ c, c < k → LW D nv nr ns c = true → okB D nv nr ns v w c b = true) → gdA D nv nr ns v w k b = true
  | 0, _ => rfl
  | k + 1, h => by
    rw [gdA, gdA_of k (fun c hc => h c (by omega))]
    cases hl : LW D nv nr ns k with
    | false => rfl
    | true => rw [h k (by omega) hl]; rfl
theorem gdA_to : ∀ k, gdA D nv nr ns v w k b = true → ∀ c, c < k → LW D nv nr ns c = true → okB D nv nr ns v w c b = true
  | 0, _, c, hc, _ => by omega
  | k + 1, h, c, hc, hl => by
    rw [gdA, Bool.and_eq_true] at h
    by_cases e : c = k
    · subst e
      have h2 := h.2
      rw [hl] at h2; simpa using h2
    · exact gdA_to k h.1 c (by omega) hl
theorem ok_iff : okB D nv nr ns v w c b = true ↔ (¬ (gS D nv nr ns b v ≤ gS D nv nr ns c v ∧ gS D nv nr ns b w ≤ gS D nv nr ns c w) ∨ (gS D nv nr ns c v = gS D nv nr ns b v ∧ gS D nv nr ns c w = gS D nv nr ns b w ∧ b ≤ c)) := by
  unfold okB
  rw [decide_eq_true_eq]
  simp only [Int64.lt_iff_toInt_lt, Int64.le_iff_toInt_le, ← Int64.toInt_inj]
  constructor
  · rintro ⟨h1, h2⟩
    by_cases q : (gS D nv nr ns b v).toInt ≤ (gS D nv nr ns c v).toInt ∧ (gS D nv nr ns b w).toInt ≤ (gS D nv nr ns c w).toInt
    · right
      omega
    · exact Or.inl q
  · intro h
    constructor
    · omega
    · omega
theorem gd_no (hl : LW D nv nr ns k = false) : ∀ b, b < k → gd D nv nr ns v w (k + 1) b = gd D nv nr ns v w k b := fun b _ => by
  unfold gd; rw [gdA, hl]; simp
theorem gd_lw (h : gd D nv nr ns v w k b = true) : LW D nv nr ns b = true := by unfold gd at h; rw [Bool.and_eq_true] at h; exact h.1
/-- the front after the first k sheets -/
def FRT (I : Nat → Nat → Int32) (J : Nat → Nat → Int64) (D : Nat → Nat → Int32) (nv nr ns v w k : Nat) : Prop :=
  I 23 8 = nI (cntB (gd D nv nr ns v w k) k) ∧ (∀ b, b < k → gd D nv nr ns v w k b = true → J 39 (cntB (gd D nv nr ns v w k) b) = gS D nv nr ns b v ∧ J 40 (cntB (gd D nv nr ns v w k) b) = gS D nv nr ns b w) ∧
  ∀ c, c < k → LW D nv nr ns c = true → ∃ b, b < k ∧ gd D nv nr ns v w k b = true ∧ gS D nv nr ns c v ≤ gS D nv nr ns b v ∧ gS D nv nr ns c w ≤ gS D nv nr ns b w
theorem FRT.mv (h : FRT I J D nv nr ns v w k) (h1 : I' 23 8 = I 23 8) (h2 : J' 39 = J 39) (h3 : J' 40 = J 40) : FRT I' J' D nv nr ns v w k := by
  unfold FRT; rw [h1, h2, h3]; exact h
theorem FRT.cg (h : FRT I J D nv nr ns v w k) (hs : ∀ b, b < k → gd D nv nr ns v w (k + 1) b = gd D nv nr ns v w k b) (hk : gd D nv nr ns v w (k + 1) k = false) (hd : LW D nv nr ns k = true → ∃ b, b < k ∧ gd D nv nr ns v w k b = true ∧ gS D nv nr ns k v ≤ gS D nv nr ns b v ∧ gS D nv nr ns k w ≤ gS D nv nr ns b w) : FRT I J D nv nr ns v w (k + 1) := by
  obtain ⟨h1, h2, h3⟩ := h
  have hc : ∀ j, j ≤ k → cntB (gd D nv nr ns v w (k + 1)) j = cntB (gd D nv nr ns v w k) j := fun j hj => cnt_cg j (fun i hi => hs i (by omega))
  refine ⟨by rw [cnt_s0 hk, hc k (Nat.le_refl _)]; exact h1, fun b hb hg => ?_, fun c hc2 hl => ?_⟩
  · by_cases e : b = k
    · rw [e, hk] at hg; cases hg
    · rw [hc b (by omega)]; exact h2 b (by omega) (by rw [← hs b (by omega)]; exact hg)
  · by_cases e : c = k
    · subst e
      obtain ⟨b, b1, b2, b3⟩ := hd hl
      exact ⟨b, by omega, by rw [hs b b1]; exact b2, b3⟩
    · obtain ⟨b, b1, b2, b3⟩ := h3 c (by omega) hl
      exact ⟨b, by omega, by rw [hs b b1]; exact b2, b3⟩
theorem FRT.skip (h : FRT I J D nv nr ns v w k) (hl : LW D nv nr ns k = false) : FRT I J D nv nr ns v w (k + 1) :=
  h.cg (gd_no hl) (by unfold gd; rw [hl]; rfl) (fun z => by rw [hl] at z; cases z)
/-- the sheet k is no better than one of the front -/
theorem FRT.dom (h : FRT I J D nv nr ns v w k) {b0 : Nat} (hb : b0 < k) (hg : gd D nv nr ns v w k b0 = true) (h1 : gS D nv nr ns k v ≤ gS D nv nr ns b0 v) (h2 : gS D nv nr ns k w ≤ gS D nv nr ns b0 w) : FRT I J D nv nr ns v w (k + 1) := by
  refine h.cg (fun b hb2 => ?_) ?_ (fun _ => ⟨b0, hb, hg, h1, h2⟩)
  · cases hgb : gd D nv nr ns v w k b with
    | false =>
      unfold gd at hgb ⊢
      rw [gdA, ← Bool.and_assoc, hgb]; rfl
    | true =>
      have hb' := hgb
      unfold gd at hgb
      rw [Bool.and_eq_true] at hgb
      unfold gd
      rw [gdA, hgb.1, hgb.2]
      have ok0 := gdA_to k hgb.2 b0 hb (gd_lw hg)
      rw [ok_iff] at ok0
      have : okB D nv nr ns v w k b = true := by
        rw [ok_iff]
        by_cases z : gS D nv nr ns b v ≤ gS D nv nr ns k v ∧ gS D nv nr ns b w ≤ gS D nv nr ns k w
        · rcases ok0 with q | ⟨q1, q2, q3⟩
          · exact absurd ⟨Int64.le_trans z.1 h1, Int64.le_trans z.2 h2⟩ q
          · exact Or.inr ⟨Int64.le_antisymm (by rw [← q1]; exact h1) z.1, Int64.le_antisymm (by rw [← q2]; exact h2) z.2, by omega⟩
        · exact Or.inl z
      rw [this]; simp
  · unfold gd
    have : gdA D nv nr ns v w (k + 1) k = false := by
      cases hz : gdA D nv nr ns v w (k + 1) k with
      | false => rfl
      | true =>
        have := gdA_to (k + 1) hz b0 (by omega) (gd_lw hg)
        rw [ok_iff] at this
        rcases this with q | ⟨-, -, q⟩
        · exact absurd ⟨h1, h2⟩ q
        · omega
    rw [this, Bool.and_false]
/-- which of the front stay beside the sheet k -/
noncomputable def stB (D : Nat → Nat → Int32) (nv nr ns v w k b : Nat) : Bool := gd D nv nr ns v w k b && decide (gS D nv nr ns k v < gS D nv nr ns b v ∨ gS D nv nr ns k w < gS D nv nr ns b w)
/-- the second loop of joinFront(): the first j sheets are looked at -/
def JF2 (J J' : Nat → Nat → Int64) (D : Nat → Nat → Int32) (nv nr ns v w k j : Nat) : Prop :=
  (∀ a, a ≠ 39 → a ≠ 40 → J' a = J a) ∧ (∀ b, b < j → stB D nv nr ns v w k b = true → J' 39 (cntB (stB D nv nr ns v w k) b) = gS D nv nr ns b v ∧ J' 40 (cntB (stB D nv nr ns v w k) b) = gS D nv nr ns b w) ∧
  ∀ b, j ≤ b → b < k → gd D nv nr ns v w k b = true → J' 39 (cntB (gd D nv nr ns v w k) b) = gS D nv nr ns b v ∧ J' 40 (cntB (gd D nv nr ns v w k) b) = gS D nv nr ns b w
theorem st_gd (h : stB D nv nr ns v w k b = true) : gd D nv nr ns v w k b = true := by unfold stB at h; rw [Bool.and_eq_true] at h; exact h.1
theorem st_le (j : Nat) : cntB (stB D nv nr ns v w k) j ≤ cntB (gd D nv nr ns v w k) j := cnt_ex (fun r h => st_gd h) j
theorem JF2.skip {j r : Nat} (h : JF2 J J' D nv nr ns v w k j) (hj : j ≤ r) (hs : ∀ i, j ≤ i → i < r → gd D nv nr ns v w k i = false) : JF2 J J' D nv nr ns v w k r := by
  refine ⟨h.1, fun b hb hg => ?_, fun b h1 h2 hg => h.2.2 b (by omega) h2 hg⟩
  rcases Nat.lt_or_ge b j with z | z
  · exact h.2.1 b z hg
  · have := hs b z hb
    rw [st_gd hg] at this; cases this
theorem JF2.no {r : Nat} (h : JF2 J J' D nv nr ns v w k r) (hs : stB D nv nr ns v w k r = false) : JF2 J J' D nv nr ns v w k (r + 1) := by
  refine ⟨h.1, fun b hb hg => ?_, fun b h1 h2 hg => h.2.2 b (by omega) h2 hg⟩
  by_cases e : b = r
  · rw [e, hs] at hg; cases hg
  · exact h.2.1 b (by omega) hg
theorem JF2.yes {r : Nat} (h : JF2 J J' D nv nr ns v w k r) (hr : r < k) (hs : stB D nv nr ns v w k r = true) :
    JF2 J (up2 (up2 J' 39 (cntB (stB D nv nr ns v w k) r) (gS D nv nr ns r v)) 40 (cntB (stB D nv nr ns v w k) r) (gS D nv nr ns r w)) D nv nr ns v w k (r + 1) := by
  refine ⟨fun a h1 h2 => by rw [up2_o h2, up2_o h1]; exact h.1 a h1 h2, fun b hb hg => ?_, fun b h1 h2 hg => ?_⟩
  · by_cases e : b = r
    · subst e; rw [up2_d (by decide), up2_s, up2_s]; exact ⟨rfl, rfl⟩
    · have ne : cntB (stB D nv nr ns v w k) b ≠ cntB (stB D nv nr ns v w k) r := fun z => e (cnt_inj hg hs z)
      rw [up2_d (by decide), up2_e ne, up2_e ne, up2_d (by decide)]
      exact h.2.1 b (by omega) hg
  · have ne : cntB (gd D nv nr ns v w k) b ≠ cntB (stB D nv nr ns v w k) r := fun z => by
      have q1 := st_le (D := D) (nv := nv) (nr := nr) (ns := ns) (v := v) (w := w) (k := k) r
      have q2 := cnt_s1 (st_gd hs)
      have q3 := cnt_mono (P := gd D nv nr ns v w k) (show r + 1 ≤ b by omega)
      omega
    rw [up2_d (by decide), up2_e ne, up2_e ne, up2_d (by decide)]
    exact h.2.2 b (by omega) h2 hg
/-- the front with the sheet k -/
theorem FRT.add (h : FRT I J D nv nr ns v w k) (hl : LW D nv nr ns k = true) (hnd : ∀ b, b < k → gd D nv nr ns v w k b = true → ¬ (gS D nv nr ns k v ≤ gS D nv nr ns b v ∧ gS D nv nr ns k w ≤ gS D nv nr ns b w)) (hj : JF2 J J' D nv nr ns v w k k) :
    FRT (up2 I 23 8 (nI (cntB (stB D nv nr ns v w k) k + 1))) (up2 (up2 J' 39 (cntB (stB D nv nr ns v w k) k) (gS D nv nr ns k v)) 40 (cntB (stB D nv nr ns v w k) k) (gS D nv nr ns k w)) D nv nr ns v w (k + 1) := by
  obtain ⟨h1, h2, h3⟩ := h
  have hs : ∀ b, b < k → gd D nv nr ns v w (k + 1) b = stB D nv nr ns v w k b := fun b hb => by
    unfold stB
    cases hg : gd D nv nr ns v w k b with
    | false =>
      unfold gd at hg ⊢
      rw [gdA, ← Bool.and_assoc, hg]; rfl
    | true =>
      have hg2 := hg
      unfold gd at hg
      rw [Bool.and_eq_true] at hg
      have nd2 := hnd b hb hg2
      show (LW D nv nr ns b && gdA D nv nr ns v w (k + 1) b) = _
      rw [gdA, hg.1, hg.2, hl, Bool.true_and, Bool.true_and, Bool.true_and, Bool.not_true, Bool.false_or]
      by_cases z : gS D nv nr ns b v ≤ gS D nv nr ns k v ∧ gS D nv nr ns b w ≤ gS D nv nr ns k w
      · rw [decide_eq_false (by rintro (q | q); exact Int64.not_lt.mpr z.1 q; exact Int64.not_lt.mpr z.2 q)]
        cases ho : okB D nv nr ns v w k b with
        | false => rfl
        | true =>
          rw [ok_iff] at ho
          rcases ho with q | ⟨q1, q2, -⟩
          · exact absurd z q
          · exact absurd ⟨by rw [q1]; exact Int64.le_refl _, by rw [q2]; exact Int64.le_refl _⟩ nd2
      · rw [ok_iff.mpr (Or.inl z), decide_eq_true]
        by_cases q : gS D nv nr ns k v < gS D nv nr ns b v
        · exact Or.inl q
        · exact Or.inr (Int64.not_le.mp (fun y => z ⟨Int64.not_lt.mp q, y⟩))
  have hk : gd D nv nr ns v w (k + 1) k = true := by
    unfold gd
    rw [hl, gdA_of (k + 1) (fun c hc hlc => ?_)]; rfl
    rw [ok_iff]
    by_cases e : c = k
    · subst e; exact Or.inr ⟨rfl, rfl, Nat.le_refl _⟩
    · left
      rintro ⟨z1, z2⟩
      obtain ⟨b, b1, b2, b3, b4⟩ := h3 c (by omega) hlc
      exact hnd b b1 b2 ⟨Int64.le_trans z1 b3, Int64.le_trans z2 b4⟩
  have hc : ∀ j, j ≤ k → cntB (gd D nv nr ns v w (k + 1)) j = cntB (stB D nv nr ns v w k) j := fun j hj => cnt_cg j (fun i hi => hs i (by omega))
  refine ⟨by rw [up2_s, cnt_s1 hk, hc k (Nat.le_refl _)], fun b hb hg => ?_, fun c hc2 hlc => ?_⟩
  · by_cases e : b = k
    · subst e; rw [hc b (Nat.le_refl _), up2_d (by decide), up2_s, up2_s]; exact ⟨rfl, rfl⟩
    · have hb2 : b < k := by omega
      rw [hs b hb2] at hg
      have ne : cntB (stB D nv nr ns v w k) b ≠ cntB (stB D nv nr ns v w k) k := fun z => by
        have q1 := cnt_s1 hg
        have q2 := cnt_mono (P := stB D nv nr ns v w k) (show b + 1 ≤ k by omega)
        omega
      rw [hc b (by omega), up2_d (by decide), up2_e ne, up2_e ne, up2_d (by decide)]
      exact hj.2.1 b hb2 hg
  · by_cases e : c = k
    · subst e; exact ⟨c, by omega, hk, Int64.le_refl _, Int64.le_refl _⟩
    · obtain ⟨b, b1, b2, b3, b4⟩ := h3 c (by omega) hlc
      cases hst : stB D nv nr ns v w k b with
      | true => exact ⟨b, by omega, by rw [hs b b1]; exact hst, b3, b4⟩
      | false =>
        refine ⟨k, by omega, hk, ?_⟩
        unfold stB at hst
        rw [b2, Bool.true_and, decide_eq_false_iff_not] at hst
        exact ⟨Int64.le_trans b3 (Int64.not_lt.mp (fun q => hst (Or.inl q))), Int64.le_trans b4 (Int64.not_lt.mp (fun q => hst (Or.inr q)))⟩
end GD
/-! ===== ways ===== -/
def wib (b c : Nat) : Nat := if b.testBit c = true then b else b + 2 ^ c
theorem wib_ix : ∀ b, b < 256 → ∀ c, c < 8 → nI b ||| ((1 : Int32) <<< (nI c &&& 31)) = nI (wib b c) ∧ wib b c < 256 ∧ (bt (nI b) c = false → b < wib b c) := by decide +kernel
/-- may the choice c come next on the way from b to go -/
def nxB (go b : Nat) (ld : Nat → Bool) (c : Nat) : Bool := bt (nI go &&& (nI b ^^^ (-1))) c && ld (wib b c)
noncomputable def ldF (D : Nat → Nat → Int32) (nv nr ns go : Nat) : Nat → Nat → Bool
  | 0, _ => false
  | k + 1, b => if b = 255 - k then (decide (nI b &&& (nI go ^^^ (-1)) = 0) && ((decide (b = go) || decide (lf (nxB go b (ldF D nv nr ns go k)) 8 < 8)) && LW D nv nr ns b)) else ldF D nv nr ns go k b
def lso (n : Nat) : Int32 := if n < 8 then nI n else -1
/-- the marks behind k steps -/
def LDR (I : Nat → Nat → Int32) (D : Nat → Nat → Int32) (nv nr ns go k : Nat) : Prop := ∀ b, 256 - k ≤ b → b < 256 → I 41 b = b2 (ldF D nv nr ns go k b)
section LD
variable {D : Nat → Nat → Int32} {nv nr ns go k b : Nat} {I I' : Nat → Nat → Int32}
theorem ldF_s (hk : k < 256) : ldF D nv nr ns go (k + 1) (255 - k) = (decide (nI (255 - k) &&& (nI go ^^^ (-1)) = 0) && ((decide (255 - k = go) || decide (lf (nxB go (255 - k) (ldF D nv nr ns go k)) 8 < 8)) && LW D nv nr ns (255 - k))) := by rw [ldF, if_pos rfl]
theorem ldF_o (h : b ≠ 255 - k) : ldF D nv nr ns go (k + 1) b = ldF D nv nr ns go k b := by rw [ldF, if_neg h]
theorem LDR.st {y : Int32} (h : LDR I D nv nr ns go k) (hk : k < 256) (e : I' 41 = I 41) (hy : y = b2 (ldF D nv nr ns go (k + 1) (255 - k))) : LDR (up2 I' 41 (255 - k) y) D nv nr ns go (k + 1) := fun b h1 h2 => by
  by_cases eb : b = 255 - k
  · subst eb; rw [up2_s]; exact hy
  · rw [up2_e eb, e, ldF_o eb]; exact h b (by omega) h2
end LD
