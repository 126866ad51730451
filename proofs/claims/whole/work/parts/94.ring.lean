/-! ===== rings: how far a value is from the aim ===== -/
/-- a way of L needs from v to w -/
def PT (D : Nat → Nat → Int32) (nr w : Nat) : Nat → Nat → Prop
  | 0, v => v = w
  | L + 1, v => ∃ u, u < 10 ∧ bt (nd D nr v) u = true ∧ PT D nr w L u
theorem mn {p : Nat → Prop} (h : ∃ k, p k) : ∃ k, p k ∧ ∀ j, p j → k ≤ j := by
  obtain ⟨k, hk⟩ := h
  induction k using Nat.strongRecOn with
  | ind k ih =>
    by_cases z : ∃ j, j < k ∧ p j
    · obtain ⟨j, j1, j2⟩ := z; exact ih j j1 j2
    · exact ⟨k, hk, fun j hj => Nat.le_of_not_lt (fun q => z ⟨j, q, hj⟩)⟩
noncomputable def dst (D : Nat → Nat → Int32) (nr w v : Nat) : Nat := @dite _ (∃ L, PT D nr w L v) (Classical.propDecidable _) (fun h => Classical.choose (mn h)) (fun _ => 100)
/-- the sheet's values are ordered: no way is longer than 9 -/
def RKP (D : Nat → Nat → Int32) (nv nr w : Nat) : Prop := nv ≤ 10 ∧ w < nv ∧ (∀ v u, v < 10 → bt (nd D nr v) u = true → v < nv ∧ u < nv) ∧ (∀ L v, v < 10 → PT D nr w L v → v < nv ∧ L ≤ 9) ∧ ∀ L u, bt (nd D nr w) u = true → ¬ PT D nr w L u
section DST
variable {D : Nat → Nat → Int32} {nv nr ns w v u L k m : Nat} {rd : Int32}
theorem dst_y (h : PT D nr w L v) : PT D nr w (dst D nr w v) v ∧ ∀ j, PT D nr w j v → dst D nr w v ≤ j := by
  have hx : ∃ L, PT D nr w L v := ⟨L, h⟩
  have e : dst D nr w v = Classical.choose (mn hx) := by unfold dst; rw [dif_pos hx]
  rw [e]; exact Classical.choose_spec (mn hx)
theorem dst_n (h : ∀ L, ¬ PT D nr w L v) : dst D nr w v = 100 := by
  unfold dst; rw [dif_neg (fun ⟨L, z⟩ => h L z)]
theorem RKP.c (R : RKP D nv nr w) (hv : v < 10) : (dst D nr w v = 100 ∧ ∀ L, ¬ PT D nr w L v) ∨ (dst D nr w v ≤ 9 ∧ v < nv ∧ PT D nr w (dst D nr w v) v ∧ ∀ j, PT D nr w j v → dst D nr w v ≤ j) := by
  by_cases z : ∃ L, PT D nr w L v
  · obtain ⟨L, z⟩ := z
    have y := dst_y z
    have q := R.2.2.2.1 _ v hv y.1
    exact Or.inr ⟨q.2, q.1, y⟩
  · exact Or.inl ⟨dst_n (fun L q => z ⟨L, q⟩), fun L q => z ⟨L, q⟩⟩
theorem RKP.w0 (R : RKP D nv nr w) : dst D nr w w = 0 := by
  have := (dst_y (D := D) (nr := nr) (w := w) (v := w) (L := 0) rfl).2 0 rfl
  omega
theorem RKP.ew (R : RKP D nv nr w) (hv : v < 10) (h : dst D nr w v = 0) : v = w := by
  rcases R.c hv with ⟨z, -⟩ | ⟨-, -, z, -⟩
  · omega
  · rw [h] at z; exact z
theorem RKP.le (R : RKP D nv nr w) (hv : v < 10) : dst D nr w v ≤ 100 := by
  rcases R.c hv with ⟨z, -⟩ | ⟨z, -⟩ <;> omega
theorem RKP.c9 (R : RKP D nv nr w) (hv : v < 10) : dst D nr w v = 100 ∨ (dst D nr w v ≤ 9 ∧ v < nv) := by
  rcases R.c hv with ⟨z, -⟩ | ⟨z, y, -⟩
  · exact Or.inl z
  · exact Or.inr ⟨z, y⟩
/-- one step -/
theorem RKP.st (R : RKP D nv nr w) (hv : v < 10) (hu : u < 10) (hb : bt (nd D nr v) u = true) (h : dst D nr w u ≠ 100) : dst D nr w v ≤ dst D nr w u + 1 := by
  rcases R.c hu with ⟨z, -⟩ | ⟨-, -, z, -⟩
  · exact absurd z h
  · have p : PT D nr w (dst D nr w u + 1) v := ⟨u, hu, hb, z⟩
    exact (dst_y p).2 _ p
theorem RKP.pr (R : RKP D nv nr w) (hv : v < 10) (h : dst D nr w v = k + 1) (hk : k < 99) : ∃ u, u < nv ∧ bt (nd D nr v) u = true ∧ dst D nr w u = k := by
  rcases R.c hv with ⟨z, -⟩ | ⟨-, -, z, z2⟩
  · omega
  · rw [h] at z
    obtain ⟨u, u1, u2, u3⟩ := z
    have y := dst_y u3
    have y2 := y.2 k u3
    have p : PT D nr w (dst D nr w u + 1) v := ⟨u, u1, u2, y.1⟩
    have := z2 _ p
    exact ⟨u, (R.2.2.1 v u hv u2).2, u2, by omega⟩
theorem RKP.nw (R : RKP D nv nr w) (hb : bt (nd D nr w) u = true) : dst D nr w u = 100 := dst_n (fun L => R.2.2.2.2 L u hb)
theorem AR.pt {I : Nat → Nat → Int32} {ord st : Nat → Nat} (hA : AR I D nv nr ord st) (hn : nv ≤ 10) (hlt : ∀ v u, v < 10 → bt (nd D nr v) u = true → v < nv ∧ u < nv) : ∀ L p, p < nv → PT D nr w L (ord p) → L ≤ p := by
  intro L
  induction L with
  | zero => intro p _ _; omega
  | succ L ih =>
    intro p hp ⟨u, u1, u2, u3⟩
    have q := hA.2.1 p hp
    obtain ⟨s, s1, s2⟩ := q.2.2.2.2.2.2.2.1 u (hlt _ u (by have := q.1; omega) u2).2 u2
    rw [← s2] at u3
    have := ih s (by omega) u3
    omega
theorem RKP.of {I : Nat → Nat → Int32} {ord st : Nat → Nat} (hW : DW D nv nr ns) (hA : AR I D nv nr ord st) (hw : w < nv) : RKP D nv nr w := by
  have hn := hW.nv
  have hlt : ∀ v u, v < 10 → bt (nd D nr v) u = true → v < nv ∧ u < nv := fun v u hv hb => by
    refine ⟨?_, ?_⟩
    · rcases Nat.lt_or_ge v nv with z | z
      · exact z
      · rw [nd_hi hW z (by omega) nr (Nat.le_refl _), b_0] at hb; cases hb
    · rcases Nat.lt_or_ge u 32 with z | z
      · exact nd_lt hW z nr (Nat.le_refl _) hb
      · rw [b_big z] at hb; cases hb
  have key : ∀ L v, v < 10 → PT D nr w L v → v < nv := fun L v hv h => by
    cases L with
    | zero => have e : v = w := h; omega
    | succ L => obtain ⟨u, u1, u2, u3⟩ := h; exact (hlt v u hv u2).1
  refine ⟨hn, hw, hlt, fun L v hv h => ?_, fun L u hb h => ?_⟩
  · have hv2 := key L v hv h
    obtain ⟨p, p1, p2⟩ := hA.2.2 v hv2
    rw [← p2] at h
    have := hA.pt hn hlt L p p1 h
    exact ⟨hv2, by omega⟩
  · -- a way from w to w, gone round, would be too long
    obtain ⟨p, p1, p2⟩ := hA.2.2 w hw
    have rnd : ∀ k, ∃ M, k ≤ M ∧ PT D nr w M w := by
      intro k
      induction k with
      | zero => exact ⟨0, Nat.le_refl _, rfl⟩
      | succ k ih =>
        obtain ⟨M, m1, m2⟩ := ih
        have app : ∀ A x, PT D nr w A x → PT D nr w (A + M) x := by
          intro A
          induction A with
          | zero => intro x hx; have e : x = w := hx; rw [e, Nat.zero_add]; exact m2
          | succ A ih => intro x ⟨y, y1, y2, y3⟩; rw [Nat.succ_add]; exact ⟨y, y1, y2, ih y y3⟩
        exact ⟨L + 1 + M, by omega, app (L + 1) w ⟨u, by have := (hlt w u (by omega) hb).2; omega, hb, h⟩⟩
    obtain ⟨M, m1, m2⟩ := rnd 11
    rw [← p2] at m2
    have := hA.pt (w := ord p) hn hlt M p p1 m2
    omega
/-- what the aim would need -/
def ed (D : Nat → Nat → Int32) (nr w : Nat) (rd : Int32) (v : Nat) : Int32 := if v = w then nd D nr v ||| rd else nd D nr v
/-- the least way back from what is read -/
def MNR (D : Nat → Nat → Int32) (nr w : Nat) (rd : Int32) (m : Nat) : Prop := m ≤ 9 ∧ (∃ v, v < 10 ∧ bt rd v = true ∧ dst D nr w v = m) ∧ ∀ v, v < 10 → bt rd v = true → m ≤ dst D nr w v
def RNG (D : Nat → Nat → Int32) (nr w : Nat) (rd : Int32) (m : Nat) (r : Nat → Nat) : Prop :=
  r 0 = w ∧ ∀ i, i < m → r (i + 1) < 10 ∧ bt (ed D nr w rd (r i)) (r (i + 1)) = true ∧ dst D nr w (r (i + 1)) = m - i ∧ ∀ u, u < r (i + 1) → ¬ (bt (ed D nr w rd (r i)) u = true ∧ dst D nr w u = m - i)
theorem MNR.uq (h : MNR D nr w rd m) (h2 : MNR D nr w rd k) : m = k := by
  obtain ⟨-, ⟨v, v1, v2, v3⟩, a⟩ := h
  obtain ⟨-, ⟨x, x1, x2, x3⟩, b⟩ := h2
  have := a x x1 x2; have := b v v1 v2; omega
theorem RNG.uq {r r' : Nat → Nat} (h : RNG D nr w rd m r) (h2 : RNG D nr w rd m r') : ∀ i, i ≤ m → r i = r' i := by
  intro i
  induction i with
  | zero => intro _; rw [h.1, h2.1]
  | succ i ih =>
    intro hi
    have e := ih (by omega)
    obtain ⟨a1, a2, a3, a4⟩ := h.2 i (by omega)
    obtain ⟨b1, b2, b3, b4⟩ := h2.2 i (by omega)
    rw [← e] at b2 b4
    rcases Nat.lt_trichotomy (r (i + 1)) (r' (i + 1)) with z | z | z
    · exact absurd ⟨a2, a3⟩ (b4 _ z)
    · exact z
    · exact absurd ⟨b2, b3⟩ (a4 _ z)
end DST
/-! ===== isRing: the model ===== -/
def fu (f : Nat → Nat) (a x : Nat) : Nat → Nat := fun b => if b = a then x else f b
theorem fu_s {f : Nat → Nat} {a x : Nat} : fu f a x a = x := if_pos rfl
theorem fu_o {f : Nat → Nat} {a x b : Nat} (h : b ≠ a) : fu f a x b = f b := if_neg h
/-- needed and far -/
def BI (I I' : Nat → Nat → Int32) (D : Nat → Nat → Int32) (nr w : Nat) (rd : Int32) (f : Nat → Nat) : Prop := (∀ a, a ≠ 77 → a ≠ 78 → I' a = I a) ∧ (∀ v, v < 10 → I' 77 v = ed D nr w rd v) ∧ ∀ v, v < 10 → I' 78 v = nI (f v)
def BI0 (I I' : Nat → Nat → Int32) (D : Nat → Nat → Int32) (nr w : Nat) (rd : Int32) (k : Nat) : Prop := (∀ a, a ≠ 77 → a ≠ 78 → I' a = I a) ∧ (∀ v, v < 10 → I' 77 v = ed D nr w rd v) ∧ ∀ v, v < k → I' 78 v = if v = w then 0 else 100
def OKf (D : Nat → Nat → Int32) (nr w : Nat) (f : Nat → Nat) : Prop := ∀ v, v < 10 → f v ≤ 100 ∧ (f v = 100 ∨ PT D nr w (f v) v)
def CMf (D : Nat → Nat → Int32) (nr w : Nat) (f : Nat → Nat) (k : Nat) : Prop := ∀ L v, L ≤ k → v < 10 → PT D nr w L v → f v ≤ L
def RIf (D : Nat → Nat → Int32) (nr w : Nat) (f g : Nat → Nat) (W V : Nat) : Prop := OKf D nr w g ∧ (∀ x, x < 10 → g x ≤ f x) ∧ (∀ x, x < W → x ≠ w → ∀ u, u < 10 → bt (nd D nr x) u = true → g x ≤ f u + 1) ∧ ∀ u, u < V → W ≠ w → bt (nd D nr W) u = true → g W ≤ f u + 1
section BF
variable {I I' I2 : Nat → Nat → Int32} {D : Nat → Nat → Int32} {nv nr ns w v u L k m W V : Nat} {rd : Int32} {f g : Nat → Nat}
theorem ed_w : ed D nr w rd w = nd D nr w ||| rd := if_pos rfl
theorem ed_o (h : v ≠ w) : ed D nr w rd v = nd D nr v := if_neg h
theorem BI0.z (h : F77 I I' ∧ ∀ v, v < 10 → I' 77 v = nd D nr v) (hw : w < 10) : BI0 I (up2 I' 77 w (I' 77 w ||| rd)) D nr w rd 0 := by
  refine ⟨fun a a1 _ => by rw [up2_o a1]; exact h.1 a a1, fun v hv => ?_, fun v hv => absurd hv (Nat.not_lt_zero _)⟩
  by_cases e : v = w
  · rw [e, up2_s, ed_w, h.2 w hw]
  · rw [up2_e e, ed_o e, h.2 v hv]
theorem BI0.s {x : Int32} (h : BI0 I I' D nr w rd k) (hx : x = if k = w then 0 else 100) : BI0 I (up2 I' 78 k x) D nr w rd (k + 1) := by
  refine ⟨fun a a1 a2 => by rw [up2_o a2]; exact h.1 a a1 a2, fun v hv => by rw [up2_d (by decide)]; exact h.2.1 v hv, fun v hv => ?_⟩
  by_cases e : v = k
  · rw [e, up2_s, hx]
  · rw [up2_e e]; exact h.2.2 v (by omega)
theorem BI0.e (h : BI0 I I' D nr w rd 10) : BI I I' D nr w rd (fun v => if v = w then 0 else 100) ∧ OKf D nr w (fun v => if v = w then 0 else 100) ∧ CMf D nr w (fun v => if v = w then 0 else 100) 0 := by
  refine ⟨⟨h.1, h.2.1, fun v hv => ?_⟩, fun v hv => ?_, fun L v hL hv p => ?_⟩
  · rw [h.2.2 v hv]
    show _ = nI (if v = w then 0 else 100)
    by_cases e : v = w
    · rw [if_pos e, if_pos e]; rfl
    · rw [if_neg e, if_neg e]; rfl
  · show (if v = w then 0 else 100) ≤ 100 ∧ ((if v = w then 0 else 100) = 100 ∨ PT D nr w (if v = w then 0 else 100) v)
    by_cases e : v = w
    · rw [if_pos e]; exact ⟨by decide, Or.inr e⟩
    · rw [if_neg e]; exact ⟨by decide, Or.inl rfl⟩
  · obtain rfl : L = 0 := by omega
    have e : v = w := p
    show (if v = w then 0 else 100) ≤ 0
    rw [if_pos e]; exact Nat.le_refl _
theorem BI.up {x : Int32} (h : BI I I' D nr w rd g) (hx : x = nI m) : BI I (up2 I' 78 W x) D nr w rd (fu g W m) := by
  refine ⟨fun a a1 a2 => by rw [up2_o a2]; exact h.1 a a1 a2, fun v hv => by rw [up2_d (by decide)]; exact h.2.1 v hv, fun v hv => ?_⟩
  by_cases e : v = W
  · rw [e, up2_s, fu_s, hx]
  · rw [up2_e e, fu_o e]; exact h.2.2 v hv
theorem RIf.z (h : OKf D nr w f) : RIf D nr w f f 0 0 := ⟨h, fun _ _ => Nat.le_refl _, fun _ h => absurd h (Nat.not_lt_zero _), fun _ h => absurd h (Nat.not_lt_zero _)⟩
theorem RIf.ww (h : RIf D nr w f g W V) (e : W = w) : RIf D nr w f g W (V + 1) := ⟨h.1, h.2.1, h.2.2.1, fun _ _ z => absurd e z⟩
theorem RIf.n (h : RIf D nr w f g W V) (e : bt (nd D nr W) V = true → g W ≤ g V + 1) (hV : V < 10) : RIf D nr w f g W (V + 1) := ⟨h.1, h.2.1, h.2.2.1, fun u hu z hb => by
  by_cases eu : u = V
  · rw [eu] at hb ⊢; have := e hb; have := h.2.1 V hV; omega
  · exact h.2.2.2 u (by omega) z hb⟩
theorem RIf.up (h : RIf D nr w f g W V) (hb : bt (nd D nr W) V = true) (hl : g V + 1 < g W) (hV : V < 10) (hW : W < 10) : RIf D nr w f (fu g W (g V + 1)) W (V + 1) := by
  obtain ⟨h1, h2, h3, h4⟩ := h
  have a1 := (h1 W hW).1
  have a2 := (h1 V hV).2.resolve_left (by omega)
  refine ⟨fun v hv => ?_, fun x hx => ?_, fun x hx => ?_, fun u hu z hb2 => ?_⟩
  · by_cases e : v = W
    · rw [e, fu_s]; exact ⟨by omega, Or.inr ⟨V, hV, hb, a2⟩⟩
    · rw [fu_o e]; exact h1 v hv
  · by_cases e : x = W
    · rw [e, fu_s]; have := h2 W hW; omega
    · rw [fu_o e]; exact h2 x hx
  · rw [fu_o (by omega)]; exact h3 x hx
  · rw [fu_s]
    by_cases eu : u = V
    · rw [eu]; have := h2 V hV; omega
    · have := h4 u (by omega) z hb2; omega
theorem RIf.r (h : RIf D nr w f g W 10) : RIf D nr w f g (W + 1) 0 := ⟨h.1, h.2.1, fun x hx z u hu hb => by
  by_cases e : x = W
  · rw [e] at z hb ⊢; exact h.2.2.2 u hu z hb
  · exact h.2.2.1 x (by omega) z u hu hb, fun _ h => absurd h (Nat.not_lt_zero _)⟩
theorem RIf.e (h : RIf D nr w f g 10 V) (hc : CMf D nr w f k) (hw : w < 10) : OKf D nr w g ∧ CMf D nr w g (k + 1) := by
  refine ⟨h.1, fun L v hL hv p => ?_⟩
  have hz : g w ≤ 0 := Nat.le_trans (h.2.1 w hw) (hc 0 w (Nat.zero_le _) hw rfl)
  by_cases e : v = w
  · rw [e]; omega
  · cases L with
    | zero => exact absurd p e
    | succ L =>
      obtain ⟨u, u1, u2, u3⟩ := p
      have := hc L u (by omega) u1 u3
      have := h.2.2.1 v hv e u u1 u2
      omega
theorem OKf.dst (R : RKP D nv nr w) (h : OKf D nr w g) (hc : CMf D nr w g 10) (hv : v < 10) : g v = dst D nr w v := by
  rcases R.c hv with ⟨z, y⟩ | ⟨z, -, y, y2⟩
  · rw [z]; exact (h v hv).2.resolve_right (y _)
  · have a := hc _ v (by omega) hv y
    have b := (h v hv).2.resolve_left (by omega)
    have := y2 _ b
    omega
/-- the least of those that the aim would need -/
def LSf (D : Nat → Nat → Int32) (nr w : Nat) (rd : Int32) (l k : Nat) : Prop := l ≤ 100 ∧ (∀ v, v < k → bt (ed D nr w rd w) v = true → l ≤ dst D nr w v) ∧ (l = 100 ∨ ∃ v, v < 10 ∧ bt (ed D nr w rd w) v = true ∧ dst D nr w v = l)
theorem LSf.z : LSf D nr w rd 100 0 := ⟨Nat.le_refl _, fun _ h => absurd h (Nat.not_lt_zero _), Or.inl rfl⟩
theorem LSf.n (h : LSf D nr w rd L k) (e : bt (ed D nr w rd w) k = true → L ≤ dst D nr w k) : LSf D nr w rd L (k + 1) := ⟨h.1, fun v hv hb => by
  by_cases ev : v = k
  · rw [ev] at hb ⊢; exact e hb
  · exact h.2.1 v (by omega) hb, h.2.2⟩
theorem LSf.up (h : LSf D nr w rd L k) (hb : bt (ed D nr w rd w) k = true) (hl : dst D nr w k < L) (hk : k < 10) : LSf D nr w rd (dst D nr w k) (k + 1) := ⟨by have := h.1; omega, fun v hv hb => by
  by_cases ev : v = k
  · rw [ev]; exact Nat.le_refl _
  · have := h.2.1 v (by omega) hb; omega, Or.inr ⟨k, hk, hb, rfl⟩⟩
theorem LSf.no (h : LSf D nr w rd L 10) (hl : 100 ≤ L) (R : RKP D nv nr w) : ∀ v, v < 10 → bt rd v = true → dst D nr w v = 100 := fun v hv hb => by
  have := h.2.1 v hv (by rw [ed_w, b_or, hb, Bool.or_true])
  have := R.le hv
  omega
theorem LSf.ys (h : LSf D nr w rd L 10) (hl : L < 100) (R : RKP D nv nr w) : MNR D nr w rd L := by
  obtain ⟨v, v1, v2, v3⟩ := h.2.2.resolve_left (by omega)
  have h9 : L ≤ 9 := by rcases R.c9 v1 with z | ⟨z, -⟩ <;> omega
  refine ⟨h9, ⟨v, v1, ?_, v3⟩, fun u hu hb => h.2.1 u hu (by rw [ed_w, b_or, hb, Bool.or_true])⟩
  rw [ed_w, b_or] at v2
  cases z : bt rd v with
  | true => rfl
  | false =>
    rw [z, Bool.or_false] at v2
    have := R.nw v2
    omega
/-- the ring so far -/
def RNGq (D : Nat → Nat → Int32) (nr w : Nat) (rd : Int32) (m q : Nat) (r : Nat → Nat) : Prop :=
  r 0 = w ∧ ∀ i, i < q → r (i + 1) < 10 ∧ bt (ed D nr w rd (r i)) (r (i + 1)) = true ∧ dst D nr w (r (i + 1)) = m - i ∧ ∀ u, u < r (i + 1) → ¬ (bt (ed D nr w rd (r i)) u = true ∧ dst D nr w u = m - i)
theorem RNGq.lt {r : Nat → Nat} {q i : Nat} (h : RNGq D nr w rd m q r) (hw : w < 10) (hi : i ≤ q) : r i < 10 := by
  cases i with
  | zero => rw [h.1]; exact hw
  | succ i => exact (h.2 i (by omega)).1
/-- the next of the ring -/
theorem RNGq.ex {r : Nat → Nat} {q : Nat} (h : RNGq D nr w rd m q r) (R : RKP D nv nr w) (hm : MNR D nr w rd m) (hq : q < m) : ∃ x, (x < 10 ∧ bt (ed D nr w rd (r q)) x = true ∧ dst D nr w x = m - q) ∧ ∀ u, u < x → ¬ (bt (ed D nr w rd (r q)) u = true ∧ dst D nr w u = m - q) := by
  have ex : ∃ x, x < 10 ∧ bt (ed D nr w rd (r q)) x = true ∧ dst D nr w x = m - q := by
    cases q with
    | zero =>
      obtain ⟨v, v1, v2, v3⟩ := hm.2.1
      exact ⟨v, v1, by rw [h.1, ed_w, b_or, v2, Bool.or_true], by omega⟩
    | succ q =>
      obtain ⟨a1, a2, a3, a4⟩ := h.2 q (by omega)
      have h9 := hm.1
      obtain ⟨u, u1, u2, u3⟩ := R.pr (k := m - (q + 1)) a1 (by omega) (by omega)
      have hne : r (q + 1) ≠ w := fun z => by rw [z, R.w0] at a3; omega
      exact ⟨u, by have := R.1; omega, by rw [ed_o hne]; exact u2, u3⟩
  obtain ⟨x, x1, x2⟩ := mn ex
  exact ⟨x, x1, fun u hu z => by have := x2 u ⟨by omega, z⟩; omega⟩
theorem RNGq.s {r : Nat → Nat} {q x : Nat} (h : RNGq D nr w rd m q r) (hx : x < 10 ∧ bt (ed D nr w rd (r q)) x = true ∧ dst D nr w x = m - q) (hx2 : ∀ u, u < x → ¬ (bt (ed D nr w rd (r q)) u = true ∧ dst D nr w u = m - q)) : RNGq D nr w rd m (q + 1) (fu r (q + 1) x) := by
  refine ⟨by rw [fu_o (by omega)]; exact h.1, fun i hi => ?_⟩
  by_cases e : i = q
  · rw [e, fu_s, fu_o (by omega)]; exact ⟨hx.1, hx.2.1, hx.2.2, hx2⟩
  · rw [fu_o (by omega), fu_o (by omega)]; exact h.2 i (by omega)
/-- the ring's rows -/
def RGI (I I' : Nat → Nat → Int32) (D : Nat → Nat → Int32) (nr w : Nat) (rd : Int32) (m q : Nat) (r : Nat → Nat) : Prop := (∀ a, a ≠ 54 → a ≠ 77 → a ≠ 78 → a ≠ 79 → I' a = I a) ∧ (∀ j, j ≠ 31 → I' 54 j = I 54 j) ∧ I' 54 31 = nI (m + 1) ∧ (∀ v, v < 10 → I' 77 v = ed D nr w rd v) ∧ (∀ v, v < 10 → I' 78 v = nI (dst D nr w v)) ∧ ∀ i, i ≤ q → I' 79 i = nI (r i)
theorem RGI.z (h : BI I I' D nr w rd g) (hg : ∀ v, v < 10 → g v = dst D nr w v) {x : Int32} (hx : x = nI (m + 1)) : RGI I (up2 (up2 I' 79 0 (nI w)) 54 31 x) D nr w rd m 0 (fun _ => w) := by
  refine ⟨fun a a1 a2 a3 a4 => by rw [up2_o a1, up2_o a4]; exact h.1 a a2 a3, fun j hj => ?_, by rw [up2_s, hx], fun v hv => by rw [up2_d (by decide), up2_d (by decide)]; exact h.2.1 v hv, fun v hv => by rw [up2_d (by decide), up2_d (by decide), h.2.2 v hv, hg v hv], fun i hi => ?_⟩
  · rw [up2_e hj, up2_d (by decide), h.1 54 (by decide) (by decide)]
  · obtain rfl : i = 0 := by omega
    rw [up2_d (by decide), up2_s]
theorem RGI.s {r : Nat → Nat} {q x : Nat} (h : RGI I I' D nr w rd m q r) : RGI I (up2 I' 79 (q + 1) (nI x)) D nr w rd m (q + 1) (fu r (q + 1) x) := by
  obtain ⟨h1, h2, h3, h4, h5, h6⟩ := h
  refine ⟨fun a a1 a2 a3 a4 => by rw [up2_o a4]; exact h1 a a1 a2 a3 a4, fun j hj => by rw [up2_d (by decide)]; exact h2 j hj, by rw [up2_d (by decide)]; exact h3, fun v hv => by rw [up2_d (by decide)]; exact h4 v hv, fun v hv => by rw [up2_d (by decide)]; exact h5 v hv, fun i hi => ?_⟩
  by_cases e : i = q + 1
  · rw [e, up2_s, fu_s]
  · rw [up2_e e, fu_o e]; exact h6 i (by omega)
end BF
theorem nI_sb {m q : Nat} (h : q ≤ m) : nI (m + 1) - nI (q + 1) = nI (m - q) := by
  have e : nI (m + 1) = nI (m - q) + nI (q + 1) := by rw [nI_add]; congr 1; omega
  rw [e, Int32.add_sub_cancel]
theorem nI_p1 (q : Nat) : nI (q + 1) - 1 = nI q := by
  rw [← nI_1 q, Int32.add_sub_cancel]
