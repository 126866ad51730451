/-! ===== needs, through others ===== -/
def RC (D : Nat → Nat → Int32) (nr : Nat) : Nat → Nat → Prop := Relation.TransGen (fun a b => bt (nd D nr a) b = true)
section RC
variable {D : Nat → Nat → Int32} {nv nr ns : Nat}
theorem RC.lt (hW : DW D nv nr ns) {v u : Nat} (h : RC D nr v u) : u < nv := by
  have key : ∀ {a b : Nat}, bt (nd D nr a) b = true → b < nv := fun {a b} hb => by
    rcases Nat.lt_or_ge b 32 with z | z
    · exact nd_lt hW z nr (Nat.le_refl _) hb
    · rw [b_big z] at hb; cases hb
  cases h with
  | single h => exact key h
  | tail _ h => exact key h
theorem RC.one {v u : Nat} (h : bt (nd D nr v) u = true) : RC D nr v u := Relation.TransGen.single h
theorem RC.tl {v w u : Nat} (h : RC D nr v w) (h2 : bt (nd D nr w) u = true) : RC D nr v u := Relation.TransGen.tail h h2
theorem RC.tr {v w u : Nat} (h : RC D nr v w) (h2 : RC D nr w u) : RC D nr v u := by
  induction h2 with
  | single h2 => exact h.tl h2
  | tail _ h3 ih => exact ih.tl h3
theorem RC.rk (hW : DW D nv nr ns) {f : Nat → Nat} (hf : ∀ v, v < nv → ∀ u, u < nv → bt (nd D nr v) u = true → f u < f v) {v u : Nat} (hv : v < nv) (h : RC D nr v u) : f u < f v := by
  induction h with
  | single h => exact hf v hv _ (RC.lt hW (RC.one h)) h
  | tail h1 h2 ih => exact Nat.lt_trans (hf _ (RC.lt hW h1) _ (RC.lt hW (RC.tl h1 h2)) h2) ih
theorem RC.ir (hW : DW D nv nr ns) (hA : AC D nv nr) {v : Nat} (hv : v < nv) : ¬ RC D nr v v := fun h => by
  obtain ⟨f, hf⟩ := hA
  exact Nat.lt_irrefl _ (RC.rk hW hf hv h)
end RC
/-- the row needsThrough -/
def NT (I : Nat → Nat → Int32) (D : Nat → Nat → Int32) (nv nr o : Nat) : Prop := ∀ v, v < nv → ∀ u, bt (I (o + 7) v) u = true ↔ RC D nr v u
theorem bt_nI {m i : Nat} (hm : m < 2 ^ 32) (hi : i < 32) : bt (nI m) i = m.testBit i := by
  show (BitVec.ofNat 32 m).getLsbD i = m.testBit i
  rw [BitVec.getLsbD_ofNat]; simp [hi]
theorem small_of {x : Int32} {k : Nat} (hk : k ≤ 31) (h : ∀ i, bt x i = true → i < k) : ∃ m, m < 2 ^ k ∧ x = nI m := by
  have hx : x = nI x.toBitVec.toNat := Int32.toBitVec_inj.mp (by show _ = BitVec.ofNat 32 _; simp)
  refine ⟨x.toBitVec.toNat, ?_, hx⟩
  apply Nat.lt_pow_two_of_testBit
  intro i hi
  rcases Nat.lt_or_ge i 32 with z | z
  · cases hb : x.toBitVec.toNat.testBit i with
    | false => rfl
    | true =>
      rw [← bt_nI x.toBitVec.isLt z, ← hx] at hb
      have := h i hb; omega
  · exact Nat.testBit_lt_two_pow (Nat.lt_of_lt_of_le x.toBitVec.isLt (Nat.pow_le_pow_right (by decide) z))
def us (x : Int32) (s : Int32) : Int32 := (x.toUInt32 >>> (s.toUInt32 &&& Int32.toUInt32 31)).toInt32
def bc1 (x : Int32) : Int32 := x - (us x 1 &&& 1431655765)
def bc2 (x : Int32) : Int32 := (x &&& 858993459) + (us x 2 &&& 858993459)
def bc3 (x : Int32) : Int32 := (x + us x 4) &&& 252645135
def bcF (x : Int32) : Int32 := let a := bc3 (bc2 (bc1 x)); let b := a + us a 8; (b + us b 16) &&& 63
/-- how many bits are set -/
def pcn (x : Int32) : Nat := cntB (bt x) 10
theorem bcF_ok : ∀ m, m < 1024 → bcF (nI m) = nI (pcn (nI m)) := by decide +kernel
theorem cnt_true : ∀ n, cntB (fun _ => true) n = n
  | 0 => rfl
  | n + 1 => by rw [cntB, cnt_true n]; rfl
theorem cnt_all {P : Nat → Bool} : ∀ n, (∀ i, i < n → P i = true) → cntB P n = n
  | 0, _ => rfl
  | n + 1, h => by rw [cnt_s1 (h n (by omega)), cnt_all n (fun i hi => h i (by omega))]
theorem cnt_cg {P P' : Nat → Bool} : ∀ n, (∀ i, i < n → P i = P' i) → cntB P n = cntB P' n
  | 0, _ => rfl
  | n + 1, h => by rw [cntB, cntB, h n (by omega), cnt_cg n (fun i hi => h i (by omega))]
theorem cnt_or {P P' P2 : Nat → Bool} (h : ∀ r, P2 r = (P r || P' r)) (hd : ∀ r, P r = true → P' r = false) : ∀ n, cntB P2 n = cntB P n + cntB P' n
  | 0 => rfl
  | n + 1 => by
    have ih := cnt_or h hd n
    cases hp : P n with
    | true => rw [cnt_s1 (by rw [h, hp]; rfl), cnt_s1 hp, cnt_s0 (hd n hp), ih]; omega
    | false =>
      cases hq : P' n with
      | true => rw [cnt_s1 (by rw [h, hp, hq]; rfl), cnt_s0 hp, cnt_s1 hq, ih]; omega
      | false => rw [cnt_s0 (by rw [h, hp, hq]; rfl), cnt_s0 hp, cnt_s0 hq, ih]
section NT
variable {I I' : Nat → Nat → Int32} {D : Nat → Nat → Int32} {nv nr ns : Nat}
theorem NT.sm (h : NT I D nv nr 0) (hW : DW D nv nr ns) {v : Nat} (hv : v < nv) : ∃ m, m < 1024 ∧ I 7 v = nI m := by
  have hn := hW.nv
  exact small_of (k := 10) (by decide) (fun i hi => by have := RC.lt hW ((h v hv i).mp hi); omega)
theorem NT.lt (h : NT I D nv nr 0) (hW : DW D nv nr ns) (hA : AC D nv nr) {v : Nat} (hv : v < nv) : pcn (I 7 v) < nv := by
  have hn := hW.nv
  have e : pcn (I 7 v) = cntB (bt (I 7 v)) nv := cnt_skip (by omega) (fun j h1 h2 => by
    cases hb : bt (I 7 v) j with
    | false => rfl
    | true => have := RC.lt hW ((h v hv j).mp hb); omega)
  have h2 : bt (I 7 v) v = false := by
    cases hb : bt (I 7 v) v with
    | false => rfl
    | true => exact absurd ((h v hv v).mp hb) (RC.ir hW hA hv)
  have := cnt_lt (P := bt (I 7 v)) (P' := fun _ => true) (q := v) (fun _ _ => rfl) rfl h2 nv hv
  rw [cnt_true] at this
  omega
theorem NT.dec (h : NT I D nv nr 0) (hW : DW D nv nr ns) (hA : AC D nv nr) {v u : Nat} (hv : v < nv) (hu : u < nv) (hb : bt (nd D nr v) u = true) : pcn (I 7 u) < pcn (I 7 v) := by
  have hn := hW.nv
  have h2 : bt (I 7 u) u = false := by
    cases hb : bt (I 7 u) u with
    | false => rfl
    | true => exact absurd ((h u hu u).mp hb) (RC.ir hW hA hu)
  exact cnt_lt (P := bt (I 7 u)) (P' := bt (I 7 v)) (q := u) (fun w hw => (h v hv w).mpr ((RC.one hb).tr ((h u hu w).mp hw))) ((h v hv u).mpr (RC.one hb)) h2 10 (by omega)
end NT
/-! ===== arrange() ===== -/
def cv2 (I : Nat → Nat → Int32) (nv w : Nat) : Nat := if w < nv then pcn (I 7 w) else 1000
def Sp (I : Nat → Nat → Int32) (nv m k : Nat) (w : Nat) : Bool := decide (cv2 I nv w < m ∨ (cv2 I nv w = m ∧ w < k))
def Rr (D : Nat → Nat → Int32) (P : Nat → Bool) (r : Nat) : Bool := decide (D 60 r ≤ 3) && P (D 61 r).toNatClampNeg
def AP (I' : Nat → Nat → Int32) (D : Nat → Nat → Int32) (nv nr : Nat) (ord st : Nat → Nat) (p : Nat) : Prop :=
  ord p < nv ∧ I' 29 p = nI (ord p) ∧ I' 31 p = nI (st p) ∧ I' 31 (p + 1) = nI (st (p + 1)) ∧ st (p + 1) = st p + cntB (kvB D (nI (ord p))) nr ∧ st (p + 1) ≤ 30 ∧ (∀ r, r < nr → kvB D (nI (ord p)) r = true → I' 30 (st p + cntB (kvB D (nI (ord p))) r) = nI r) ∧ (∀ u, u < nv → bt (nd D nr (ord p)) u = true → ∃ q, q < p ∧ ord q = u) ∧ (∀ q, q < p → ord q ≠ ord p)
def AI (I I' : Nat → Nat → Int32) (D : Nat → Nat → Int32) (nv nr m k pl : Nat) (ord st : Nat → Nat) : Prop :=
  (∀ a, a ≠ 29 → a ≠ 30 → a ≠ 31 → I' a = I a) ∧ st 0 = 0 ∧ pl = cntB (Sp I nv m k) nv ∧ st pl = cntB (Rr D (Sp I nv m k)) nr ∧ I' 31 pl = nI (st pl) ∧ (∀ p, p < pl → AP I' D nv nr ord st p) ∧ (∀ v, v < nv → Sp I nv m k v = true → ∃ p, p < pl ∧ ord p = v) ∧ (∀ p, p < pl → Sp I nv m k (ord p) = true)
section AI
variable {I I' I2 : Nat → Nat → Int32} {D : Nat → Nat → Int32} {nv nr ns m k pl : Nat} {ord st : Nat → Nat}
theorem AI.cg {m' k' : Nat} (h : AI I I' D nv nr m k pl ord st) (e : Sp I nv m' k' = Sp I nv m k) : AI I I' D nv nr m' k' pl ord st := by
  unfold AI; rw [e]; exact h
theorem AI.st_le (h : AI I I' D nv nr m k pl ord st) (hW : DW D nv nr ns) : st pl ≤ 30 := by
  rw [h.2.2.2.1]; have := cntB_le (Rr D (Sp I nv m k)) nr; have := hW.nr; omega
theorem AI.no (h : AI I I' D nv nr m k pl ord st) (hk : k < nv) (hc : pcn (I 7 k) ≠ m) : AI I I' D nv nr m (k + 1) pl ord st := by
  refine h.cg ?_
  funext w
  unfold Sp
  congr 1
  apply propext
  by_cases e : w = k
  · subst e
    have : cv2 I nv w ≠ m := by unfold cv2; rw [if_pos hk]; exact hc
    constructor
    · rintro (z | z)
      · exact Or.inl z
      · exact absurd z.1 this
    · rintro (z | z)
      · exact Or.inl z
      · exact absurd z.1 this
  · constructor
    · rintro (z | z)
      · exact Or.inl z
      · exact Or.inr ⟨z.1, by omega⟩
    · rintro (z | z)
      · exact Or.inl z
      · exact Or.inr ⟨z.1, by omega⟩
theorem AI.next (h : AI I I' D nv nr m nv pl ord st) (hm : m < 1000) : AI I I' D nv nr (m + 1) 0 pl ord st := by
  refine h.cg ?_
  funext w
  unfold Sp
  congr 1
  apply propext
  by_cases e : w < nv
  · constructor
    · rintro (z | z)
      · by_cases q : cv2 I nv w = m
        · exact Or.inr ⟨q, e⟩
        · exact Or.inl (by omega)
      · omega
    · rintro (z | z)
      · exact Or.inl (by omega)
      · exact Or.inl (by omega)
  · have : cv2 I nv w = 1000 := by unfold cv2; rw [if_neg e]
    constructor
    · rintro (z | z)
      · omega
      · omega
    · rintro (z | z)
      · omega
      · omega
theorem Sp_add (hk : k < nv) (hc : pcn (I 7 k) = m) : ∀ w, Sp I nv m (k + 1) w = (Sp I nv m k w || decide (w = k)) := fun w => by
  unfold Sp
  by_cases e : w = k
  · subst e
    have : cv2 I nv w = m := by unfold cv2; rw [if_pos hk]; exact hc
    simp [this]
  · have e1 : (w < k + 1) ↔ w < k := by omega
    simp [e, e1]
theorem Sp_k (hk : k < nv) (hc : pcn (I 7 k) = m) : Sp I nv m k k = false := by
  unfold Sp
  have : cv2 I nv k = m := by unfold cv2; rw [if_pos hk]; exact hc
  simp [this]
theorem AI.pl_lt (h : AI I I' D nv nr m k pl ord st) (hk : k < nv) (hc : pcn (I 7 k) = m) : pl < nv := by
  have := cnt_lt (P := Sp I nv m k) (P' := fun _ => true) (q := k) (fun _ _ => rfl) rfl (Sp_k hk hc) nv hk
  rw [cnt_true] at this
  rw [h.2.2.1]; exact this
theorem Rr_add (hW : DW D nv nr ns) (hk : k < nv) (hc : pcn (I 7 k) = m) : cntB (Rr D (Sp I nv m (k + 1))) nr = cntB (Rr D (Sp I nv m k)) nr + cntB (kvB D (nI k)) nr := by
  have hn := hW.nv
  have aim : ∀ r, r < nr → D 60 r ≤ 3 → (decide ((D 61 r).toNatClampNeg = k) = decide (D 61 r = nI k)) := fun r hr h3 => by
    obtain ⟨a, a1, a2⟩ := hW.aim hr (DA.rf (I := D)) h3
    rw [a2, nI_clamp (by omega)]
    by_cases e : a = k
    · rw [decide_eq_true e, decide_eq_true (by rw [e])]
    · rw [decide_eq_false e, decide_eq_false (fun z => e ((nI_eq (by omega) (by omega)).mp z))]
  have e1 : cntB (Rr D (Sp I nv m (k + 1))) nr = cntB (fun r => Rr D (Sp I nv m k) r || (decide (D 60 r ≤ 3) && decide ((D 61 r).toNatClampNeg = k))) nr := cnt_cg nr (fun r _ => by
    unfold Rr
    rw [Sp_add hk hc]
    cases decide (D 60 r ≤ 3) <;> rfl)
  have e2 : cntB (fun r => decide (D 60 r ≤ 3) && decide ((D 61 r).toNatClampNeg = k)) nr = cntB (kvB D (nI k)) nr := cnt_cg nr (fun r hr => by
    unfold kvB
    by_cases h3 : D 60 r ≤ 3
    · rw [decide_eq_true h3, aim r hr h3]
    · rw [decide_eq_false h3, Bool.false_and, Bool.false_and])
  rw [e1, cnt_or (P := Rr D (Sp I nv m k)) (P' := fun r => decide (D 60 r ≤ 3) && decide ((D 61 r).toNatClampNeg = k)) (fun r => rfl) (fun r hr => by
    cases hq : decide ((D 61 r).toNatClampNeg = k) with
    | false => rw [Bool.and_false]
    | true =>
      unfold Rr at hr
      rw [of_decide_eq_true hq, Sp_k hk hc, Bool.and_false] at hr; cases hr), e2]
theorem AI.yes (hW : DW D nv nr ns) (hA : AC D nv nr) (hN : NT I D nv nr 0) (h : AI I I' D nv nr m k pl ord st) (hk : k < nv) (hc : pcn (I 7 k) = m) (hP : PLN (up2 I' 29 pl (nI k)) I2 D k (st pl) nr) :
    AI I (up2 I2 31 (pl + 1) (nI (st pl + cntB (kvB D (nI k)) nr))) D nv nr m (k + 1) (pl + 1) (fun p => if p = pl then k else ord p) (fun p => if p = pl + 1 then st pl + cntB (kvB D (nI k)) nr else st p) := by
  have hn := hW.nv
  have hlt := h.pl_lt hk hc
  obtain ⟨h1, h2, h3, h4, h5, h6, h7, h8⟩ := h
  have r29 : ∀ j, I2 29 j = up2 I' 29 pl (nI k) 29 j := fun j => by rw [hP.1 29 (by decide)]
  have r31 : I2 31 = I' 31 := by rw [hP.1 31 (by decide), up2_o (by decide)]
  have hst2 : st pl + cntB (kvB D (nI k)) nr = cntB (Rr D (Sp I nv m (k + 1))) nr := by rw [h4, Rr_add hW hk hc]
  refine ⟨fun a b1 b2 b3 => ?_, ?_, ?_, ?_, ?_, fun p hp => ?_, fun v hv hs => ?_, fun p hp => ?_⟩
  · rw [up2_o b3, hP.1 a b2, up2_o b1]; exact h1 a b1 b2 b3
  · simp [h2]
  · rw [cntB_add (p := Sp I nv m k) (v := k) (fun i => Sp_add hk hc i) (Sp_k hk hc) nv, if_pos hk, ← h3]
  · simp only [if_true]; exact hst2
  · simp [up2_s]
  · by_cases e : p = pl
    · subst e
      refine ⟨?_, ?_, ?_, ?_, ?_, ?_, ?_, ?_, ?_⟩
      · simp [hk]
      · simp only [if_true]; rw [up2_d (by decide), r29, up2_s]
      · simp only [show ¬ p = p + 1 by omega, if_false]; rw [up2_e (by omega), r31]; exact h5
      · simp [up2_s]
      · simp
      · simp only [if_true]; rw [hst2]; have := cntB_le (Rr D (Sp I nv m (k + 1))) nr; have := hW.nr; omega
      · intro r hr hb
        simp only [if_true] at hb ⊢
        simp only [show ¬ p = p + 1 by omega, if_false]
        rw [up2_d (by decide)]
        exact hP.2.2 r hr hb
      · intro u hu hb
        simp only [if_true] at hb
        have hd := hN.dec hW hA hk hu hb
        have hs : Sp I nv m k u = true := by
          unfold Sp
          apply decide_eq_true
          left
          unfold cv2
          rw [if_pos hu]; omega
        obtain ⟨q, q1, q2⟩ := h7 u hu hs
        exact ⟨q, q1, by simp only [show ¬ q = p by omega, if_false]; exact q2⟩
      · intro q hq
        simp only [show ¬ q = p by omega, if_false, if_true]
        intro z
        have := h8 q hq
        rw [z, Sp_k hk hc] at this; cases this
    · have hpp : p < pl := by omega
      obtain ⟨a1, a2, a3, a4, a5, a6, a7, a8, a9⟩ := h6 p hpp
      refine ⟨?_, ?_, ?_, ?_, ?_, ?_, ?_, ?_, ?_⟩
      · simp only [e, if_false]; exact a1
      · simp only [e, if_false]; rw [up2_d (by decide), r29, up2_e e]; exact a2
      · simp only [show ¬ p = pl + 1 by omega, if_false]; rw [up2_e (by omega), r31]; exact a3
      · simp only [show ¬ p + 1 = pl + 1 by omega, if_false]; rw [up2_e (by omega), r31]; exact a4
      · simp only [show ¬ p + 1 = pl + 1 by omega, show ¬ p = pl + 1 by omega, e, if_false]; exact a5
      · simp only [show ¬ p + 1 = pl + 1 by omega, if_false]; exact a6
      · intro r hr hb
        simp only [e, if_false] at hb ⊢
        simp only [show ¬ p = pl + 1 by omega, if_false]
        have hle : st p + cntB (kvB D (nI (ord p))) r < st pl := by
          have c1 := cnt_s1 hb
          have c2 := cnt_mono (P := kvB D (nI (ord p))) (show r + 1 ≤ nr by omega)
          have mono : ∀ j, p + 1 ≤ j → j ≤ pl → st (p + 1) ≤ st j := by
            intro j
            induction j with
            | zero => intro z; omega
            | succ j ih =>
              intro z1 z2
              by_cases ej : p + 1 = j + 1
              · rw [ej]; exact Nat.le_refl _
              · have i1 := ih (by omega) (by omega)
                have i2 := (h6 j (by omega)).2.2.2.2.1
                omega
          have := mono pl (by omega) (Nat.le_refl _)
          omega
        rw [up2_d (by decide), hP.2.1 _ hle, up2_d (by decide)]
        exact a7 r hr hb
      · intro u hu hb
        simp only [e, if_false] at hb
        obtain ⟨q, q1, q2⟩ := a8 u hu hb
        exact ⟨q, q1, by simp only [show ¬ q = pl by omega, if_false]; exact q2⟩
      · intro q hq
        simp only [show ¬ q = pl by omega, e, if_false]
        exact a9 q hq
  · rw [Sp_add hk hc, Bool.or_eq_true] at hs
    rcases hs with z | z
    · obtain ⟨p, p1, p2⟩ := h7 v hv z
      exact ⟨p, by omega, by simp only [show ¬ p = pl by omega, if_false]; exact p2⟩
    · exact ⟨pl, by omega, by simp only [if_true]; exact (of_decide_eq_true z).symm⟩
  · rw [Sp_add hk hc]
    by_cases e : p = pl
    · simp [e]
    · simp only [e, if_false]; rw [h8 p (by omega)]; rfl
theorem AI.fin (hW : DW D nv nr ns) (hA : AC D nv nr) (hN : NT I D nv nr 0) (h : AI I I' D nv nr nv 0 pl ord st) : AR I' D nv nr ord st ∧ I' 31 0 = 0 := by
  obtain ⟨h1, h2, h3, h4, h5, h6, h7, h8⟩ := h
  have h0 : I' 31 0 = 0 := by
    rcases Nat.eq_zero_or_pos pl with z | z
    · rw [z, h2] at h5; exact h5
    · have := (h6 0 z).2.2.1; rw [h2] at this; exact this
  have hs : ∀ v, v < nv → Sp I nv nv 0 v = true := fun v hv => by
    unfold Sp
    apply decide_eq_true
    left
    unfold cv2
    rw [if_pos hv]; exact hN.lt hW hA hv
  have e : pl = nv := by rw [h3]; exact cnt_all nv hs
  subst e
  exact ⟨⟨h2, h6, fun v hv => h7 v hv (hs v hv)⟩, h0⟩
end AI
theorem c_J6_bitCount_0f7a4 {N : Nat} {S : Nat → Nat × Nat} {I : Nat → Nat → Int32} {J : Nat → Nat → Int64} {Q : Nat → Nat → Option Nat} {κ : Option Value → HP → Prop} {m : Nat} (hm : m < 1024) (hk : κ (some (.int (nI (pcn (nI m))))) (N, S, I, J, Q)) : CT E1 M_J6_bitCount_0f7a4 [.int (nI m)] (N, S, I, J, Q) κ := by
  refine ofSP mk_J6_bitCount_0f7a4 (Nat.le_of_ble_eq_true rfl) (L := [.int _]) rfl ?_
  refine s_iload_n (pc' := 1) dJ6_bitCount_0f7a4_0 rfl rfl ?_
  refine s_iload_n (pc' := 2) dJ6_bitCount_0f7a4_1 rfl rfl ?_
  refine s_iconst (pc' := 3) (v := 1) dJ6_bitCount_0f7a4_2 rfl (by decide) ?_
  refine s_iushr (pc' := 4) dJ6_bitCount_0f7a4_3 rfl ?_
  refine s_ldcw (pc' := 7) dJ6_bitCount_0f7a4_4 rfl ki_J6_265 ?_
  refine s_iand (pc' := 8) dJ6_bitCount_0f7a4_7 rfl ?_
  refine s_isub (pc' := 9) dJ6_bitCount_0f7a4_8 rfl ?_
  refine t_istore_n (pc' := 10) (L' := [.int _]) dJ6_bitCount_0f7a4_9 rfl (Nat.le_of_ble_eq_true rfl) rfl ?_
  refine s_iload_n (pc' := 11) dJ6_bitCount_0f7a4_10 rfl rfl ?_
  refine s_ldcw (pc' := 14) dJ6_bitCount_0f7a4_11 rfl ki_J6_266 ?_
  refine s_iand (pc' := 15) dJ6_bitCount_0f7a4_14 rfl ?_
  refine s_iload_n (pc' := 16) dJ6_bitCount_0f7a4_15 rfl rfl ?_
  refine s_iconst (pc' := 17) (v := 2) dJ6_bitCount_0f7a4_16 rfl (by decide) ?_
  refine s_iushr (pc' := 18) dJ6_bitCount_0f7a4_17 rfl ?_
  refine s_ldcw (pc' := 21) dJ6_bitCount_0f7a4_18 rfl ki_J6_266 ?_
  refine s_iand (pc' := 22) dJ6_bitCount_0f7a4_21 rfl ?_
  refine s_iadd (pc' := 23) dJ6_bitCount_0f7a4_22 rfl ?_
  refine t_istore_n (pc' := 24) (L' := [.int _]) dJ6_bitCount_0f7a4_23 rfl (Nat.le_of_ble_eq_true rfl) rfl ?_
  refine s_iload_n (pc' := 25) dJ6_bitCount_0f7a4_24 rfl rfl ?_
  refine s_iload_n (pc' := 26) dJ6_bitCount_0f7a4_25 rfl rfl ?_
  refine s_iconst (pc' := 27) (v := 4) dJ6_bitCount_0f7a4_26 rfl (by decide) ?_
  refine s_iushr (pc' := 28) dJ6_bitCount_0f7a4_27 rfl ?_
  refine s_iadd (pc' := 29) dJ6_bitCount_0f7a4_28 rfl ?_
  refine s_ldcw (pc' := 32) dJ6_bitCount_0f7a4_29 rfl ki_J6_267 ?_
  refine s_iand (pc' := 33) dJ6_bitCount_0f7a4_32 rfl ?_
  refine t_istore_n (pc' := 34) (L' := [.int _]) dJ6_bitCount_0f7a4_33 rfl (Nat.le_of_ble_eq_true rfl) rfl ?_
  refine s_iload_n (pc' := 35) dJ6_bitCount_0f7a4_34 rfl rfl ?_
  refine s_iload_n (pc' := 36) dJ6_bitCount_0f7a4_35 rfl rfl ?_
  refine s_bipush (pc' := 38) (v := 8) dJ6_bitCount_0f7a4_36 rfl (by decide) ?_
  refine s_iushr (pc' := 39) dJ6_bitCount_0f7a4_38 rfl ?_
  refine s_iadd (pc' := 40) dJ6_bitCount_0f7a4_39 rfl ?_
  refine t_istore_n (pc' := 41) (L' := [.int _]) dJ6_bitCount_0f7a4_40 rfl (Nat.le_of_ble_eq_true rfl) rfl ?_
  refine s_iload_n (pc' := 42) dJ6_bitCount_0f7a4_41 rfl rfl ?_
  refine s_iload_n (pc' := 43) dJ6_bitCount_0f7a4_42 rfl rfl ?_
  refine s_bipush (pc' := 45) (v := 16) dJ6_bitCount_0f7a4_43 rfl (by decide) ?_
  refine s_iushr (pc' := 46) dJ6_bitCount_0f7a4_45 rfl ?_
  refine s_iadd (pc' := 47) dJ6_bitCount_0f7a4_46 rfl ?_
  refine t_istore_n (pc' := 48) (L' := [.int _]) dJ6_bitCount_0f7a4_47 rfl (Nat.le_of_ble_eq_true rfl) rfl ?_
  refine s_iload_n (pc' := 49) dJ6_bitCount_0f7a4_48 rfl rfl ?_
  refine s_bipush (pc' := 51) (v := 63) dJ6_bitCount_0f7a4_49 rfl (by decide) ?_
  refine s_iand (pc' := 52) dJ6_bitCount_0f7a4_51 rfl ?_
  exact s_iret dJ6_bitCount_0f7a4_52 rfl (by decide) (by decide) ((congrArg (fun z => κ (some (.int z)) (N, S, I, J, Q)) (bcF_ok m hm)).mpr hk)
theorem l_X5_arrange1 {N : Nat} {S : Nat → Nat × Nat} {I : Nat → Nat → Int32} {J : Nat → Nat → Int64} {Q : Nat → Nat → Option Nat} {κ : Option Value → HP → Prop} {D : Nat → Nat → Int32} {nv nr ns : Nat} {ad td : Nat → Nat} (X : XS N S I Q D nv nr ns ad td 0) (hW : DW D nv nr ns) (hA : AC D nv nr) (hN : NT I D nv nr 0) {m : Nat} (hm : m < nv) (hk : ∀ I' pl ord st, AI I I' D nv nr m nv pl ord st → SP E1 M_X5_arrange κ 76 [.ref 24, .ref 1, .int (nI pl), .int (nI (st pl)), .int (nI m), .retAddr 0] [] (N, S, I', J, Q) 0 0) : ∀ d : Nat, ∀ k I' pl ord st, k + d = nv → AI I I' D nv nr m k pl ord st → SP E1 M_X5_arrange κ 19 [.ref 24, .ref 1, .int (nI pl), .int (nI (st pl)), .int (nI m), .int (nI k)] [] (N, S, I', J, Q) 0 0 := by
  intro d
  induction d with
  | zero =>
    intro k I' pl ord st hd hP
    have hn10 := hW.nv
    have hn30 := hW.nr
    have e1 : I' 1 = I 1 := hP.1 1 (by decide) (by decide) (by decide)
    have e7 : I' 7 = I 7 := hP.1 7 (by decide) (by decide) (by decide)
    obtain rfl : k = nv := by omega
    refine s_iload (pc' := 21) dX5_arrange_19 rfl rfl ?_
    refine s_aload_n (pc' := 22) dX5_arrange_21 rfl rfl ?_
    refine t_getI (pc' := 25) dX5_arrange_22 rfl sh_1 (by decide) fa_X5_62_8 rfl ?_
    refine s_icmpgeT (tgt := 76) dX5_arrange_25 (by decide) (by rw [e1, X.xv]; exact nI_le (Nat.le_refl _) (by omega)) ?_
    exact s_fg [5] rfl (hk I' pl ord st hP)
  | succ d ih =>
    intro k I' pl ord st hd hP
    have hn10 := hW.nv
    have hn30 := hW.nr
    have e1 : I' 1 = I 1 := hP.1 1 (by decide) (by decide) (by decide)
    have e7 : I' 7 = I 7 := hP.1 7 (by decide) (by decide) (by decide)
    have hk2 : k < nv := by omega
    refine s_iload (pc' := 21) dX5_arrange_19 rfl rfl ?_
    refine s_aload_n (pc' := 22) dX5_arrange_21 rfl rfl ?_
    refine t_getI (pc' := 25) dX5_arrange_22 rfl sh_1 (by decide) fa_X5_62_8 rfl ?_
    refine s_icmpgeF (pc' := 28) (tgt := 76) dX5_arrange_25 (by decide) rfl (by rw [e1, X.xv]; exact nI_ge (by omega) (by omega)) ?_
    refine s_aload_n (pc' := 29) dX5_arrange_28 rfl rfl ?_
    refine s_getS (pc' := 32) (b := 7) dX5_arrange_29 rfl (by decide) rfl (by decide) fa_X5_67_8 rfl rfl ?_
    refine s_iload (pc' := 34) dX5_arrange_32 rfl rfl ?_
    refine t_iald (pc' := 35) dX5_arrange_34 rfl sh_7 rfl (by omega) ?_
    obtain ⟨m1, hm1, em1⟩ := hN.sm hW hk2
    rw [e7, em1]
    refine s_callS (pc' := 38) (As := [.int _]) dX5_arrange_35 rfl mk_J6_bitCount_0f7a4 ml_X5_70 sm_J6_bitCount_0f7a4 rfl rfl ⟨Nat.le_of_ble_eq_true rfl, Nat.le_of_ble_eq_true rfl, Nat.le_of_ble_eq_true rfl, Nat.le_of_ble_eq_true rfl⟩ (Nat.le_of_ble_eq_true rfl) (c_J6_bitCount_0f7a4 hm1 ?_)
    refine s_iload (pc' := 40) dX5_arrange_38 rfl rfl ?_
    refine s_icmpne (pc' := 43) (tgt := 70) dX5_arrange_40 (by decide) rfl (fun c40 => ?_) (fun c40 => ?_)
    · refine t_iinc (pc' := 73) (v := nI (k + 1)) (L' := [.ref 24, .ref 1, .int _, .int _, .int _, .int _]) dX5_arrange_70 rfl rfl (nI_inc k) rfl ?_
      refine s_goto (tgt := 19) dX5_arrange_73 (by decide) ?_
      exact ih (k + 1) I' pl ord st (by omega) (hP.no hk2 (fun z => c40 (by rw [← em1, z])))
    · have hc : pcn (I 7 k) = m := by rw [em1]; have hb : pcn (nI m1) ≤ 10 := cntB_le _ _; exact (nI_eq (by omega) (by omega)).mp (by simpa using c40)
      refine s_aload_n (pc' := 44) dX5_arrange_43 rfl rfl ?_
      refine s_getS (pc' := 47) (b := 29) dX5_arrange_44 rfl (by decide) rfl (by decide) fa_X5_35_5 rfl rfl ?_
      refine s_iload_n (pc' := 48) dX5_arrange_47 rfl rfl ?_
      refine s_iload (pc' := 50) dX5_arrange_48 rfl rfl ?_
      refine t_iast (pc' := 51) dX5_arrange_50 rfl sh_29 rfl (by have := hP.pl_lt hk2 hc; omega) ?_
      refine t_iinc (pc' := 54) (v := nI (pl + 1)) (L' := [.ref 24, .ref 1, .int _, .int _, .int _, .int _]) dX5_arrange_51 rfl rfl (nI_inc pl) rfl ?_
      refine s_aload_n (pc' := 55) dX5_arrange_54 rfl rfl ?_
      refine s_aload_n (pc' := 56) dX5_arrange_55 rfl rfl ?_
      refine s_iload (pc' := 58) dX5_arrange_56 rfl rfl ?_
      refine s_iload_n (pc' := 59) dX5_arrange_58 rfl rfl ?_
      refine s_callV (pc' := 62) (As := [.ref 1, .int _, .int _]) dX5_arrange_59 rfl mk_X5_plannedWith ml_X5_76 im_X5_plannedWith se_X5_X5_X5_plannedWith sh_24 (by decide) rfl rfl rfl ⟨Nat.le_of_ble_eq_true rfl, Nat.le_of_ble_eq_true rfl, Nat.le_of_ble_eq_true rfl, Nat.le_of_ble_eq_true rfl⟩ (Nat.le_of_ble_eq_true rfl) (c_X5_plannedWith (X.pl (I' := up2 I' 29 pl (nI k)) (fun a ha => by rw [up2_o (by omega)]; exact hP.1 a (by omega) (by omega) (by omega))) hW (v := k) (s := st pl) (by omega) (by have := cntB_le (Rr D (Sp I nv m (k + 1))) nr; have := Rr_add hW hk2 hc; have := hP.2.2.2.1; omega) (fun I2 hL => ?_))
      refine t_istore_n (pc' := 63) (L' := [.ref 24, .ref 1, .int _, .int _, .int _, .int _]) dX5_arrange_62 rfl (Nat.le_of_ble_eq_true rfl) rfl ?_
      refine s_aload_n (pc' := 64) dX5_arrange_63 rfl rfl ?_
      refine s_getS (pc' := 67) (b := 31) dX5_arrange_64 rfl (by decide) rfl (by decide) fa_X5_41_5 rfl rfl ?_
      refine s_iload_n (pc' := 68) dX5_arrange_67 rfl rfl ?_
      refine s_iload_n (pc' := 69) dX5_arrange_68 rfl rfl ?_
      refine t_iast (pc' := 70) (q := pl + 1) dX5_arrange_69 rfl sh_31 rfl (by have := hP.pl_lt hk2 hc; omega) ?_
      refine t_iinc (pc' := 73) (v := nI (k + 1)) (L' := [.ref 24, .ref 1, .int _, .int _, .int _, .int _]) dX5_arrange_70 rfl rfl (nI_inc k) rfl ?_
      refine s_goto (tgt := 19) dX5_arrange_73 (by decide) ?_
      refine s_eq ?_ rfl rfl (ih (k + 1) _ (pl + 1) _ _ (by omega) (hP.yes hW hA hN hk2 hc hL))
      simp
theorem l_X5_arrange2 {N : Nat} {S : Nat → Nat × Nat} {I : Nat → Nat → Int32} {J : Nat → Nat → Int64} {Q : Nat → Nat → Option Nat} {κ : Option Value → HP → Prop} {D : Nat → Nat → Int32} {nv nr ns : Nat} {ad td : Nat → Nat} (X : XS N S I Q D nv nr ns ad td 0) (hW : DW D nv nr ns) (hA : AC D nv nr) (hN : NT I D nv nr 0) (hk : ∀ I' ord st, (∀ a, a ≠ 29 → a ≠ 30 → a ≠ 31 → I' a = I a) → AR I' D nv nr ord st → I' 31 0 = 0 → κ none (N, S, I', J, Q)) : ∀ d : Nat, ∀ m I' pl ord st, m + d = nv → AI I I' D nv nr m 0 pl ord st → SP E1 M_X5_arrange κ 7 [.ref 24, .ref 1, .int (nI pl), .int (nI (st pl)), .int (nI m), .retAddr 0] [] (N, S, I', J, Q) 0 0 := by
  intro d
  induction d with
  | zero =>
    intro m I' pl ord st hd hP
    have hn10 := hW.nv
    have hn30 := hW.nr
    have e1 : I' 1 = I 1 := hP.1 1 (by decide) (by decide) (by decide)
    have e7 : I' 7 = I 7 := hP.1 7 (by decide) (by decide) (by decide)
    obtain rfl : m = nv := by omega
    refine s_iload (pc' := 9) dX5_arrange_7 rfl rfl ?_
    refine s_aload_n (pc' := 10) dX5_arrange_9 rfl rfl ?_
    refine t_getI (pc' := 13) dX5_arrange_10 rfl sh_1 (by decide) fa_X5_62_8 rfl ?_
    refine s_icmpgeT (tgt := 82) dX5_arrange_13 (by decide) (by rw [e1, X.xv]; exact nI_le (Nat.le_refl _) (by omega)) ?_
    exact s_vret dX5_arrange_82 rfl (by decide) (by decide) (hk I' ord st hP.1 (hP.fin hW hA hN).1 (hP.fin hW hA hN).2)
  | succ d ih =>
    intro m I' pl ord st hd hP
    have hn10 := hW.nv
    have hn30 := hW.nr
    have e1 : I' 1 = I 1 := hP.1 1 (by decide) (by decide) (by decide)
    have e7 : I' 7 = I 7 := hP.1 7 (by decide) (by decide) (by decide)
    refine s_iload (pc' := 9) dX5_arrange_7 rfl rfl ?_
    refine s_aload_n (pc' := 10) dX5_arrange_9 rfl rfl ?_
    refine t_getI (pc' := 13) dX5_arrange_10 rfl sh_1 (by decide) fa_X5_62_8 rfl ?_
    refine s_icmpgeF (pc' := 16) (tgt := 82) dX5_arrange_13 (by decide) rfl (by rw [e1, X.xv]; exact nI_ge (by omega) (by omega)) ?_
    refine s_iconst (pc' := 17) (v := 0) dX5_arrange_16 rfl (by decide) ?_
    refine t_istore (pc' := 19) (L' := [.ref 24, .ref 1, .int _, .int _, .int _, .int _]) dX5_arrange_17 rfl (Nat.le_of_ble_eq_true rfl) rfl ?_
    refine l_X5_arrange1 X hW hA hN (m := m) (by omega) (fun I2 pl2 ord2 st2 h2 => ?_) nv 0 I' pl ord st (by omega) hP
    refine t_iinc (pc' := 79) (v := nI (m + 1)) (L' := [.ref 24, .ref 1, .int _, .int _, .int _, .retAddr _]) dX5_arrange_76 rfl rfl (nI_inc m) rfl ?_
    refine s_goto (tgt := 7) dX5_arrange_79 (by decide) ?_
    exact ih (m + 1) I2 pl2 ord2 st2 (by omega) (h2.next (by omega))
theorem c_X5_arrange {N : Nat} {S : Nat → Nat × Nat} {I : Nat → Nat → Int32} {J : Nat → Nat → Int64} {Q : Nat → Nat → Option Nat} {κ : Option Value → HP → Prop} {D : Nat → Nat → Int32} {nv nr ns : Nat} {ad td : Nat → Nat} (X : XS N S I Q D nv nr ns ad td 0) (hW : DW D nv nr ns) (hA : AC D nv nr) (hN : NT I D nv nr 0) (h31 : I 31 0 = 0) (hk : ∀ I' ord st, (∀ a, a ≠ 29 → a ≠ 30 → a ≠ 31 → I' a = I a) → AR I' D nv nr ord st → I' 31 0 = 0 → κ none (N, S, I', J, Q)) : CT E1 M_X5_arrange [.ref 24, .ref 1] (N, S, I, J, Q) κ := by
  refine ofSP mk_X5_arrange (Nat.le_of_ble_eq_true rfl) (L := [.ref 24, .ref 1, .retAddr _, .retAddr _, .retAddr _, .retAddr _]) rfl ?_
  refine s_iconst (pc' := 1) (v := 0) dX5_arrange_0 rfl (by decide) ?_
  refine t_istore_n (pc' := 2) (L' := [.ref 24, .ref 1, .int _, .retAddr _, .retAddr _, .retAddr _]) dX5_arrange_1 rfl (Nat.le_of_ble_eq_true rfl) rfl ?_
  refine s_iconst (pc' := 3) (v := 0) dX5_arrange_2 rfl (by decide) ?_
  refine t_istore_n (pc' := 4) (L' := [.ref 24, .ref 1, .int _, .int _, .retAddr _, .retAddr _]) dX5_arrange_3 rfl (Nat.le_of_ble_eq_true rfl) rfl ?_
  refine s_iconst (pc' := 5) (v := 0) dX5_arrange_4 rfl (by decide) ?_
  refine t_istore (pc' := 7) (L' := [.ref 24, .ref 1, .int _, .int _, .int _, .retAddr _]) dX5_arrange_5 rfl (Nat.le_of_ble_eq_true rfl) rfl ?_
  refine l_X5_arrange2 X hW hA hN hk nv 0 I 0 (fun _ => 0) (fun _ => 0) (by omega) ⟨fun _ _ _ _ => rfl, rfl, ?_, ?_, h31, fun p hp => by omega, fun v hv hs => ?_, fun p hp => by omega⟩
  · rw [cntB_0 (fun w => by simp [Sp])]
  · rw [cntB_0 (fun w => by simp [Rr, Sp])]
  · simp [Sp] at hs
