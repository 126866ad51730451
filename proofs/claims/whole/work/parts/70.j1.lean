/-! ===== class and model side by side ===== -/
def off (i : Nat) : Nat := if i < 60 then 10 * (i - 55) else if i < 72 then 50 + 30 * (i - 60) else 410 + 10 * (i - 72)
/-- the image, as rows -/
def im (I : Nat → Nat → Int32) : Nat → Nat → Int32 := fun i j => I 76 (off i + j)
def TW (how of : Int32) (nv : Nat) : Prop := hk5 how ∧ ((how = 1 ∨ how = 2) → ∃ o, o < 8 ∧ of = nI o) ∧ (2 < how → ∃ o, o < nv ∧ of = nI o)
def T64 (D : Nat → Nat → Int32) (nr : Nat) : Prop := ∀ r, r < nr → D 60 r ≠ 1 → D 64 r = 0
def SPB (D : Nat → Nat → Int32) (nv n : Nat) : Prop := ∀ v, v < nv → (D 59 v).toInt ≤ 1000 * (n : Int)
/-- what is beside the sheet: status, backs, the test, the ring, the trace, the sheets of numbers -/
def SD (N : Nat) (S : Nat → Nat × Nat) (I : Nat → Nat → Int32) (Q : Nat → Nat → Option Nat) (nv : Nat) : Prop :=
  I 0 5 = I 54 24 ∧ (I 0 4 = I 54 23 ∧ ∃ k, k ≤ 20 ∧ I 54 23 = nI k) ∧ (I 0 3 = I 54 22 ∧ (I 54 22 = 0 ∨ I 54 22 = 1)) ∧ (∃ t, Q 0 7 = some t ∧ TO N S I t (I 54 25) (I 54 26) (I 54 27)) ∧ TW (I 54 25) (I 54 26) nv ∧ (42 < N ∧ S 42 = (9, 0) ∧ I 42 0 = 0) ∧
  (I 0 10 = I 54 31 ∧ ∃ k, k ≤ 10 ∧ I 54 31 = nI k ∧ ∀ i, i < k → I 43 i = I 79 i) ∧ (I 45 0 = I 54 47 ∧ ∃ k, k ≤ 50 ∧ I 54 47 = nI k ∧ ∀ i, i < k → I 45 (i + 1) = I 90 i) ∧
  (∀ s, s < 4 → Q 46 s = some (47 + s) ∧ (∃ so, so ≤ 3 ∧ I 91 s = nI so ∧ I 51 s = nI so - 1) ∧ (∃ z, z ≤ 40 ∧ I 92 s = nI z ∧ I 52 s = nI z) ∧ ∀ i, i < 40 → I (47 + s) i = I 93 (40 * s + i) ∧ inR (I 93 (40 * s + i)) (-1000) 1000)
def IMG (N : Nat) (S : Nat → Nat × Nat) (I : Nat → Nat → Int32) (Q : Nat → Nat → Option Nat) (n : Nat) : Prop :=
  I 54 22 ≠ 0 → ∃ nv nr ns ad td, DW (im I) nv nr ns ∧ AC (im I) nv nr ∧ XS N S I Q (im I) nv nr ns ad td 11 ∧ NT I (im I) nv nr 11 ∧ SPB (im I) nv n ∧ T64 (im I) nr
def QR (N : Nat) (S : Nat → Nat × Nat) (Q : Nat → Nat → Option Nat) (c : Nat) : Prop := ∀ r, r < 30 → Q c r = none ∨ ∃ a k, Q c r = some a ∧ 94 ≤ a ∧ a < N ∧ S a = (kc k, 0)
/-- class and model after n calls -/
def INVd (n N : Nat) (S : Nat → Nat × Nat) (I : Nat → Nat → Int32) (J : Nat → Nat → Int64) (Q : Nat → Nat → Option Nat) (D : Nat → Nat → Int32) (nv nr ns : Nat) (ad td : Nat → Nat) (e : Nat) : Prop :=
  94 ≤ N ∧ DA I D ∧ XB N S I J Q D nv nr ns ad td e ∧ e ≤ n + 1 ∧ (I 54 37 = 0 ∨ LDD I J D nv nr ns) ∧ SPB D nv n ∧ T64 D nr ∧ SD N S I Q nv ∧ IMG N S I Q n ∧ QR N S Q 8 ∧ QR N S Q 19
def INV (n : Nat) (h : HP) : Prop := ∃ D nv nr ns ad td e, INVd n h.1 h.2.1 h.2.2.1 h.2.2.2.1 h.2.2.2.2 D nv nr ns ad td e
/-- what the model's call is owed: it answers v, and all stands side by side again -/
def JM (M : MD) (as : List Value) (n : Nat) (v : Value) (h : HP) : Prop := ∀ κ2 : Option Value → HP → Prop, (∀ h2, INV (n + 1) h2 → κ2 (some v) h2) → CT E1 M as h κ2
section IV
variable {n N : Nat} {S : Nat → Nat × Nat} {I I' I2 : Nat → Nat → Int32} {J J' J2 : Nat → Nat → Int64} {Q Q' : Nat → Nat → Option Nat} {D : Nat → Nat → Int32} {nv nr ns : Nat} {ad td : Nat → Nat} {e : Nat}
theorem SPB.up (h : SPB D nv n) : SPB D nv (n + 1) := fun v hv => by have := h v hv; omega
theorem SD.mv (h : SD N S I Q nv) (h0 : I' 0 = I 0) (h1 : ∀ a, 42 ≤ a → a ≤ 52 → a ≠ 44 → I' a = I a) (h2 : I' 79 = I 79) (h3 : ∀ a, 90 ≤ a → I' a = I a) (h4 : ∀ j, (22 ≤ j ∧ j ≤ 27) ∨ j = 31 ∨ j = 47 → I' 54 j = I 54 j) (q0 : Q' 0 = Q 0) (q1 : Q' 46 = Q 46) : SD N S I' Q' nv := by
  obtain ⟨a1, a2, a3, ⟨t, a4, a5⟩, a6, a7, a8, a9, a10⟩ := h
  have f22 := h4 22 (by decide); have f23 := h4 23 (by decide); have f24 := h4 24 (by decide); have f25 := h4 25 (by decide); have f26 := h4 26 (by decide); have f27 := h4 27 (by decide); have f31 := h4 31 (by decide); have f47 := h4 47 (by decide)
  unfold SD
  rw [h0, f22, f23, f24, f25, f26, f27, f31, f47, q0, q1, h2, h1 42 (by decide) (by decide) (by decide), h1 43 (by decide) (by decide) (by decide), h1 45 (by decide) (by decide) (by decide), h1 51 (by decide) (by decide) (by decide), h1 52 (by decide) (by decide) (by decide), h3 90 (by decide), h3 91 (by decide), h3 92 (by decide), h3 93 (by decide)]
  refine ⟨a1, a2, a3, ⟨t, a4, a5.mv (fun a ha => ?_)⟩, a6, a7, a8, a9, fun s hs => ?_⟩
  · rcases ha with z | z
    · rw [z]; exact h1 42 (by decide) (by decide) (by decide)
    · exact h3 a (by omega)
  · rw [h1 (47 + s) (by omega) (by omega) (by omega)]; exact a10 s hs
theorem SD.gv {nv' : Nat} (h : SD N S I Q nv) (hn : nv ≤ nv') : SD N S I Q nv' := by
  obtain ⟨a1, a2, a3, a4, ⟨b1, b2, b3⟩, a7⟩ := h
  exact ⟨a1, a2, a3, a4, ⟨b1, b2, fun z => by obtain ⟨o, o1, o2⟩ := b3 z; exact ⟨o, by omega, o2⟩⟩, a7⟩
theorem IMG.mv (h : IMG N S I Q n) (h0 : ∀ a, 13 ≤ a + 1 → a ≤ 22 → I' a = I a) (h1 : I' 76 = I 76) (h2 : I' 54 22 = I 54 22) (h3 : ∀ a, (a = 42 ∨ 94 ≤ a) → I' a = I a) (q0 : Q' 19 = Q 19) (q1 : ∀ a, 94 ≤ a → Q' a = Q a) : IMG N S I' Q' n := by
  intro hz
  rw [h2] at hz
  obtain ⟨nv, nr, ns, ad, td, b1, b2, b3, b4, b5, b6⟩ := h hz
  have e : im I' = im I := by unfold im; rw [h1]
  rw [e]
  exact ⟨nv, nr, ns, ad, td, b1, b2, b3.mv (fun a a1 a2 _ => h0 a (by omega) (by omega)) q0 h3 q1, fun v hv u => by rw [h0 (11 + 7) (by omega) (by omega)]; exact b4 v hv u, b5, b6⟩
theorem IMG.up (h : IMG N S I Q n) : IMG N S I Q (n + 1) := fun hz => by
  obtain ⟨nv, nr, ns, ad, td, b1, b2, b3, b4, b5, b6⟩ := h hz
  exact ⟨nv, nr, ns, ad, td, b1, b2, b3, b4, b5.up, b6⟩
theorem LDD.mv (h : LDD I J D nv nr ns) (h1 : I' 81 = I 81) (h2 : I' 82 = I 82) (h3 : I' 83 = I 83) (h4 : J' 80 = J 80) : LDD I' J' D nv nr ns := fun b hb => by
  obtain ⟨⟨q1, q2, q3⟩, q4⟩ := h b hb
  have eg : gM J' b = gM J b := by unfold gM; rw [h4]
  exact ⟨⟨by rw [h1]; exact q1, by rw [eg]; exact q2, by rw [h2, eg]; exact q3⟩, by rw [h3, h2]; exact q4⟩
/-- the model's changes leave the class -/
theorem XB.md (h : XB N S I J Q D nv nr ns ad td e) (h1 : ∀ a, (a < 54 ∨ 93 < a) → I' a = I a) (h2 : ∀ a, a < 54 → J' a = J a) : XB N S I' J' Q D nv nr ns ad td e := by
  obtain ⟨x1, x2, x3, x4, ⟨ord, st, x5⟩, x6, k1, k2, k3⟩ := h
  refine ⟨x1.mv (fun a a1 a2 _ => h1 a (by omega)) rfl (fun a ha => h1 a (by omega)) (fun _ _ => rfl), x2, x3, fun v hv u => by rw [h1 (0 + 7) (by omega)]; exact x4 v hv u, ⟨ord, st, x5.mv (h1 29 (by decide)) (h1 30 (by decide)) (h1 31 (by decide))⟩, by rw [h1 31 (by decide)]; exact x6, by rw [h1 23 (by decide)]; exact k1, k2, fun b hb => ?_⟩
  obtain ⟨q1, q2⟩ := k3 b hb
  rw [h1 36 (by decide)]
  refine ⟨q1, fun z => ?_⟩
  obtain ⟨p1, p2⟩ := q2 z
  exact ⟨fun v hv => by unfold gX; rw [h2 38 (by decide)]; exact p1 v hv, fun c hc => by rw [h1 37 (by decide)]; exact p2 c hc⟩
/-- behind the class's question: the model -/
theorem INVd.mod (H : INVd n N S I J Q D nv nr ns ad td e) (w : WQ I I' J J' Q Q') : MOD I' J' D nv nr ns := by
  obtain ⟨-, h2, h3, -, h5, -⟩ := H
  refine ⟨fun i a b => (w.1 i (by omega)).trans (h2 i a b), h3.2.1, h3.2.2.1, ?_⟩
  rw [w.1 54 (by decide)]
  exact h5.imp id (fun L => L.mv (w.1 81 (by decide)) (w.1 82 (by decide)) (w.1 83 (by decide)) (w.2.2.2.2.2.1 80 (by decide)))
/-- a question of the class, then of the model -/
theorem INVd.q (H : INVd n N S I J Q D nv nr ns ad td e) (w : WQ I I' J J' Q Q') (X : XB N S I' J' Q' D nv nr ns ad td e) (m : MQu I' I2 J' J2 D nv nr ns) : INV (n + 1) (N, S, I2, J2, Q') := by
  obtain ⟨h1, h2, h3, h4, h5, h6, h7, h8, h9, h10, h11⟩ := H
  suffices key : INVd (n + 1) N S I2 J2 Q' D nv nr ns ad td e from ⟨D, nv, nr, ns, ad, td, e, key⟩
  refine ⟨h1, fun i a b => (m.1 i (by omega) (by omega) (by omega)).trans ((w.1 i (by omega)).trans (h2 i a b)), X.md (fun a ha => m.1 a (by omega) (by omega) (by omega)) (fun a ha => m.2.2.1 a (by omega) (by omega) (by omega)), by omega, m.2.2.2, h6.up, h7, ?_, ?_, ?_, ?_⟩
  · refine h8.mv ((m.1 0 (by decide) (by decide) (by decide)).trans (w.1 0 (by decide))) (fun a a1 a2 a3 => (m.1 a (by omega) (by omega) (by omega)).trans (w.1 a (by omega))) ((m.1 79 (by decide) (by decide) (by decide)).trans (w.1 79 (by decide))) (fun a ha => (m.1 a (by omega) (by omega) (by omega)).trans (w.1 a (by omega))) (fun j hj => ?_) (w.2.2.2.2.2.2 0 (by decide)) (w.2.2.2.2.2.2 46 (by decide))
    rw [m.2.1 j (by omega) (by omega) (by omega), w.1 54 (by decide)]
  · exact (h9.mv (fun a a1 a2 => (m.1 a (by omega) (by omega) (by omega)).trans (w.1 a (by omega))) ((m.1 76 (by decide) (by decide) (by decide)).trans (w.1 76 (by decide))) (by rw [m.2.1 22 (by decide) (by decide) (by decide), w.1 54 (by decide)]) (fun a ha => (m.1 a (by omega) (by omega) (by omega)).trans (w.1 a (by omega))) (w.2.2.2.2.2.2 19 (by decide)) (fun a ha => w.2.2.2.2.2.2 a (by omega))).up
  · intro r hr; rw [w.2.2.2.2.2.2 8 (by decide)]; exact h10 r hr
  · intro r hr; rw [w.2.2.2.2.2.2 19 (by decide)]; exact h11 r hr
theorem INVd.md (H : INVd n N S I J Q D nv nr ns ad td e) : ∃ md, D 75 3 = nI md ∧ md < 256 := by
  obtain ⟨m, f, s, t, h1, -, -, -, h2, -⟩ := H.2.2.1.2.1.2.2.2.2
  exact ⟨m, h2, h1⟩
theorem WQ.rf : WQ I I J J Q Q := WW.rf.q
theorem INVd.m0 (H : INVd n N S I J Q D nv nr ns ad td e) : MOD I J D nv nr ns := H.mod WQ.rf
end IV
theorem ixe {a b : Nat} (h : nI a = nI b) (ha : a < 1000) (hb : b < 1000) : a = b := (nI_eq (by omega) (by omega)).mp h
theorem sel_eq {x : Int32} {c c' md : Nat} (hc : c < 256) (hc' : c' < 256) (h : (x = -1 ∧ c = md) ∨ (x ≠ -1 ∧ x = nI c)) (h' : (x = -1 ∧ c' = md) ∨ (x ≠ -1 ∧ x = nI c')) : c' = c := by
  rcases h with ⟨a, b⟩ | ⟨a, b⟩
  · rcases h' with ⟨a', b'⟩ | ⟨a', b'⟩
    · omega
    · exact absurd a a'
  · rcases h' with ⟨a', b'⟩ | ⟨a', b'⟩
    · exact absurd a' a
    · exact ixe (b'.symm.trans b) (by omega) (by omega)
theorem sel_bad {x : Int32} {c md : Nat} (hc : c < 256) (h : (x = -1 ∧ c = md) ∨ (x ≠ -1 ∧ x = nI c)) (hb : x ≠ -1 ∧ ∀ j, j < 256 → x ≠ nI j) : False := by
  rcases h with ⟨a, b⟩ | ⟨a, b⟩
  · exact hb.1 a
  · exact hb.2 c hc b
theorem j_number {n : Nat} {h : HP} {κ : Option Value → HP → Prop} {x y : Int32} (H : INV n h) (hk : ∀ v h2, JM M_X12_number [.ref 54, .int x, .int y] n (.long v) h2 → κ (some (.long v)) h2) : CT E1 M_X11_number [.ref 0, .int x, .int y] h κ := by
  obtain ⟨N, S, I, J, Q⟩ := h
  obtain ⟨D, nv, nr, ns, ad, td, e, H⟩ := H
  replace H : INVd n N S I J Q D nv nr ns ad td e := H
  obtain ⟨md, hm, hmd⟩ := H.md
  have X := H.2.2.1
  have M0 := H.m0
  have hn10 := X.2.1.nv
  have hn30 := X.2.1.nr
  refine c_X11_number X hm hmd (fun b => hk _ _ (fun κ2 h2 => ?_)) (fun v c hv ev hc sc I1 J1 Q1 w1 X1 => hk _ _ (fun κ2 h2 => ?_))
  · exact c_X12_number M0 hm hmd (fun _ => h2 _ (H.q WQ.rf X (MQu.rf M0))) (fun v c hv ev hc sc => by
      exfalso
      rcases b with z | z
      · exact z v hv ev
      · exact sel_bad hc sc z)
  · refine c_X12_number (H.mod w1) hm hmd (fun b => ?_) (fun v2 c2 hv2 ev2 hc2 sc2 I2 J2 q2 => ?_)
    · exfalso
      rcases b with z | z
      · exact z v hv ev
      · exact sel_bad hc sc z
    · obtain rfl : v2 = v := ixe (ev2.symm.trans ev) (by omega) (by omega)
      obtain rfl : c2 = c := sel_eq hc hc2 sc sc2
      rw [show gM J2 c2 v2 = gS D nv nr ns c2 v2 from (q2.2.2.2.g X.2.1 X.2.2.1 c2 hc2).1 v2 hv2]
      exact h2 _ (H.q w1 X1 q2.mq)
theorem j_amount {n : Nat} {h : HP} {κ : Option Value → HP → Prop} {x : Int32} (H : INV n h) (hk : ∀ v h2, JM M_X12_amount [.ref 54, .int x] n (.long v) h2 → κ (some (.long v)) h2) : CT E1 M_X11_amount [.ref 0, .int x] h κ := by
  obtain ⟨N, S, I, J, Q⟩ := h
  obtain ⟨D, nv, nr, ns, ad, td, e, H⟩ := H
  replace H : INVd n N S I J Q D nv nr ns ad td e := H
  obtain ⟨md, hm, hmd⟩ := H.md
  have X := H.2.2.1
  have M0 := H.m0
  have hn10 := X.2.1.nv
  have hn30 := X.2.1.nr
  refine c_X11_amount X hm hmd (fun b => hk _ _ (fun κ2 h2 => ?_)) (fun r hr er h3 I1 J1 Q1 w1 X1 => hk _ _ (fun κ2 h2 => ?_))
  · exact c_X12_amount M0 hm hmd (fun _ => h2 _ (H.q WQ.rf X (MQu.rf M0))) (fun r hr er h3 => by
      exfalso
      rcases b with z | ⟨r2, a1, a2, a3⟩
      · exact z r hr er
      · obtain rfl := ixe (a2.symm.trans er) (by omega) (by omega); exact a3 h3)
  · refine c_X12_amount (H.mod w1) hm hmd (fun b => ?_) (fun r2 hr2 er2 h32 I2 J2 q2 => ?_)
    · exfalso
      rcases b with z | ⟨r2, a1, a2, a3⟩
      · exact z r hr er
      · obtain rfl := ixe (a2.symm.trans er) (by omega) (by omega); exact a3 h3
    · obtain rfl : r2 = r := ixe (er2.symm.trans er) (by omega) (by omega)
      rw [amt_gg X.2.1 (q2.gs (H.mod w1) hmd) hr2]
      exact h2 _ (H.q w1 X1 q2.mq)
theorem j_lawful {n : Nat} {h : HP} {κ : Option Value → HP → Prop} {x : Int32} (H : INV n h) (hk : ∀ v h2, JM M_X12_lawful [.ref 54, .int x] n (.int v) h2 → κ (some (.int v)) h2) : CT E1 M_X11_lawful [.ref 0, .int x] h κ := by
  obtain ⟨N, S, I, J, Q⟩ := h
  obtain ⟨D, nv, nr, ns, ad, td, e, H⟩ := H
  replace H : INVd n N S I J Q D nv nr ns ad td e := H
  obtain ⟨md, hm, hmd⟩ := H.md
  have X := H.2.2.1
  have M0 := H.m0
  have hn10 := X.2.1.nv
  have hn30 := X.2.1.nr
  refine c_X11_lawful X hm hmd (fun b => hk _ _ (fun κ2 h2 => ?_)) (fun c hc sc I1 J1 Q1 w1 X1 => hk _ _ (fun κ2 h2 => ?_))
  · exact c_X12_lawful M0 hm hmd (fun _ => h2 _ (H.q WQ.rf X (MQu.rf M0))) (fun c hc sc => (sel_bad hc sc b).elim)
  · refine c_X12_lawful (H.mod w1) hm hmd (fun b => (sel_bad hc sc b).elim) (fun c2 hc2 sc2 I2 J2 m2 => ?_)
    obtain rfl : c2 = c := sel_eq hc hc2 sc sc2
    exact h2 _ (H.q w1 X1 m2)
theorem j_mend {n : Nat} {h : HP} {κ : Option Value → HP → Prop} (H : INV n h) (hk : ∀ v h2, JM M_X12_mend [.ref 54] n (.int v) h2 → κ (some (.int v)) h2) : CT E1 M_X11_mend [.ref 0] h κ := by
  obtain ⟨N, S, I, J, Q⟩ := h
  obtain ⟨D, nv, nr, ns, ad, td, e, H⟩ := H
  replace H : INVd n N S I J Q D nv nr ns ad td e := H
  obtain ⟨md, hm, hmd⟩ := H.md
  have X := H.2.2.1
  have M0 := H.m0
  have hn10 := X.2.1.nv
  have hn30 := X.2.1.nr
  refine c_X11_mend X hm hmd (fun m hM I1 J1 Q1 w1 X1 => hk _ _ (fun κ2 h2 => ?_))
  refine c_X12_mend (H.mod w1) hm hmd (fun m2 hM2 I2 J2 m3 => ?_)
  obtain rfl := hM2.uniq hM
  exact h2 _ (H.q w1 X1 m3)
theorem j_seek {n : Nat} {h : HP} {κ : Option Value → HP → Prop} {x m w0 ls : Int32} (H : INV n h) (hk : ∀ v h2, JM M_X12_seek [.ref 54, .int x, .int m, .int w0, .int ls] n (.int v) h2 → κ (some (.int v)) h2) : CT E1 M_X11_seek [.ref 0, .int x, .int m, .int w0, .int ls] h κ := by
  obtain ⟨N, S, I, J, Q⟩ := h
  obtain ⟨D, nv, nr, ns, ad, td, e, H⟩ := H
  replace H : INVd n N S I J Q D nv nr ns ad td e := H
  obtain ⟨md, hm, hmd⟩ := H.md
  have X := H.2.2.1
  have M0 := H.m0
  have hn10 := X.2.1.nv
  have hn30 := X.2.1.nr
  refine c_X11_seek X hm hmd (fun b => hk _ _ (fun κ2 h2 => ?_)) (fun v mu wi hv hmu hwi ev emu ewi I1 J1 Q1 w1 X1 => hk _ _ (fun κ2 h2 => ?_))
  · exact c_X12_seek M0 hm hmd (fun _ => h2 _ (H.q WQ.rf X (MQu.rf M0))) (fun v mu wi hv hmu hwi ev emu ewi => by
      exfalso
      rcases b with z | z | z
      · exact z v hv ev
      · exact z mu hmu emu
      · exact z wi hwi ewi)
  · refine c_X12_seek (H.mod w1) hm hmd (fun b => ?_) (fun v2 mu2 wi2 hv2 hmu2 hwi2 ev2 emu2 ewi2 I2 J2 m2 => ?_)
    · exfalso
      rcases b with z | z | z
      · exact z v hv ev
      · exact z mu hmu emu
      · exact z wi hwi ewi
    · obtain rfl : v2 = v := ixe (ev2.symm.trans ev) (by omega) (by omega)
      obtain rfl : mu2 = mu := ixe (emu2.symm.trans emu) (by omega) (by omega)
      obtain rfl : wi2 = wi := ixe (ewi2.symm.trans ewi) (by omega) (by omega)
      exact h2 _ (H.q w1 X1 m2)
theorem j_most {n : Nat} {h : HP} {κ : Option Value → HP → Prop} {x m w0 ls : Int32} (H : INV n h) (hk : ∀ v h2, JM M_X12_most [.ref 54, .int x, .int m, .int w0, .int ls] n (.long v) h2 → κ (some (.long v)) h2) : CT E1 M_X11_most [.ref 0, .int x, .int m, .int w0, .int ls] h κ := by
  obtain ⟨N, S, I, J, Q⟩ := h
  obtain ⟨D, nv, nr, ns, ad, td, e, H⟩ := H
  replace H : INVd n N S I J Q D nv nr ns ad td e := H
  obtain ⟨md, hm, hmd⟩ := H.md
  have X := H.2.2.1
  have M0 := H.m0
  have hn10 := X.2.1.nv
  have hn30 := X.2.1.nr
  refine c_X11_most X hm hmd (fun b => hk _ _ (fun κ2 h2 => ?_)) (fun v mu wi hv hmu hwi ev emu ewi hn I1 J1 Q1 w1 X1 => hk _ _ (fun κ2 h2 => ?_)) (fun v mu wi hv hmu hwi ev emu ewi q hq I1 J1 Q1 w1 X1 => hk _ _ (fun κ2 h2 => ?_))
  · exact c_X12_most M0 hm hmd (fun _ => h2 _ (H.q WQ.rf X (MQu.rf M0))) (fun v mu wi hv hmu hwi ev emu ewi => by
      exfalso
      rcases b with z | z | z
      · exact z v hv ev
      · exact z mu hmu emu
      · exact z wi hwi ewi) (fun v mu wi hv hmu hwi ev emu ewi => by
      exfalso
      rcases b with z | z | z
      · exact z v hv ev
      · exact z mu hmu emu
      · exact z wi hwi ewi)
  · refine c_X12_most (H.mod w1) hm hmd (fun b => ?_) (fun v2 mu2 wi2 hv2 hmu2 hwi2 ev2 emu2 ewi2 _ I2 J2 m2 => h2 _ (H.q w1 X1 m2)) (fun v2 mu2 wi2 hv2 hmu2 hwi2 ev2 emu2 ewi2 q hq => ?_)
    · exfalso
      rcases b with z | z | z
      · exact z v hv ev
      · exact z mu hmu emu
      · exact z wi hwi ewi
    · obtain rfl : v2 = v := ixe (ev2.symm.trans ev) (by omega) (by omega)
      obtain rfl : mu2 = mu := ixe (emu2.symm.trans emu) (by omega) (by omega)
      obtain rfl : wi2 = wi := ixe (ewi2.symm.trans ewi) (by omega) (by omega)
      rw [hn] at hq; cases hq
  · refine c_X12_most (H.mod w1) hm hmd (fun b => ?_) (fun v2 mu2 wi2 hv2 hmu2 hwi2 ev2 emu2 ewi2 hn => ?_) (fun v2 mu2 wi2 hv2 hmu2 hwi2 ev2 emu2 ewi2 q2 hq2 I2 J2 m2 => ?_)
    · exfalso
      rcases b with z | z | z
      · exact z v hv ev
      · exact z mu hmu emu
      · exact z wi hwi ewi
    · obtain rfl : v2 = v := ixe (ev2.symm.trans ev) (by omega) (by omega)
      obtain rfl : mu2 = mu := ixe (emu2.symm.trans emu) (by omega) (by omega)
      obtain rfl : wi2 = wi := ixe (ewi2.symm.trans ewi) (by omega) (by omega)
      rw [hn] at hq; cases hq
    · obtain rfl : v2 = v := ixe (ev2.symm.trans ev) (by omega) (by omega)
      obtain rfl : mu2 = mu := ixe (emu2.symm.trans emu) (by omega) (by omega)
      obtain rfl : wi2 = wi := ixe (ewi2.symm.trans ewi) (by omega) (by omega)
      obtain rfl := Option.some.inj (hq2.symm.trans hq)
      exact h2 _ (H.q w1 X1 m2)
theorem j_both {n : Nat} {h : HP} {κ : Option Value → HP → Prop} {x y : Int32} (H : INV n h) (hk : ∀ v h2, JM M_X12_both [.ref 54, .int x, .int y] n (.int v) h2 → κ (some (.int v)) h2) : CT E1 M_X11_both [.ref 0, .int x, .int y] h κ := by
  obtain ⟨N, S, I, J, Q⟩ := h
  obtain ⟨D, nv, nr, ns, ad, td, e, H⟩ := H
  replace H : INVd n N S I J Q D nv nr ns ad td e := H
  obtain ⟨md, hm, hmd⟩ := H.md
  have X := H.2.2.1
  have M0 := H.m0
  have hn10 := X.2.1.nv
  have hn30 := X.2.1.nr
  refine c_X11_both X hm hmd (fun b => hk _ _ (fun κ2 h2 => ?_)) (fun v w hv hw ev ew I1 J1 Q1 w1 X1 => hk _ _ (fun κ2 h2 => ?_))
  · exact c_X12_both M0 hm hmd (fun _ => h2 _ (H.q WQ.rf X (MQu.rf M0))) (fun v w hv hw ev ew => by
      exfalso
      rcases b with z | z
      · exact z v hv ev
      · exact z w hw ew)
  · refine c_X12_both (H.mod w1) hm hmd (fun b => ?_) (fun v2 w2 hv2 hw2 ev2 ew2 I2 J2 m2 => ?_)
    · exfalso
      rcases b with z | z
      · exact z v hv ev
      · exact z w hw ew
    · obtain rfl : v2 = v := ixe (ev2.symm.trans ev) (by omega) (by omega)
      obtain rfl : w2 = w := ixe (ew2.symm.trans ew) (by omega) (by omega)
      exact h2 _ (H.q w1 X1 m2)
theorem j_needs {n : Nat} {h : HP} {κ : Option Value → HP → Prop} {x y : Int32} (H : INV n h) (hk : ∀ v h2, JM M_X12_needs [.ref 54, .int x, .int y] n (.int v) h2 → κ (some (.int v)) h2) : CT E1 M_X11_needs [.ref 0, .int x, .int y] h κ := by
  obtain ⟨N, S, I, J, Q⟩ := h
  obtain ⟨D, nv, nr, ns, ad, td, e, H⟩ := H
  replace H : INVd n N S I J Q D nv nr ns ad td e := H
  obtain ⟨md, hm, hmd⟩ := H.md
  have X := H.2.2.1
  have M0 := H.m0
  have hn10 := X.2.1.nv
  have hn30 := X.2.1.nr
  refine c_X11_needs X hm hmd (fun b => hk _ _ (fun κ2 h2 => ?_)) (fun v w hv hw ev ew => hk _ _ (fun κ2 h2 => ?_))
  · exact c_X12_needs M0 hm hmd X.cb (fun _ => h2 _ (H.q WQ.rf X (MQu.rf M0))) (fun v w hv hw ev ew => by
      exfalso
      rcases b with z | z
      · exact z v hv ev
      · exact z w hw ew)
  · refine c_X12_needs M0 hm hmd X.cb (fun b => ?_) (fun v2 w2 hv2 hw2 ev2 ew2 s hs I2 f2 => ?_)
    · exfalso
      rcases b with z | z
      · exact z v hv ev
      · exact z w hw ew
    · obtain rfl : v2 = v := ixe (ev2.symm.trans ev) (by omega) (by omega)
      obtain rfl : w2 = w := ixe (ew2.symm.trans ew) (by omega) (by omega)
      have e : bitI s (nI w2) = b2 (bt (I 7 v2) w2) := by
        rw [bitI_bt (by omega)]
        unfold b2
        have z1 := hs w2 (by omega)
        have z2 : bt (I 7 v2) w2 = true ↔ RC D nr v2 w2 := X.2.2.2.1 v2 hv2 w2
        by_cases q : RC D nr v2 w2
        · rw [if_pos (z1.mpr q), if_pos (z2.mpr q)]
        · rw [if_neg (fun y => q (z1.mp y)), if_neg (fun y => q (z2.mp y))]
      rw [e]
      refine h2 _ (H.q WQ.rf X ⟨fun i _ a _ => f2 i a, fun j _ _ _ => by rw [f2 54 (by decide)], fun _ _ _ _ => rfl, ?_⟩)
      rw [f2 54 (by decide)]
      exact H.2.2.2.2.1.imp id (fun L => L.mv (f2 81 (by decide)) (f2 82 (by decide)) (f2 83 (by decide)) rfl)
theorem j_way {n : Nat} {h : HP} {κ : Option Value → HP → Prop} {x y : Int32} (H : INV n h) (hk : ∀ v h2, JM M_X12_way [.ref 54, .int x, .int y] n (.int v) h2 → κ (some (.int v)) h2) : CT E1 M_X11_way [.ref 0, .int x, .int y] h κ := by
  obtain ⟨N, S, I, J, Q⟩ := h
  obtain ⟨D, nv, nr, ns, ad, td, e, H⟩ := H
  replace H : INVd n N S I J Q D nv nr ns ad td e := H
  obtain ⟨md, hm, hmd⟩ := H.md
  have X := H.2.2.1
  have M0 := H.m0
  have hn10 := X.2.1.nv
  have hn30 := X.2.1.nr
  refine c_X11_way X hm hmd (fun b => hk _ _ (fun κ2 h2 => ?_)) (fun go k hgo hk1 eg ek l0 I1 J1 Q1 w1 X1 => hk _ _ (fun κ2 h2 => ?_)) (fun go k hgo hk1 eg ek l0 I1 J1 Q1 w1 X1 => hk _ _ (fun κ2 h2 => ?_))
  · exact c_X12_way M0 hm hmd (fun _ => h2 _ (H.q WQ.rf X (MQu.rf M0))) (fun go k hgo hk1 eg ek => by
      exfalso
      rcases b with z | ⟨g, a1, a2, a3⟩
      · exact z go hgo eg
      · obtain rfl : g = go := ixe (a2.symm.trans eg) (by omega) (by omega)
        exact a3 k hk1 ek) (fun go k hgo hk1 eg ek => by
      exfalso
      rcases b with z | ⟨g, a1, a2, a3⟩
      · exact z go hgo eg
      · obtain rfl : g = go := ixe (a2.symm.trans eg) (by omega) (by omega)
        exact a3 k hk1 ek)
  · refine c_X12_way (H.mod w1) hm hmd (fun b => ?_) (fun go2 k2 hgo2 hk2 eg2 ek2 _ I2 J2 m2 => h2 _ (H.q w1 X1 m2)) (fun go2 k2 hgo2 hk2 eg2 ek2 l2 => ?_)
    · exfalso
      rcases b with z | ⟨g, a1, a2, a3⟩
      · exact z go hgo eg
      · obtain rfl : g = go := ixe (a2.symm.trans eg) (by omega) (by omega)
        exact a3 k hk1 ek
    · obtain rfl : go2 = go := ixe (eg2.symm.trans eg) (by omega) (by omega)
      rw [l0] at l2; cases l2
  · refine c_X12_way (H.mod w1) hm hmd (fun b => ?_) (fun go2 k2 hgo2 hk2 eg2 ek2 l2 => ?_) (fun go2 k2 hgo2 hk2 eg2 ek2 l2 I2 J2 m2 => ?_)
    · exfalso
      rcases b with z | ⟨g, a1, a2, a3⟩
      · exact z go hgo eg
      · obtain rfl : g = go := ixe (a2.symm.trans eg) (by omega) (by omega)
        exact a3 k hk1 ek
    · obtain rfl : go2 = go := ixe (eg2.symm.trans eg) (by omega) (by omega)
      rw [l0] at l2; cases l2
    · have hp : pcn (nI go) ≤ 10 := cntB_le _ _
      obtain rfl : go2 = go := ixe (eg2.symm.trans eg) (by omega) (by omega)
      obtain rfl : k2 = k := ixe (ek2.symm.trans ek) (by omega) (by omega)
      exact h2 _ (H.q w1 X1 m2)
theorem j_choice {n : Nat} {h : HP} {κ : Option Value → HP → Prop} {x w : Int32} (H : INV n h) (hk : ∀ v h2, JM M_X12_choice [.ref 54, .int x, .int w] n (.int v) h2 → κ (some (.int v)) h2) : CT E1 M_X11_choice [.ref 0, .int x, .int w] h κ := by
  obtain ⟨N, S, I, J, Q⟩ := h
  obtain ⟨D, nv, nr, ns, ad, td, e, H⟩ := H
  replace H : INVd n N S I J Q D nv nr ns ad td e := H
  obtain ⟨md, hm, hmd⟩ := H.md
  have X := H.2.2.1
  have M0 := H.m0
  have hn10 := X.2.1.nv
  have hn30 := X.2.1.nr
  have bad : ∀ j k : Nat, j < 8 → k ≤ 2 → x = nI j → w = nI k → ((∀ j, j < 8 → x ≠ nI j) ∨ ¬ inR w 0 2) → False := fun j k hj hk1 ex ew b => by
    rcases b with z | z
    · exact z j hj ex
    · exact z (by rw [ew]; exact nI_in2 (n := 2) hk1 (by decide))
  have nw : ∀ a b : Nat, a ≤ 2 → b ≤ 2 → w = nI a → w = nI b → a = b := fun a b ha hb e1 e2 => ixe (e1.symm.trans e2) (by omega) (by omega)
  refine c_X11_choice X hm hmd (fun b => hk _ _ (fun κ2 h2 => ?_)) (fun j hj ej ew => hk _ _ (fun κ2 h2 => ?_)) (fun j hj ej ew => hk _ _ (fun κ2 h2 => ?_)) (fun j hj ej ew I1 J1 Q1 w1 X1 => hk _ _ (fun κ2 h2 => ?_))
  · exact c_X12_choice M0 hm hmd (fun _ => h2 _ (H.q WQ.rf X (MQu.rf M0))) (fun j hj ej ew => (bad j 0 hj (by decide) ej ew b).elim) (fun j hj ej ew => (bad j 1 hj (by decide) ej ew b).elim) (fun j hj ej ew => (bad j 2 hj (by decide) ej ew b).elim)
  · refine c_X12_choice M0 hm hmd (fun b => (bad j 0 hj (by decide) ej ew b).elim) (fun j2 hj2 ej2 _ => ?_) (fun _ _ _ e2 => absurd (nw 0 1 (by decide) (by decide) ew e2) (by decide)) (fun _ _ _ e2 => absurd (nw 0 2 (by decide) (by decide) ew e2) (by decide))
    obtain rfl : j2 = j := ixe (ej2.symm.trans ej) (by omega) (by omega)
    exact h2 _ (H.q WQ.rf X (MQu.rf M0))
  · refine c_X12_choice M0 hm hmd (fun b => (bad j 1 hj (by decide) ej ew b).elim) (fun _ _ _ e2 => absurd (nw 1 0 (by decide) (by decide) ew e2) (by decide)) (fun j2 hj2 ej2 _ => ?_) (fun _ _ _ e2 => absurd (nw 1 2 (by decide) (by decide) ew e2) (by decide))
    obtain rfl : j2 = j := ixe (ej2.symm.trans ej) (by omega) (by omega)
    exact h2 _ (H.q WQ.rf X (MQu.rf M0))
  · refine c_X12_choice (H.mod w1) hm hmd (fun b => (bad j 2 hj (by decide) ej ew b).elim) (fun _ _ _ e2 => absurd (nw 2 0 (by decide) (by decide) ew e2) (by decide)) (fun _ _ _ e2 => absurd (nw 2 1 (by decide) (by decide) ew e2) (by decide)) (fun j2 hj2 ej2 _ I2 J2 m2 => ?_)
    obtain rfl : j2 = j := ixe (ej2.symm.trans ej) (by omega) (by omega)
    exact h2 _ (H.q w1 X1 m2)
