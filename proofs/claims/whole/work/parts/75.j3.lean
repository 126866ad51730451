/-! ===== class and model side by side: acts ===== -/
section IC
variable {n N : Nat} {S : Nat → Nat × Nat} {I B I' I1 I2 : Nat → Nat → Int32} {J J' J1 J2 : Nat → Nat → Int64} {Q Q' Q1 : Nat → Nat → Option Nat} {D D' : Nat → Nat → Int32} {nv nr ns nv' ns' : Nat} {ad td : Nat → Nat} {e e' : Nat} {w : Int32}
theorem SD.mv2 (h : SD N S I Q nv) (h0 : ∀ j, j ≠ 5 → I' 0 j = I 0 j) (hs : I' 0 5 = I' 54 24) (h1 : ∀ a, 42 ≤ a → a ≤ 52 → a ≠ 44 → I' a = I a) (h2 : I' 79 = I 79) (h3 : ∀ a, 90 ≤ a → I' a = I a) (h4 : ∀ j, j = 22 ∨ j = 23 ∨ (25 ≤ j ∧ j ≤ 27) ∨ j = 31 ∨ j = 47 → I' 54 j = I 54 j) (q0 : Q' 0 = Q 0) (q1 : Q' 46 = Q 46) : SD N S I' Q' nv := by
  obtain ⟨a1, a2, a3, ⟨t, a4, a5⟩, a6, a7, a8, a9, a10⟩ := h
  have f22 := h4 22 (by decide); have f23 := h4 23 (by decide); have f25 := h4 25 (by decide); have f26 := h4 26 (by decide); have f27 := h4 27 (by decide); have f31 := h4 31 (by decide); have f47 := h4 47 (by decide)
  refine ⟨hs, ?_⟩
  rw [h0 4 (by decide), h0 3 (by decide), h0 10 (by decide), f22, f23, f25, f26, f27, f31, f47, q0, q1, h2, h1 42 (by decide) (by decide) (by decide), h1 43 (by decide) (by decide) (by decide), h1 45 (by decide) (by decide) (by decide), h1 51 (by decide) (by decide) (by decide), h1 52 (by decide) (by decide) (by decide), h3 90 (by decide), h3 91 (by decide), h3 92 (by decide), h3 93 (by decide)]
  refine ⟨a2, a3, ⟨t, a4, a5.mv (fun a ha => ?_)⟩, a6, a7, a8, a9, fun s hs => ?_⟩
  · rcases ha with z | z
    · rw [z]; exact h1 42 (by decide) (by decide) (by decide)
    · exact h3 a (by omega)
  · rw [h1 (47 + s) (by omega) (by omega) (by omega)]; exact a10 s hs
theorem XB.cg (h : XB N S I J Q D nv nr ns ad td e) (h1 : ∀ a, a ≠ 0 → (a < 54 ∨ 93 < a) → I' a = I a) (h2 : ∀ a, a < 54 → J' a = J a) : XB N S I' J' Q D nv nr ns ad td e := by
  obtain ⟨x1, x2, x3, x4, ⟨ord, st, x5⟩, x6, k1, k2, k3⟩ := h
  refine ⟨x1.mv (fun a a1 a2 _ => h1 a (by omega) (by omega)) rfl (fun a ha => h1 a (by omega) (by omega)) (fun _ _ => rfl), x2, x3, fun v hv u => by rw [h1 (0 + 7) (by omega) (by omega)]; exact x4 v hv u, ⟨ord, st, x5.mv (h1 29 (by decide) (by decide)) (h1 30 (by decide) (by decide)) (h1 31 (by decide) (by decide))⟩, by rw [h1 31 (by decide) (by decide)]; exact x6, by rw [h1 23 (by decide) (by decide)]; exact k1, k2, fun b hb => ?_⟩
  obtain ⟨q1, q2⟩ := k3 b hb
  rw [h1 36 (by decide) (by decide)]
  refine ⟨q1, fun z => ?_⟩
  obtain ⟨p1, p2⟩ := q2 z
  exact ⟨fun v hv => by unfold gX; rw [h2 38 (by decide)]; exact p1 v hv, fun c hc => by rw [h1 37 (by decide) (by decide)]; exact p2 c hc⟩
theorem XB.s0 (h : XB N S I J Q D nv nr ns ad td e) : XB N S (up2 I 0 5 w) J Q D nv nr ns ad td e := h.cg (fun a ha _ => up2_o ha) (fun _ _ => rfl)
theorem INVd.ch (H : INVd n N S I J Q D nv nr ns ad td e) (hn : nv ≤ nv') (X : XB N S I1 J1 Q1 D' nv' nr ns' ad td e') (he : e' ≤ n + 2)
    (c0 : ∀ j, j ≠ 5 → I1 0 j = I 0 j) (c1 : ∀ a, 11 < a → (a < 23 ∨ 41 < a) → I1 a = I a) (cq : ∀ a, a ≠ 32 → Q1 a = Q a)
    (m1 : ∀ a, (a < 54 ∨ a = 76 ∨ a = 79 ∨ 90 ≤ a) → I2 a = I1 a) (m2 : ∀ a, a < 54 → J2 a = J1 a) (m4 : ∀ j, j ≠ 24 → j ≠ 37 → j ≠ 38 → j ≠ 39 → I2 54 j = I1 54 j) (hs : I2 0 5 = I2 54 24)
    (hd : DA I2 D') (h37 : I2 54 37 = 0 ∨ LDD I2 J2 D' nv' nr ns') (hsp : SPB D' nv' (n + 1)) (ht : T64 D' nr) : INV (n + 1) (N, S, I2, J2, Q1) := by
  obtain ⟨h1, h2, h3, h4, h5, h6, h7, h8, h9, h10, h11⟩ := H
  suffices key : INVd (n + 1) N S I2 J2 Q1 D' nv' nr ns' ad td e' from ⟨D', nv', nr, ns', ad, td, e', key⟩
  refine ⟨h1, hd, X.md (fun a ha => m1 a (by omega)) m2, by omega, h37, hsp, ht, ?_, ?_, ?_, ?_⟩
  · refine (h8.mv2 (fun j hj => ?_) hs (fun a a1 a2 a3 => (m1 a (by omega)).trans (c1 a (by omega) (by omega))) ((m1 79 (by decide)).trans (c1 79 (by decide) (by decide))) (fun a ha => (m1 a (by omega)).trans (c1 a (by omega) (by omega))) (fun j hj => ?_) (cq 0 (by decide)) (cq 46 (by decide))).gv hn
    · rw [m1 0 (by decide)]; exact c0 j hj
    · rw [m4 j (by omega) (by omega) (by omega) (by omega), c1 54 (by decide) (by decide)]
  · refine (h9.mv (fun a a1 a2 => (m1 a (by omega)).trans (c1 a (by omega) (by omega))) ((m1 76 (by decide)).trans (c1 76 (by decide) (by decide))) ?_ (fun a ha => (m1 a (by omega)).trans (c1 a (by omega) (by omega))) (cq 19 (by decide)) (fun a ha => cq a (by omega))).up
    rw [m4 22 (by decide) (by decide) (by decide) (by decide), c1 54 (by decide) (by decide)]
  · intro r hr; rw [cq 8 (by decide)]; exact h10 r hr
  · intro r hr; rw [cq 19 (by decide)]; exact h11 r hr
/-- a refusal, behind questions -/
theorem INVd.rfq (H : INVd n N S I J Q D nv nr ns ad td e) (wq : WQ I I' J J' Q Q') (X : XB N S I' J' Q' D nv nr ns ad td e) (m : MQu (up2 I' 0 5 w) I2 J' J2 D nv nr ns) : INV (n + 1) (N, S, up2 I2 54 24 w, J2, Q') := by
  refine H.ch (I1 := up2 I' 0 5 w) (Nat.le_refl _) X.s0 (by have := H.2.2.2.1; omega) (fun j hj => ?_) (fun a a1 a2 => ?_) wq.2.2.2.2.2.2 (fun a ha => ?_) (fun a ha => m.2.2.1 a (by omega) (by omega) (by omega)) (fun j j1 j2 j3 j4 => ?_) ?_ (fun i a b => ?_) ?_ H.2.2.2.2.2.1.up H.2.2.2.2.2.2.1
  · rw [up2_e hj, wq.1 0 (by decide)]
  · rw [up2_o (by omega)]; exact wq.1 a (by omega)
  · rw [up2_o (by omega)]; exact m.1 a (by omega) (by omega) (by omega)
  · rw [up2_e j1]; exact m.2.1 j j2 j3 j4
  · rw [up2_s, up2_d (by decide), m.1 0 (by decide) (by decide) (by decide), up2_s]
  · rw [up2_o (by omega), m.1 i (by omega) (by omega) (by omega), up2_o (by omega), wq.1 i (by omega)]; exact H.2.1 i a b
  · rw [up2_e (by decide)]
    exact m.2.2.2.imp id (fun L => L.mv (up2_o (by decide)) (up2_o (by decide)) (up2_o (by decide)) rfl)
theorem INVd.mod0 (H : INVd n N S I J Q D nv nr ns ad td e) (wq : WQ I I' J J' Q Q') : MOD (up2 I' 0 5 w) J' D nv nr ns := by
  obtain ⟨m1, m2, m3, m4⟩ := H.mod wq
  refine ⟨m1.up (by decide), m2, m3, ?_⟩
  rw [up2_d (by decide)]
  exact m4.imp id (fun L => L.mv (up2_o (by decide)) (up2_o (by decide)) (up2_o (by decide)) rfl)
theorem INVd.rf (H : INVd n N S I J Q D nv nr ns ad td e) : INV (n + 1) (N, S, up2 (up2 I 0 5 w) 54 24 w, J, Q) := H.rfq WQ.rf H.2.2.1 (MQu.rf (H.mod0 WQ.rf))
theorem FGc (f : FG B I') (hb : ∀ a, (a = 0 ∨ 11 < a) → B a = I a) : (∀ j, j ≠ 5 → up2 I' 0 5 w 0 j = I 0 j) ∧ (∀ a, 11 < a → (a < 23 ∨ 41 < a) → up2 I' 0 5 w a = I a) := by
  refine ⟨fun j hj => ?_, fun a a1 a2 => ?_⟩
  · rw [up2_e hj, f 0 (by decide) (by decide) (by decide) (by decide), hb 0 (by decide)]
  · rw [up2_o (by omega), f a (by omega) (by omega) (by omega) (by omega), hb a (by omega)]
theorem DA.u {a j : Nat} {x : Int32} (h : DA I D) : DA (up2 I a j x) (up2 D a j x) := fun i h1 h2 => by
  funext k
  by_cases z : i = a ∧ k = j
  · obtain ⟨rfl, rfl⟩ := z; rw [up2_s, up2_s]
  · rw [up2_n z, up2_n z, h i h1 h2]
theorem DA.z {a k : Nat} (h : DA I D) : DA (zr I a k) (zr D a k) := fun i h1 h2 => by
  funext j; unfold zr; rw [h i h1 h2]
theorem DA.c (h : DA I D) (c : ∀ a, 11 < a → (a < 23 ∨ 41 < a) → I1 a = I a) : DA I1 D := fun i a b => (c i (by omega) (by omega)).trans (h i a b)
theorem DA.a (h : DA I D) {i : Nat} (h1 : 55 ≤ i) (h2 : i ≤ 75) (j : Nat) : I i j = D i j := by rw [h i h1 h2]
end IC
set_option maxHeartbeats 400000 in
theorem j_free {n : Nat} (hn6 : n < 600) {h : HP} {κ : Option Value → HP → Prop} {x b : Int32} (H : INV n h) (hk : ∀ v h2, JM M_X12_free [.ref 54, .int x, .int b] n (.int v) h2 → κ (some (.int v)) h2) : CT E1 M_X11_free [.ref 0, .int x, .int b] h κ := by
  obtain ⟨N, S, I, J, Q⟩ := h
  obtain ⟨D, nv, nr, ns, ad, td, e, H⟩ := H
  replace H : INVd n N S I J Q D nv nr ns ad td e := H
  obtain ⟨md, hm, hmd⟩ := H.md
  have X := H.2.2.1
  have M0 := H.m0
  have hn10 := X.2.1.nv
  have hn30 := X.2.1.nr
  have hs10 := X.2.1.ns
  have he1 := H.2.2.2.1
  have he : e + 1 < 2 ^ 30 := by omega
  refine c_X11_free X he (fun z => hk _ _ (fun κ2 h2 => ?_)) (fun j hj ej I1 f1 X1 => hk _ _ (fun κ2 h2 => ?_))
  · exact c_X12_free (fun _ => h2 _ H.rf) (fun j hj ej => (z j hj ej).elim)
  · refine c_X12_free (fun z => (z j hj ej).elim) (fun j2 hj2 ej2 => ?_)
    obtain rfl : j2 = j := ixe (ej2.symm.trans ej) (by omega) (by omega)
    have c := FGc (w := 0) (I := I) f1 (fun a ha => up2_o (by omega))
    have d1 := H.2.1.c c.2
    rw [d1.a (by decide) (by decide) 4]
    exact h2 _ (H.ch (Nat.le_refl _) X1.s0 (by omega) c.1 c.2 (fun _ _ => rfl) (fun a ha => by rw [up2_o (by omega), up2_o (by omega), up2_o (by omega)]) (fun _ _ => rfl) (fun j j1 j2 j3 j4 => by rw [up2_e (by omega), up2_e (by omega), up2_d (by decide)]) (by rw [up2_s, up2_d (by decide), up2_d (by decide), up2_d (by decide), up2_s]) ((d1.u.up (by decide)).up (by decide)) (Or.inl (by rw [up2_e (by decide), up2_s])) (fun v hv => by rw [up2_d (by decide)]; exact H.2.2.2.2.2.1.up v hv) (fun r hr z => by rw [up2_d (by decide)] at z ⊢; exact H.2.2.2.2.2.2.1 r hr z))
set_option maxHeartbeats 400000 in
theorem j_stack {n : Nat} (hn6 : n < 600) {h : HP} {κ : Option Value → HP → Prop} {x b : Int32} (H : INV n h) (hk : ∀ v h2, JM M_X12_stack [.ref 54, .int x, .int b] n (.int v) h2 → κ (some (.int v)) h2) : CT E1 M_X11_stack [.ref 0, .int x, .int b] h κ := by
  obtain ⟨N, S, I, J, Q⟩ := h
  obtain ⟨D, nv, nr, ns, ad, td, e, H⟩ := H
  replace H : INVd n N S I J Q D nv nr ns ad td e := H
  obtain ⟨md, hm, hmd⟩ := H.md
  have X := H.2.2.1
  have M0 := H.m0
  have hn10 := X.2.1.nv
  have hn30 := X.2.1.nr
  have hs10 := X.2.1.ns
  have he1 := H.2.2.2.1
  have he : e + 1 < 2 ^ 30 := by omega
  refine c_X11_stack X he (fun z => hk _ _ (fun κ2 h2 => ?_)) (fun i1 I1 f1 X1 => hk _ _ (fun κ2 h2 => ?_))
  · exact c_X12_stack (fun _ => h2 _ H.rf) (fun i1 => (z i1).elim)
  · refine c_X12_stack (fun z => (z i1).elim) (fun _ => ?_)
    have c := FGc (w := 0) (I := I) f1 (fun a ha => up2_o (by omega))
    have d1 := H.2.1.c c.2
    rw [d1.a (by decide) (by decide) 5]
    exact h2 _ (H.ch (Nat.le_refl _) X1.s0 (by omega) c.1 c.2 (fun _ _ => rfl) (fun a ha => by rw [up2_o (by omega), up2_o (by omega), up2_o (by omega)]) (fun _ _ => rfl) (fun j j1 j2 j3 j4 => by rw [up2_e (by omega), up2_e (by omega), up2_d (by decide)]) (by rw [up2_s, up2_d (by decide), up2_d (by decide), up2_d (by decide), up2_s]) ((d1.u.up (by decide)).up (by decide)) (Or.inl (by rw [up2_e (by decide), up2_s])) (fun v hv => by rw [up2_d (by decide)]; exact H.2.2.2.2.2.1.up v hv) (fun r hr z => by rw [up2_d (by decide)] at z ⊢; exact H.2.2.2.2.2.2.1 r hr z))
set_option maxHeartbeats 400000 in
theorem j_turn {n : Nat} (hn6 : n < 600) {h : HP} {κ : Option Value → HP → Prop} (H : INV n h) (hk : ∀ v h2, JM M_X12_turn [.ref 54] n (.int v) h2 → κ (some (.int v)) h2) : CT E1 M_X11_turn [.ref 0] h κ := by
  obtain ⟨N, S, I, J, Q⟩ := h
  obtain ⟨D, nv, nr, ns, ad, td, e, H⟩ := H
  replace H : INVd n N S I J Q D nv nr ns ad td e := H
  obtain ⟨md, hm, hmd⟩ := H.md
  have X := H.2.2.1
  have M0 := H.m0
  have hn10 := X.2.1.nv
  have hn30 := X.2.1.nr
  have hs10 := X.2.1.ns
  have he1 := H.2.2.2.1
  have he : e + 1 < 2 ^ 30 := by omega
  refine c_X11_turn X he (fun z => hk _ _ (fun κ2 h2 => ?_)) (fun z I1 f1 X1 => hk _ _ (fun κ2 h2 => ?_))
  · have d0 : DA (up2 I 0 5 2) D := H.2.1.up (by decide)
    exact c_X12_turn (X.2.1.sn d0) hs10 (fun _ => h2 _ H.rf) (fun q => absurd (by rw [d0.a (by decide) (by decide)]; exact z) q)
  · have c := FGc (w := 0) (I := I) f1 (fun a ha => up2_o (by omega))
    have d1 := H.2.1.c c.2
    refine c_X12_turn (X.2.1.sn d1) hs10 (fun q => absurd (by rw [← d1.a (by decide) (by decide)]; exact q) z) (fun _ => ?_)
    rw [d1.a (by decide) (by decide) 6, d1 74 (by decide) (by decide)]
    exact h2 _ (H.ch (Nat.le_refl _) X1.s0 (by omega) c.1 c.2 (fun _ _ => rfl) (fun a ha => by rw [up2_o (by omega), up2_o (by omega), up2_o (by omega)]) (fun _ _ => rfl) (fun j j1 j2 j3 j4 => by rw [up2_e (by omega), up2_e (by omega), up2_d (by decide)]) (by rw [up2_s, up2_d (by decide), up2_d (by decide), up2_d (by decide), up2_s]) ((d1.u.up (by decide)).up (by decide)) (Or.inl (by rw [up2_e (by decide), up2_s])) (fun v hv => by rw [up2_d (by decide)]; exact H.2.2.2.2.2.1.up v hv) (fun r hr z => by rw [up2_d (by decide)] at z ⊢; exact H.2.2.2.2.2.2.1 r hr z))
set_option maxHeartbeats 400000 in
theorem j_spell {n : Nat} (hn6 : n < 600) {h : HP} {κ : Option Value → HP → Prop} {u0 x m : Int32} (H : INV n h) (hk : ∀ v h2, JM M_X12_spell [.ref 54, .int u0, .int x, .int m] n (.int v) h2 → κ (some (.int v)) h2) : CT E1 M_X11_spell [.ref 0, .int u0, .int x, .int m] h κ := by
  obtain ⟨N, S, I, J, Q⟩ := h
  obtain ⟨D, nv, nr, ns, ad, td, e, H⟩ := H
  replace H : INVd n N S I J Q D nv nr ns ad td e := H
  obtain ⟨md, hm, hmd⟩ := H.md
  have X := H.2.2.1
  have M0 := H.m0
  have hn10 := X.2.1.nv
  have hn30 := X.2.1.nr
  have hs10 := X.2.1.ns
  have he1 := H.2.2.2.1
  have he : e + 1 < 2 ^ 30 := by omega
  refine c_X11_spell X he (fun b => hk _ _ (fun κ2 h2 => ?_)) (fun j hj ej xr nr2 h10 => hk _ _ (fun κ2 h2 => ?_)) (fun j hj ej xr nr2 h10 I1 f1 X1 => hk _ _ (fun κ2 h2 => ?_))
  · have d0 : DA (up2 I 0 5 1) D := H.2.1.up (by decide)
    exact c_X12_spell (X.2.1.vn d0) hn10 (X.2.1.sn d0) hs10 (fun _ => h2 _ H.rf) (fun j hj ej xr nr2 => by
      exfalso
      rcases b with z | z | z
      · exact z j hj ej
      · exact z xr
      · exact z nr2) (fun j hj ej xr nr2 => by
      exfalso
      rcases b with z | z | z
      · exact z j hj ej
      · exact z xr
      · exact z nr2)
  · have d0 : DA (up2 I 0 5 2) D := H.2.1.up (by decide)
    exact c_X12_spell (X.2.1.vn d0) hn10 (X.2.1.sn d0) hs10 (fun b => by
      exfalso
      rcases b with z | z | z
      · exact z j hj ej
      · exact z xr
      · exact z nr2) (fun _ _ _ _ _ _ => h2 _ H.rf) (fun _ _ _ _ _ q => absurd h10 q)
  · have c := FGc (w := 0) (I := I) f1 (fun a ha => by simp only [up2_o (show a ≠ 1 by omega), up2_o (show a ≠ 2 by omega), up2_o (show a ≠ 3 by omega), up2_o (show a ≠ 4 by omega), up2_o (show a ≠ 5 by omega), up2_o (show a ≠ 6 by omega), up2_o (show a ≠ 7 by omega), up2_o (show a ≠ 9 by omega), up2_o (show a ≠ 10 by omega), up2_o (show a ≠ 11 by omega)])
    have d1 := H.2.1.c c.2
    refine c_X12_spell (X.2.1.vn d1) hn10 (X.2.1.sn d1) hs10 (fun b => ?_) (fun _ _ _ _ _ q => absurd q h10) (fun j2 hj2 ej2 _ _ _ => ?_)
    · exfalso
      rcases b with z | z | z
      · exact z j hj ej
      · exact z xr
      · exact z nr2
    obtain rfl : j2 = j := ixe (ej2.symm.trans ej) (by omega) (by omega)
    rw [d1.a (by decide) (by decide) 6, X.2.1.sn d1, show nI ns + 1 = nI (ns + 1) from nI_1 ns]
    exact h2 _ (H.ch (Nat.le_refl _) X1.s0 (by omega) c.1 c.2 (fun _ _ => rfl) (fun a ha => by rw [up2_o (by omega), up2_o (by omega), up2_o (by omega), up2_o (by omega), up2_o (by omega), up2_o (by omega)]) (fun _ _ => rfl) (fun j j1 j2 j3 j4 => by rw [up2_e (by omega), up2_e (by omega), up2_d (by decide), up2_d (by decide), up2_d (by decide), up2_d (by decide)]) (by rw [up2_s, up2_d (by decide), up2_d (by decide), up2_d (by decide), up2_d (by decide), up2_d (by decide), up2_d (by decide), up2_s]) ((d1.u.u.u.u.up (by decide)).up (by decide)) (Or.inl (by rw [up2_e (by decide), up2_s])) (fun v hv => by unfold spD; simp (disch := decide) only [up2_d]; exact H.2.2.2.2.2.1.up v hv) (fun r hr z => by rw [spD.dr 60 (by decide) (by decide)] at z; rw [spD.dr 64 (by decide) (by decide)]; exact H.2.2.2.2.2.2.1 r hr z))
set_option maxHeartbeats 400000 in
theorem j_value {n : Nat} (hn6 : n < 600) {h : HP} {κ : Option Value → HP → Prop} {x y m : Int32} (H : INV n h) (hk : ∀ v h2, JM M_X12_value [.ref 54, .int x, .int y, .int m] n (.int v) h2 → κ (some (.int v)) h2) : CT E1 M_X11_value [.ref 0, .int x, .int y, .int m] h κ := by
  obtain ⟨N, S, I, J, Q⟩ := h
  obtain ⟨D, nv, nr, ns, ad, td, e, H⟩ := H
  replace H : INVd n N S I J Q D nv nr ns ad td e := H
  obtain ⟨md, hm, hmd⟩ := H.md
  have X := H.2.2.1
  have M0 := H.m0
  have hn10 := X.2.1.nv
  have hn30 := X.2.1.nr
  have hs10 := X.2.1.ns
  have he1 := H.2.2.2.1
  have he : e + 1 < 2 ^ 30 := by omega
  refine c_X11_value X he (fun b => hk _ _ (fun κ2 h2 => ?_)) (fun ok h10 => hk _ _ (fun κ2 h2 => ?_)) (fun cc sd ok h10 a3 a4 I1 f1 X1 => hk _ _ (fun κ2 h2 => ?_))
  · have d0 : DA (up2 I 0 5 1) D := H.2.1.up (by decide)
    exact c_X12_value (X.2.1.vn d0) hn10 (fun _ => h2 _ H.rf) (fun q => absurd q b) (fun _ _ q => absurd q b)
  · have d0 : DA (up2 I 0 5 2) D := H.2.1.up (by decide)
    exact c_X12_value (X.2.1.vn d0) hn10 (fun q => absurd ok q) (fun _ _ => h2 _ H.rf) (fun _ _ _ q => absurd h10 q)
  · have c := FGc (w := 0) (I := I) f1 (fun a ha => by simp only [up2_o (show a ≠ 1 by omega), up2_o (show a ≠ 2 by omega), up2_o (show a ≠ 3 by omega), up2_o (show a ≠ 4 by omega), up2_o (show a ≠ 5 by omega), up2_o (show a ≠ 6 by omega), up2_o (show a ≠ 7 by omega), up2_o (show a ≠ 9 by omega), up2_o (show a ≠ 10 by omega), up2_o (show a ≠ 11 by omega)])
    have d1 := H.2.1.c c.2
    refine c_X12_value (X.2.1.vn d1) hn10 (fun q => absurd ok q) (fun _ q => absurd q h10) (fun cc2 sd2 _ _ b3 b4 => ?_)
    obtain ⟨rfl, rfl⟩ : cc2 = cc ∧ sd2 = sd := by
      by_cases e3 : x = 3
      · obtain ⟨c1, s1, p1, p2, p3, p4, p5, p6, p7⟩ := a3 e3
        obtain ⟨c2, s2, q1, q2, q3, q4, q5, q6, q7⟩ := b3 e3
        have := ixe (p5.symm.trans q5) (by omega) (by omega)
        obtain ⟨rfl, rfl⟩ : c2 = c1 ∧ s2 = s1 := by omega
        exact ⟨q6.trans p6.symm, q7.trans p7.symm⟩
      · exact ⟨(b4 e3).1.trans (a4 e3).1.symm, (b4 e3).2.trans (a4 e3).2.symm⟩
    rw [X.2.1.vn d1, show nI nv + 1 = nI (nv + 1) from nI_1 nv]
    exact h2 _ (H.ch (Nat.le_succ _) X1.s0 (by omega) c.1 c.2 (fun _ _ => rfl) (fun a ha => by rw [up2_o (by omega), up2_o (by omega), up2_o (by omega), up2_o (by omega), up2_o (by omega), up2_o (by omega), up2_o (by omega), up2_o (by omega)]) (fun _ _ => rfl) (fun j j1 j2 j3 j4 => by rw [up2_e (by omega), up2_e (by omega), up2_d (by decide), up2_d (by decide), up2_d (by decide), up2_d (by decide), up2_d (by decide), up2_d (by decide)]) (by rw [up2_s, up2_d (by decide), up2_d (by decide), up2_d (by decide), up2_d (by decide), up2_d (by decide), up2_d (by decide), up2_d (by decide), up2_d (by decide), up2_s]) ((d1.u.u.u.u.u.u.up (by decide)).up (by decide)) (Or.inl (by rw [up2_e (by decide), up2_s])) (fun v hv => by
      unfold vlD
      by_cases ev : v = nv
      · rw [ev, up2_s]; have : (0 : Int32).toInt = 0 := by decide
        rw [this]; omega
      · rw [up2_e ev]; simp (disch := decide) only [up2_d]; exact H.2.2.2.2.2.1.up v (by omega)) (fun r hr z => by rw [vlD.dr 60 (by decide) (by decide)] at z; rw [vlD.dr 64 (by decide) (by decide)]; exact H.2.2.2.2.2.2.1 r hr z))
set_option maxHeartbeats 400000 in
theorem j_rest {n : Nat} (hn6 : n < 600) {h : HP} {κ : Option Value → HP → Prop} (H : INV n h) (hk : ∀ v h2, JM M_X12_rest [.ref 54] n (.int v) h2 → κ (some (.int v)) h2) : CT E1 M_X11_rest [.ref 0] h κ := by
  obtain ⟨N, S, I, J, Q⟩ := h
  obtain ⟨D, nv, nr, ns, ad, td, e, H⟩ := H
  replace H : INVd n N S I J Q D nv nr ns ad td e := H
  obtain ⟨md, hm, hmd⟩ := H.md
  have X := H.2.2.1
  have M0 := H.m0
  have hn10 := X.2.1.nv
  have hn30 := X.2.1.nr
  have hs10 := X.2.1.ns
  have he1 := H.2.2.2.1
  have he : e + 1 < 2 ^ 30 := by omega
  refine c_X11_rest X he (fun I1 f1 X1 => hk _ _ (fun κ2 h2 => ?_))
  have c := FGc (w := 0) (I := I) f1 (fun a ha => zr_o (by omega))
  have d1 := H.2.1.c c.2
  refine c_X12_rest (X.2.1.vn d1) hn10 ?_
  rw [d1 59 (by decide) (by decide)]
  exact h2 _ (H.ch (Nat.le_refl _) X1.s0 (by omega) c.1 c.2 (fun _ _ => rfl) (fun a ha => by rw [up2_o (by omega), up2_o (by omega), zr_o (by omega)]) (fun _ _ => rfl) (fun j j1 j2 j3 j4 => by rw [up2_e (by omega), up2_e (by omega), zr_d (by decide)]) (by rw [up2_s, up2_d (by decide), up2_d (by decide), zr_d (by decide), up2_s]) ((d1.z.up (by decide)).up (by decide)) (Or.inl (by rw [up2_e (by decide), up2_s])) (fun v hv => by
      rw [zr_in hv]; have : (0 : Int32).toInt = 0 := by decide
      rw [this]; omega) (fun r hr z => by rw [zr_d (by decide)] at z ⊢; exact H.2.2.2.2.2.2.1 r hr z))
theorem MOD.cg {I I' : Nat → Nat → Int32} {J : Nat → Nat → Int64} {D : Nat → Nat → Int32} {nv nr ns : Nat} (M : MOD I J D nv nr ns) (c : ∀ a, 54 ≤ a → I' a = I a) : MOD I' J D nv nr ns := by
  obtain ⟨m1, m2, m3, m4⟩ := M
  refine ⟨fun i a b => (c i (by omega)).trans (m1 i a b), m2, m3, ?_⟩
  rw [c 54 (by decide)]
  exact m4.imp id (fun L => L.mv (c 81 (by decide)) (c 82 (by decide)) (c 83 (by decide)) rfl)
set_option maxHeartbeats 400000 in
theorem j_spend {n : Nat} (hn6 : n < 600) {h : HP} {κ : Option Value → HP → Prop} {x y : Int32} (H : INV n h) (hk : ∀ v h2, JM M_X12_spend [.ref 54, .int x, .int y] n (.int v) h2 → κ (some (.int v)) h2) : CT E1 M_X11_spend [.ref 0, .int x, .int y] h κ := by
  obtain ⟨N, S, I, J, Q⟩ := h
  obtain ⟨D, nv, nr, ns, ad, td, e, H⟩ := H
  replace H : INVd n N S I J Q D nv nr ns ad td e := H
  obtain ⟨md, hm, hmd⟩ := H.md
  have X := H.2.2.1
  have M0 := H.m0
  have hn10 := X.2.1.nv
  have hn30 := X.2.1.nr
  have hs10 := X.2.1.ns
  have he1 := H.2.2.2.1
  have he : e + 1 < 2 ^ 30 := by omega
  have h600 : ∀ v, v < nv → (D 59 v).toInt ≤ 599000 := fun v hv => by have := H.2.2.2.2.2.1 v hv; omega
  refine c_X11_spend X he hm hmd h600 (fun b => hk _ _ (fun κ2 h2 => ?_)) (fun v hv ev k55 yr hl I1 J1 Q1 w1 X1 => hk _ _ (fun κ2 h2 => ?_)) (fun v hv ev k55 yr hl I0 J1 Q1 w1 X0 I1 f1 X1 => hk _ _ (fun κ2 h2 => ?_))
  · exact c_X12_spend (H.mod0 WQ.rf) hm hmd (fun _ => h2 _ H.rf) (fun v hv ev k55 yr => by
      exfalso
      rcases b with z | ⟨v3, z1, z2, z3⟩ | z
      · exact z v hv ev
      · obtain rfl : v3 = v := ixe (z2.symm.trans ev) (by omega) (by omega)
        exact z3 k55
      · exact z yr) (fun v hv ev k55 yr => by
      exfalso
      rcases b with z | ⟨v3, z1, z2, z3⟩ | z
      · exact z v hv ev
      · obtain rfl : v3 = v := ixe (z2.symm.trans ev) (by omega) (by omega)
        exact z3 k55
      · exact z yr)
  · refine c_X12_spend (H.mod0 w1) hm hmd (fun b => ?_) (fun v2 hv2 ev2 _ _ _ I2 J2 m2 => h2 _ (H.rfq w1 X1 m2)) (fun v2 hv2 ev2 _ _ q => ?_)
    · exfalso
      rcases b with z | ⟨v3, z1, z2, z3⟩ | z
      · exact z v hv ev
      · obtain rfl : v3 = v := ixe (z2.symm.trans ev) (by omega) (by omega)
        exact z3 k55
      · exact z yr
    · obtain rfl : v2 = v := ixe (ev2.symm.trans ev) (by omega) (by omega)
      exact absurd q hl
  · have c2 : ∀ a, (a = 0 ∨ (4 < a ∧ a ≠ 23 ∧ a ≠ 29 ∧ a ≠ 30 ∧ a ≠ 31)) → I1 a = I0 a := fun a ha => (f1 a (by omega) (by omega) (by omega) (by omega)).trans (up2_o (by omega))
    have M1 : MOD (up2 I1 0 5 0) J1 D nv nr ns := (H.mod w1.q).cg (fun a ha => (up2_o (by omega)).trans (c2 a (by omega)))
    refine c_X12_spend M1 hm hmd (fun b => ?_) (fun v2 hv2 ev2 _ _ q => ?_) (fun v2 hv2 ev2 _ _ _ I2 J2 q2 => ?_)
    · exfalso
      rcases b with z | ⟨v3, z1, z2, z3⟩ | z
      · exact z v hv ev
      · obtain rfl : v3 = v := ixe (z2.symm.trans ev) (by omega) (by omega)
        exact z3 k55
      · exact z yr
    · obtain rfl : v2 = v := ixe (ev2.symm.trans ev) (by omega) (by omega)
      exact absurd hl q
    obtain rfl : v2 = v := ixe (ev2.symm.trans ev) (by omega) (by omega)
    have m := q2.mq
    have d2 : DA I2 D := fun i a b => (m.1 i (by omega) (by omega) (by omega)).trans (M1.1 i a b)
    rw [d2.a (by decide) (by decide)]
    refine h2 _ (H.ch (I1 := up2 I1 0 5 0) (Nat.le_refl _) X1.s0 (by omega) (fun j hj => ?_) (fun a a1 a2 => ?_) w1.2.2.2.2.2 (fun a ha => ?_) (fun a ha => m.2.2.1 a (by omega) (by omega) (by omega)) (fun j j1 j2 j3 j4 => ?_) ?_ ((d2.u.up (by decide)).up (by decide)) (Or.inl (by rw [up2_e (by decide), up2_s])) (fun u hu => ?_) (fun r hr z => by rw [up2_d (by decide)] at z ⊢; exact H.2.2.2.2.2.2.1 r hr z))
    · rw [up2_e hj, c2 0 (by decide), w1.1 0 (by decide)]
    · rw [up2_o (by omega), c2 a (by omega), w1.1 a (by omega)]
    · rw [up2_o (by omega), up2_o (by omega), up2_o (by omega)]; exact m.1 a (by omega) (by omega) (by omega)
    · rw [up2_e j1, up2_e j2, up2_d (by decide)]; exact m.2.1 j j2 j3 j4
    · rw [up2_s, up2_d (by decide), up2_d (by decide), up2_d (by decide), m.1 0 (by decide) (by decide) (by decide), up2_s]
    · by_cases eu : u = v2
      · rw [eu, up2_s]
        have z1 := (in_add (X.2.1.2.2.1 v2 hv).2.2.1 (h600 v2 hv) yr).2
        have z2 := H.2.2.2.2.2.1 v2 hv
        omega
      · rw [up2_e eu]; exact H.2.2.2.2.2.1.up u hu
