set_option maxHeartbeats 200000 in
theorem apX_lo : ∀ (l : List Int32) (I : Nat → Nat → Int32) (t q : Nat), 1 ≤ q → q ≤ t → apX I t l 45 q = I 45 q
  | [], _, _, _, _, _ => rfl
  | b :: l, I, t, q, h1, h2 => by rw [apX, apX_lo l _ (t + 1) q h1 (by omega), up2_e (by omega), up2_e (by omega)]
set_option maxHeartbeats 200000 in
theorem apM_lo : ∀ (l : List Int32) (I : Nat → Nat → Int32) (t q : Nat), q < t → apM I t l 90 q = I 90 q
  | [], _, _, _, _ => rfl
  | b :: l, I, t, q, h2 => by rw [apM, apM_lo l _ (t + 1) q (by omega), up2_d (by decide), up2_e (by omega)]
set_option maxHeartbeats 200000 in
theorem ap_eq : ∀ (l : List Int32) (I I' : Nat → Nat → Int32) (t i : Nat), i < l.length → apX I t l 45 (t + i + 1) = apM I' t l 90 (t + i)
  | [], _, _, _, i, h => absurd h (Nat.not_lt_zero i)
  | b :: l, I, I', t, 0, h => by
    rw [apX, apM]; simp only [Nat.add_zero]; rw [apX_lo l _ (t + 1) (t + 1) (by omega) (Nat.le_refl _), apM_lo l _ (t + 1) t (by omega), up2_s, up2_d (by decide), up2_s]
  | b :: l, I, I', t, i + 1, h => by
    rw [apX, apM, show t + (i + 1) + 1 = t + 1 + i + 1 by omega, show t + (i + 1) = t + 1 + i by omega]
    exact ap_eq l _ _ (t + 1) i (by simpa using h)
theorem acL_len (kd : Int32) (w : Nat) : (acL kd w).length ≤ 50 := by
  have := gvL_len kd; have := ftL_len kd; have := opL_len kd; have := tlL_len kd
  unfold acL
  split
  · omega
  · split
    · omega
    · split <;> omega
section TR
variable {n N : Nat} {S : Nat → Nat × Nat} {I I1 I2 : Nat → Nat → Int32} {J : Nat → Nat → Int64} {Q : Nat → Nat → Option Nat} {D : Nat → Nat → Int32} {nv nr ns e : Nat} {ad td : Nat → Nat}
set_option maxHeartbeats 200000 in
theorem INVd.tr (H : INVd n N S I J Q D nv nr ns ad td e) (c0 : ∀ j, j ≠ 5 → I1 0 j = I 0 j) (c1 : ∀ a, a ≠ 0 → a ≠ 45 → I1 a = I a) (m1 : ∀ a, a ≠ 54 → a ≠ 90 → I2 a = I1 a) (m4 : ∀ j, j ≠ 24 → j ≠ 47 → I2 54 j = I1 54 j) (hs : I2 0 5 = I2 54 24)
    (hc : I2 45 0 = I2 54 47 ∧ ∃ k, k ≤ 50 ∧ I2 54 47 = nI k ∧ ∀ i, i < k → I2 45 (i + 1) = I2 90 i) : INV (n + 1) (N, S, I2, J, Q) := by
  have ce : ∀ a, a ≠ 0 → a ≠ 54 → a ≠ 45 → a ≠ 90 → I2 a = I a := fun a a1 a2 a3 a4 => (m1 a a2 a4).trans (c1 a a1 a3)
  have c4 : ∀ j, j ≠ 24 → j ≠ 47 → I2 54 j = I 54 j := fun j j1 j2 => by rw [m4 j j1 j2, c1 54 (by decide) (by decide)]
  obtain ⟨h1, h2, h3, h4, h5, h6, h7, h8, h9, h10, h11⟩ := H
  suffices key : INVd (n + 1) N S I2 J Q D nv nr ns ad td e from ⟨D, nv, nr, ns, ad, td, e, key⟩
  have g : Gr N S I Q N S I2 Q := ⟨Nat.le_refl _, fun _ _ => rfl, fun a a1 a2 => ce a (by omega) (by omega) (by omega) (by omega), fun _ _ _ => rfl⟩
  refine ⟨h1, fun i a b => (ce i (by omega) (by omega) (by omega) (by omega)).trans (h2 i a b), ?_, by omega, ?_, h6.up, h7, ?_, ?_, h10, h11⟩
  · obtain ⟨x1, x2, x3, x4, ⟨ord, st, x5⟩, x6, k1, k2, k3⟩ := h3
    refine ⟨x1.gr g (fun a a1 a2 _ => ce a (by omega) (by omega) (by omega) (by omega)) rfl, x2, x3, fun v hv u => by rw [ce (0 + 7) (by omega) (by omega) (by omega) (by omega)]; exact x4 v hv u, ⟨ord, st, x5.mv (ce 29 (by decide) (by decide) (by decide) (by decide)) (ce 30 (by decide) (by decide) (by decide) (by decide)) (ce 31 (by decide) (by decide) (by decide) (by decide))⟩, by rw [ce 31 (by decide) (by decide) (by decide) (by decide)]; exact x6, ?_⟩
    unfold BK BG
    rw [ce 23 (by decide) (by decide) (by decide) (by decide), ce 36 (by decide) (by decide) (by decide) (by decide), ce 37 (by decide) (by decide) (by decide) (by decide)]
    exact ⟨k1, k2, k3⟩
  · rw [c4 37 (by decide) (by decide)]
    exact h5.imp id (fun L => L.mv (ce 81 (by decide) (by decide) (by decide) (by decide)) (ce 82 (by decide) (by decide) (by decide) (by decide)) (ce 83 (by decide) (by decide) (by decide) (by decide)) rfl)
  · obtain ⟨a1, a2, a3, ⟨t, a4, a5⟩, a6, a7, a8, a9, a10⟩ := h8
    refine ⟨hs, ?_, ?_, ⟨t, a4, ?_⟩, ?_, ?_, ?_, hc, fun s hs => ?_⟩
    · rw [m1 0 (by decide) (by decide), c0 4 (by decide), c4 23 (by decide) (by decide)]; exact a2
    · rw [m1 0 (by decide) (by decide), c0 3 (by decide), c4 22 (by decide) (by decide)]; exact a3
    · rw [c4 25 (by decide) (by decide), c4 26 (by decide) (by decide), c4 27 (by decide) (by decide)]; exact a5.gr g
    · rw [c4 25 (by decide) (by decide), c4 26 (by decide) (by decide)]; exact a6
    · rw [ce 42 (by decide) (by decide) (by decide) (by decide)]; exact a7
    · rw [m1 0 (by decide) (by decide), c0 10 (by decide), c4 31 (by decide) (by decide), ce 43 (by decide) (by decide) (by decide) (by decide), ce 79 (by decide) (by decide) (by decide) (by decide)]; exact a8
    · rw [ce 91 (by decide) (by decide) (by decide) (by decide), ce 92 (by decide) (by decide) (by decide) (by decide), ce 93 (by decide) (by decide) (by decide) (by decide), ce 51 (by decide) (by decide) (by decide) (by decide), ce 52 (by decide) (by decide) (by decide) (by decide), ce (47 + s) (by omega) (by omega) (by omega) (by omega)]; exact a10 s hs
  · exact (h9.gr g (fun a b1 b2 => ce a (by omega) (by omega) (by omega) (by omega)) (ce 76 (by decide) (by decide) (by decide) (by decide)) (c4 22 (by decide) (by decide)) rfl).up
end TR
set_option maxHeartbeats 400000 in
theorem j_act {n : Nat} (hn6 : n < 600) {h : HP} {κ : Option Value → HP → Prop} {x y z : Int32} (H : INV n h) (hk : ∀ v h2, JM M_X12_act [.ref 54, .int x, .int y, .int z] n (.int v) h2 → κ (some (.int v)) h2) : CT E1 M_X11_act [.ref 0, .int x, .int y, .int z] h κ := by
  obtain ⟨N, S, I, J, Q⟩ := h
  obtain ⟨D, nv, nr, ns, ad, td, e, H⟩ := H
  replace H : INVd n N S I J Q D nv nr ns ad td e := H
  obtain ⟨md, hm, hmd⟩ := H.md
  have X := H.2.2.1
  have M0 := H.m0
  have hn10 := X.2.1.nv
  have hn30 := X.2.1.nr
  have hs10 := X.2.1.ns
  have he1 := H.2.2.2.1
  have he : e + 1 < 2 ^ 30 := by omega
  refine c_X11_act X (fun b => hk _ _ (fun κ2 h2 => ?_)) (fun r hr er w hw ew => hk _ _ (fun κ2 h2 => ?_))
  · exact c_X12_act (H.mod0 WQ.rf) (fun _ => h2 _ H.rf) (fun r hr er w hw ew => by
      exfalso
      rcases b with z2 | z2
      · exact z2 r hr er
      · exact z2 (by rw [ew]; exact nI_in2 (n := 3) (by omega) (by decide)))
  · generalize hl : acL (D 60 r) w = l at h2 ⊢
    have hlen : l.length ≤ 50 := by rw [← hl]; exact acL_len _ _
    have ho : ∀ a, a ≠ 0 → a ≠ 45 → apX (up2 (up2 I 45 0 0) 0 5 0) 0 l a = I a := fun a a1 a2 => by rw [apX_o a2, up2_o a1, up2_o a2]
    have M1 : MOD (apX (up2 (up2 I 45 0 0) 0 5 0) 0 l) J D nv nr ns := M0.cg (fun a ha => ho a (by omega) (by omega))
    refine c_X12_act M1 (fun b => ?_) (fun r2 hr2 er2 w2 hw2 ew2 => ?_)
    · exfalso
      rcases b with z2 | z2
      · exact z2 r hr er
      · exact z2 (by rw [ew]; exact nI_in2 (n := 3) (by omega) (by decide))
    obtain rfl : r2 = r := ixe (er2.symm.trans er) (by omega) (by omega)
    obtain rfl : w2 = w := ixe (ew2.symm.trans ew) (by omega) (by omega)
    rw [hl]
    refine h2 _ (H.tr (I1 := apX (up2 (up2 I 45 0 0) 0 5 0) 0 l) (fun j hj => ?_) ho (fun a a1 a2 => ?_) (fun j j1 j2 => ?_) ?_ ⟨?_, l.length, hlen, ?_, fun i hi => ?_⟩)
    · rw [apX_o (by decide), up2_e hj, up2_o (by decide)]
    · rw [up2_o a1, apM_o a2 a1, up2_o a1]
    · rw [up2_e j1, apM_j j2, up2_e j2]
    · rw [up2_s, up2_d (by decide), apM_o (by decide) (by decide), up2_d (by decide), apX_o (by decide), up2_s]
    · rw [up2_d (by decide), up2_e (by decide), apM_t l (up2 (apX (up2 (up2 I 45 0 0) 0 5 0) 0 l) 54 47 0) 0 (by rw [up2_s]; rfl), apM_o (by decide) (by decide), up2_d (by decide), apX_t l _ 0 (by rw [up2_d (by decide), up2_s]; rfl)]
    · rw [up2_e (by decide), apM_t l (up2 (apX (up2 (up2 I 45 0 0) 0 5 0) 0 l) 54 47 0) 0 (by rw [up2_s]; rfl), Nat.zero_add]
    · rw [up2_d (by decide), up2_d (by decide), apM_o (by decide) (by decide), up2_d (by decide)]
      have q := ap_eq l (up2 (up2 I 45 0 0) 0 5 0) (up2 (apX (up2 (up2 I 45 0 0) 0 5 0) 0 l) 54 47 0) 0 i hi
      rw [Nat.zero_add] at q; exact q
