/-! ===== image and back: side by side ===== -/
/-- the model's rows behind back() -/
def bk (I : Nat → Nat → Int32) : Nat → Nat → Int32 := fun i j => if j < lenA i then I 76 (off i + j) else I i j
section IB
variable {n N N' : Nat} {S S' : Nat → Nat × Nat} {I I' I1 I2 : Nat → Nat → Int32} {J J' : Nat → Nat → Int64} {Q Q' Q1 : Nat → Nat → Option Nat} {D : Nat → Nat → Int32} {nv nr ns nv' nr' ns' : Nat} {ad td ad' td' : Nat → Nat} {e : Nat}
theorem EQD.bk : EQD (im I) (bk I) := fun i _ _ j hj => if_pos hj
set_option maxHeartbeats 400000 in
theorem XB.fr (h : XB N S I J Q D nv nr ns ad td e) (h1 : ∀ a, a ≠ 0 → (a < 12 ∨ 22 < a) → (a < 54 ∨ 93 < a) → I' a = I a) (hq : ∀ a, (a = 8 ∨ 94 ≤ a) → Q' a = Q a) : XB N S I' J Q' D nv nr ns ad td e := by
  obtain ⟨x1, x2, x3, x4, ⟨ord, st, x5⟩, x6, k1, k2, k3⟩ := h
  refine ⟨x1.mv (fun a a1 a2 _ => h1 a (by omega) (by omega) (by omega)) (hq 8 (by decide)) (fun a ha => h1 a (by omega) (by omega) (by omega)) (fun a ha => hq a (by omega)), x2, x3, fun v hv u => by rw [h1 (0 + 7) (by omega) (by omega) (by omega)]; exact x4 v hv u, ⟨ord, st, x5.mv (h1 29 (by decide) (by decide) (by decide)) (h1 30 (by decide) (by decide) (by decide)) (h1 31 (by decide) (by decide) (by decide))⟩, by rw [h1 31 (by decide) (by decide) (by decide)]; exact x6, by rw [h1 23 (by decide) (by decide) (by decide)]; exact k1, k2, fun b hb => ?_⟩
  obtain ⟨q1, q2⟩ := k3 b hb
  rw [h1 36 (by decide) (by decide) (by decide)]
  refine ⟨q1, fun z => ?_⟩
  obtain ⟨p1, p2⟩ := q2 z
  exact ⟨p1, fun c hc => by rw [h1 37 (by decide) (by decide) (by decide)]; exact p2 c hc⟩
set_option maxHeartbeats 400000 in
theorem INVd.img (H : INVd n N S I J Q D nv nr ns ad td e) (g1 : CPY I I1 Q Q1 0 11) (g2 : KM (up2 (up2 I1 0 3 1) 0 5 0) I2 76) : INV (n + 1) (N, S, up2 (up2 I2 54 22 1) 54 24 0, J, Q1) := by
  obtain ⟨h1, h2, h3, h4, h5, h6, h7, h8, h9, h10, h11⟩ := H
  suffices key : INVd (n + 1) N S (up2 (up2 I2 54 22 1) 54 24 0) J Q1 D nv nr ns ad td e from ⟨D, nv, nr, ns, ad, td, e, key⟩
  have fz : ∀ a, a ≠ 0 → a ≠ 54 → a ≠ 76 → up2 (up2 I2 54 22 1) 54 24 0 a = I1 a := fun a a1 a2 a3 => by
    rw [up2_o a2, up2_o a2, g2.1 a a2 a3, up2_o a1, up2_o a1]
  have fa : ∀ a, a ≠ 0 → a ≠ 54 → a ≠ 76 → (a < 12 ∨ 22 < a) → up2 (up2 I2 54 22 1) 54 24 0 a = I a := fun a a1 a2 a3 a4 => by
    rw [fz a a1 a2 a3]; exact g1.1.1 a (by omega)
  have f0 : ∀ j, j ≠ 3 → j ≠ 5 → up2 (up2 I2 54 22 1) 54 24 0 0 j = I 0 j := fun j j1 j2 => by
    rw [up2_o (by decide), up2_o (by decide), g2.1 0 (by decide) (by decide), up2_e j2, up2_e j1, g1.1.1 0 (by omega)]
  have f05 : up2 (up2 I2 54 22 1) 54 24 0 0 5 = 0 := by
    rw [up2_o (by decide), up2_o (by decide), g2.1 0 (by decide) (by decide), up2_s]
  have f03 : up2 (up2 I2 54 22 1) 54 24 0 0 3 = 1 := by
    rw [up2_o (by decide), up2_o (by decide), g2.1 0 (by decide) (by decide), up2_e (by decide), up2_s]
  have f54 : ∀ j, j ≠ 22 → j ≠ 24 → j ≠ 32 → up2 (up2 I2 54 22 1) 54 24 0 54 j = I 54 j := fun j j1 j2 j3 => by
    rw [up2_e j2, up2_e j1, g2.2.1 j j3, up2_d (by decide), up2_d (by decide), g1.1.1 54 (by omega)]
  have f22 : up2 (up2 I2 54 22 1) 54 24 0 54 22 = 1 := by rw [up2_e (by decide), up2_s]
  have f24 : up2 (up2 I2 54 22 1) 54 24 0 54 24 = 0 := up2_s
  have fq : ∀ a, a ≠ 19 → Q1 a = Q a := fun a ha => g1.2.1 a ha
  have f76 : ∀ i, 55 ≤ i → i ≤ 75 → ∀ j, j < lenA i → im (up2 (up2 I2 54 22 1) 54 24 0) i j = D i j := fun i i1 i2 j hj => by
    unfold im
    rw [up2_o (by decide), up2_o (by decide), g2.2.2.2 i i1 (by omega) j hj, up2_o (by omega), up2_o (by omega), g1.1.1 i (by omega), h2 i i1 i2]
  generalize up2 (up2 I2 54 22 1) 54 24 0 = F at *
  refine ⟨h1, fun i a b => (fa i (by omega) (by omega) (by omega) (by omega)).trans (h2 i a b), h3.fr (fun a a1 a2 a3 => fa a a1 (by omega) (by omega) a2) (fun a ha => fq a (by omega)), by omega, ?_, h6.up, h7, ?_, ?_, ?_, ?_⟩
  · rw [f54 37 (by decide) (by decide) (by decide)]
    exact h5.imp id (fun L => L.mv (fa 81 (by decide) (by decide) (by decide) (by decide)) (fa 82 (by decide) (by decide) (by decide) (by decide)) (fa 83 (by decide) (by decide) (by decide) (by decide)) rfl)
  · obtain ⟨a1, a2, a3, ⟨t, a4, a5⟩, a6, a7, a8, a9, a10⟩ := h8
    refine ⟨f05.trans f24.symm, ?_, ⟨f03.trans f22.symm, Or.inr f22⟩, ⟨t, ?_, ?_⟩, ?_, ?_, ?_, ?_, fun s hs => ?_⟩
    · rw [f0 4 (by decide) (by decide), f54 23 (by decide) (by decide) (by decide)]; exact a2
    · rw [fq 0 (by decide)]; exact a4
    · rw [f54 25 (by decide) (by decide) (by decide), f54 26 (by decide) (by decide) (by decide), f54 27 (by decide) (by decide) (by decide)]
      exact a5.mv (fun a ha => fa a (by omega) (by omega) (by omega) (by omega))
    · rw [f54 25 (by decide) (by decide) (by decide), f54 26 (by decide) (by decide) (by decide)]; exact a6
    · rw [fa 42 (by decide) (by decide) (by decide) (by decide)]; exact a7
    · rw [f0 10 (by decide) (by decide), f54 31 (by decide) (by decide) (by decide), fa 43 (by decide) (by decide) (by decide) (by decide), fa 79 (by decide) (by decide) (by decide) (by decide)]; exact a8
    · rw [fa 45 (by decide) (by decide) (by decide) (by decide), f54 47 (by decide) (by decide) (by decide), fa 90 (by decide) (by decide) (by decide) (by decide)]; exact a9
    · rw [fq 46 (by decide), fa 91 (by decide) (by decide) (by decide) (by decide), fa 92 (by decide) (by decide) (by decide) (by decide), fa 93 (by decide) (by decide) (by decide) (by decide), fa 51 (by decide) (by decide) (by decide) (by decide), fa 52 (by decide) (by decide) (by decide) (by decide), fa (47 + s) (by omega) (by omega) (by omega) (by omega)]; exact a10 s hs
  · intro _
    have E : EQD D (im F) := f76
    have W := h3.2.1
    refine ⟨nv, nr, ns, ad, td, E.dw W, (E.rr W.nr).ac h3.2.2.1, E.xs W ((g1.xs (by decide) (by decide) W h3.1).mv (fun a a1 a2 _ => fz a (by omega) (by omega) (by omega)) rfl (fun a ha => fz a (by omega) (by omega) (by omega)) (fun _ _ => rfl)), (E.rr W.nr).nt (fun v hv u => ?_), E.spb W.nv h6.up, (E.rr W.nr).t64 h7⟩
    rw [fz (11 + 7) (by decide) (by decide) (by decide)]; exact g1.nt W h3.2.2.2.1 v hv u
  · intro r hr; rw [fq 8 (by decide)]; exact h10 r hr
  · exact g1.qr h10
set_option maxHeartbeats 400000 in
theorem INVd.bck (H : INVd n N S I J Q D nv nr ns ad td e) {k : Nat} (hk1 : I 54 23 = nI k) (hk2 : k < 20) (g1 : CPY (up2 I 0 4 (I 0 4 + 1)) I1 Q Q1 11 0) (f : FG I1 I') (X : XB N S I' J (up2 Q1 0 7 (some 42)) (bk I) nv' nr' ns' ad' td' (e + 1)) (hsp : SPB (bk I) nv' n) (ht : T64 (bk I) nr')
    (g2 : BM (up2 (up2 I' 0 5 0) 54 23 (up2 I' 0 5 0 54 23 + 1)) I2 76) : INV (n + 1) (N, S, up2 (up2 (up2 I2 54 25 0) 54 37 0) 54 24 0, J, up2 Q1 0 7 (some 42)) ∧ I2 75 6 = bk I 75 6 := by
  obtain ⟨h1, h2, h3, h4, h5, h6, h7, h8, h9, h10, h11⟩ := H
  have fc : ∀ a, 11 < a → (a < 23 ∨ 41 < a) → I' a = I a := fun a a1 a2 => (f a (by omega) (by omega) (by omega) (by omega)).trans ((g1.1.1 a (by omega)).trans (up2_o (by omega)))
  have fb : ∀ a, a ≠ 0 → a ≠ 54 → (a < 54 ∨ 75 < a) → I2 a = I' a := fun a a1 a2 a3 => by
    rw [g2.1 a (by omega), up2_o a2, up2_o a1]
  have fr : ∀ i, 55 ≤ i → i ≤ 75 → I2 i = bk I i := fun i i1 i2 => by
    funext j
    unfold bk
    by_cases hj : j < lenA i
    · rw [if_pos hj, g2.2.2.2.2 i i1 (by omega) j hj, up2_o (by decide), up2_o (by decide), fc 76 (by decide) (by decide)]
    · rw [if_neg hj, g2.2.2.2.1 i i1 (by omega) j (by omega), up2_o (by omega), up2_o (by omega), fc i (by omega) (by omega)]
  refine ⟨?_, by rw [fr 75 (by decide) (by decide)]⟩
  suffices key : INVd (n + 1) N S (up2 (up2 (up2 I2 54 25 0) 54 37 0) 54 24 0) J (up2 Q1 0 7 (some 42)) (bk I) nv' nr' ns' ad' td' (e + 1) from ⟨bk I, nv', nr', ns', ad', td', e + 1, key⟩
  have fo : ∀ a, a ≠ 54 → up2 (up2 (up2 I2 54 25 0) 54 37 0) 54 24 0 a = I2 a := fun a ha => by rw [up2_o ha, up2_o ha, up2_o ha]
  have fa : ∀ a, 11 < a → a ≠ 54 → (a < 23 ∨ (41 < a ∧ a < 54) ∨ 75 < a) → up2 (up2 (up2 I2 54 25 0) 54 37 0) 54 24 0 a = I a := fun a a1 a2 a3 => by
    rw [fo a a2, fb a (by omega) a2 (by omega)]; exact fc a a1 (by omega)
  have f0 : ∀ j, j ≠ 4 → j ≠ 5 → up2 (up2 (up2 I2 54 25 0) 54 37 0) 54 24 0 0 j = I 0 j := fun j j1 j2 => by
    rw [fo 0 (by decide), g2.1 0 (by decide), up2_o (by decide), up2_e j2, f 0 (by decide) (by decide) (by decide) (by decide), g1.1.1 0 (by omega), up2_e j1]
  have f05 : up2 (up2 (up2 I2 54 25 0) 54 37 0) 54 24 0 0 5 = 0 := by
    rw [fo 0 (by decide), g2.1 0 (by decide), up2_o (by decide), up2_s]
  have f04 : up2 (up2 (up2 I2 54 25 0) 54 37 0) 54 24 0 0 4 = I 0 4 + 1 := by
    rw [fo 0 (by decide), g2.1 0 (by decide), up2_o (by decide), up2_e (by decide), f 0 (by decide) (by decide) (by decide) (by decide), g1.1.1 0 (by omega), up2_s]
  have f54 : ∀ j, j ≠ 23 → j ≠ 24 → j ≠ 25 → j ≠ 32 → j ≠ 37 → up2 (up2 (up2 I2 54 25 0) 54 37 0) 54 24 0 54 j = I 54 j := fun j j1 j2 j3 j4 j5 => by
    rw [up2_e j2, up2_e j5, up2_e j3, g2.2.1 j j4, up2_e j1, up2_d (by decide), fc 54 (by decide) (by decide)]
  have f23 : up2 (up2 (up2 I2 54 25 0) 54 37 0) 54 24 0 54 23 = I 54 23 + 1 := by
    rw [up2_e (by decide), up2_e (by decide), up2_e (by decide), g2.2.1 23 (by decide), up2_s, up2_d (by decide), fc 54 (by decide) (by decide)]
  have f24 : up2 (up2 (up2 I2 54 25 0) 54 37 0) 54 24 0 54 24 = 0 := up2_s
  have f25 : up2 (up2 (up2 I2 54 25 0) 54 37 0) 54 24 0 54 25 = 0 := by rw [up2_e (by decide), up2_e (by decide), up2_s]
  have f37 : up2 (up2 (up2 I2 54 25 0) 54 37 0) 54 24 0 54 37 = 0 := by rw [up2_e (by decide), up2_s]
  have fx : ∀ a, (a < 54 ∨ 93 < a) → up2 (up2 (up2 I2 54 25 0) 54 37 0) 54 24 0 a = up2 I' 0 5 0 a := fun a ha => by
    rw [fo a (by omega), g2.1 a (by omega), up2_o (by omega)]
  have fq : ∀ a, a ≠ 0 → a ≠ 8 → up2 Q1 0 7 (some 42) a = Q a := fun a a1 a2 => by rw [up2_o a1]; exact g1.2.1 a a2
  have fr2 : DA (up2 (up2 (up2 I2 54 25 0) 54 37 0) 54 24 0) (bk I) := fun i i1 i2 => by rw [fo i (by omega)]; exact fr i i1 i2
  generalize up2 (up2 (up2 I2 54 25 0) 54 37 0) 54 24 0 = F at *
  refine ⟨h1, fr2, (X.s0 (w := 0)).md fx (fun _ _ => rfl), by omega, Or.inl f37, hsp.up, ht, ?_, ?_, ?_, ?_⟩
  · obtain ⟨a1, ⟨b1, -⟩, a3, -, -, a7, a8, a9, a10⟩ := h8
    have e42 : F 42 = I 42 := fa 42 (by decide) (by decide) (by decide)
    refine ⟨f05.trans f24.symm, ⟨by rw [f04, f23, b1], k + 1, by omega, by rw [f23, hk1]; exact nI_1 k⟩, ?_, ⟨42, up2_s, ?_⟩, ?_, ?_, ?_, ?_, fun s hs => ?_⟩
    · rw [f0 3 (by decide) (by decide), f54 22 (by decide) (by decide) (by decide) (by decide) (by decide)]; exact a3
    · rw [f25]; exact ⟨Or.inl rfl, a7.1, a7.2.1, by rw [e42]; exact a7.2.2, fun z => absurd rfl z, fun z => absurd z (by decide)⟩
    · rw [f25]; exact ⟨by unfold hk5; decide, fun z => absurd z (by decide), fun z => absurd z (by decide)⟩
    · rw [e42]; exact a7
    · rw [f0 10 (by decide) (by decide), f54 31 (by decide) (by decide) (by decide) (by decide) (by decide), fa 43 (by decide) (by decide) (by decide), fa 79 (by decide) (by decide) (by decide)]; exact a8
    · rw [fa 45 (by decide) (by decide) (by decide), f54 47 (by decide) (by decide) (by decide) (by decide) (by decide), fa 90 (by decide) (by decide) (by decide)]; exact a9
    · rw [fq 46 (by decide) (by decide), fa 91 (by decide) (by decide) (by decide), fa 92 (by decide) (by decide) (by decide), fa 93 (by decide) (by decide) (by decide), fa 51 (by decide) (by decide) (by decide), fa 52 (by decide) (by decide) (by decide), fa (47 + s) (by omega) (by omega) (by omega)]; exact a10 s hs
  · exact (h9.mv (fun a a1 a2 => fa a (by omega) (by omega) (by omega)) (fa 76 (by decide) (by decide) (by decide)) (f54 22 (by decide) (by decide) (by decide) (by decide) (by decide)) (fun a ha => fa a (by omega) (by omega) (by omega)) (fq 19 (by decide) (by decide)) (fun a ha => fq a (by omega) (by omega))).up
  · intro r hr; rw [up2_o (by decide)]; exact g1.qr (o := 11) (p := 0) h11 r hr
  · intro r hr; rw [fq 19 (by decide) (by decide)]; exact h11 r hr
end IB
set_option maxHeartbeats 400000 in
theorem j_image {n : Nat} (hn6 : n < 600) {h : HP} {κ : Option Value → HP → Prop} (H : INV n h) (hk : ∀ v h2, JM M_X12_image [.ref 54] n (.int v) h2 → κ (some (.int v)) h2) : CT E1 M_X11_image [.ref 0] h κ := by
  obtain ⟨N, S, I, J, Q⟩ := h
  obtain ⟨D, nv, nr, ns, ad, td, e, H⟩ := H
  replace H : INVd n N S I J Q D nv nr ns ad td e := H
  obtain ⟨md, hm, hmd⟩ := H.md
  have X := H.2.2.1
  have M0 := H.m0
  have hn10 := X.2.1.nv
  have hn30 := X.2.1.nr
  have hs10 := X.2.1.ns
  have he1 := H.2.2.2.1
  have he : e + 1 < 2 ^ 30 := by omega
  refine c_X11_image H.2.2.2.2.2.2.2.2.2.1 (fun I1 Q1 g1 => hk _ _ (fun κ2 h2 => ?_))
  exact c_X12_image (fun I2 g2 => h2 _ (H.img g1 g2))
set_option maxHeartbeats 400000 in
theorem j_back {n : Nat} (hn6 : n < 600) {h : HP} {κ : Option Value → HP → Prop} (H : INV n h) (hk : ∀ v h2, JM M_X12_back [.ref 54] n (.int v) h2 → κ (some (.int v)) h2) : CT E1 M_X11_back [.ref 0] h κ := by
  obtain ⟨N, S, I, J, Q⟩ := h
  obtain ⟨D, nv, nr, ns, ad, td, e, H⟩ := H
  replace H : INVd n N S I J Q D nv nr ns ad td e := H
  obtain ⟨md, hm, hmd⟩ := H.md
  have X := H.2.2.1
  have M0 := H.m0
  have hn10 := X.2.1.nv
  have hn30 := X.2.1.nr
  have hs10 := X.2.1.ns
  have he1 := H.2.2.2.1
  have he : e + 1 < 2 ^ 30 := by omega
  obtain ⟨-, ⟨b1, k, b2, b3⟩, ⟨c1, c2⟩, -⟩ := H.2.2.2.2.2.2.2.1
  have h11 := H.2.2.2.2.2.2.2.2.2.2
  have e23 : ∀ w : Int32, up2 I 0 5 w 54 23 = nI k := fun w => by rw [up2_d (by decide)]; exact b3
  have e22 : ∀ w : Int32, up2 I 0 5 w 54 22 = I 54 22 := fun w => up2_d (by decide)
  have e20 : ∀ z : nI k = 20, k = 20 := fun z => ixe (b := 20) z (by omega) (by decide)
  by_cases hi : I 54 22 = 0
  · refine c_X11_back X he (k := k) (by rw [b1]; exact b3) b2 h11 (D' := D) (nv' := nv) (nr' := nr) (ns' := ns) (ad' := ad) (td' := td) (fun z => absurd (c1.trans hi) z) (fun z => hk _ _ (fun κ2 h2 => ?_)) (fun z _ => hk _ _ (fun κ2 h2 => ?_)) (fun _ z => absurd (c1.trans hi) z)
    · exact c_X12_back (fun _ => h2 _ H.rf) (fun q => absurd (by rw [e23, z]; rfl) q) (fun q => absurd (by rw [e23, z]; rfl) q)
    · exact c_X12_back (fun q => absurd (e20 ((e23 _).symm.trans q)) z) (fun _ _ => h2 _ H.rf) (fun _ q => absurd ((e22 _).trans hi) q)
  · obtain ⟨nv', nr', ns', ad', td', w1, w2, w3, w4, w5, w6⟩ := H.2.2.2.2.2.2.2.2.1 hi
    have E : EQD (im I) (bk I) := EQD.bk
    have hn' := w1.nv
    have hr' := w1.nr
    refine c_X11_back X he (k := k) (by rw [b1]; exact b3) b2 h11 (D' := bk I) (nv' := nv') (nr' := nr') (ns' := ns') (ad' := ad') (td' := td') (fun _ => ⟨E.dw w1, (E.rr hr').ac w2, E.xs w1 w3, (E.rr hr').nt w4⟩) (fun z => hk _ _ (fun κ2 h2 => ?_)) (fun _ z => absurd (c1.symm.trans z) hi) (fun z _ I1 Q1 g1 I3 f1 X1 => hk _ _ (fun κ2 h2 => ?_))
    · exact c_X12_back (fun _ => h2 _ H.rf) (fun q => absurd (by rw [e23, z]; rfl) q) (fun q => absurd (by rw [e23, z]; rfl) q)
    · have e54 : up2 I3 0 5 0 54 = I 54 := by
        rw [up2_o (by decide), f1 54 (by decide) (by decide) (by decide) (by decide), g1.1.1 54 (by omega), up2_o (by decide)]
      refine c_X12_back (fun q => absurd (e20 (b3.symm.trans (by rw [← q, e54]))) z) (fun _ q => absurd (by rw [← q, e54]) hi) (fun _ _ I2 g2 => ?_)
      have r := H.bck b3 (by omega) g1 f1 X1 (E.spb hn' w5) ((E.rr hr').t64 w6) g2
      rw [r.2]
      exact h2 _ r.1
