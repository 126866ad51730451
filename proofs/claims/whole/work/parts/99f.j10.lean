/-! ===== rules, side by side ===== -/
section IR
variable {n N N' : Nat} {S S' : Nat → Nat × Nat} {I I1 I2 I' F : Nat → Nat → Int32} {J : Nat → Nat → Int64} {Q Q' Q1 : Nat → Nat → Option Nat} {D D' : Nat → Nat → Int32} {nv nr nr' ns m kn ci a ra so t : Nat} {ad td ad' td' : Nat → Nat} {e e' : Nat} {w ty le am b fa how of num aim more amt by_ rd : Int32}
set_option maxHeartbeats 400000 in
theorem XB.f3 (h : XB N S I J Q D nv nr ns ad td e) (h1 : ∀ c, (1 ≤ c ∧ c ≤ 11) ∨ (23 ≤ c ∧ c ≤ 42) ∨ 94 ≤ c → I' c = I c) : XB N S I' J Q D nv nr ns ad td e := by
  obtain ⟨x1, x2, x3, x4, ⟨ord, st, x5⟩, x6, k1, k2, k3⟩ := h
  refine ⟨x1.mv (fun c a1 a2 _ => h1 c (by omega)) rfl (fun c hc => h1 c (by omega)) (fun _ _ => rfl), x2, x3, fun v hv u => by rw [h1 (0 + 7) (by omega)]; exact x4 v hv u, ⟨ord, st, x5.mv (h1 29 (by decide)) (h1 30 (by decide)) (h1 31 (by decide))⟩, by rw [h1 31 (by decide)]; exact x6, by rw [h1 23 (by decide)]; exact k1, k2, fun c hc => ?_⟩
  obtain ⟨q1, q2⟩ := k3 c hc
  rw [h1 36 (by decide)]
  refine ⟨q1, fun z => ?_⟩
  obtain ⟨p1, p2⟩ := q2 z
  exact ⟨p1, fun o ho => by rw [h1 37 (by decide)]; exact p2 o ho⟩
theorem SD.gw (h : SD N S I Q nv) (g : Gr N S I Q N' S' F Q') (c0 : ∀ j, j ≠ 5 → j ≠ 10 → F 0 j = I 0 j) (hs : F 0 5 = F 54 24) (c54 : ∀ j, j = 22 ∨ j = 23 ∨ (25 ≤ j ∧ j ≤ 27) ∨ j = 47 → F 54 j = I 54 j) (c1 : ∀ c, 42 ≤ c → c ≤ 52 → c ≠ 43 → c ≠ 44 → F c = I c) (c9 : ∀ c, 90 ≤ c → c ≤ 93 → F c = I c) (q0 : Q' 0 = Q 0) (q46 : Q' 46 = Q 46) (rg : F 0 10 = F 54 31 ∧ ∃ k, k ≤ 10 ∧ F 54 31 = nI k ∧ ∀ i, i < k → F 43 i = F 79 i) : SD N' S' F Q' nv := by
  obtain ⟨a1, a2, a3, ⟨t, a4, a5⟩, a6, a7, a8, a9, a10⟩ := h
  refine ⟨hs, ?_, ?_, ⟨t, by rw [q0]; exact a4, ?_⟩, ?_, ?_, rg, ?_, fun s hs => ?_⟩
  · rw [c0 4 (by decide) (by decide), c54 23 (by decide)]; exact a2
  · rw [c0 3 (by decide) (by decide), c54 22 (by decide)]; exact a3
  · rw [c54 25 (by decide), c54 26 (by decide), c54 27 (by decide)]; exact a5.gr g
  · rw [c54 25 (by decide), c54 26 (by decide)]; exact a6
  · rw [c1 42 (by decide) (by decide) (by decide) (by decide), g.2.1 42 a7.1]; exact ⟨Nat.lt_of_lt_of_le a7.1 g.1, a7.2⟩
  · rw [c1 45 (by decide) (by decide) (by decide) (by decide), c54 47 (by decide), c9 90 (by decide) (by decide)]; exact a9
  · rw [q46, c9 91 (by decide) (by decide), c9 92 (by decide) (by decide), c9 93 (by decide) (by decide), c1 51 (by decide) (by decide) (by decide) (by decide), c1 52 (by decide) (by decide) (by decide) (by decide), c1 (47 + s) (by omega) (by omega) (by omega) (by omega)]; exact a10 s hs
theorem INVd.gw (H : INVd n N S I J Q D nv nr ns ad td e) (g : Gr N S I Q N' S' F Q') (X : XB N' S' F J Q' D' nv nr' ns ad' td' e') (he : e' ≤ n + 2) (hd : DA F D') (h37 : F 54 37 = 0 ∨ LDD F J D' nv nr' ns) (hsp : SPB D' nv (n + 1)) (ht : T64 D' nr') (sd : SD N' S' F Q' nv) (fi : ∀ c, 12 ≤ c → c ≤ 22 → F c = I c) (f76 : F 76 = I 76) (f22 : F 54 22 = I 54 22) (q19 : Q' 19 = Q 19) (qr : QR N' S' Q' 8) : INV (n + 1) (N', S', F, J, Q') := by
  obtain ⟨h1, h2, h3, h4, h5, h6, h7, h8, h9, h10, h11⟩ := H
  exact ⟨D', nv, nr', ns, ad', td', e', Nat.le_trans h1 g.1, hd, X, by omega, h37, hsp, ht, sd, (h9.gr g fi f76 f22 q19).up, qr, h11.gr g q19⟩
/-- refused, a new object made -/
theorem INVd.rfN (H : INVd n N S I J Q D nv nr ns ad td e) (hN : NEW N I I1 Q Q1) : INV (n + 1) (N + 1, nS S N (ci, 0), up2 (up2 I1 0 5 w) 54 24 w, J, Q1) := by
  have h94 := H.1
  obtain ⟨-, -, -, ⟨t, a4, a5⟩, a6, -⟩ := H.2.2.2.2.2.2.2.1
  have gr : Gr N S I Q (N + 1) (nS S N (ci, 0)) (up2 I1 0 5 w) Q1 := ⟨Nat.le_succ _, fun c hc => nS_o (by omega), fun c c1 c2 => by rw [up2_o (by omega)]; exact hN.1 c (by omega), fun c _ c2 => hN.2 c (by omega)⟩
  have e54 : ∀ j, j ≠ 24 → up2 (up2 I1 0 5 w) 54 24 w 54 j = I 54 j := fun j hj => by rw [up2_e hj, up2_d (by decide), hN.1 54 (by omega)]
  refine H.tst gr (fun j hj => by rw [up2_e hj, hN.1 0 (by omega)]) (fun c c1 c2 => by rw [up2_o c1]; exact hN.1 c (by omega)) (fun c _ c2 => hN.2 c (by omega)) (fun c hc => up2_o hc) (fun j j1 j2 j3 j4 => up2_e j1) ?_ ⟨t, by rw [hN.2 0 (by omega)]; exact a4, ?_⟩ ?_
  · rw [up2_s, up2_d (by decide), up2_s]
  · rw [e54 25 (by decide), e54 26 (by decide), e54 27 (by decide)]
    exact (a5.gr gr).mv (fun c hc => up2_o (by omega))
  · rw [e54 25 (by decide), e54 26 (by decide)]; exact a6
/-- a ring was found -/
theorem INVd.rng {r : Nat → Nat} (H : INVd n N S I J Q D nv nr ns ad td e) (hN : NEW N I I1 Q Q1) (hm : m ≤ 9) (f1 : ∀ d, d ≠ 43 → d ≠ 44 → I' d = I1 d) (f43 : ∀ i, i ≤ m → I' 43 i = nI (r i)) (g2 : RGI (up2 (up2 I' 0 10 (nI (m + 1))) 0 5 4) I2 D nr a rd m m r) : INV (n + 1) (N + 1, nS S N (ci, 0), up2 I2 54 24 4, J, Q1) := by
  have h94 := H.1
  have fo : ∀ d, d ≠ 54 → d ≠ 77 → d ≠ 78 → d ≠ 79 → up2 I2 54 24 4 d = up2 (up2 I' 0 10 (nI (m + 1))) 0 5 4 d := fun d d1 d2 d3 d4 => by rw [up2_o d1]; exact g2.1 d d1 d2 d3 d4
  have fa : ∀ d, d ≠ N → d ≠ 0 → d ≠ 43 → d ≠ 44 → d ≠ 54 → d ≠ 77 → d ≠ 78 → d ≠ 79 → up2 I2 54 24 4 d = I d := fun d d0 d1 d2 d3 d4 d5 d6 d7 => by
    rw [fo d d4 d5 d6 d7, up2_o d1, up2_o d1, f1 d d2 d3, hN.1 d d0]
  have f54 : ∀ j, j ≠ 24 → j ≠ 31 → up2 I2 54 24 4 54 j = I 54 j := fun j j1 j2 => by
    rw [up2_e j1, g2.2.1 j j2, up2_d (by decide), up2_d (by decide), f1 54 (by decide) (by decide), hN.1 54 (by omega)]
  have gr : Gr N S I Q (N + 1) (nS S N (ci, 0)) (up2 I2 54 24 4) Q1 := ⟨Nat.le_succ _, fun c hc => nS_o (by omega), fun c c1 c2 => fa c (by omega) (by omega) (by omega) (by omega) (by omega) (by omega) (by omega) (by omega), fun c _ c2 => hN.2 c (by omega)⟩
  have X1 : XB (N + 1) (nS S N (ci, 0)) (up2 I2 54 24 4) J Q1 D nv nr ns ad td e := (H.2.2.1.new h94 hN).f3 (fun c hc => by
    rw [fo c (by omega) (by omega) (by omega) (by omega), up2_o (by omega), up2_o (by omega), f1 c (by omega) (by omega)])
  refine H.gw gr X1 (by have := H.2.2.2.1; omega) (fun i i1 i2 => (fa i (by omega) (by omega) (by omega) (by omega) (by omega) (by omega) (by omega) (by omega)).trans (H.2.1 i i1 i2)) ?_ H.2.2.2.2.2.1.up H.2.2.2.2.2.2.1 ?_ (fun c c1 c2 => fa c (by omega) (by omega) (by omega) (by omega) (by omega) (by omega) (by omega) (by omega)) (fa 76 (by omega) (by decide) (by decide) (by decide) (by decide) (by decide) (by decide) (by decide)) (f54 22 (by decide) (by decide)) (hN.2 19 (by omega)) (H.2.2.2.2.2.2.2.2.2.1.gr gr (hN.2 8 (by omega)))
  · rw [f54 37 (by decide) (by decide)]
    exact H.2.2.2.2.1.imp id (fun L => L.mv (fa 81 (by omega) (by decide) (by decide) (by decide) (by decide) (by decide) (by decide) (by decide)) (fa 82 (by omega) (by decide) (by decide) (by decide) (by decide) (by decide) (by decide) (by decide)) (fa 83 (by omega) (by decide) (by decide) (by decide) (by decide) (by decide) (by decide) (by decide)) rfl)
  · refine H.2.2.2.2.2.2.2.1.gw gr (fun j j1 j2 => ?_) ?_ (fun j hj => f54 j (by omega) (by omega)) (fun c c1 c2 c3 c4 => fa c (by omega) (by omega) c3 c4 (by omega) (by omega) (by omega) (by omega)) (fun c c1 c2 => fa c (by omega) (by omega) (by omega) (by omega) (by omega) (by omega) (by omega) (by omega)) (hN.2 0 (by omega)) (hN.2 46 (by omega)) ⟨?_, m + 1, by omega, ?_, fun i hi => ?_⟩
    · rw [fo 0 (by decide) (by decide) (by decide) (by decide), up2_e j1, up2_e j2, f1 0 (by decide) (by decide), hN.1 0 (by omega)]
    · rw [fo 0 (by decide) (by decide) (by decide) (by decide), up2_s, up2_s]
    · rw [fo 0 (by decide) (by decide) (by decide) (by decide), up2_e (by decide), up2_s, up2_e (by decide), g2.2.2.1]
    · rw [up2_e (by decide), g2.2.2.1]
    · rw [fo 43 (by decide) (by decide) (by decide) (by decide), up2_o (by decide), up2_o (by decide), f43 i (by omega), up2_o (by decide), g2.2.2.2.2.2 i (by omega)]
theorem nwD.da (h : DA I D) : DA (nwD I nr w aim more amt ty le am b fa how of num) (nwD D nr w aim more amt ty le am b fa how of num) := by
  unfold nwD; exact h.u.u.u.u.u.u.u.u.u.u.u.u.u
theorem nwD.o {c : Nat} (h : (c < 60 ∨ 71 < c) ∧ c ≠ 75) : nwD I nr w aim more amt ty le am b fa how of num c = I c := by
  unfold nwD
  rw [up2_o (by omega), up2_o (by omega), up2_o (by omega), up2_o (by omega), up2_o (by omega), up2_o (by omega), up2_o (by omega), up2_o (by omega), up2_o (by omega), up2_o (by omega), up2_o (by omega), up2_o (by omega), up2_o (by omega)]
/-- a rule was entered -/
theorem INVd.ent (H : INVd n N S I J Q D nv nr ns ad td e) (hN : NEW N I I1 Q Q1) (hci : ci = kc (nI kn)) (hr : nr < 30) (hk : kn ≤ 6) (hy : TYO kn ty le)
    (f1 : ∀ d, (d = 0 ∨ 11 < d) → d ≠ 23 → d ≠ 29 → d ≠ 30 → d ≠ 31 → d ≠ 44 → I' d = I1 d) (X : XB (N + 1) (nS S N (ci, 0)) I' J (up2 Q1 8 nr (some N)) (nwD D nr (nI kn) (nI a) (nI ra) (nI so) ty le am b fa how of num) nv (nr + 1) ns ad' td' (e + 1))
    (f2 : ∀ c, c ≠ 77 → c ≠ 78 → I2 c = up2 I' 0 5 0 c) : INV (n + 1) (N + 1, nS S N (ci, 0), up2 (up2 (nwD I2 nr (nI kn) (nI a) (nI ra) (nI so) ty le am b fa how of num) 54 37 0) 54 24 0, J, up2 Q1 8 nr (some N)) := by
  have h94 := H.1
  have fo : ∀ d, d ≠ 54 → (d < 60 ∨ 71 < d) → d ≠ 75 → d ≠ 77 → d ≠ 78 → up2 (up2 (nwD I2 nr (nI kn) (nI a) (nI ra) (nI so) ty le am b fa how of num) 54 37 0) 54 24 0 d = up2 I' 0 5 0 d := fun d d1 d2 d3 d4 d5 => by
    rw [up2_o d1, up2_o d1, nwD.o ⟨d2, d3⟩, f2 d d4 d5]
  have fz : ∀ d, d ≠ N → 11 < d → (d < 23 ∨ 41 < d) → d ≠ 44 → d ≠ 54 → (d < 60 ∨ 71 < d) → d ≠ 75 → d ≠ 77 → d ≠ 78 → up2 (up2 (nwD I2 nr (nI kn) (nI a) (nI ra) (nI so) ty le am b fa how of num) 54 37 0) 54 24 0 d = I d := fun d d0 d1 d2 d3 d4 d5 d6 d7 d8 => by
    rw [fo d d4 d5 d6 d7 d8, up2_o (by omega), f1 d (by omega) (by omega) (by omega) (by omega) (by omega) d3, hN.1 d d0]
  have f54 : ∀ j, j ≠ 24 → j ≠ 37 → up2 (up2 (nwD I2 nr (nI kn) (nI a) (nI ra) (nI so) ty le am b fa how of num) 54 37 0) 54 24 0 54 j = I 54 j := fun j j1 j2 => by
    rw [up2_e j1, up2_e j2, nwD.o (by decide), f2 54 (by decide) (by decide), up2_d (by decide), f1 54 (by decide) (by decide) (by decide) (by decide) (by decide) (by decide), hN.1 54 (by omega)]
  have f0 : ∀ j, j ≠ 5 → up2 (up2 (nwD I2 nr (nI kn) (nI a) (nI ra) (nI so) ty le am b fa how of num) 54 37 0) 54 24 0 0 j = I 0 j := fun j j1 => by
    rw [fo 0 (by decide) (by decide) (by decide) (by decide) (by decide), up2_e j1, f1 0 (by decide) (by decide) (by decide) (by decide) (by decide) (by decide), hN.1 0 (by omega)]
  have fq : ∀ c, c ≠ N → c ≠ 8 → up2 Q1 8 nr (some N) c = Q c := fun c c1 c2 => by rw [up2_o c2]; exact hN.2 c c1
  have gr : Gr N S I Q (N + 1) (nS S N (ci, 0)) (up2 (up2 (nwD I2 nr (nI kn) (nI a) (nI ra) (nI so) ty le am b fa how of num) 54 37 0) 54 24 0) (up2 Q1 8 nr (some N)) := ⟨Nat.le_succ _, fun c hc => nS_o (by omega), fun c c1 c2 => fz c (by omega) (by omega) (by omega) (by omega) (by omega) (by omega) (by omega) (by omega) (by omega), fun c c1 c2 => fq c (by omega) (by omega)⟩
  have nw : NWD D (nwD D nr (nI kn) (nI a) (nI ra) (nI so) ty le am b fa how of num) nr kn a ra so ty le am b fa how of num := nwD.nw
  have d2 : DA I2 D := fun i i1 i2 => by rw [f2 i (by omega) (by omega), up2_o (by omega), f1 i (by omega) (by omega) (by omega) (by omega) (by omega) (by omega), hN.1 i (by omega)]; exact H.2.1 i i1 i2
  refine H.gw gr ((X.s0 (w := 0)).md (fun c hc => fo c (by omega) (by omega) (by omega) (by omega) (by omega)) (fun _ _ => rfl)) (by have := H.2.2.2.1; omega) (((nwD.da d2).up (by decide)).up (by decide)) (Or.inl (by rw [up2_e (by decide), up2_s])) (fun v hv => ?_) (nw.t64 hk hy H.2.2.2.2.2.2.1) ?_ (fun c c1 c2 => fz c (by omega) (by omega) (by omega) (by omega) (by omega) (by omega) (by omega) (by omega) (by omega)) (fz 76 (by omega) (by decide) (by decide) (by decide) (by decide) (by decide) (by decide) (by decide) (by decide)) (f54 22 (by decide) (by decide)) (fq 19 (by omega) (by decide)) (fun r hr2 => ?_)
  · rw [nw.1 59 (by decide)]; exact H.2.2.2.2.2.1.up v hv
  · have sd := H.2.2.2.2.2.2.2.1
    obtain ⟨-, -, -, -, -, -, ⟨a8, k, a9, a10, a11⟩, -⟩ := H.2.2.2.2.2.2.2.1
    refine sd.gw gr (fun j j1 _ => f0 j j1) ?_ (fun j hj => f54 j (by omega) (by omega)) (fun c c1 c2 c3 c4 => fz c (by omega) (by omega) (by omega) c4 (by omega) (by omega) (by omega) (by omega) (by omega)) (fun c c1 c2 => fz c (by omega) (by omega) (by omega) (by omega) (by omega) (by omega) (by omega) (by omega) (by omega)) (fq 0 (by omega) (by decide)) (fq 46 (by omega) (by decide)) ⟨?_, k, a9, ?_, fun i hi => ?_⟩
    · rw [fo 0 (by decide) (by decide) (by decide) (by decide) (by decide), up2_s, up2_s]
    · rw [f0 10 (by decide), f54 31 (by decide) (by decide)]; exact a8
    · rw [f54 31 (by decide) (by decide)]; exact a10
    · rw [fz 43 (by omega) (by decide) (by decide) (by decide) (by decide) (by decide) (by decide) (by decide) (by decide), fz 79 (by omega) (by decide) (by decide) (by decide) (by decide) (by decide) (by decide) (by decide) (by decide)]; exact a11 i hi
  · by_cases er : r = nr
    · rw [er, up2_s]; exact Or.inr ⟨N, nI kn, rfl, h94, Nat.lt_succ_self _, by rw [nS_s, hci]⟩
    · rw [up2_e er, hN.2 8 (by omega)]
      rcases H.2.2.2.2.2.2.2.2.2.1 r hr2 with z | ⟨c, k, z1, z2, z3, z4⟩
      · exact Or.inl z
      · exact Or.inr ⟨c, k, z1, z2, by omega, by rw [nS_o (by omega)]; exact z4⟩
end IR
theorem RLK.no {kind le : Int32} {kn : Nat} (h : RLK kind kn le) (z : ¬ inR kind 0 7 ∨ kind = 1) : False := by
  rcases h with ⟨h1, -, -⟩ | ⟨h1, h2, h3, -⟩
  · rw [h1] at z
    rcases z with z | z
    · exact z (by unfold inR; decide)
    · exact absurd z (by decide)
  · rw [h3] at z
    rcases z with z | z
    · exact z (nI_ir (c := 0) (d := 7) (Nat.zero_le _) (by omega) (by decide))
    · exact h2 ((nI_eq (b := 1) (by omega) (by decide)).mp z)
theorem RLK.ty {kind le : Int32} {kn : Nat} (h : RLK kind kn le) : kn ≤ 6 ∧ TYO kn 0 le := by
  rcases h with ⟨-, h1, h2⟩ | ⟨h1, h2, -, h3⟩
  · subst h1; exact ⟨by decide, ty0 (by decide) (Or.inr h2)⟩
  · exact ⟨h1, ty0 h2 (Or.inl h3)⟩
theorem MNR.no {D : Nat → Nat → Int32} {nr w m : Nat} {rd : Int32} (h : MNR D nr w rd m) (z : ∀ v, v < 10 → bt rd v = true → dst D nr w v = 100) : False := by
  obtain ⟨h1, ⟨v, v1, v2, v3⟩, -⟩ := h
  have := z v v1 v2; omega
theorem c_X12_ruleH {N : Nat} {S : Nat → Nat × Nat} {I : Nat → Nat → Int32} {J : Nat → Nat → Int64} {Q : Nat → Nat → Option Nat} {κ : Option Value → HP → Prop} {how of num : Int32} (e25 : I 54 25 = how) (e26 : I 54 26 = of) (e27 : I 54 27 = num) {D : Nat → Nat → Int32} {nv nr ns : Nat} (hD : DA I D) (hW : DW D nv nr ns) (hR : ∀ w, w < nv → RKP D nv nr w) {aim more amt by_ : Int32} {kind : Int32} (k0 : (¬ inR kind 0 7 ∨ kind = 1) → κ (some (.int (-1))) (N, S, up2 I 54 24 1, J, Q)) (k1 : ∀ kn le, RLK kind kn le → (∀ a ra so am b fa, ¬ RGO nv nr how kn aim more amt by_ a ra so am b fa) → κ (some (.int (-1))) (N, S, up2 I 54 24 1, J, Q)) (k2 : ∀ kn le, RLK kind kn le → ∀ a ra so am b fa, RGO nv nr how kn aim more amt by_ a ra so am b fa → nr = 30 → κ (some (.int (-1))) (N, S, up2 I 54 24 2, J, Q)) (k3 : ∀ kn le, RLK kind kn le → ∀ a ra so am b fa, RGO nv nr how kn aim more amt by_ a ra so am b fa → nr < 30 → kn ≤ 3 → ∀ m r, MNR D nr a (rdS how of b) m → RNG D nr a (rdS how of b) m r → ∀ I', RGI I I' D nr a (rdS how of b) m m r → κ (some (.int (-1))) (N, S, up2 I' 54 24 4, J, Q)) (k4 : ∀ kn le, RLK kind kn le → ∀ a ra so am b fa, RGO nv nr how kn aim more amt by_ a ra so am b fa → nr < 30 → (kn ≤ 3 → ∀ v, v < 10 → bt (rdS how of b) v = true → dst D nr a v = 100) → ∀ I', (∀ c, c ≠ 77 → c ≠ 78 → I' c = I c) → κ (some (.int (nI nr))) (N, S, up2 (up2 (nwD I' nr (nI kn) (nI a) (nI ra) (nI so) 0 le am b fa how of num) 54 37 0) 54 24 0, J, Q)) : CT E1 M_X12_rule [.ref 54, .int kind, .int aim, .int more, .int amt, .int by_] (N, S, I, J, Q) κ := by
  subst e25; subst e26; subst e27
  exact c_X12_rule hD hW hR k0 k1 k2 k3 k4
theorem c_X12_typedH {N : Nat} {S : Nat → Nat × Nat} {I : Nat → Nat → Int32} {J : Nat → Nat → Int64} {Q : Nat → Nat → Option Nat} {κ : Option Value → HP → Prop} {how of num : Int32} (e25 : I 54 25 = how) (e26 : I 54 26 = of) (e27 : I 54 27 = num) {D : Nat → Nat → Int32} {nv nr ns : Nat} (hD : DA I D) (hW : DW D nv nr ns) (hR : ∀ w, w < nv → RKP D nv nr w) {aim more amt by_ : Int32} {ty : Int32} (k0 : ¬ inR ty 1 5 → κ (some (.int (-1))) (N, S, up2 I 54 24 1, J, Q)) (k1 : inR ty 1 5 → (∀ a ra so am b fa, ¬ RGO nv nr how 1 aim more amt by_ a ra so am b fa) → κ (some (.int (-1))) (N, S, up2 I 54 24 1, J, Q)) (k2 : inR ty 1 5 → ∀ a ra so am b fa, RGO nv nr how 1 aim more amt by_ a ra so am b fa → nr = 30 → κ (some (.int (-1))) (N, S, up2 I 54 24 2, J, Q)) (k3 : inR ty 1 5 → ∀ a ra so am b fa, RGO nv nr how 1 aim more amt by_ a ra so am b fa → nr < 30 → 1 ≤ 3 → ∀ m r, MNR D nr a (rdS how of b) m → RNG D nr a (rdS how of b) m r → ∀ I', RGI I I' D nr a (rdS how of b) m m r → κ (some (.int (-1))) (N, S, up2 I' 54 24 4, J, Q)) (k4 : inR ty 1 5 → ∀ a ra so am b fa, RGO nv nr how 1 aim more amt by_ a ra so am b fa → nr < 30 → (1 ≤ 3 → ∀ v, v < 10 → bt (rdS how of b) v = true → dst D nr a v = 100) → ∀ I', (∀ c, c ≠ 77 → c ≠ 78 → I' c = I c) → κ (some (.int (nI nr))) (N, S, up2 (up2 (nwD I' nr (nI 1) (nI a) (nI ra) (nI so) ty 0 am b fa how of num) 54 37 0) 54 24 0, J, Q)) : CT E1 M_X12_typed [.ref 54, .int ty, .int aim, .int more, .int amt, .int by_] (N, S, I, J, Q) κ := by
  subst e25; subst e26; subst e27
  exact c_X12_typed hD hW hR k0 k1 k2 k3 k4
theorem c_X12_rowH {N : Nat} {S : Nat → Nat × Nat} {I : Nat → Nat → Int32} {J : Nat → Nat → Int64} {Q : Nat → Nat → Option Nat} {κ : Option Value → HP → Prop} {how of num : Int32} (e25 : I 54 25 = how) (e26 : I 54 26 = of) (e27 : I 54 27 = num) {x91 x92 x93 : Nat → Int32} (e91 : I 91 = x91) (e92 : I 92 = x92) (e93 : I 93 = x93) {D : Nat → Nat → Int32} {nv nr ns : Nat} (hD : DA I D) (hW : DW D nv nr ns) (hR : ∀ w, w < nv → RKP D nv nr w) (hS : ∀ s, s < 4 → ∃ z, z ≤ 40 ∧ x92 s = nI z) (hC : ∀ s, s < 4 → ∀ j, j < 40 → inR (x93 (40 * s + j)) (-1000) 1000) {sh srt i : Int32} (k1 : ((∀ s, s < 4 → sh ≠ nI s) ∨ ¬ inR srt 0 2) → κ (some (.int (-1))) (N, S, up2 I 54 24 1, J, Q)) (k2 : ∀ s, s < 4 → sh = nI s → inR srt 0 2 → nr = 30 → κ (some (.int (-1))) (N, S, up2 I 54 24 2, J, Q)) (k3 : ∀ s, s < 4 → sh = nI s → inR srt 0 2 → nr < 30 → x91 s = 0 → κ (some (.int (-1))) (N, S, up2 I 54 24 10, J, Q)) (k4 : ∀ s, s < 4 → sh = nI s → inR srt 0 2 → nr < 30 → x91 s ≠ 0 → x91 s ≠ srt + 1 → κ (some (.int (-1))) (N, S, up2 I 54 24 11, J, Q)) (k5 : ∀ s, s < 4 → sh = nI s → inR srt 0 2 → nr < 30 → x91 s ≠ 0 → x91 s = srt + 1 → ∀ z, z ≤ 40 → x92 s = nI z → (∀ p, p + 3 ≤ z → i ≠ nI p) → κ (some (.int (-1))) (N, S, up2 I 54 24 12, J, Q)) (k6 : ∀ s, s < 4 → sh = nI s → inR srt 0 2 → nr < 30 → x91 s ≠ 0 → x91 s = srt + 1 → ∀ z, z ≤ 40 → x92 s = nI z → ∀ p, p + 3 ≤ z → i = nI p → (∀ a ra so am b fa, ¬ RGO nv nr how 0 (x93 (40 * s + p)) (16 * x93 (40 * s + p + 2)) (x93 (40 * s + p + 1)) (-1) a ra so am b fa) → κ (some (.int (-1))) (N, S, up2 I 54 24 3, J, Q)) (k7 : ∀ s, s < 4 → sh = nI s → inR srt 0 2 → nr < 30 → x91 s ≠ 0 → x91 s = srt + 1 → ∀ z, z ≤ 40 → x92 s = nI z → ∀ p, p + 3 ≤ z → i = nI p → ∀ a ra so am b fa, RGO nv nr how 0 (x93 (40 * s + p)) (16 * x93 (40 * s + p + 2)) (x93 (40 * s + p + 1)) (-1) a ra so am b fa → ∀ m r, MNR D nr a (rdS how of b) m → RNG D nr a (rdS how of b) m r → ∀ I', RGI I I' D nr a (rdS how of b) m m r → κ (some (.int (-1))) (N, S, up2 I' 54 24 4, J, Q)) (k8 : ∀ s, s < 4 → sh = nI s → inR srt 0 2 → nr < 30 → x91 s ≠ 0 → x91 s = srt + 1 → ∀ z, z ≤ 40 → x92 s = nI z → ∀ p, p + 3 ≤ z → i = nI p → ∀ a ra so am b fa, RGO nv nr how 0 (x93 (40 * s + p)) (16 * x93 (40 * s + p + 2)) (x93 (40 * s + p + 1)) (-1) a ra so am b fa → (∀ v, v < 10 → bt (rdS how of b) v = true → dst D nr a v = 100) → ∀ I', (∀ c, c ≠ 77 → c ≠ 78 → I' c = I c) → κ (some (.int (nI nr))) (N, S, up2 (up2 (nwD I' nr (nI 0) (nI a) (nI ra) (nI so) 0 0 am b fa how of num) 54 37 0) 54 24 0, J, Q)) : CT E1 M_X12_row [.ref 54, .int sh, .int srt, .int i] (N, S, I, J, Q) κ := by
  subst e25; subst e26; subst e27; subst e91; subst e92; subst e93
  exact c_X12_row hD hW hR hS hC k1 k2 k3 k4 k5 k6 k7 k8
set_option maxHeartbeats 400000 in
theorem j_rule {n : Nat} (hn6 : n < 600) {h : HP} {κ : Option Value → HP → Prop} {x y mo am0 by0 : Int32} (H : INV n h) (hk : ∀ v h2, JM M_X12_rule [.ref 54, .int x, .int y, .int mo, .int am0, .int by0] n (.int v) h2 → κ (some (.int v)) h2) : CT E1 M_X11_rule [.ref 0, .int x, .int y, .int mo, .int am0, .int by0] h κ := by
  obtain ⟨N, S, I, J, Q⟩ := h
  obtain ⟨D, nv, nr, ns, ad, td, e, H⟩ := H
  replace H : INVd n N S I J Q D nv nr ns ad td e := H
  obtain ⟨md, hm, hmd⟩ := H.md
  have X := H.2.2.1
  have M0 := H.m0
  have hn10 := X.2.1.nv
  have hn30 := X.2.1.nr
  have hs10 := X.2.1.ns
  have he1 := H.2.2.2.1
  have he : e + 1 < 2 ^ 30 := by omega
  obtain ⟨-, -, -, ⟨t, q7, T⟩, tw, -⟩ := H.2.2.2.2.2.2.2.1
  have h94 := H.1
  have hR : ∀ w, w < nv → RKP D nv nr w := by
    obtain ⟨ord, st, har⟩ := X.2.2.2.2.1
    exact fun w hw => RKP.of X.2.1 har hw
  refine c_X11_rule X he h94 q7 T tw (fun z => hk _ _ (fun κ2 h2 => ?_)) (fun kn le hl z => hk _ _ (fun κ2 h2 => ?_)) (fun kn le hl a ra so am b fa g e30 ci I1 Q1 hci hN => hk _ _ (fun κ2 h2 => ?_)) (fun kn le hl a ra so am b fa g n30 h3 m r hm hrg ci I1 Q1 hci hN I3 f1 f43 => hk _ _ (fun κ2 h2 => ?_)) (fun kn le hl a ra so am b fa g n30 hno ci I1 Q1 hci hN I3 f1 X1 => hk _ _ (fun κ2 h2 => ?_))
  · have fz : ∀ d, 44 < d → d < 94 → up2 I 0 5 1 d = I d := fun d d1 d2 => up2_o (by omega)
    exact c_X12_ruleH (by rw [fz 54 (by decide) (by decide)]) (by rw [fz 54 (by decide) (by decide)]) (by rw [fz 54 (by decide) (by decide)]) (fun i i1 i2 => (fz i (by omega) (by omega)).trans (H.2.1 i i1 i2)) X.2.1 hR (fun _ => h2 _ H.rf) (fun _ _ hl => (hl.no z).elim) (fun _ _ hl => (hl.no z).elim) (fun _ _ hl => (hl.no z).elim) (fun _ _ hl => (hl.no z).elim)
  · have fz : ∀ d, 44 < d → d < 94 → up2 I 0 5 1 d = I d := fun d d1 d2 => up2_o (by omega)
    exact c_X12_ruleH (by rw [fz 54 (by decide) (by decide)]) (by rw [fz 54 (by decide) (by decide)]) (by rw [fz 54 (by decide) (by decide)]) (fun i i1 i2 => (fz i (by omega) (by omega)).trans (H.2.1 i i1 i2)) X.2.1 hR (fun q => (hl.no q).elim) (fun _ _ _ _ => h2 _ H.rf) (fun kn2 le2 hl2 a2 ra2 so2 am2 b2 fa2 g2 => by obtain ⟨rfl, rfl⟩ := hl.uq hl2; exact absurd g2 (z _ _ _ _ _ _)) (fun kn2 le2 hl2 a2 ra2 so2 am2 b2 fa2 g2 => by obtain ⟨rfl, rfl⟩ := hl.uq hl2; exact absurd g2 (z _ _ _ _ _ _)) (fun kn2 le2 hl2 a2 ra2 so2 am2 b2 fa2 g2 => by obtain ⟨rfl, rfl⟩ := hl.uq hl2; exact absurd g2 (z _ _ _ _ _ _))
  · have fz : ∀ d, 44 < d → d < 94 → up2 I1 0 5 2 d = I d := fun d d1 d2 => by rw [up2_o (by omega), hN.1 d (by omega)]
    exact c_X12_ruleH (by rw [fz 54 (by decide) (by decide)]) (by rw [fz 54 (by decide) (by decide)]) (by rw [fz 54 (by decide) (by decide)]) (fun i i1 i2 => (fz i (by omega) (by omega)).trans (H.2.1 i i1 i2)) X.2.1 hR (fun q => (hl.no q).elim) (fun kn2 le2 hl2 z2 => by obtain ⟨rfl, rfl⟩ := hl.uq hl2; exact absurd g (z2 _ _ _ _ _ _)) (fun _ _ _ _ _ _ _ _ _ _ _ => h2 _ (H.rfN hN)) (fun _ _ _ _ _ _ _ _ _ _ hr => absurd e30 (by omega)) (fun _ _ _ _ _ _ _ _ _ _ hr => absurd e30 (by omega))
  · have fz : ∀ d, 44 < d → d < 94 → up2 (up2 I3 0 10 (nI (m + 1))) 0 5 4 d = I d := fun d d1 d2 => by rw [up2_o (by omega), up2_o (by omega), f1 d (by omega) (by omega), hN.1 d (by omega)]
    exact c_X12_ruleH (by rw [fz 54 (by decide) (by decide)]) (by rw [fz 54 (by decide) (by decide)]) (by rw [fz 54 (by decide) (by decide)]) (fun i i1 i2 => (fz i (by omega) (by omega)).trans (H.2.1 i i1 i2)) X.2.1 hR (fun q => (hl.no q).elim) (fun kn2 le2 hl2 z2 => by obtain ⟨rfl, rfl⟩ := hl.uq hl2; exact absurd g (z2 _ _ _ _ _ _)) (fun _ _ _ _ _ _ _ _ _ _ hr => absurd hr (by omega)) (fun kn2 le2 hl2 a2 ra2 so2 am2 b2 fa2 g2 _ _ m2 r2 hm2 hrg2 I2 hri2 => by obtain ⟨rfl, rfl⟩ := hl.uq hl2; obtain ⟨rfl, rfl, rfl, rfl, rfl, rfl⟩ := g.uq g2 hn10; obtain rfl := hm2.uq hm; exact h2 _ (H.rng hN hm.1 f1 (fun i hi => by rw [f43 i hi, hrg.uq hrg2 i hi]) hri2)) (fun kn2 le2 hl2 a2 ra2 so2 am2 b2 fa2 g2 _ hv => by obtain ⟨rfl, rfl⟩ := hl.uq hl2; obtain ⟨rfl, rfl, rfl, rfl, rfl, rfl⟩ := g.uq g2 hn10; exact (hm.no (hv h3)).elim)
  · have fz : ∀ d, 44 < d → d < 94 → up2 I3 0 5 0 d = I d := fun d d1 d2 => by rw [up2_o (by omega), f1 d (by omega) (by omega) (by omega) (by omega) (by omega) (by omega), hN.1 d (by omega)]
    exact c_X12_ruleH (by rw [fz 54 (by decide) (by decide)]) (by rw [fz 54 (by decide) (by decide)]) (by rw [fz 54 (by decide) (by decide)]) (fun i i1 i2 => (fz i (by omega) (by omega)).trans (H.2.1 i i1 i2)) X.2.1 hR (fun q => (hl.no q).elim) (fun kn2 le2 hl2 z2 => by obtain ⟨rfl, rfl⟩ := hl.uq hl2; exact absurd g (z2 _ _ _ _ _ _)) (fun _ _ _ _ _ _ _ _ _ _ hr => absurd hr (by omega)) (fun kn2 le2 hl2 a2 ra2 so2 am2 b2 fa2 g2 _ h3 m2 r2 hm2 => by obtain ⟨rfl, rfl⟩ := hl.uq hl2; obtain ⟨rfl, rfl, rfl, rfl, rfl, rfl⟩ := g.uq g2 hn10; exact (hm2.no (hno h3)).elim) (fun kn2 le2 hl2 a2 ra2 so2 am2 b2 fa2 g2 _ _ I2 f2 => by obtain ⟨rfl, rfl⟩ := hl.uq hl2; obtain ⟨rfl, rfl, rfl, rfl, rfl, rfl⟩ := g.uq g2 hn10; exact h2 _ (H.ent hN hci n30 hl.ty.1 hl.ty.2 f1 X1 f2))
set_option maxHeartbeats 400000 in
theorem j_typed {n : Nat} (hn6 : n < 600) {h : HP} {κ : Option Value → HP → Prop} {x y mo am0 by0 : Int32} (H : INV n h) (hk : ∀ v h2, JM M_X12_typed [.ref 54, .int x, .int y, .int mo, .int am0, .int by0] n (.int v) h2 → κ (some (.int v)) h2) : CT E1 M_X11_typed [.ref 0, .int x, .int y, .int mo, .int am0, .int by0] h κ := by
  obtain ⟨N, S, I, J, Q⟩ := h
  obtain ⟨D, nv, nr, ns, ad, td, e, H⟩ := H
  replace H : INVd n N S I J Q D nv nr ns ad td e := H
  obtain ⟨md, hm, hmd⟩ := H.md
  have X := H.2.2.1
  have M0 := H.m0
  have hn10 := X.2.1.nv
  have hn30 := X.2.1.nr
  have hs10 := X.2.1.ns
  have he1 := H.2.2.2.1
  have he : e + 1 < 2 ^ 30 := by omega
  obtain ⟨-, -, -, ⟨t, q7, T⟩, tw, -⟩ := H.2.2.2.2.2.2.2.1
  have h94 := H.1
  have hR : ∀ w, w < nv → RKP D nv nr w := by
    obtain ⟨ord, st, har⟩ := X.2.2.2.2.1
    exact fun w hw => RKP.of X.2.1 har hw
  refine c_X11_typed X he h94 q7 T tw (fun z => hk _ _ (fun κ2 h2 => ?_)) (fun i1 z => hk _ _ (fun κ2 h2 => ?_)) (fun i1 a ra so am b fa g e30 ci I1 Q1 hci hN => hk _ _ (fun κ2 h2 => ?_)) (fun i1 a ra so am b fa g n30 h3 m r hm hrg ci I1 Q1 hci hN I3 f1 f43 => hk _ _ (fun κ2 h2 => ?_)) (fun i1 a ra so am b fa g n30 hno ci I1 Q1 hci hN I3 f1 X1 => hk _ _ (fun κ2 h2 => ?_))
  · have fz : ∀ d, 44 < d → d < 94 → up2 I 0 5 1 d = I d := fun d d1 d2 => up2_o (by omega)
    exact c_X12_typedH (by rw [fz 54 (by decide) (by decide)]) (by rw [fz 54 (by decide) (by decide)]) (by rw [fz 54 (by decide) (by decide)]) (fun i i1 i2 => (fz i (by omega) (by omega)).trans (H.2.1 i i1 i2)) X.2.1 hR (fun _ => h2 _ H.rf) (fun hl => (absurd hl z)) (fun hl => (absurd hl z)) (fun hl => (absurd hl z)) (fun hl => (absurd hl z))
  · have fz : ∀ d, 44 < d → d < 94 → up2 I 0 5 1 d = I d := fun d d1 d2 => up2_o (by omega)
    exact c_X12_typedH (by rw [fz 54 (by decide) (by decide)]) (by rw [fz 54 (by decide) (by decide)]) (by rw [fz 54 (by decide) (by decide)]) (fun i i1 i2 => (fz i (by omega) (by omega)).trans (H.2.1 i i1 i2)) X.2.1 hR (fun q => (absurd i1 q)) (fun _ _ => h2 _ H.rf) (fun i12 a2 ra2 so2 am2 b2 fa2 g2 => by exact absurd g2 (z _ _ _ _ _ _)) (fun i12 a2 ra2 so2 am2 b2 fa2 g2 => by exact absurd g2 (z _ _ _ _ _ _)) (fun i12 a2 ra2 so2 am2 b2 fa2 g2 => by exact absurd g2 (z _ _ _ _ _ _))
  · have fz : ∀ d, 44 < d → d < 94 → up2 I1 0 5 2 d = I d := fun d d1 d2 => by rw [up2_o (by omega), hN.1 d (by omega)]
    exact c_X12_typedH (by rw [fz 54 (by decide) (by decide)]) (by rw [fz 54 (by decide) (by decide)]) (by rw [fz 54 (by decide) (by decide)]) (fun i i1 i2 => (fz i (by omega) (by omega)).trans (H.2.1 i i1 i2)) X.2.1 hR (fun q => (absurd i1 q)) (fun i12 z2 => by exact absurd g (z2 _ _ _ _ _ _)) (fun _ _ _ _ _ _ _ _ _ => h2 _ (H.rfN hN)) (fun _ _ _ _ _ _ _ _ hr => absurd e30 (by omega)) (fun _ _ _ _ _ _ _ _ hr => absurd e30 (by omega))
  · have fz : ∀ d, 44 < d → d < 94 → up2 (up2 I3 0 10 (nI (m + 1))) 0 5 4 d = I d := fun d d1 d2 => by rw [up2_o (by omega), up2_o (by omega), f1 d (by omega) (by omega), hN.1 d (by omega)]
    exact c_X12_typedH (by rw [fz 54 (by decide) (by decide)]) (by rw [fz 54 (by decide) (by decide)]) (by rw [fz 54 (by decide) (by decide)]) (fun i i1 i2 => (fz i (by omega) (by omega)).trans (H.2.1 i i1 i2)) X.2.1 hR (fun q => (absurd i1 q)) (fun i12 z2 => by exact absurd g (z2 _ _ _ _ _ _)) (fun _ _ _ _ _ _ _ _ hr => absurd hr (by omega)) (fun i12 a2 ra2 so2 am2 b2 fa2 g2 _ _ m2 r2 hm2 hrg2 I2 hri2 => by obtain ⟨rfl, rfl, rfl, rfl, rfl, rfl⟩ := g.uq g2 hn10; obtain rfl := hm2.uq hm; exact h2 _ (H.rng hN hm.1 f1 (fun i hi => by rw [f43 i hi, hrg.uq hrg2 i hi]) hri2)) (fun i12 a2 ra2 so2 am2 b2 fa2 g2 _ hv => by obtain ⟨rfl, rfl, rfl, rfl, rfl, rfl⟩ := g.uq g2 hn10; exact (hm.no (hv h3)).elim)
  · have fz : ∀ d, 44 < d → d < 94 → up2 I3 0 5 0 d = I d := fun d d1 d2 => by rw [up2_o (by omega), f1 d (by omega) (by omega) (by omega) (by omega) (by omega) (by omega), hN.1 d (by omega)]
    exact c_X12_typedH (by rw [fz 54 (by decide) (by decide)]) (by rw [fz 54 (by decide) (by decide)]) (by rw [fz 54 (by decide) (by decide)]) (fun i i1 i2 => (fz i (by omega) (by omega)).trans (H.2.1 i i1 i2)) X.2.1 hR (fun q => (absurd i1 q)) (fun i12 z2 => by exact absurd g (z2 _ _ _ _ _ _)) (fun _ _ _ _ _ _ _ _ hr => absurd hr (by omega)) (fun i12 a2 ra2 so2 am2 b2 fa2 g2 _ h3 m2 r2 hm2 => by obtain ⟨rfl, rfl, rfl, rfl, rfl, rfl⟩ := g.uq g2 hn10; exact (hm2.no (hno h3)).elim) (fun i12 a2 ra2 so2 am2 b2 fa2 g2 _ _ I2 f2 => by obtain ⟨rfl, rfl, rfl, rfl, rfl, rfl⟩ := g.uq g2 hn10; exact h2 _ (H.ent hN hci n30 (by decide) (ty1 i1) f1 X1 f2))
