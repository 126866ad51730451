/-! ===== new objects ===== -/
def Gr (N : Nat) (S : Nat → Nat × Nat) (I : Nat → Nat → Int32) (Q : Nat → Nat → Option Nat) (N' : Nat) (S' : Nat → Nat × Nat) (I' : Nat → Nat → Int32) (Q' : Nat → Nat → Option Nat) : Prop :=
  N ≤ N' ∧ (∀ a, a < N → S' a = S a) ∧ (∀ a, (a = 42 ∨ 94 ≤ a) → a < N → I' a = I a) ∧ (∀ a, 94 ≤ a → a < N → Q' a = Q a)
section GR
variable {n N N' : Nat} {S S' : Nat → Nat × Nat} {I I' I1 I2 : Nat → Nat → Int32} {J J' J2 : Nat → Nat → Int64} {Q Q' : Nat → Nat → Option Nat} {D : Nat → Nat → Int32} {nv nr ns r a t e c : Nat} {ad td : Nat → Nat} {how of num : Int32}
set_option maxHeartbeats 200000 in
theorem TO.gr (h : TO N S I t how of num) (g : Gr N S I Q N' S' I' Q') : TO N' S' I' t how of num := by
  obtain ⟨q1, q2, q3, q4, q5, q6⟩ := h
  have e := g.2.2.1 t q1 q2
  exact ⟨q1, Nat.lt_of_lt_of_le q2 g.1, by rw [g.2.1 t q2]; exact q3, by rw [e]; exact q4, by rw [e]; exact q5, by rw [e]; exact q6⟩
set_option maxHeartbeats 200000 in
theorem RO.gr (h : RO N S I Q D r a t) (g : Gr N S I Q N' S' I' Q') : RO N' S' I' Q' D r a t := by
  obtain ⟨⟨q1, q2, q3, q4, q5⟩, q6⟩ := h
  have e := g.2.2.1 a (Or.inr q1) q2
  exact ⟨⟨q1, Nat.lt_of_lt_of_le q2 g.1, by rw [g.2.1 a q2]; exact q3, by rw [g.2.2.2 a q1 q2]; exact q4, q5.gr g⟩, by rw [e]; exact q6⟩
set_option maxHeartbeats 200000 in
theorem XS.gr {o : Nat} (h : XS N S I Q D nv nr ns ad td o) (g : Gr N S I Q N' S' I' Q') (h0 : ∀ a, o + 1 ≤ a → a ≤ o + 11 → a ≠ o + 7 → I' a = I a) (hq : Q' (o + 8) = Q (o + 8)) : XS N' S' I' Q' D nv nr ns ad td o := by
  obtain ⟨q1, q2, q3, q4⟩ := h
  refine ⟨by rw [h0 (o + 1) (by omega) (by omega) (by omega)]; exact q1, fun v hv => ?_, fun r hr => ⟨by rw [hq]; exact (q3 r hr).1, (q3 r hr).2.gr g⟩, fun k hk => ?_⟩
  · rw [h0 (o + 2) (by omega) (by omega) (by omega), h0 (o + 3) (by omega) (by omega) (by omega), h0 (o + 4) (by omega) (by omega) (by omega), h0 (o + 5) (by omega) (by omega) (by omega), h0 (o + 6) (by omega) (by omega) (by omega)]; exact q2 v hv
  · rw [h0 (o + 9) (by omega) (by omega) (by omega), h0 (o + 10) (by omega) (by omega) (by omega), h0 (o + 11) (by omega) (by omega) (by omega)]; exact q4 k hk
set_option maxHeartbeats 200000 in
theorem XB.gr (h : XB N S I J Q D nv nr ns ad td e) (g : Gr N S I Q N' S' I' Q') (h1 : ∀ a, a ≠ 0 → a < 54 → I' a = I a) (h2 : ∀ a, a < 54 → J' a = J a) (hq : Q' 8 = Q 8) : XB N' S' I' J' Q' D nv nr ns ad td e := by
  obtain ⟨x1, x2, x3, x4, ⟨ord, st, x5⟩, x6, k1, k2, k3⟩ := h
  refine ⟨x1.gr g (fun a a1 a2 _ => h1 a (by omega) (by omega)) hq, x2, x3, fun v hv u => by rw [h1 (0 + 7) (by omega) (by omega)]; exact x4 v hv u, ⟨ord, st, x5.mv (h1 29 (by decide) (by decide)) (h1 30 (by decide) (by decide)) (h1 31 (by decide) (by decide))⟩, by rw [h1 31 (by decide) (by decide)]; exact x6, by rw [h1 23 (by decide) (by decide)]; exact k1, k2, fun b hb => ?_⟩
  obtain ⟨q1, q2⟩ := k3 b hb
  rw [h1 36 (by decide) (by decide)]
  refine ⟨q1, fun z => ?_⟩
  obtain ⟨p1, p2⟩ := q2 z
  exact ⟨fun v hv => by unfold gX; rw [h2 38 (by decide)]; exact p1 v hv, fun c hc => by rw [h1 37 (by decide) (by decide)]; exact p2 c hc⟩
set_option maxHeartbeats 200000 in
theorem IMG.gr (h : IMG N S I Q n) (g : Gr N S I Q N' S' I' Q') (h0 : ∀ a, 12 ≤ a → a ≤ 22 → I' a = I a) (h1 : I' 76 = I 76) (h2 : I' 54 22 = I 54 22) (q0 : Q' 19 = Q 19) : IMG N' S' I' Q' n := by
  intro hz
  rw [h2] at hz
  obtain ⟨nv, nr, ns, ad, td, b1, b2, b3, b4, b5, b6⟩ := h hz
  have e : im I' = im I := by unfold im; rw [h1]
  rw [e]
  exact ⟨nv, nr, ns, ad, td, b1, b2, b3.gr g (fun a a1 a2 _ => h0 a (by omega) (by omega)) q0, fun v hv u => by rw [h0 (11 + 7) (by omega) (by omega)]; exact b4 v hv u, b5, b6⟩
set_option maxHeartbeats 200000 in
theorem QR.gr (h : QR N S Q c) (g : Gr N S I Q N' S' I' Q') (hq : Q' c = Q c) : QR N' S' Q' c := fun r hr => by
  rw [hq]
  rcases h r hr with z | ⟨a, k, z1, z2, z3, z4⟩
  · exact Or.inl z
  · exact Or.inr ⟨a, k, z1, z2, Nat.lt_of_lt_of_le z3 g.1, by rw [g.2.1 a z3]; exact z4⟩
set_option maxHeartbeats 200000 in
/-- the coming test changes -/
theorem INVd.tst (H : INVd n N S I J Q D nv nr ns ad td e) (g : Gr N S I Q N' S' I1 Q') (c0 : ∀ j, j ≠ 5 → I1 0 j = I 0 j) (c1 : ∀ a, a ≠ 0 → a < 94 → I1 a = I a) (cq : ∀ a, a ≠ 0 → a < 94 → Q' a = Q a)
    (m1 : ∀ a, a ≠ 54 → I2 a = I1 a) (m4 : ∀ j, j ≠ 24 → j ≠ 25 → j ≠ 26 → j ≠ 27 → I2 54 j = I1 54 j) (hs : I2 0 5 = I2 54 24) (ht : ∃ t, Q' 0 7 = some t ∧ TO N' S' I2 t (I2 54 25) (I2 54 26) (I2 54 27)) (hw : TW (I2 54 25) (I2 54 26) nv) : INV (n + 1) (N', S', I2, J, Q') := by
  have g2 : Gr N S I Q N' S' I2 Q' := ⟨g.1, g.2.1, fun a a1 a2 => (m1 a (by omega)).trans (g.2.2.1 a a1 a2), g.2.2.2⟩
  have ce : ∀ a, a ≠ 0 → a ≠ 54 → a < 94 → I2 a = I a := fun a a1 a2 a3 => (m1 a a2).trans (c1 a a1 a3)
  have c4 : ∀ j, j ≠ 24 → j ≠ 25 → j ≠ 26 → j ≠ 27 → I2 54 j = I 54 j := fun j j1 j2 j3 j4 => by rw [m4 j j1 j2 j3 j4, c1 54 (by decide) (by decide)]
  obtain ⟨h1, h2, h3, h4, h5, h6, h7, h8, h9, h10, h11⟩ := H
  suffices key : INVd (n + 1) N' S' I2 J Q' D nv nr ns ad td e from ⟨D, nv, nr, ns, ad, td, e, key⟩
  refine ⟨Nat.le_trans h1 g.1, fun i a b => (ce i (by omega) (by omega) (by omega)).trans (h2 i a b), h3.gr g2 (fun a a1 a2 => ce a a1 (by omega) (by omega)) (fun _ _ => rfl) (cq 8 (by decide) (by decide)), by omega, ?_, h6.up, h7, ?_, ?_, ?_, ?_⟩
  · rw [c4 37 (by decide) (by decide) (by decide) (by decide)]
    exact h5.imp id (fun L => L.mv (ce 81 (by decide) (by decide) (by decide)) (ce 82 (by decide) (by decide) (by decide)) (ce 83 (by decide) (by decide) (by decide)) rfl)
  · obtain ⟨a1, a2, a3, -, -, a7, a8, a9, a10⟩ := h8
    refine ⟨hs, ?_, ?_, ht, hw, ?_, ?_, ?_, fun s hs => ?_⟩
    · rw [m1 0 (by decide), c0 4 (by decide), c4 23 (by decide) (by decide) (by decide) (by decide)]; exact a2
    · rw [m1 0 (by decide), c0 3 (by decide), c4 22 (by decide) (by decide) (by decide) (by decide)]; exact a3
    · rw [ce 42 (by decide) (by decide) (by decide), g.2.1 42 a7.1]; exact ⟨Nat.lt_of_lt_of_le a7.1 g.1, a7.2⟩
    · rw [m1 0 (by decide), c0 10 (by decide), c4 31 (by decide) (by decide) (by decide) (by decide), ce 43 (by decide) (by decide) (by decide), ce 79 (by decide) (by decide) (by decide)]; exact a8
    · rw [ce 45 (by decide) (by decide) (by decide), c4 47 (by decide) (by decide) (by decide) (by decide), ce 90 (by decide) (by decide) (by decide)]; exact a9
    · rw [cq 46 (by decide) (by decide), ce 91 (by decide) (by decide) (by decide), ce 92 (by decide) (by decide) (by decide), ce 93 (by decide) (by decide) (by decide), ce 51 (by decide) (by decide) (by decide), ce 52 (by decide) (by decide) (by decide), ce (47 + s) (by omega) (by omega) (by omega)]; exact a10 s hs
  · exact (h9.gr g2 (fun a b1 b2 => ce a (by omega) (by omega) (by omega)) (ce 76 (by decide) (by decide) (by decide)) (c4 22 (by decide) (by decide) (by decide) (by decide)) (cq 19 (by decide) (by decide))).up
  · exact h10.gr g2 (cq 8 (by decide) (by decide))
  · exact h11.gr g2 (cq 19 (by decide) (by decide))
set_option maxHeartbeats 200000 in
/-- one more object N, place 7 of the sheet tells of it -/
theorem Gr.new {x y z w : Int32} {k : Nat × Nat} (h94 : 94 ≤ N) : Gr N S I Q (N + 1) (nS S N k) (up2 (up2 (up2 (up2 (zI I N) N 0 x) N 1 y) N 2 z) 0 5 w) (up2 (zQ Q N) 0 7 (some N)) :=
  ⟨Nat.le_succ _, fun a ha => nS_o (by omega), fun a a1 a2 => by rw [up2_o (by omega), up2_o (by omega), up2_o (by omega), up2_o (by omega), zI_o (by omega)], fun a a1 a2 => by rw [up2_o (by omega), zQ_o (by omega)]⟩
end GR
set_option maxHeartbeats 200000 in
theorem c_X9_init {N : Nat} {S : Nat → Nat × Nat} {I : Nat → Nat → Int32} {J : Nat → Nat → Int64} {Q : Nat → Nat → Option Nat} {κ : Option Value → HP → Prop} {a : Nat} (ha : a < N) (hS : S a = (9, 0)) {x y z : Int32} (hk : κ none (N, S, up2 (up2 (up2 I a 0 x) a 1 y) a 2 z, J, Q)) : CT E1 M_X9_init [.ref a, .int x, .int y, .int z] (N, S, I, J, Q) κ := by
  refine ofSP mk_X9_init (Nat.le_of_ble_eq_true rfl) (L := [.ref _, .int _, .int _, .int _]) rfl ?_
  refine s_aload_n (pc' := 1) dX9_init_0 rfl rfl ?_
  refine s_objInit (pc' := 4) dX9_init_1 rfl ml_X9_3 (by decide) (by decide) ?_
  refine s_aload_n (pc' := 5) dX9_init_4 rfl rfl ?_
  refine s_iload_n (pc' := 6) dX9_init_5 rfl rfl ?_
  refine t_putI (pc' := 9) dX9_init_6 rfl (Sh.dy (by decide) ha hS) (by decide) fa_X9_9_9 (Or.inr ⟨rfl, rfl, rfl⟩) rfl rfl rfl ?_
  refine s_aload_n (pc' := 10) dX9_init_9 rfl rfl ?_
  refine s_iload_n (pc' := 11) dX9_init_10 rfl rfl ?_
  refine t_putI (pc' := 14) dX9_init_11 rfl (Sh.dy (by decide) ha hS) (by decide) fa_X9_15_9 (Or.inr ⟨rfl, rfl, rfl⟩) rfl rfl rfl ?_
  refine s_aload_n (pc' := 15) dX9_init_14 rfl rfl ?_
  refine s_iload_n (pc' := 16) dX9_init_15 rfl rfl ?_
  refine t_putI (pc' := 19) dX9_init_16 rfl (Sh.dy (by decide) ha hS) (by decide) fa_X9_18_9 (Or.inr ⟨rfl, rfl, rfl⟩) rfl rfl rfl ?_
  exact s_vret dX9_init_19 rfl (by decide) (by decide) hk
theorem in_02c {x : Int32} (h : inR x 0 2) (h0 : ¬ x = 0) (h1 : ¬ x = 1) : x = 2 := by
  obtain ⟨j, j1, j2, rfl⟩ := in_nI (a := 0) (b := 2) h (by decide)
  rcases (show j = 0 ∨ j = 1 ∨ j = 2 by omega) with z | z | z
  · rw [z] at h0; exact absurd rfl h0
  · rw [z] at h1; exact absurd rfl h1
  · rw [z]; rfl
set_option maxHeartbeats 200000 in
theorem c_X11_test {N : Nat} {S : Nat → Nat × Nat} {I : Nat → Nat → Int32} {J : Nat → Nat → Int64} {Q : Nat → Nat → Option Nat} {κ : Option Value → HP → Prop} {w v : Int32} (k1 : (¬ inR w 0 2 ∨ (w ≠ 0 ∧ ∀ j, j < 8 → v ≠ nI j)) → κ (some (.int (-1))) (N, S, up2 I 0 5 1, J, Q)) (k2 : w = 0 → κ (some (.int 1)) (N, S, up2 I 0 5 0, J, up2 Q 0 7 (some 42))) (k3 : (w = 1 ∨ w = 2) → ∀ j, j < 8 → v = nI j → κ (some (.int 1)) (N + 1, nS S N (9, 0), up2 (up2 (up2 (up2 (zI I N) N 0 w) N 1 v) N 2 0) 0 5 0, J, up2 (zQ Q N) 0 7 (some N))) : CT E1 M_X11_test [.ref 0, .int w, .int v] (N, S, I, J, Q) κ := by
  refine ofSP mk_X11_test (Nat.le_of_ble_eq_true rfl) (L := [.ref 0, .int _, .int _]) rfl ?_
  refine s_iload_n (pc' := 1) dX11_test_0 rfl rfl ?_
  refine s_ifeq (pc' := 4) (tgt := 27) dX11_test_1 (by decide) rfl (fun c1 => ?_) (fun c1 => ?_)
  · refine s_aload_n (pc' := 28) dX11_test_27 rfl rfl ?_
    refine s_iload_n (pc' := 29) dX11_test_28 rfl rfl ?_
    refine s_ifneF (pc' := 32) (tgt := 39) dX11_test_29 (by decide) rfl c1 ?_
    refine s_aload_n (pc' := 33) dX11_test_32 rfl rfl ?_
    refine s_getS (pc' := 36) (b := 42) dX11_test_33 rfl (by decide) rfl (by decide) fa_X11_44_11 rfl rfl ?_
    refine s_goto (tgt := 49) dX11_test_36 (by decide) ?_
    refine t_putR (pc' := 52) (r := some _) dX11_test_49 rfl rfl sh_0 (by decide) fa_X11_48_11 (Or.inl rfl) rfl (fun _ => rfl) ?_
    refine s_aload_n (pc' := 53) dX11_test_52 rfl rfl ?_
    refine s_iconst (pc' := 54) (v := 1) dX11_test_53 rfl (by decide) ?_
    refine s_callV (pc' := 57) (As := [.int _]) dX11_test_54 rfl mk_X11_done ml_X11_100 im_X11_done se_X11_X11_X11_done sh_0 (by decide) rfl rfl rfl ⟨Nat.le_of_ble_eq_true rfl, Nat.le_of_ble_eq_true rfl, Nat.le_of_ble_eq_true rfl, Nat.le_of_ble_eq_true rfl⟩ (Nat.le_of_ble_eq_true rfl) (c_X11_done ?_)
    exact s_iret dX11_test_57 rfl (by decide) (by decide) (k2 c1)
  · refine s_iload_n (pc' := 5) dX11_test_4 rfl rfl ?_
    refine s_iconst (pc' := 6) (v := 1) dX11_test_5 rfl (by decide) ?_
    refine s_icmpeq (pc' := 9) (tgt := 14) dX11_test_6 (by decide) rfl (fun c6 => ?_) (fun c6 => ?_)
    · refine s_iload_n (pc' := 15) dX11_test_14 rfl rfl ?_
      refine s_callS (pc' := 18) (As := [.int _]) dX11_test_15 rfl mk_X11_isChoice ml_X11_103 sm_X11_isChoice rfl rfl ⟨Nat.le_of_ble_eq_true rfl, Nat.le_of_ble_eq_true rfl, Nat.le_of_ble_eq_true rfl, Nat.le_of_ble_eq_true rfl⟩ (Nat.le_of_ble_eq_true rfl) (c_X11_isChoice (fun j15 hj15 e15 => ?_) (fun n15 => ?_))
      · subst e15
        refine s_ifneT (tgt := 27) dX11_test_18 (by decide) (by decide) ?_
        refine s_aload_n (pc' := 28) dX11_test_27 rfl rfl ?_
        refine s_iload_n (pc' := 29) dX11_test_28 rfl rfl ?_
        refine s_ifneT (tgt := 39) dX11_test_29 (by decide) c1 ?_
        refine s_new (pc' := 42) (ci := 9) dX11_test_39 rfl (by decide) cl_X11_39 ib_X9 in_X9 (Nat.le_of_ble_eq_true rfl) (Nat.le_of_ble_eq_true rfl) ?_
        refine s_dup (pc' := 43) dX11_test_42 rfl rfl ?_
        refine s_iload_n (pc' := 44) dX11_test_43 rfl rfl ?_
        refine s_iload_n (pc' := 45) dX11_test_44 rfl rfl ?_
        refine s_iconst (pc' := 46) (v := 0) dX11_test_45 rfl (by decide) ?_
        refine s_callI (pc' := 49) (As := [.int _, .int _, .int _]) dX11_test_46 rfl mk_X9_init ml_X11_41 im_X9_init rfl rfl rfl rfl ⟨Nat.le_of_ble_eq_true rfl, Nat.le_of_ble_eq_true rfl, Nat.le_of_ble_eq_true rfl, Nat.le_of_ble_eq_true rfl⟩ (Nat.le_of_ble_eq_true rfl) (c_X9_init (Nat.lt_succ_self _) nS_s ?_)
        refine t_putR (pc' := 52) (r := some _) dX11_test_49 rfl rfl sh_0 (by decide) fa_X11_48_11 (Or.inl rfl) rfl (fun _ => rfl) ?_
        refine s_aload_n (pc' := 53) dX11_test_52 rfl rfl ?_
        refine s_iconst (pc' := 54) (v := 1) dX11_test_53 rfl (by decide) ?_
        refine s_callV (pc' := 57) (As := [.int _]) dX11_test_54 rfl mk_X11_done ml_X11_100 im_X11_done se_X11_X11_X11_done sh_0 (by decide) rfl rfl rfl ⟨Nat.le_of_ble_eq_true rfl, Nat.le_of_ble_eq_true rfl, Nat.le_of_ble_eq_true rfl, Nat.le_of_ble_eq_true rfl⟩ (Nat.le_of_ble_eq_true rfl) (c_X11_done ?_)
        exact s_iret dX11_test_57 rfl (by decide) (by decide) (k3 (Or.inl c6) j15 hj15 rfl)
      · refine s_ifneF (pc' := 21) (tgt := 27) dX11_test_18 (by decide) rfl (by decide) ?_
        refine s_aload_n (pc' := 22) dX11_test_21 rfl rfl ?_
        refine s_iconst (pc' := 23) (v := 1) dX11_test_22 rfl (by decide) ?_
        refine s_callV (pc' := 26) (As := [.int _]) dX11_test_23 rfl mk_X11_refused ml_X11_87 im_X11_refused se_X11_X11_X11_refused sh_0 (by decide) rfl rfl rfl ⟨Nat.le_of_ble_eq_true rfl, Nat.le_of_ble_eq_true rfl, Nat.le_of_ble_eq_true rfl, Nat.le_of_ble_eq_true rfl⟩ (Nat.le_of_ble_eq_true rfl) (c_X11_refused ?_)
        exact s_iret dX11_test_26 rfl (by decide) (by decide) (k1 (Or.inr ⟨c1, n15⟩))
    · refine s_iload_n (pc' := 10) dX11_test_9 rfl rfl ?_
      refine s_iconst (pc' := 11) (v := 2) dX11_test_10 rfl (by decide) ?_
      refine s_icmpne (pc' := 14) (tgt := 21) dX11_test_11 (by decide) rfl (fun c11 => ?_) (fun c11 => ?_)
      · refine s_aload_n (pc' := 22) dX11_test_21 rfl rfl ?_
        refine s_iconst (pc' := 23) (v := 1) dX11_test_22 rfl (by decide) ?_
        refine s_callV (pc' := 26) (As := [.int _]) dX11_test_23 rfl mk_X11_refused ml_X11_87 im_X11_refused se_X11_X11_X11_refused sh_0 (by decide) rfl rfl rfl ⟨Nat.le_of_ble_eq_true rfl, Nat.le_of_ble_eq_true rfl, Nat.le_of_ble_eq_true rfl, Nat.le_of_ble_eq_true rfl⟩ (Nat.le_of_ble_eq_true rfl) (c_X11_refused ?_)
        exact s_iret dX11_test_26 rfl (by decide) (by decide) (k1 (Or.inl (fun z => by have := in_02c z c1 c6; exact c11 this)))
      · refine s_iload_n (pc' := 15) dX11_test_14 rfl rfl ?_
        refine s_callS (pc' := 18) (As := [.int _]) dX11_test_15 rfl mk_X11_isChoice ml_X11_103 sm_X11_isChoice rfl rfl ⟨Nat.le_of_ble_eq_true rfl, Nat.le_of_ble_eq_true rfl, Nat.le_of_ble_eq_true rfl, Nat.le_of_ble_eq_true rfl⟩ (Nat.le_of_ble_eq_true rfl) (c_X11_isChoice (fun j15 hj15 e15 => ?_) (fun n15 => ?_))
        · subst e15
          refine s_ifneT (tgt := 27) dX11_test_18 (by decide) (by decide) ?_
          refine s_aload_n (pc' := 28) dX11_test_27 rfl rfl ?_
          refine s_iload_n (pc' := 29) dX11_test_28 rfl rfl ?_
          refine s_ifneT (tgt := 39) dX11_test_29 (by decide) c1 ?_
          refine s_new (pc' := 42) (ci := 9) dX11_test_39 rfl (by decide) cl_X11_39 ib_X9 in_X9 (Nat.le_of_ble_eq_true rfl) (Nat.le_of_ble_eq_true rfl) ?_
          refine s_dup (pc' := 43) dX11_test_42 rfl rfl ?_
          refine s_iload_n (pc' := 44) dX11_test_43 rfl rfl ?_
          refine s_iload_n (pc' := 45) dX11_test_44 rfl rfl ?_
          refine s_iconst (pc' := 46) (v := 0) dX11_test_45 rfl (by decide) ?_
          refine s_callI (pc' := 49) (As := [.int _, .int _, .int _]) dX11_test_46 rfl mk_X9_init ml_X11_41 im_X9_init rfl rfl rfl rfl ⟨Nat.le_of_ble_eq_true rfl, Nat.le_of_ble_eq_true rfl, Nat.le_of_ble_eq_true rfl, Nat.le_of_ble_eq_true rfl⟩ (Nat.le_of_ble_eq_true rfl) (c_X9_init (Nat.lt_succ_self _) nS_s ?_)
          refine t_putR (pc' := 52) (r := some _) dX11_test_49 rfl rfl sh_0 (by decide) fa_X11_48_11 (Or.inl rfl) rfl (fun _ => rfl) ?_
          refine s_aload_n (pc' := 53) dX11_test_52 rfl rfl ?_
          refine s_iconst (pc' := 54) (v := 1) dX11_test_53 rfl (by decide) ?_
          refine s_callV (pc' := 57) (As := [.int _]) dX11_test_54 rfl mk_X11_done ml_X11_100 im_X11_done se_X11_X11_X11_done sh_0 (by decide) rfl rfl rfl ⟨Nat.le_of_ble_eq_true rfl, Nat.le_of_ble_eq_true rfl, Nat.le_of_ble_eq_true rfl, Nat.le_of_ble_eq_true rfl⟩ (Nat.le_of_ble_eq_true rfl) (c_X11_done ?_)
          exact s_iret dX11_test_57 rfl (by decide) (by decide) (k3 (Or.inr (by first | exact c11 | exact Decidable.not_not.mp c11)) j15 hj15 rfl)
        · refine s_ifneF (pc' := 21) (tgt := 27) dX11_test_18 (by decide) rfl (by decide) ?_
          refine s_aload_n (pc' := 22) dX11_test_21 rfl rfl ?_
          refine s_iconst (pc' := 23) (v := 1) dX11_test_22 rfl (by decide) ?_
          refine s_callV (pc' := 26) (As := [.int _]) dX11_test_23 rfl mk_X11_refused ml_X11_87 im_X11_refused se_X11_X11_X11_refused sh_0 (by decide) rfl rfl rfl ⟨Nat.le_of_ble_eq_true rfl, Nat.le_of_ble_eq_true rfl, Nat.le_of_ble_eq_true rfl, Nat.le_of_ble_eq_true rfl⟩ (Nat.le_of_ble_eq_true rfl) (c_X11_refused ?_)
          exact s_iret dX11_test_26 rfl (by decide) (by decide) (k1 (Or.inr ⟨c1, n15⟩))
set_option maxHeartbeats 200000 in
theorem c_X11_testValue {N : Nat} {S : Nat → Nat × Nat} {I : Nat → Nat → Int32} {J : Nat → Nat → Int64} {Q : Nat → Nat → Option Nat} {κ : Option Value → HP → Prop} {nv : Nat} (hv : I 1 0 = nI nv) (hn : nv ≤ 10) {v b m : Int32} (k1 : ((∀ j, j < nv → v ≠ nI j) ∨ ¬ inR m (-1000) 1000) → κ (some (.int (-1))) (N, S, up2 I 0 5 1, J, Q)) (k2 : ∀ j, j < nv → v = nI j → inR m (-1000) 1000 → κ (some (.int 1)) (N + 1, nS S N (9, 0), up2 (up2 (up2 (up2 (zI I N) N 0 (if b = 0 then 3 else 4)) N 1 (nI j)) N 2 m) 0 5 0, J, up2 (zQ Q N) 0 7 (some N))) : CT E1 M_X11_testValue [.ref 0, .int v, .int b, .int m] (N, S, I, J, Q) κ := by
  refine ofSP mk_X11_testValue (Nat.le_of_ble_eq_true rfl) (L := [.ref 0, .int _, .int _, .int _]) rfl ?_
  refine s_aload_n (pc' := 1) dX11_testValue_0 rfl rfl ?_
  refine s_iload_n (pc' := 2) dX11_testValue_1 rfl rfl ?_
  refine s_callV (pc' := 5) (As := [.int _]) dX11_testValue_2 rfl mk_X11_isValue ml_X11_113 im_X11_isValue se_X11_X11_X11_isValue sh_0 (by decide) rfl rfl rfl ⟨Nat.le_of_ble_eq_true rfl, Nat.le_of_ble_eq_true rfl, Nat.le_of_ble_eq_true rfl, Nat.le_of_ble_eq_true rfl⟩ (Nat.le_of_ble_eq_true rfl) (c_X11_isValue hv (by omega) (fun j2 hj2 e2 => ?_) (fun n2 => ?_))
  · subst e2
    refine s_ifeqF (pc' := 8) (tgt := 18) dX11_testValue_5 (by decide) rfl (by decide) ?_
    refine s_iload_n (pc' := 9) dX11_testValue_8 rfl rfl ?_
    refine s_sipush (pc' := 12) (v := 1000) dX11_testValue_9 rfl (by decide) ?_
    refine s_callS (pc' := 15) (As := [.int _, .int _]) dX11_testValue_12 rfl mk_X11_isWithin ml_X11_79 sm_X11_isWithin rfl rfl ⟨Nat.le_of_ble_eq_true rfl, Nat.le_of_ble_eq_true rfl, Nat.le_of_ble_eq_true rfl, Nat.le_of_ble_eq_true rfl⟩ (Nat.le_of_ble_eq_true rfl) (c_X11_isWithin (m := 1000) (by decide) (fun i12 => ?_) (fun i12 => ?_))
    · refine s_ifneT (tgt := 24) dX11_testValue_15 (by decide) (by decide) ?_
      refine s_aload_n (pc' := 25) dX11_testValue_24 rfl rfl ?_
      refine s_new (pc' := 28) (ci := 9) dX11_testValue_25 rfl (by decide) cl_X11_39 ib_X9 in_X9 (Nat.le_of_ble_eq_true rfl) (Nat.le_of_ble_eq_true rfl) ?_
      refine s_dup (pc' := 29) dX11_testValue_28 rfl rfl ?_
      refine s_iload_n (pc' := 30) dX11_testValue_29 rfl rfl ?_
      refine s_ifeq (pc' := 33) (tgt := 37) dX11_testValue_30 (by decide) rfl (fun c30 => ?_) (fun c30 => ?_)
      · refine s_iconst (pc' := 38) (v := 3) dX11_testValue_37 rfl (by decide) ?_
        refine s_iload_n (pc' := 39) dX11_testValue_38 rfl rfl ?_
        refine s_iload_n (pc' := 40) dX11_testValue_39 rfl rfl ?_
        refine s_callI (pc' := 43) (As := [.int _, .int _, .int _]) dX11_testValue_40 rfl mk_X9_init ml_X11_41 im_X9_init rfl rfl rfl rfl ⟨Nat.le_of_ble_eq_true rfl, Nat.le_of_ble_eq_true rfl, Nat.le_of_ble_eq_true rfl, Nat.le_of_ble_eq_true rfl⟩ (Nat.le_of_ble_eq_true rfl) (c_X9_init (Nat.lt_succ_self _) nS_s ?_)
        refine t_putR (pc' := 46) (r := some _) dX11_testValue_43 rfl rfl sh_0 (by decide) fa_X11_48_11 (Or.inl rfl) rfl (fun _ => rfl) ?_
        refine s_aload_n (pc' := 47) dX11_testValue_46 rfl rfl ?_
        refine s_iconst (pc' := 48) (v := 1) dX11_testValue_47 rfl (by decide) ?_
        refine s_callV (pc' := 51) (As := [.int _]) dX11_testValue_48 rfl mk_X11_done ml_X11_100 im_X11_done se_X11_X11_X11_done sh_0 (by decide) rfl rfl rfl ⟨Nat.le_of_ble_eq_true rfl, Nat.le_of_ble_eq_true rfl, Nat.le_of_ble_eq_true rfl, Nat.le_of_ble_eq_true rfl⟩ (Nat.le_of_ble_eq_true rfl) (c_X11_done ?_)
        exact s_iret dX11_testValue_51 rfl (by decide) (by decide) (by have q := k2 j2 hj2 rfl i12; rw [if_pos c30] at q; exact q)
      · refine s_iconst (pc' := 34) (v := 4) dX11_testValue_33 rfl (by decide) ?_
        refine s_goto (tgt := 38) dX11_testValue_34 (by decide) ?_
        refine s_iload_n (pc' := 39) dX11_testValue_38 rfl rfl ?_
        refine s_iload_n (pc' := 40) dX11_testValue_39 rfl rfl ?_
        refine s_callI (pc' := 43) (As := [.int _, .int _, .int _]) dX11_testValue_40 rfl mk_X9_init ml_X11_41 im_X9_init rfl rfl rfl rfl ⟨Nat.le_of_ble_eq_true rfl, Nat.le_of_ble_eq_true rfl, Nat.le_of_ble_eq_true rfl, Nat.le_of_ble_eq_true rfl⟩ (Nat.le_of_ble_eq_true rfl) (c_X9_init (Nat.lt_succ_self _) nS_s ?_)
        refine t_putR (pc' := 46) (r := some _) dX11_testValue_43 rfl rfl sh_0 (by decide) fa_X11_48_11 (Or.inl rfl) rfl (fun _ => rfl) ?_
        refine s_aload_n (pc' := 47) dX11_testValue_46 rfl rfl ?_
        refine s_iconst (pc' := 48) (v := 1) dX11_testValue_47 rfl (by decide) ?_
        refine s_callV (pc' := 51) (As := [.int _]) dX11_testValue_48 rfl mk_X11_done ml_X11_100 im_X11_done se_X11_X11_X11_done sh_0 (by decide) rfl rfl rfl ⟨Nat.le_of_ble_eq_true rfl, Nat.le_of_ble_eq_true rfl, Nat.le_of_ble_eq_true rfl, Nat.le_of_ble_eq_true rfl⟩ (Nat.le_of_ble_eq_true rfl) (c_X11_done ?_)
        exact s_iret dX11_testValue_51 rfl (by decide) (by decide) (by have q := k2 j2 hj2 rfl i12; rw [if_neg c30] at q; exact q)
    · refine s_ifneF (pc' := 18) (tgt := 24) dX11_testValue_15 (by decide) rfl (by decide) ?_
      refine s_aload_n (pc' := 19) dX11_testValue_18 rfl rfl ?_
      refine s_iconst (pc' := 20) (v := 1) dX11_testValue_19 rfl (by decide) ?_
      refine s_callV (pc' := 23) (As := [.int _]) dX11_testValue_20 rfl mk_X11_refused ml_X11_87 im_X11_refused se_X11_X11_X11_refused sh_0 (by decide) rfl rfl rfl ⟨Nat.le_of_ble_eq_true rfl, Nat.le_of_ble_eq_true rfl, Nat.le_of_ble_eq_true rfl, Nat.le_of_ble_eq_true rfl⟩ (Nat.le_of_ble_eq_true rfl) (c_X11_refused ?_)
      exact s_iret dX11_testValue_23 rfl (by decide) (by decide) (k1 (Or.inr i12))
  · refine s_ifeqT (tgt := 18) dX11_testValue_5 (by decide) (by decide) ?_
    refine s_aload_n (pc' := 19) dX11_testValue_18 rfl rfl ?_
    refine s_iconst (pc' := 20) (v := 1) dX11_testValue_19 rfl (by decide) ?_
    refine s_callV (pc' := 23) (As := [.int _]) dX11_testValue_20 rfl mk_X11_refused ml_X11_87 im_X11_refused se_X11_X11_X11_refused sh_0 (by decide) rfl rfl rfl ⟨Nat.le_of_ble_eq_true rfl, Nat.le_of_ble_eq_true rfl, Nat.le_of_ble_eq_true rfl, Nat.le_of_ble_eq_true rfl⟩ (Nat.le_of_ble_eq_true rfl) (c_X11_refused ?_)
    exact s_iret dX11_testValue_23 rfl (by decide) (by decide) (k1 (Or.inl n2))
