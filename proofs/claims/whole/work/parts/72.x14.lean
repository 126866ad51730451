/-! ===== acts upon the sheet: the same rules, other heads ===== -/
def DR (D D' : Nat → Nat → Int32) : Prop := ∀ i, 60 ≤ i → i ≤ 71 → D' i = D i
/-- what forget() may change -/
def FG (I I' : Nat → Nat → Int32) : Prop := ∀ a, a ≠ 23 → a ≠ 29 → a ≠ 30 → a ≠ 31 → I' a = I a
section DR
variable {N : Nat} {S : Nat → Nat × Nat} {I I' : Nat → Nat → Int32} {Q Q' : Nat → Nat → Option Nat} {D D' : Nat → Nat → Int32} {nv nr ns nv' ns' : Nat} {ad td : Nat → Nat} {r a t : Nat}
set_option maxHeartbeats 200000 in
theorem DR.nds (h : DR D D') : ∀ k v, nd D' k v = nd D k v
  | 0, v => rfl
  | k + 1, v => by
    rw [nd, nd, DR.nds h k v]; unfold rb
    rw [h 60 (by decide) (by decide), h 61 (by decide) (by decide), h 67 (by decide) (by decide), h 69 (by decide) (by decide), h 70 (by decide) (by decide)]
set_option maxHeartbeats 200000 in
theorem DR.ndf (h : DR D D') (k : Nat) : nd D' k = nd D k := by funext v; exact h.nds k v
set_option maxHeartbeats 200000 in
theorem DR.rc (h : DR D D') : RC D' nr = RC D nr := by unfold RC; rw [h.ndf]
set_option maxHeartbeats 200000 in
theorem DR.ac (h : DR D D') (hA : AC D nv nr) : AC D' nv nr := by unfold AC; rw [h.ndf]; exact hA
set_option maxHeartbeats 200000 in
theorem DR.nt {o : Nat} (h : DR D D') (hN : NT I D nv nr o) (h7 : I' (o + 7) = I (o + 7)) : NT I' D' nv nr o := by unfold NT; rw [h.rc, h7]; exact hN
set_option maxHeartbeats 200000 in
theorem DR.ro (h : DR D D') (R : RO N S I Q D r a t) : RO N S I Q D' r a t := by
  unfold RO
  rw [h 60 (by decide) (by decide), h 61 (by decide) (by decide), h 62 (by decide) (by decide), h 63 (by decide) (by decide), h 64 (by decide) (by decide), h 65 (by decide) (by decide), h 66 (by decide) (by decide), h 67 (by decide) (by decide), h 68 (by decide) (by decide), h 69 (by decide) (by decide), h 70 (by decide) (by decide), h 71 (by decide) (by decide)]
  exact R
set_option maxHeartbeats 200000 in
theorem XS.ch (h : XS N S I Q D nv nr ns ad td 0) (hR : DR D D') (hI : ∀ a, (a = 42 ∨ 94 ≤ a) → I' a = I a) (h2 : ∀ a, 94 ≤ a → Q' a = Q a) (hq : Q' 8 = Q 8)
    (c1 : I' 1 0 = nI nv' ∧ I' 1 7 = nI nr ∧ I' 1 9 = nI ns' ∧ I' 1 13 = D' 75 6 ∧ I' 1 14 = D' 75 3 ∧ I' 1 15 = D' 75 4 ∧ I' 1 16 = D' 75 5)
    (c2 : ∀ v, v < nv' → I' 2 v = D' 55 v ∧ I' 3 v = D' 56 v ∧ I' 4 v = D' 59 v ∧ I' 5 v = D' 57 v + 8 * D' 58 v ∧ I' 6 v = nd D nr v)
    (c4 : ∀ k, k < ns' → I' 9 k = D' 72 k ∧ I' 10 k = D' 73 k ∧ I' 11 k = D' 74 k) : XS N S I' Q' D' nv' nr ns' ad td 0 := by
  obtain ⟨q1, q2, q3, q4⟩ := h
  refine ⟨c1, fun v hv => ?_, fun r hr => ?_, c4⟩
  · rw [hR.nds]; exact c2 v hv
  · obtain ⟨b1, b2⟩ := q3 r hr
    exact ⟨by show Q' 8 r = _; rw [hq]; exact b1, hR.ro (b2.mv hI h2)⟩
set_option maxHeartbeats 200000 in
theorem DW.hd (h : DW D nv nr ns) (hr : ∀ i, i ≠ 75 → D' i = D i) (h0 : D' 75 0 = D 75 0) (h1 : D' 75 1 = D 75 1) (h2 : D' 75 2 = D 75 2) (h5 : ∃ m f s t, m < 256 ∧ f < 256 ∧ s < 64 ∧ t ≤ 1000 ∧ D' 75 3 = nI m ∧ D' 75 4 = nI f ∧ D' 75 5 = nI s ∧ D' 75 6 = nI t) : DW D' nv nr ns := by
  obtain ⟨⟨a1, a2, a3, a4, a5, a6⟩, b, c, d, -⟩ := h
  refine ⟨⟨a1, a2, a3, by rw [h0]; exact a4, by rw [h1]; exact a5, by rw [h2]; exact a6⟩, ?_, ?_, ?_, h5⟩
  · rw [hr 60 (by decide), hr 61 (by decide), hr 62 (by decide), hr 63 (by decide), hr 64 (by decide), hr 65 (by decide), hr 66 (by decide), hr 67 (by decide), hr 68 (by decide), hr 69 (by decide), hr 70 (by decide)]; exact b
  · rw [hr 55 (by decide), hr 56 (by decide), hr 57 (by decide), hr 58 (by decide), hr 59 (by decide)]; exact c
  · rw [hr 72 (by decide), hr 73 (by decide), hr 74 (by decide)]; exact d
set_option maxHeartbeats 200000 in
theorem DR.u75 {j : Nat} {x : Int32} : DR D (up2 D 75 j x) := fun i _ _ => up2_o (by omega)
end DR
set_option maxHeartbeats 200000 in
theorem wb_sm {f j k : Nat} {b : Int32} (hk : k ≤ 8) (hf : f < 2 ^ k) (hj : j < k) : ∃ f', f' < 2 ^ k ∧ wbi (nI f) (nI j) b = nI f' := by
  have hp : (2 : Nat) ^ k ≤ 2 ^ 8 := Nat.pow_le_pow_right (by decide) hk
  have h1 : ∀ i, bt (nI f) i = true → i < k := fun i hi => by
    rcases Nat.lt_or_ge i 32 with z | z
    · rw [bt_nI (by omega) z] at hi
      rcases Nat.lt_or_ge i k with q | q
      · exact q
      · rw [Nat.testBit_lt_two_pow (Nat.lt_of_lt_of_le hf (Nat.pow_le_pow_right (by decide) q))] at hi; cases hi
    · rw [b_big z] at hi; cases hi
  refine small_of (by omega) (fun i hi => ?_)
  by_cases hb : b = 0
  · rw [wbi_0 hb, b_and, Bool.and_eq_true] at hi; exact h1 i hi.1
  · rw [wbi_1 hb, b_or, Bool.or_eq_true] at hi
    rcases hi with z | z
    · exact h1 i z
    · rcases Nat.lt_or_ge i 32 with q | q
      · rw [bt_one (by omega) q] at z; have := of_decide_eq_true z; omega
      · rw [b_big q] at z; cases z
set_option maxHeartbeats 200000 in
theorem in_nI {x : Int32} {a b : Nat} (h : inR x a b) (hb : b < 1000) : ∃ j, a ≤ j ∧ j ≤ b ∧ x = nI j := by
  obtain ⟨j, e, e2, hj⟩ := toNat_of h (by omega)
  refine ⟨j, ?_, ?_, e⟩
  · have := h.1; omega
  · have := h.2; omega
set_option maxHeartbeats 200000 in
/-- those that end at t + 1 -/
theorem cGt_cEq (f : Nat → Int32) {t : Nat} (ht : t ≤ 1000) : ∀ n, (∀ k, k < n → ∃ u, u ≤ 1020 ∧ f k = nI u) → cGt f (nI t) n - cGt f (nI t + 1) n = cEq f (nI t + 1) n
  | 0, _ => by simp [cGt, cEq]
  | n + 1, h => by
    obtain ⟨u, hu, e⟩ := h n (by omega)
    have ih := cGt_cEq f ht n (fun k hk => h k (by omega))
    rw [cGt, cGt, cEq, ← ih, e, show nI t + 1 = nI (t + 1) from nI_1 t]
    have l1 : (nI t < nI u) ↔ t < u := ⟨fun q => Nat.lt_of_not_le (fun z => Int32.not_lt.mpr (nI_le z (by omega)) q), fun q => nI_lt q (by omega)⟩
    have l2 : (nI (t + 1) < nI u) ↔ t + 1 < u := ⟨fun q => Nat.lt_of_not_le (fun z => Int32.not_lt.mpr (nI_le z (by omega)) q), fun q => nI_lt q (by omega)⟩
    have l3 : (nI u = nI (t + 1)) ↔ u = t + 1 := nI_eq (by omega) (by omega)
    rcases Nat.lt_trichotomy (t + 1) u with z | z | z
    · rw [if_pos (l1.mpr (by omega)), if_pos (l2.mpr z), if_neg (fun q => by have := l3.mp q; omega)]
      generalize cGt f (nI t) n = A; generalize cGt f (nI (t + 1)) n = B
      grind
    · rw [if_pos (l1.mpr (by omega)), if_neg (fun q => by have := l2.mp q; omega), if_pos (l3.mpr z.symm)]
      generalize cGt f (nI t) n = A; generalize cGt f (nI (t + 1)) n = B
      grind
    · rw [if_neg (fun q => by have := l1.mp q; omega), if_neg (fun q => by have := l2.mp q; omega), if_neg (fun q => by have := l3.mp q; omega)]
      simp only [Int32.add_zero]
set_option maxHeartbeats 200000 in
theorem c_X1_forget {N : Nat} {S : Nat → Nat × Nat} {I : Nat → Nat → Int32} {J : Nat → Nat → Int64} {Q : Nat → Nat → Option Nat} {κ : Option Value → HP → Prop} {D : Nat → Nat → Int32} {nv nr ns : Nat} {ad td : Nat → Nat} (X : XS N S I Q D nv nr ns ad td 0) (hW : DW D nv nr ns) (hA : AC D nv nr) (hN : NT I D nv nr 0) (h31 : I 31 0 = 0) {D0 : Nat → Nat → Int32} {nv0 nr0 ns0 e : Nat} {J0 : Nat → Nat → Int64} (hB : BK I J0 D0 nv0 nr0 ns0 e) (he : e + 1 < 2 ^ 30) (hk : ∀ I', FG I I' → XB N S I' J Q D nv nr ns ad td (e + 1) → κ none (N, S, I', J, Q)) : CT E1 M_X1_forget [.ref 23] (N, S, I, J, Q) κ := by
  refine ofSP mk_X1_forget (Nat.le_of_ble_eq_true rfl) (L := [.ref 23]) rfl ?_
  refine s_aload_n (pc' := 1) dX1_forget_0 rfl rfl ?_
  refine s_dup (pc' := 2) dX1_forget_1 rfl rfl ?_
  refine t_getI (pc' := 5) dX1_forget_2 rfl sh_23 (by decide) fa_X1_18_1 rfl ?_
  refine s_iconst (pc' := 6) (v := 1) dX1_forget_5 rfl (by decide) ?_
  refine s_iadd (pc' := 7) dX1_forget_6 rfl ?_
  refine t_putI (pc' := 10) dX1_forget_7 rfl sh_23 (by decide) fa_X1_18_1 (Or.inl rfl) rfl rfl rfl ?_
  have X2 : XS N S (up2 I 23 2 (I 23 2 + Int32.ofInt 1)) Q D nv nr ns ad td 0 := X.mv (fun a a1 a2 _ => up2_o (by omega)) rfl (fun a ha => up2_o (by omega)) (fun _ _ => rfl)
  have N2 : NT (up2 I 23 2 (I 23 2 + Int32.ofInt 1)) D nv nr 0 := fun v hv u => by rw [up2_o (by omega)]; exact hN v hv u
  refine s_aload_n (pc' := 11) dX1_forget_10 rfl rfl ?_
  refine s_getS (pc' := 14) (b := 24) dX1_forget_11 rfl (by decide) rfl (by decide) fa_X1_12_1 rfl rfl ?_
  refine s_aload_n (pc' := 15) dX1_forget_14 rfl rfl ?_
  refine s_getS (pc' := 18) (b := 1) dX1_forget_15 rfl (by decide) rfl (by decide) fa_X1_46_1 rfl rfl ?_
  refine s_callV (pc' := 21) (As := [.ref 1]) dX1_forget_18 rfl mk_X5_arrange ml_X1_50 im_X5_arrange se_X5_X5_X5_arrange sh_24 (by decide) rfl rfl rfl ⟨Nat.le_of_ble_eq_true rfl, Nat.le_of_ble_eq_true rfl, Nat.le_of_ble_eq_true rfl, Nat.le_of_ble_eq_true rfl⟩ (Nat.le_of_ble_eq_true rfl) (c_X5_arrange X2 hW hA N2 (by rw [up2_d (by decide)]; exact h31) (fun I1 ord st f1 a1 z1 => ?_))
  exact s_vret dX1_forget_21 rfl (by decide) (by decide) (by
    refine hk I1 (fun a b1 b2 b3 b4 => (f1 a b2 b3 b4).trans (up2_o b1)) ⟨X2.mv (fun a b1 b2 _ => f1 a (by omega) (by omega) (by omega)) rfl (fun a ha => f1 a (by omega) (by omega) (by omega)) (fun _ _ => rfl), hW, hA, fun v hv u => by rw [f1 (0 + 7) (by omega) (by omega) (by omega)]; exact N2 v hv u, ⟨ord, st, a1⟩, z1, ?_⟩
    refine hB.new ?_ ?_ he
    · rw [f1 23 (by decide) (by decide) (by decide), up2_s, hB.1]; exact nI_inc e
    · rw [f1 36 (by decide) (by decide) (by decide)]; exact up2_o (by decide))
set_option maxHeartbeats 200000 in
theorem XS.u1 {N : Nat} {S : Nat → Nat × Nat} {I : Nat → Nat → Int32} {Q : Nat → Nat → Option Nat} {D : Nat → Nat → Int32} {nv nr ns : Nat} {ad td : Nat → Nat} {x : Int32} (h : XS N S I Q D nv nr ns ad td 0) : XS N S (up2 I 1 15 x) Q (up2 D 75 4 x) nv nr ns ad td 0 ∧ XS N S (up2 I 1 16 x) Q (up2 D 75 5 x) nv nr ns ad td 0 ∧ XS N S (up2 I 1 13 x) Q (up2 D 75 6 x) nv nr ns ad td 0 ∧ XS N S (up2 I 1 14 x) Q (up2 D 75 3 x) nv nr ns ad td 0 := by
  refine ⟨h.ch DR.u75 (fun a ha => up2_o (by omega)) (fun _ _ => rfl) rfl ?_ (fun v hv => ?_) (fun k hk => ?_), h.ch DR.u75 (fun a ha => up2_o (by omega)) (fun _ _ => rfl) rfl ?_ (fun v hv => ?_) (fun k hk => ?_), h.ch DR.u75 (fun a ha => up2_o (by omega)) (fun _ _ => rfl) rfl ?_ (fun v hv => ?_) (fun k hk => ?_), h.ch DR.u75 (fun a ha => up2_o (by omega)) (fun _ _ => rfl) rfl ?_ (fun v hv => ?_) (fun k hk => ?_)⟩ <;> simp (disch := decide) only [up2_d, up2_e, up2_s]
  all_goals first
    | exact h.2.1 v hv
    | exact h.2.2.2 k hk
    | skip
  · exact ⟨h.1.1, h.1.2.1, h.1.2.2.1, h.1.2.2.2.1, h.1.2.2.2.2.1, trivial, h.1.2.2.2.2.2.2⟩
  · exact ⟨h.1.1, h.1.2.1, h.1.2.2.1, h.1.2.2.2.1, h.1.2.2.2.2.1, h.1.2.2.2.2.2.1, trivial⟩
  · exact ⟨h.1.1, h.1.2.1, h.1.2.2.1, trivial, h.1.2.2.2.2.1, h.1.2.2.2.2.2⟩
  · exact ⟨h.1.1, h.1.2.1, h.1.2.2.1, h.1.2.2.2.1, trivial, h.1.2.2.2.2.2⟩
set_option maxHeartbeats 200000 in
theorem BK.hd {I I' : Nat → Nat → Int32} {J : Nat → Nat → Int64} {D : Nat → Nat → Int32} {nv nr ns e : Nat} (h : BK I J D nv nr ns e) (h1 : I' 23 = I 23 := by (funext j; simp (disch := decide) only [up2_d])) (h2 : I' 36 = I 36 := by (funext j; simp (disch := decide) only [up2_d])) (h3 : I' 37 = I 37 := by (funext j; simp (disch := decide) only [up2_d])) : BK I' J D nv nr ns e := by
  unfold BK BG; rw [h1, h2, h3]; exact h
set_option maxHeartbeats 200000 in
theorem DW.u75 {D : Nat → Nat → Int32} {nv nr ns : Nat} {x : Int32} (h : DW D nv nr ns) : ((∃ f, f < 256 ∧ x = nI f) → DW (up2 D 75 3 x) nv nr ns ∧ DW (up2 D 75 4 x) nv nr ns) ∧ ((∃ f, f < 64 ∧ x = nI f) → DW (up2 D 75 5 x) nv nr ns) ∧ ((∃ f, f ≤ 1000 ∧ x = nI f) → DW (up2 D 75 6 x) nv nr ns) := by
  obtain ⟨m, f, s, t, m1, f1, s1, t1, m2, f2, s2, t2⟩ := h.2.2.2.2
  refine ⟨fun ⟨y, y1, y2⟩ => ⟨?_, ?_⟩, fun ⟨y, y1, y2⟩ => ?_, fun ⟨y, y1, y2⟩ => ?_⟩ <;> refine h.hd (fun i hi => up2_o hi) (up2_e (by decide)) (up2_e (by decide)) (up2_e (by decide)) ?_ <;> simp (disch := decide) only [up2_e, up2_s]
  · exact ⟨y, f, s, t, y1, f1, s1, t1, y2, f2, s2, t2⟩
  · exact ⟨m, y, s, t, m1, y1, s1, t1, m2, y2, s2, t2⟩
  · exact ⟨m, f, y, t, m1, f1, y1, t1, m2, f2, y2, t2⟩
  · exact ⟨m, f, s, y, m1, f1, s1, y1, m2, f2, s2, y2⟩
set_option maxHeartbeats 200000 in
theorem c_X11_free {N : Nat} {S : Nat → Nat × Nat} {I : Nat → Nat → Int32} {J : Nat → Nat → Int64} {Q : Nat → Nat → Option Nat} {κ : Option Value → HP → Prop} {D : Nat → Nat → Int32} {nv nr ns : Nat} {ad td : Nat → Nat} {e : Nat} (X : XB N S I J Q D nv nr ns ad td e) (he : e + 1 < 2 ^ 30) {v b : Int32} (k1 : (∀ j, j < 8 → v ≠ nI j) → κ (some (.int (-1))) (N, S, up2 I 0 5 1, J, Q)) (k2 : ∀ j, j < 8 → v = nI j → ∀ I', FG (up2 I 1 15 (wbi (D 75 4) (nI j) b)) I' → XB N S I' J Q (up2 D 75 4 (wbi (D 75 4) (nI j) b)) nv nr ns ad td (e + 1) → κ (some (.int (if D 75 4 = (wbi (D 75 4) (nI j) b) then 0 else 1))) (N, S, up2 I' 0 5 0, J, Q)) : CT E1 M_X11_free [.ref 0, .int v, .int b] (N, S, I, J, Q) κ := by
  refine ofSP mk_X11_free (Nat.le_of_ble_eq_true rfl) (L := [.ref 0, .int _, .int _, .retAddr _]) rfl ?_
  refine s_iload_n (pc' := 1) dX11_free_0 rfl rfl ?_
  refine s_callS (pc' := 4) (As := [.int _]) dX11_free_1 rfl mk_X11_isChoice ml_X11_103 sm_X11_isChoice rfl rfl ⟨Nat.le_of_ble_eq_true rfl, Nat.le_of_ble_eq_true rfl, Nat.le_of_ble_eq_true rfl, Nat.le_of_ble_eq_true rfl⟩ (Nat.le_of_ble_eq_true rfl) (c_X11_isChoice (fun j1 hj1 e1 => ?_) (fun n1 => ?_))
  · subst e1
    refine s_ifneT (tgt := 13) dX11_free_4 (by decide) (by decide) ?_
    refine s_aload_n (pc' := 14) dX11_free_13 rfl rfl ?_
    refine s_getS (pc' := 17) (b := 1) dX11_free_14 rfl (by decide) rfl (by decide) fa_X11_10_11 rfl rfl ?_
    refine t_getI (pc' := 20) dX11_free_17 rfl sh_1 (by decide) fa_X11_106_8 rfl ?_
    refine t_istore_n (pc' := 21) (L' := [.ref 0, .int _, .int _, .int _]) dX11_free_20 rfl (Nat.le_of_ble_eq_true rfl) rfl ?_
    refine s_aload_n (pc' := 22) dX11_free_21 rfl rfl ?_
    refine s_getS (pc' := 25) (b := 1) dX11_free_22 rfl (by decide) rfl (by decide) fa_X11_10_11 rfl rfl ?_
    rw [X.1.fe]
    refine s_iload_n (pc' := 26) dX11_free_25 rfl rfl ?_
    refine s_iload_n (pc' := 27) dX11_free_26 rfl rfl ?_
    refine s_iload_n (pc' := 28) dX11_free_27 rfl rfl ?_
    refine s_callS (pc' := 31) (As := [.int _, .int _, .int _]) dX11_free_28 rfl mk_X11_withBit ml_X11_109 sm_X11_withBit rfl rfl ⟨Nat.le_of_ble_eq_true rfl, Nat.le_of_ble_eq_true rfl, Nat.le_of_ble_eq_true rfl, Nat.le_of_ble_eq_true rfl⟩ (Nat.le_of_ble_eq_true rfl) (c_X11_withBit ?_)
    refine t_putI (pc' := 34) dX11_free_31 rfl sh_1 (by decide) fa_X11_106_8 (Or.inl rfl) rfl rfl rfl ?_
    have hfw : ∃ f, f < 256 ∧ wbi (D 75 4) (nI j1) b = nI f := by obtain ⟨m, f, s, t, -, f1, -, -, -, f2, -⟩ := X.2.1.2.2.2.2; rw [f2]; exact wb_sm (k := 8) (by decide) f1 hj1
    refine s_aload_n (pc' := 35) dX11_free_34 rfl rfl ?_
    refine s_getS (pc' := 38) (b := 23) dX11_free_35 rfl (by decide) rfl (by decide) fa_X11_24_11 rfl rfl ?_
    refine s_callV (pc' := 41) (As := []) dX11_free_38 rfl mk_X1_forget ml_X11_97 im_X1_forget se_X1_X1_X1_forget sh_23 (by decide) rfl rfl rfl ⟨Nat.le_of_ble_eq_true rfl, Nat.le_of_ble_eq_true rfl, Nat.le_of_ble_eq_true rfl, Nat.le_of_ble_eq_true rfl⟩ (Nat.le_of_ble_eq_true rfl) (c_X1_forget X.1.u1.1 (X.2.1.u75.1 hfw).2 (DR.u75.ac X.2.2.1) (DR.u75.nt X.2.2.2.1 (up2_o (by decide))) (by simp (disch := decide) only [up2_d]; exact X.2.2.2.2.2.1) (J0 := J) (e := e) (BK.hd X.2.2.2.2.2.2) he (fun I1 f1 X1 => ?_))
    refine s_aload_n (pc' := 42) dX11_free_41 rfl rfl ?_
    refine s_aload_n (pc' := 43) dX11_free_42 rfl rfl ?_
    refine s_getS (pc' := 46) (b := 1) dX11_free_43 rfl (by decide) rfl (by decide) fa_X11_10_11 rfl rfl ?_
    refine t_getI (pc' := 49) dX11_free_46 rfl sh_1 (by decide) fa_X11_106_8 rfl ?_
    refine s_iload_n (pc' := 50) dX11_free_49 rfl rfl ?_
    refine s_icmpne (pc' := 53) (tgt := 57) dX11_free_50 (by decide) rfl (fun c50 => ?_) (fun c50 => ?_)
    · refine s_iconst (pc' := 58) (v := 1) dX11_free_57 rfl (by decide) ?_
      refine s_callV (pc' := 61) (As := [.int _]) dX11_free_58 rfl mk_X11_done ml_X11_100 im_X11_done se_X11_X11_X11_done sh_0 (by decide) rfl rfl rfl ⟨Nat.le_of_ble_eq_true rfl, Nat.le_of_ble_eq_true rfl, Nat.le_of_ble_eq_true rfl, Nat.le_of_ble_eq_true rfl⟩ (Nat.le_of_ble_eq_true rfl) (c_X11_done ?_)
      exact s_iret dX11_free_61 rfl (by decide) (by decide) (by have q := k2 j1 hj1 rfl I1 f1 X1; rw [X1.1.fe, up2_s] at c50; rw [if_neg (fun z => c50 z.symm)] at q; exact q)
    · refine s_iconst (pc' := 54) (v := 0) dX11_free_53 rfl (by decide) ?_
      refine s_goto (tgt := 58) dX11_free_54 (by decide) ?_
      refine s_callV (pc' := 61) (As := [.int _]) dX11_free_58 rfl mk_X11_done ml_X11_100 im_X11_done se_X11_X11_X11_done sh_0 (by decide) rfl rfl rfl ⟨Nat.le_of_ble_eq_true rfl, Nat.le_of_ble_eq_true rfl, Nat.le_of_ble_eq_true rfl, Nat.le_of_ble_eq_true rfl⟩ (Nat.le_of_ble_eq_true rfl) (c_X11_done ?_)
      exact s_iret dX11_free_61 rfl (by decide) (by decide) (by have q := k2 j1 hj1 rfl I1 f1 X1; rw [X1.1.fe, up2_s] at c50; rw [if_pos (by first | exact c50.symm | exact (Decidable.not_not.mp c50).symm)] at q; exact q)
  · refine s_ifneF (pc' := 7) (tgt := 13) dX11_free_4 (by decide) rfl (by decide) ?_
    refine s_aload_n (pc' := 8) dX11_free_7 rfl rfl ?_
    refine s_iconst (pc' := 9) (v := 1) dX11_free_8 rfl (by decide) ?_
    refine s_callV (pc' := 12) (As := [.int _]) dX11_free_9 rfl mk_X11_refused ml_X11_87 im_X11_refused se_X11_X11_X11_refused sh_0 (by decide) rfl rfl rfl ⟨Nat.le_of_ble_eq_true rfl, Nat.le_of_ble_eq_true rfl, Nat.le_of_ble_eq_true rfl, Nat.le_of_ble_eq_true rfl⟩ (Nat.le_of_ble_eq_true rfl) (c_X11_refused ?_)
    exact s_iret dX11_free_12 rfl (by decide) (by decide) (k1 n1)
set_option maxHeartbeats 200000 in
theorem c_X11_stack {N : Nat} {S : Nat → Nat × Nat} {I : Nat → Nat → Int32} {J : Nat → Nat → Int64} {Q : Nat → Nat → Option Nat} {κ : Option Value → HP → Prop} {D : Nat → Nat → Int32} {nv nr ns : Nat} {ad td : Nat → Nat} {e : Nat} (X : XB N S I J Q D nv nr ns ad td e) (he : e + 1 < 2 ^ 30) {v b : Int32} (k1 : ¬ inR v 1 5 → κ (some (.int (-1))) (N, S, up2 I 0 5 1, J, Q)) (k2 : inR v 1 5 → ∀ I', FG (up2 I 1 16 (wbi (D 75 5) v b)) I' → XB N S I' J Q (up2 D 75 5 (wbi (D 75 5) v b)) nv nr ns ad td (e + 1) → κ (some (.int (if D 75 5 = (wbi (D 75 5) v b) then 0 else 1))) (N, S, up2 I' 0 5 0, J, Q)) : CT E1 M_X11_stack [.ref 0, .int v, .int b] (N, S, I, J, Q) κ := by
  refine ofSP mk_X11_stack (Nat.le_of_ble_eq_true rfl) (L := [.ref 0, .int _, .int _, .retAddr _]) rfl ?_
  refine s_iload_n (pc' := 1) dX11_stack_0 rfl rfl ?_
  refine s_callS (pc' := 4) (As := [.int _]) dX11_stack_1 rfl mk_X11_isType ml_X11_128 sm_X11_isType rfl rfl ⟨Nat.le_of_ble_eq_true rfl, Nat.le_of_ble_eq_true rfl, Nat.le_of_ble_eq_true rfl, Nat.le_of_ble_eq_true rfl⟩ (Nat.le_of_ble_eq_true rfl) (c_X11_isType (fun i1 => ?_) (fun i1 => ?_))
  · refine s_ifneT (tgt := 13) dX11_stack_4 (by decide) (by decide) ?_
    refine s_aload_n (pc' := 14) dX11_stack_13 rfl rfl ?_
    refine s_getS (pc' := 17) (b := 1) dX11_stack_14 rfl (by decide) rfl (by decide) fa_X11_10_11 rfl rfl ?_
    refine t_getI (pc' := 20) dX11_stack_17 rfl sh_1 (by decide) fa_X11_139_8 rfl ?_
    refine t_istore_n (pc' := 21) (L' := [.ref 0, .int _, .int _, .int _]) dX11_stack_20 rfl (Nat.le_of_ble_eq_true rfl) rfl ?_
    refine s_aload_n (pc' := 22) dX11_stack_21 rfl rfl ?_
    refine s_getS (pc' := 25) (b := 1) dX11_stack_22 rfl (by decide) rfl (by decide) fa_X11_10_11 rfl rfl ?_
    rw [X.1.sk]
    refine s_iload_n (pc' := 26) dX11_stack_25 rfl rfl ?_
    refine s_iload_n (pc' := 27) dX11_stack_26 rfl rfl ?_
    refine s_iload_n (pc' := 28) dX11_stack_27 rfl rfl ?_
    refine s_callS (pc' := 31) (As := [.int _, .int _, .int _]) dX11_stack_28 rfl mk_X11_withBit ml_X11_109 sm_X11_withBit rfl rfl ⟨Nat.le_of_ble_eq_true rfl, Nat.le_of_ble_eq_true rfl, Nat.le_of_ble_eq_true rfl, Nat.le_of_ble_eq_true rfl⟩ (Nat.le_of_ble_eq_true rfl) (c_X11_withBit ?_)
    refine t_putI (pc' := 34) dX11_stack_31 rfl sh_1 (by decide) fa_X11_139_8 (Or.inl rfl) rfl rfl rfl ?_
    have hfw : ∃ f, f < 64 ∧ wbi (D 75 5) v b = nI f := by obtain ⟨m, f, s, t, -, -, f1, -, -, -, f2, -⟩ := X.2.1.2.2.2.2; obtain ⟨j, j1, j2, rfl⟩ := in_nI (a := 1) (b := 5) i1 (by decide); rw [f2]; exact wb_sm (k := 6) (by decide) f1 (by omega)
    refine s_aload_n (pc' := 35) dX11_stack_34 rfl rfl ?_
    refine s_getS (pc' := 38) (b := 23) dX11_stack_35 rfl (by decide) rfl (by decide) fa_X11_24_11 rfl rfl ?_
    refine s_callV (pc' := 41) (As := []) dX11_stack_38 rfl mk_X1_forget ml_X11_97 im_X1_forget se_X1_X1_X1_forget sh_23 (by decide) rfl rfl rfl ⟨Nat.le_of_ble_eq_true rfl, Nat.le_of_ble_eq_true rfl, Nat.le_of_ble_eq_true rfl, Nat.le_of_ble_eq_true rfl⟩ (Nat.le_of_ble_eq_true rfl) (c_X1_forget X.1.u1.2.1 (X.2.1.u75.2.1 hfw) (DR.u75.ac X.2.2.1) (DR.u75.nt X.2.2.2.1 (up2_o (by decide))) (by simp (disch := decide) only [up2_d]; exact X.2.2.2.2.2.1) (J0 := J) (e := e) (BK.hd X.2.2.2.2.2.2) he (fun I1 f1 X1 => ?_))
    refine s_aload_n (pc' := 42) dX11_stack_41 rfl rfl ?_
    refine s_aload_n (pc' := 43) dX11_stack_42 rfl rfl ?_
    refine s_getS (pc' := 46) (b := 1) dX11_stack_43 rfl (by decide) rfl (by decide) fa_X11_10_11 rfl rfl ?_
    refine t_getI (pc' := 49) dX11_stack_46 rfl sh_1 (by decide) fa_X11_139_8 rfl ?_
    refine s_iload_n (pc' := 50) dX11_stack_49 rfl rfl ?_
    refine s_icmpne (pc' := 53) (tgt := 57) dX11_stack_50 (by decide) rfl (fun c50 => ?_) (fun c50 => ?_)
    · refine s_iconst (pc' := 58) (v := 1) dX11_stack_57 rfl (by decide) ?_
      refine s_callV (pc' := 61) (As := [.int _]) dX11_stack_58 rfl mk_X11_done ml_X11_100 im_X11_done se_X11_X11_X11_done sh_0 (by decide) rfl rfl rfl ⟨Nat.le_of_ble_eq_true rfl, Nat.le_of_ble_eq_true rfl, Nat.le_of_ble_eq_true rfl, Nat.le_of_ble_eq_true rfl⟩ (Nat.le_of_ble_eq_true rfl) (c_X11_done ?_)
      exact s_iret dX11_stack_61 rfl (by decide) (by decide) (by have q := k2 i1 I1 f1 X1; rw [X1.1.sk, up2_s] at c50; rw [if_neg (fun z => c50 z.symm)] at q; exact q)
    · refine s_iconst (pc' := 54) (v := 0) dX11_stack_53 rfl (by decide) ?_
      refine s_goto (tgt := 58) dX11_stack_54 (by decide) ?_
      refine s_callV (pc' := 61) (As := [.int _]) dX11_stack_58 rfl mk_X11_done ml_X11_100 im_X11_done se_X11_X11_X11_done sh_0 (by decide) rfl rfl rfl ⟨Nat.le_of_ble_eq_true rfl, Nat.le_of_ble_eq_true rfl, Nat.le_of_ble_eq_true rfl, Nat.le_of_ble_eq_true rfl⟩ (Nat.le_of_ble_eq_true rfl) (c_X11_done ?_)
      exact s_iret dX11_stack_61 rfl (by decide) (by decide) (by have q := k2 i1 I1 f1 X1; rw [X1.1.sk, up2_s] at c50; rw [if_pos (by first | exact c50.symm | exact (Decidable.not_not.mp c50).symm)] at q; exact q)
  · refine s_ifneF (pc' := 7) (tgt := 13) dX11_stack_4 (by decide) rfl (by decide) ?_
    refine s_aload_n (pc' := 8) dX11_stack_7 rfl rfl ?_
    refine s_iconst (pc' := 9) (v := 1) dX11_stack_8 rfl (by decide) ?_
    refine s_callV (pc' := 12) (As := [.int _]) dX11_stack_9 rfl mk_X11_refused ml_X11_87 im_X11_refused se_X11_X11_X11_refused sh_0 (by decide) rfl rfl rfl ⟨Nat.le_of_ble_eq_true rfl, Nat.le_of_ble_eq_true rfl, Nat.le_of_ble_eq_true rfl, Nat.le_of_ble_eq_true rfl⟩ (Nat.le_of_ble_eq_true rfl) (c_X11_refused ?_)
    exact s_iret dX11_stack_12 rfl (by decide) (by decide) (k1 i1)
set_option maxHeartbeats 200000 in
theorem c_X11_turn {N : Nat} {S : Nat → Nat × Nat} {I : Nat → Nat → Int32} {J : Nat → Nat → Int64} {Q : Nat → Nat → Option Nat} {κ : Option Value → HP → Prop} {D : Nat → Nat → Int32} {nv nr ns : Nat} {ad td : Nat → Nat} {e : Nat} (X : XB N S I J Q D nv nr ns ad td e) (he : e + 1 < 2 ^ 30) (k1 : D 75 6 = 1000 → κ (some (.int (-1))) (N, S, up2 I 0 5 2, J, Q)) (k2 : D 75 6 ≠ 1000 → ∀ I', FG (up2 I 1 13 (D 75 6 + 1)) I' → XB N S I' J Q (up2 D 75 6 (D 75 6 + 1)) nv nr ns ad td (e + 1) → κ (some (.int (cEq (D 74) (D 75 6 + 1) ns))) (N, S, up2 I' 0 5 0, J, Q)) : CT E1 M_X11_turn [.ref 0] (N, S, I, J, Q) κ := by
  refine ofSP mk_X11_turn (Nat.le_of_ble_eq_true rfl) (L := [.ref 0, .retAddr _]) rfl ?_
  obtain ⟨_, _, _, t, -, -, -, ht, -, -, -, ht2⟩ := X.2.1.2.2.2.2
  refine s_aload_n (pc' := 1) dX11_turn_0 rfl rfl ?_
  refine s_getS (pc' := 4) (b := 1) dX11_turn_1 rfl (by decide) rfl (by decide) fa_X11_10_11 rfl rfl ?_
  refine t_getI (pc' := 7) dX11_turn_4 rfl sh_1 (by decide) fa_X11_156_8 rfl ?_
  refine s_sipush (pc' := 10) (v := 1000) dX11_turn_7 rfl (by decide) ?_
  refine s_icmplt (pc' := 13) (tgt := 19) dX11_turn_10 (by decide) rfl (fun c10 => ?_) (fun c10 => ?_)
  · have n1 : t < 1000 := by rw [X.1.tn, ht2] at c10; exact Nat.lt_of_not_le (fun z => Int32.not_lt.mpr (nI_le (a := 1000) z (by omega)) c10)
    refine s_aload_n (pc' := 20) dX11_turn_19 rfl rfl ?_
    refine s_getS (pc' := 23) (b := 1) dX11_turn_20 rfl (by decide) rfl (by decide) fa_X11_10_11 rfl rfl ?_
    refine s_callV (pc' := 26) (As := []) dX11_turn_23 rfl mk_X8_lastingSpells ml_X11_162 im_X8_lastingSpells se_X8_X8_X8_lastingSpells sh_1 (by decide) rfl rfl rfl ⟨Nat.le_of_ble_eq_true rfl, Nat.le_of_ble_eq_true rfl, Nat.le_of_ble_eq_true rfl, Nat.le_of_ble_eq_true rfl⟩ (Nat.le_of_ble_eq_true rfl) (c_X8_lastingSpells X.1 X.2.1 ?_)
    refine t_istore_n (pc' := 27) (L' := [.ref 0, .int _]) dX11_turn_26 rfl (Nat.le_of_ble_eq_true rfl) rfl ?_
    refine s_aload_n (pc' := 28) dX11_turn_27 rfl rfl ?_
    refine s_getS (pc' := 31) (b := 1) dX11_turn_28 rfl (by decide) rfl (by decide) fa_X11_10_11 rfl rfl ?_
    refine s_dup (pc' := 32) dX11_turn_31 rfl rfl ?_
    refine t_getI (pc' := 35) dX11_turn_32 rfl sh_1 (by decide) fa_X11_156_8 rfl ?_
    refine s_iconst (pc' := 36) (v := 1) dX11_turn_35 rfl (by decide) ?_
    refine s_iadd (pc' := 37) dX11_turn_36 rfl ?_
    refine t_putI (pc' := 40) dX11_turn_37 rfl sh_1 (by decide) fa_X11_156_8 (Or.inl rfl) rfl rfl rfl ?_
    rw [X.1.tn]
    have hfw : ∃ f, f ≤ 1000 ∧ D 75 6 + 1 = nI f := ⟨t + 1, by omega, by rw [ht2]; exact nI_1 t⟩
    refine s_aload_n (pc' := 41) dX11_turn_40 rfl rfl ?_
    refine s_getS (pc' := 44) (b := 23) dX11_turn_41 rfl (by decide) rfl (by decide) fa_X11_24_11 rfl rfl ?_
    refine s_callV (pc' := 47) (As := []) dX11_turn_44 rfl mk_X1_forget ml_X11_97 im_X1_forget se_X1_X1_X1_forget sh_23 (by decide) rfl rfl rfl ⟨Nat.le_of_ble_eq_true rfl, Nat.le_of_ble_eq_true rfl, Nat.le_of_ble_eq_true rfl, Nat.le_of_ble_eq_true rfl⟩ (Nat.le_of_ble_eq_true rfl) (c_X1_forget X.1.u1.2.2.1 (X.2.1.u75.2.2 hfw) (DR.u75.ac X.2.2.1) (DR.u75.nt X.2.2.2.1 (up2_o (by decide))) (by simp (disch := decide) only [up2_d]; exact X.2.2.2.2.2.1) (J0 := J) (e := e) (BK.hd X.2.2.2.2.2.2) he (fun I1 f1 X1 => ?_))
    refine s_aload_n (pc' := 48) dX11_turn_47 rfl rfl ?_
    refine s_iload_n (pc' := 49) dX11_turn_48 rfl rfl ?_
    refine s_aload_n (pc' := 50) dX11_turn_49 rfl rfl ?_
    refine s_getS (pc' := 53) (b := 1) dX11_turn_50 rfl (by decide) rfl (by decide) fa_X11_10_11 rfl rfl ?_
    refine s_callV (pc' := 56) (As := []) dX11_turn_53 rfl mk_X8_lastingSpells ml_X11_162 im_X8_lastingSpells se_X8_X8_X8_lastingSpells sh_1 (by decide) rfl rfl rfl ⟨Nat.le_of_ble_eq_true rfl, Nat.le_of_ble_eq_true rfl, Nat.le_of_ble_eq_true rfl, Nat.le_of_ble_eq_true rfl⟩ (Nat.le_of_ble_eq_true rfl) (c_X8_lastingSpells X1.1 X1.2.1 ?_)
    refine s_isub (pc' := 57) dX11_turn_56 rfl ?_
    refine s_callV (pc' := 60) (As := [.int _]) dX11_turn_57 rfl mk_X11_done ml_X11_100 im_X11_done se_X11_X11_X11_done sh_0 (by decide) rfl rfl rfl ⟨Nat.le_of_ble_eq_true rfl, Nat.le_of_ble_eq_true rfl, Nat.le_of_ble_eq_true rfl, Nat.le_of_ble_eq_true rfl⟩ (Nat.le_of_ble_eq_true rfl) (c_X11_done ?_)
    exact s_iret dX11_turn_60 rfl (by decide) (by decide) (by have q := k2 (by rw [ht2]; exact fun z => by have := (nI_eq (b := 1000) (by omega) (by decide)).mp z; omega) I1 f1 X1; rw [ht2] at q; rw [← cGt_cEq (D 74) ht ns (fun k hk => (X.2.1.2.2.2.1 k hk).2.2)] at q; rw [up2_s, up2_o (by decide), ht2]; exact q)
  · have e1 : D 75 6 = 1000 := by rw [X.1.tn, ht2] at c10; rw [ht2]; have := Nat.le_antisymm ht (Nat.le_of_not_lt (fun z => c10 (nI_lt (b := 1000) z (by omega)))); rw [this]; rfl
    refine s_aload_n (pc' := 14) dX11_turn_13 rfl rfl ?_
    refine s_iconst (pc' := 15) (v := 2) dX11_turn_14 rfl (by decide) ?_
    refine s_callV (pc' := 18) (As := [.int _]) dX11_turn_15 rfl mk_X11_refused ml_X11_87 im_X11_refused se_X11_X11_X11_refused sh_0 (by decide) rfl rfl rfl ⟨Nat.le_of_ble_eq_true rfl, Nat.le_of_ble_eq_true rfl, Nat.le_of_ble_eq_true rfl, Nat.le_of_ble_eq_true rfl⟩ (Nat.le_of_ble_eq_true rfl) (c_X11_refused ?_)
    exact s_iret dX11_turn_18 rfl (by decide) (by decide) (k1 e1)
