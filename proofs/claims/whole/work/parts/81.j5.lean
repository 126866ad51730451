theorem fl_n {I : Nat → Nat → Int32} {a n b i : Nat} {x : Int32} (h : b ≠ a) : fl I a n x b i = I b i := by rw [fl_o h]
theorem so_m1 {so : Nat} (h : so ≤ 3) : (nI so - 1 = -1 ↔ nI so = 0) ∧ (nI so - 1 = 0 ↔ nI so = 1) := by
  rcases (show so = 0 ∨ so = 1 ∨ so = 2 ∨ so = 3 by omega) with rfl | rfl | rfl | rfl <;> decide
theorem bm12 {b : Int32} (h : inR b (-1) 2) : b = -1 ∨ b = 0 ∨ b = 1 ∨ b = 2 := by
  by_cases e : b = -1
  · exact Or.inl e
  · obtain ⟨j, j1, j2, rfl⟩ := in_nI (a := 0) (b := 2) (in_m12 h e) (by decide)
    rcases (show j = 0 ∨ j = 1 ∨ j = 2 by omega) with rfl | rfl | rfl
    · exact Or.inr (Or.inl rfl)
    · exact Or.inr (Or.inr (Or.inl rfl))
    · exact Or.inr (Or.inr (Or.inr rfl))
set_option maxHeartbeats 400000 in
theorem j_sheet {n : Nat} (hn6 : n < 600) {h : HP} {κ : Option Value → HP → Prop} {u0 b m : Int32} (H : INV n h) (hk : ∀ v h2, JM M_X12_sheet [.ref 54, .int u0, .int b, .int m] n (.int v) h2 → κ (some (.int v)) h2) : CT E1 M_X11_sheet [.ref 0, .int u0, .int b, .int m] h κ := by
  obtain ⟨N, S, I, J, Q⟩ := h
  obtain ⟨D, nv, nr, ns, ad, td, e, H⟩ := H
  replace H : INVd n N S I J Q D nv nr ns ad td e := H
  obtain ⟨md, hm, hmd⟩ := H.md
  have X := H.2.2.1
  have M0 := H.m0
  have hn10 := X.2.1.nv
  have hn30 := X.2.1.nr
  have hs10 := X.2.1.ns
  have he1 := H.2.2.2.1
  have he : e + 1 < 2 ^ 30 := by omega
  obtain ⟨-, -, -, -, -, -, -, -, a10⟩ := H.2.2.2.2.2.2.2.1
  have hq : ∀ s, s < 4 → Q 46 s = some (47 + s) := fun s hs => (a10 s hs).1
  refine c_X11_sheet hq (fun z => hk _ _ (fun κ2 h2 => ?_)) (fun s hs es br nr1 => hk _ _ (fun κ2 h2 => ?_))
  · exact c_X12_sheet (fun _ => h2 _ H.rf) (fun s hs es br nr1 => by
      exfalso
      rcases z with z | z | ⟨z1, z2⟩
      · exact z s hs es
      · exact z br
      · exact z2 (nr1 z1))
  · refine c_X12_sheet (fun z => ?_) (fun s2 hs2 es2 _ _ => ?_)
    · exfalso
      rcases z with z | z | ⟨z1, z2⟩
      · exact z s hs es
      · exact z br
      · exact z2 (nr1 z1)
    obtain rfl : s2 = s := ixe (es2.symm.trans es) (by omega) (by omega)
    refine h2 _ (H.sh (I1 := up2 (fl (up2 (up2 I 51 s2 b) 52 s2 (if b < 0 then 0 else m)) (47 + s2) 40 0) 0 5 0) (fun j hj => ?_) (fun a a1 a2 => ?_) (fun a a1 a2 => ?_) (fun j j1 => ?_) ?_ (fun s hs3 => ?_))
    · rw [up2_e hj, fl_o (by omega), up2_o (by omega), up2_o (by omega)]
    · rw [up2_o a1, fl_o (by omega), up2_o (by omega), up2_o (by omega)]
    · unfold shI; rw [up2_o a1, zcK_o (by omega), up2_o (by omega), up2_o (by omega)]
    · unfold shI; rw [up2_e j1, zcK_o (by omega), up2_o (by omega), up2_o (by omega)]
    · unfold shI; rw [up2_s, up2_d (by decide), zcK_o (by decide), up2_o (by decide), up2_o (by decide), up2_s]
    · obtain ⟨-, ⟨so, so1, so2, so3⟩, ⟨zz, zz1, zz2, zz3⟩, cc⟩ := a10 s hs3
      unfold shI
      rw [up2_o (by omega : 91 ≠ 54), up2_o (by omega : 92 ≠ 54), up2_o (by omega : 93 ≠ 54), up2_o (by omega : 51 ≠ 54), up2_o (by omega : 52 ≠ 54), up2_o (by omega : 47 + s ≠ 54), zcK_o (by omega : 91 ≠ 93), zcK_o (by omega : 92 ≠ 93), zcK_o (by omega : 51 ≠ 93), zcK_o (by omega : 52 ≠ 93), zcK_o (by omega : 47 + s ≠ 93)]
      by_cases es3 : s = s2
      · subst es3
        refine ⟨?_, ?_, fun i hi => ?_⟩
        · obtain ⟨so, q1, q2, q3⟩ : ∃ so, so ≤ 3 ∧ b + 1 = nI so ∧ b = nI so - 1 := by
            rcases bm12 br with e | e | e | e <;> rw [e]
            · exact ⟨0, by decide, by decide, by decide⟩
            · exact ⟨1, by decide, by decide, by decide⟩
            · exact ⟨2, by decide, by decide, by decide⟩
            · exact ⟨3, by decide, by decide, by decide⟩
          refine ⟨so, q1, ?_, ?_⟩
          · rw [up2_d (by decide), up2_s]; exact q2
          · simp only [up2_o (show (51 : Nat) ≠ 92 by decide), up2_o (show (51 : Nat) ≠ 91 by decide), up2_o (show (51 : Nat) ≠ 0 by decide)]
            rw [fl_n (by omega), up2_d (by decide), up2_s]; exact q3
        · obtain ⟨z, q1, q2⟩ : ∃ z, z ≤ 40 ∧ (if b < 0 then 0 else m) = nI z := by
            by_cases eb : b < 0
            · rw [if_pos eb]; exact ⟨0, by decide, rfl⟩
            · rw [if_neg eb]; obtain ⟨z, -, z2, z3⟩ := in_nI (a := 0) (b := 40) (nr1 eb) (by decide); exact ⟨z, z2, z3⟩
          refine ⟨z, q1, ?_, ?_⟩
          · rw [up2_s]; exact q2
          · simp only [up2_o (show (52 : Nat) ≠ 92 by decide), up2_o (show (52 : Nat) ≠ 91 by decide), up2_o (show (52 : Nat) ≠ 0 by decide)]
            rw [fl_n (by omega), up2_s]; exact q2
        · have e93 : ∀ F : Nat → Nat → Int32, zcK F s 40 93 (40 * s + i) = 0 := fun F => by unfold zcK; rw [if_pos (by omega)]
          rw [e93, up2_d (by omega), up2_d (by omega), up2_d (by omega), fl_i hi]
          exact ⟨rfl, by decide, by decide⟩
      · refine ⟨⟨so, so1, ?_, ?_⟩, ⟨zz, zz1, ?_, ?_⟩, fun i hi => ?_⟩
        · rw [up2_d (by decide), up2_e es3, up2_d (by decide), fl_n (by omega), up2_d (by decide), up2_d (by decide)]; exact so2
        · rw [up2_d (by decide), up2_d (by decide), up2_d (by decide), fl_n (by omega), up2_d (by decide), up2_e es3]; exact so3
        · rw [up2_e es3, up2_d (by decide), up2_d (by decide), fl_n (by omega), up2_d (by decide), up2_d (by decide)]; exact zz2
        · rw [up2_d (by decide), up2_d (by decide), up2_d (by decide), fl_n (by omega), up2_e es3]; exact zz3
        · have e93 : ∀ F : Nat → Nat → Int32, zcK F s2 40 93 (40 * s + i) = F 93 (40 * s + i) := fun F => by unfold zcK; rw [if_neg (by omega)]
          rw [e93, up2_d (by omega), up2_d (by omega), up2_d (by omega), fl_n (by omega), up2_d (by omega), up2_d (by omega), up2_d (by omega), up2_d (by omega), up2_d (by omega), fl_n (by omega), up2_d (by omega), up2_d (by omega)]
          exact cc i hi
set_option maxHeartbeats 400000 in
theorem j_cell {n : Nat} (hn6 : n < 600) {h : HP} {κ : Option Value → HP → Prop} {u0 x m : Int32} (H : INV n h) (hk : ∀ v h2, JM M_X12_cell [.ref 54, .int u0, .int x, .int m] n (.int v) h2 → κ (some (.int v)) h2) : CT E1 M_X11_cell [.ref 0, .int u0, .int x, .int m] h κ := by
  obtain ⟨N, S, I, J, Q⟩ := h
  obtain ⟨D, nv, nr, ns, ad, td, e, H⟩ := H
  replace H : INVd n N S I J Q D nv nr ns ad td e := H
  obtain ⟨md, hm, hmd⟩ := H.md
  have X := H.2.2.1
  have M0 := H.m0
  have hn10 := X.2.1.nv
  have hn30 := X.2.1.nr
  have hs10 := X.2.1.ns
  have he1 := H.2.2.2.1
  have he : e + 1 < 2 ^ 30 := by omega
  obtain ⟨-, -, -, -, -, -, -, -, a10⟩ := H.2.2.2.2.2.2.2.1
  have hq : ∀ s, s < 4 → Q 46 s = some (47 + s) := fun s hs => (a10 s hs).1
  have hS : ∀ w : Int32, ∀ s, s < 4 → ∃ z, z ≤ 40 ∧ (up2 I 0 5 w) 92 s = nI z := fun w s hs => by obtain ⟨-, -, ⟨z, z1, z2, z3⟩, -⟩ := a10 s hs; exact ⟨z, z1, by rw [up2_d (by decide)]; exact z2⟩
  refine c_X11_cell hq (fun s hs => by obtain ⟨-, -, ⟨z, z1, z2, z3⟩, -⟩ := a10 s hs; exact ⟨z, z1, z3⟩) (fun z => hk _ _ (fun κ2 h2 => ?_)) (fun s hs es vr e51 => hk _ _ (fun κ2 h2 => ?_)) (fun s hs es vr e51 z z1 z2 bad => hk _ _ (fun κ2 h2 => ?_)) (fun s hs es vr e51 z z1 z2 j hj ej => hk _ _ (fun κ2 h2 => ?_))
  · exact c_X12_cell (hS 1) (fun _ => h2 _ H.rf) (fun s hs es vr => by
      exfalso
      rcases z with z | z
      · exact z s hs es
      · exact z vr) (fun s hs es vr => by
      exfalso
      rcases z with z | z
      · exact z s hs es
      · exact z vr) (fun s hs es vr => by
      exfalso
      rcases z with z | z
      · exact z s hs es
      · exact z vr)
  · obtain ⟨-, ⟨so, so1, so2, so3⟩, ⟨zz, zz1, zz2, zz3⟩, cc⟩ := a10 s hs
    have m91 : I 91 s = 0 ↔ I 51 s = -1 := by rw [so2, so3]; exact (so_m1 so1).1.symm
    have m92 : I 91 s = 1 ↔ I 51 s = 0 := by rw [so2, so3]; exact (so_m1 so1).2.symm
    refine c_X12_cell (hS 10) (fun z => ?_) (fun _ _ _ _ _ => h2 _ H.rf) (fun s2 hs2 es2 _ q => ?_) (fun s2 hs2 es2 _ q => ?_)
    · exfalso
      rcases z with z | z
      · exact z s hs es
      · exact z vr
    · obtain rfl : s2 = s := ixe (es2.symm.trans es) (by omega) (by omega)
      rw [up2_d (by decide)] at q; exact absurd (m91.mpr e51) q
    · obtain rfl : s2 = s := ixe (es2.symm.trans es) (by omega) (by omega)
      rw [up2_d (by decide)] at q; exact absurd (m91.mpr e51) q
  · obtain ⟨-, ⟨so, so1, so2, so3⟩, ⟨zz, zz1, zz2, zz3⟩, cc⟩ := a10 s hs
    have m91 : I 91 s = 0 ↔ I 51 s = -1 := by rw [so2, so3]; exact (so_m1 so1).1.symm
    have m92 : I 91 s = 1 ↔ I 51 s = 0 := by rw [so2, so3]; exact (so_m1 so1).2.symm
    refine c_X12_cell (hS 12) (fun z => ?_) (fun s2 hs2 es2 _ q => ?_) (fun _ _ _ _ _ _ _ _ _ => h2 _ H.rf) (fun s2 hs2 es2 _ _ y y1 y2 j hj ej => ?_)
    · exfalso
      rcases z with z | z
      · exact z s hs es
      · exact z vr
    · obtain rfl : s2 = s := ixe (es2.symm.trans es) (by omega) (by omega)
      rw [up2_d (by decide)] at q; exact absurd (m91.mp q) e51
    · obtain rfl : s2 = s := ixe (es2.symm.trans es) (by omega) (by omega)
      rw [up2_d (by decide)] at y2
      obtain rfl : y = z := ixe ((y2.symm.trans zz2).trans (zz3.symm.trans z2)) (by omega) (by omega)
      exact absurd ej (bad j hj)
  · obtain ⟨-, ⟨so, so1, so2, so3⟩, ⟨zz, zz1, zz2, zz3⟩, cc⟩ := a10 s hs
    have m91 : I 91 s = 0 ↔ I 51 s = -1 := by rw [so2, so3]; exact (so_m1 so1).1.symm
    have m92 : I 91 s = 1 ↔ I 51 s = 0 := by rw [so2, so3]; exact (so_m1 so1).2.symm
    have hS2 : ∀ s2, s2 < 4 → ∃ y, y ≤ 40 ∧ (up2 (up2 I (47 + s) j (if I 51 s = 0 then m.toInt8.toInt32 else m)) 0 5 0) 92 s2 = nI y := fun s2 hs2 => by
      obtain ⟨-, -, ⟨y, y1, y2, y3⟩, -⟩ := a10 s2 hs2
      exact ⟨y, y1, by rw [up2_d (by decide), up2_d (by omega)]; exact y2⟩
    have r91 : ∀ s2, (up2 (up2 I (47 + s) j (if I 51 s = 0 then m.toInt8.toInt32 else m)) 0 5 0) 91 s2 = I 91 s2 := fun s2 => by rw [up2_d (by decide), up2_d (by omega)]
    refine c_X12_cell hS2 (fun z => ?_) (fun s2 hs2 es2 _ q => ?_) (fun s2 hs2 es2 _ _ y y1 y2 bad => ?_) (fun s2 hs2 es2 _ _ y y1 y2 j2 hj2 ej2 => ?_)
    · exfalso
      rcases z with z | z
      · exact z s hs es
      · exact z vr
    · obtain rfl : s2 = s := ixe (es2.symm.trans es) (by omega) (by omega)
      rw [r91] at q; exact absurd (m91.mp q) e51
    · obtain rfl : s2 = s := ixe (es2.symm.trans es) (by omega) (by omega)
      rw [up2_d (by decide), up2_d (by omega)] at y2
      obtain rfl : y = z := ixe ((y2.symm.trans zz2).trans (zz3.symm.trans z2)) (by omega) (by omega)
      exact absurd ej (bad j hj)
    · obtain rfl : s2 = s := ixe (es2.symm.trans es) (by omega) (by omega)
      rw [up2_d (by decide), up2_d (by omega)] at y2
      obtain rfl : y = z := ixe ((y2.symm.trans zz2).trans (zz3.symm.trans z2)) (by omega) (by omega)
      obtain rfl : j2 = j := ixe (ej2.symm.trans ej) (by omega) (by omega)
      rw [r91]
      have ev : (if I 91 s2 = 1 then byo m else m) = (if I 51 s2 = 0 then m.toInt8.toInt32 else m) := by
        by_cases e0 : I 51 s2 = 0
        · rw [if_pos e0, if_pos (m92.mpr e0)]; exact (by_in vr).1
        · rw [if_neg e0, if_neg (fun q => e0 (m92.mp q))]
      have er : inR (if I 51 s2 = 0 then m.toInt8.toInt32 else m) (-1000) 1000 := by
        by_cases e0 : I 51 s2 = 0
        · rw [if_pos e0, ← (by_in vr).1]; exact (by_in vr).2
        · rw [if_neg e0]; exact vr
      rw [ev]
      generalize (if I 51 s2 = 0 then m.toInt8.toInt32 else m) = v at er
      refine h2 _ (H.sh (I1 := up2 (up2 I (47 + s2) j2 v) 0 5 0) (fun j hj => ?_) (fun a a1 a2 => ?_) (fun a a1 a2 => ?_) (fun j j1 => ?_) ?_ (fun s hs3 => ?_))
      · rw [up2_e hj, up2_o (by omega)]
      · rw [up2_o a1, up2_o (by omega)]
      · rw [up2_o a1, up2_o (by omega)]
      · rw [up2_e j1, up2_o (by omega)]
      · rw [up2_s, up2_d (by decide), up2_d (by decide), up2_s]
      · obtain ⟨-, ⟨so, so1, so2, so3⟩, ⟨zz, zz1, zz2, zz3⟩, cc⟩ := a10 s hs3
        have k91 : ∀ c, c ≠ 0 → c ≠ 54 → c ≠ 93 → c ≠ 47 + s2 → (up2 (up2 (up2 (up2 I (47 + s2) j2 v) 0 5 0) 93 (40 * s2 + j2) v) 54 24 0) c = I c := fun c c1 c2 c3 c4 => by rw [up2_o c2, up2_o c3, up2_o c1, up2_o c4]
        rw [k91 91 (by decide) (by decide) (by decide) (by omega), k91 92 (by decide) (by decide) (by decide) (by omega), k91 51 (by decide) (by decide) (by decide) (by omega), k91 52 (by decide) (by decide) (by decide) (by omega)]
        refine ⟨⟨so, so1, so2, so3⟩, ⟨zz, zz1, zz2, zz3⟩, fun i hi => ?_⟩
        obtain ⟨cc1, cc2⟩ := cc i hi
        by_cases eq : s = s2 ∧ i = j2
        · obtain ⟨rfl, rfl⟩ := eq
          rw [up2_d (by omega), up2_d (by omega), up2_d (by omega), up2_s, up2_d (by omega), up2_s]
          exact ⟨rfl, er⟩
        · rw [up2_d (by omega), up2_d (by omega), up2_d (by omega), up2_n (by omega), up2_d (by omega), up2_e (by omega), up2_d (by omega), up2_d (by omega)]
          exact ⟨cc1, cc2⟩
