theorem fl_n {I : Nat → Nat → Int32} {a n b i : Nat} {x : Int32} (h : b ≠ a) : fl I a n x b i = I b i := by rw [fl_o h]
theorem so_m1 {so : Nat} (h : so ≤ 3) : (nI so - 1 = -1 ↔ nI so = 0) ∧ (nI so - 1 = 0 ↔ nI so = 1) := by
  rcases (show so = 0 ∨ so = 1 ∨ so = 2 ∨ so = 3 by omega) with rfl | rfl | rfl | rfl <;> decide
theorem bm12 {b : Int32} (h : inR b (-1) 2) : b = -1 ∨ b = 0 ∨ b = 1 ∨ b = 2 := by
  by_cases e : b = -1
  · exact Or.inl e
  · obtain ⟨j, j1, j2, rfl⟩ := in_nI (a := 0) (b := 2) (in_m12 h e) (by decide)
    rcases (show j = 0 ∨ j = 1 ∨ j = 2 by omega) with rfl | rfl | rfl
    · exact Or.inr (Or.inl rfl)
    · exact Or.inr (Or.inr (Or.inl rfl))
    · exact Or.inr (Or.inr (Or.inr rfl))
set_option maxHeartbeats 400000 in
theorem j_sheet {n : Nat} (hn6 : n < 600) {h : HP} {κ : Option Value → HP → Prop} {u0 b m : Int32} (H : INV n h) (hk : ∀ v h2, JM M_X12_sheet [.ref 54, .int u0, .int b, .int m] n (.int v) h2 → κ (some (.int v)) h2) : CT E1 M_X11_sheet [.ref 0, .int u0, .int b, .int m] h κ := by
  obtain ⟨N, S, I, J, Q⟩ := h
  obtain ⟨D, nv, nr, ns, ad, td, e, H⟩ := H
  replace H : INVd n N S I J Q D nv nr ns ad td e := H
  obtain ⟨md, hm, hmd⟩ := H.md
  have X := H.2.2.1
  have M0 := H.m0
  have hn10 := X.2.1.nv
  have hn30 := X.2.1.nr
  have hs10 := X.2.1.ns
  have he1 := H.2.2.2.1
  have he : e + 1 < 2 ^ 30 := by omega
  obtain ⟨-, -, -, -, -, -, -, -, a10⟩ := H.2.2.2.2.2.2.2.1
  have hq : ∀ s, s < 4 → Q 46 s = some (47 + s) := fun s hs => (a10 s hs).1
  refine c_X11_sheet hq (fun z => hk _ _ (fun κ2 h2 => ?_)) (fun s hs es br nr1 => hk _ _ (fun κ2 h2 => ?_))
  · exact c_X12_sheet (fun _ => h2 _ H.rf) (fun s hs es br nr1 => by
      exfalso
      rcases z with z | z | ⟨z1, z2⟩
      · exact z s hs es
      · exact z br
      · exact z2 (nr1 z1))
  · refine c_X12_sheet (fun z => ?_) (fun s2 hs2 es2 _ _ => ?_)
    · exfalso
      rcases z with z | z | ⟨z1, z2⟩
      · exact z s hs es
      · exact z br
      · exact z2 (nr1 z1)
    obtain rfl : s2 = s := ixe (es2.symm.trans es) (by omega) (by omega)
    refine h2 _ (H.sh (I1 := up2 (fl (up2 (up2 I 51 s2 b) 52 s2 (if b < 0 then 0 else m)) (47 + s2) 40 0) 0 5 0) (fun j hj => ?_) (fun a a1 a2 => ?_) (fun a a1 a2 => ?_) (fun j j1 => ?_) ?_ (fun s hs3 => ?_))
    · rw [up2_e hj, fl_o (by omega), up2_o (by omega), up2_o (by omega)]
    · rw [up2_o a1, fl_o (by omega), up2_o (by omega), up2_o (by omega)]
    · unfold shI; rw [up2_o a1, zcK_o (by omega), up2_o (by omega), up2_o (by omega)]
    · unfold shI; rw [up2_e j1, zcK_o (by omega), up2_o (by omega), up2_o (by omega)]
    · unfold shI; rw [up2_s, up2_d (by decide), zcK_o (by decide), up2_o (by decide), up2_o (by decide), up2_s]
    · obtain ⟨-, ⟨so, so1, so2, so3⟩, ⟨zz, zz1, zz2, zz3⟩, cc⟩ := a10 s hs3
      unfold shI
      rw [up2_o (by omega : 91 ≠ 54), up2_o (by omega : 92 ≠ 54), up2_o (by omega : 93 ≠ 54), up2_o (by omega : 51 ≠ 54), up2_o (by omega : 52 ≠ 54), up2_o (by omega : 47 + s ≠ 54), zcK_o (by omega : 91 ≠ 93), zcK_o (by omega : 92 ≠ 93), zcK_o (by omega : 51 ≠ 93), zcK_o (by omega : 52 ≠ 93), zcK_o (by omega : 47 + s ≠ 93)]
      by_cases es3 : s = s2
      · subst es3
        refine ⟨?_, ?_, fun i hi => ?_⟩
        · obtain ⟨so, q1, q2, q3⟩ : ∃ so, so ≤ 3 ∧ b + 1 = nI so ∧ b = nI so - 1 := by
            rcases bm12 br with e | e | e | e <;> rw [e]
            · exact ⟨0, by decide, by decide, by decide⟩
            · exact ⟨1, by decide, by decide, by decide⟩
            · exact ⟨2, by decide, by decide, by decide⟩
            · exact ⟨3, by decide, by decide, by decide⟩
          refine ⟨so, q1, ?_, ?_⟩
          · rw [up2_d (by decide), up2_s]; exact q2
          · simp only [up2_o (show (51 : Nat) ≠ 92 by decide), up2_o (show (51 : Nat) ≠ 91 by decide), up2_o (show (51 : Nat) ≠ 0 by decide)]
            rw [fl_n (by omega), up2_d (by decide), up2_s]; exact q3
        · obtain ⟨z, q1, q2⟩ : ∃ z, z ≤ 40 ∧ (if b < 0 then 0 else m) = nI z := by
            by_cases eb : b < 0
            · rw [if_pos eb]; exact ⟨0, by decide, rfl⟩
            · rw [if_neg eb]; obtain ⟨z, -, z2, z3⟩ := in_nI (a := 0) (b := 40) (nr1 eb) (by decide); exact ⟨z, z2, z3⟩
          refine ⟨z, q1, ?_, ?_⟩
          · rw [up2_s]; exact q2
          · simp only [up2_o (show (52 : Nat) ≠ 92 by decide), up2_o (show (52 : Nat) ≠ 91 by decide), up2_o (show (52 : Nat) ≠ 0 by decide)]
            rw [fl_n (by omega), up2_s]; exact q2
        · have e93 : ∀ F : Nat → Nat → Int32, zcK F s 40 93 (40 * s + i) = 0 := fun F => by unfold zcK; rw [if_pos (by omega)]
          rw [e93, up2_d (by omega), up2_d (by omega), up2_d (by omega), fl_i hi]
          exact ⟨rfl, by decide, by decide⟩
      · refine ⟨⟨so, so1, ?_, ?_⟩, ⟨zz, zz1, ?_, ?_⟩, fun i hi => ?_⟩
        · rw [up2_d (by decide), up2_e es3, up2_d (by decide), fl_n (by omega), up2_d (by decide), up2_d (by decide)]; exact so2
        · rw [up2_d (by decide), up2_d (by decide), up2_d (by decide), fl_n (by omega), up2_d (by decide), up2_e es3]; exact so3
        · rw [up2_e es3, up2_d (by decide), up2_d (by decide), fl_n (by omega), up2_d (by decide), up2_d (by decide)]; exact zz2
        · rw [up2_d (by decide), up2_d (by decide), up2_d (by decide), fl_n (by omega), up2_e es3]; exact zz3
        · have e93 : ∀ F : Nat → Nat → Int32, zcK F s2 40 93 (40 * s + i) = F 93 (40 * s + i) := fun F => by unfold zcK; rw [if_neg (by omega)]
          rw [e93, up2_d (by omega), up2_d (by omega), up2_d (by omega), fl_n (by omega), up2_d (by omega), up2_d (by omega), up2_d (by omega), up2_d (by omega), up2_d (by omega), fl_n (by omega), up2_d (by omega), up2_d (by omega)]
          exact cc i hi
