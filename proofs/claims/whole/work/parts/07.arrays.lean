section AR
variable {E : EV} {M : MD} {κ : Option Value → HP → Prop} {pc pc' : Nat} {L st : List Value} {h : HP} {cs ss : Nat} {a ci n q idx : Nat} {i : Int32}
theorem s_iald (hd : decode M.2.1 pc = .ok (.iaload, 1)) (hp : pc + 1 = pc') (hs : Sh E h a 13 n) (hi : i = nI q) (hq : q < n) (k : SP E M κ pc' L (.int (h.2.2.1 a q) :: st) h cs ss) : SP E M κ pc L (.int i :: .ref a :: st) h cs ss := by
  subst hp; subst hi
  intro p l e s m args below meth c lo D ca H locs ls C g1 g2 g3 g4 g5 g6
  obtain ⟨ha, hsh⟩ := hs.al g4
  have hn := hs.1
  have he := ws_at (lo := lo) (ca := ca) ha
  rw [ce_I hsh] at he
  refine va_iald C.1 C.2.1 g2.1 g3.2 a 0 he rfl (vp_in_nI hq (by omega)) hd ?_
  rw [nI_clamp (by omega)]
  exact k p l e s m args below meth c lo D ca H locs ls C g1 g2 g3 g4 g5 g6
theorem s_zald (hd : decode M.2.1 pc = .ok (.baload, 1)) (hp : pc + 1 = pc') (hs : Sh E h a 15 n) (hi : i = nI q) (hq : q < n) (k : SP E M κ pc' L (.int (h.2.2.1 a q) :: st) h cs ss) : SP E M κ pc L (.int i :: .ref a :: st) h cs ss := by
  subst hp; subst hi
  intro p l e s m args below meth c lo D ca H locs ls C g1 g2 g3 g4 g5 g6
  obtain ⟨ha, hsh⟩ := hs.al g4
  have hn := hs.1
  have he := ws_at (lo := lo) (ca := ca) ha
  rw [ce_Z hsh] at he
  refine va_zald C.1 C.2.1 g2.1 g3.2 a 2 he rfl (vp_in_nI hq (by omega)) hd ?_
  rw [nI_clamp (by omega)]
  exact k p l e s m args below meth c lo D ca H locs ls C g1 g2 g3 g4 g5 g6
theorem s_lald (hd : decode M.2.1 pc = .ok (.laload, 1)) (hp : pc + 1 = pc') (hs : Sh E h a 14 n) (hi : i = nI q) (hq : q < n) (k : SP E M κ pc' L (.long (h.2.2.2.1 a q) :: st) h cs ss) : SP E M κ pc L (.int i :: .ref a :: st) h cs ss := by
  subst hp; subst hi
  intro p l e s m args below meth c lo D ca H locs ls C g1 g2 g3 g4 g5 g6
  obtain ⟨ha, hsh⟩ := hs.al g4
  have hn := hs.1
  have he := ws_at (lo := lo) (ca := ca) ha
  rw [ce_J hsh] at he
  refine va_lald C.1 C.2.1 g2.1 g3.2 a 1 he rfl (vp_in_nI hq (by omega)) hd ?_
  rw [nI_clamp (by omega)]
  exact k p l e s m args below meth c lo D ca H locs ls C g1 g2 g3 g4 g5 g6
theorem cv_vr (lo : Nat) (r : Option Nat) : va_rf (r.map (fun b => lo + b)) = cv lo (vr r) := by cases r <;> rfl
theorem s_aaldV (hd : decode M.2.1 pc = .ok (.aaload, 1)) (hp : pc + 1 = pc') (hk : ci = 16 ∨ ci = 17) (hs : Sh E h a ci n) (hi : i = nI q) (hq : q < n) (k : SP E M κ pc' L (vr (h.2.2.2.2 a q) :: st) h cs ss) : SP E M κ pc L (.int i :: .ref a :: st) h cs ss := by
  subst hp; subst hi
  intro p l e s m args below meth c lo D ca H locs ls C g1 g2 g3 g4 g5 g6
  obtain ⟨ha, hsh⟩ := hs.al g4
  have hn := hs.1
  have he := ws_at (lo := lo) (ca := ca) ha
  rw [ce_Q hsh (by omega)] at he
  have harr : ∃ ty : FieldType, ty.isReference = true ∧ ArrOfT s (ca ci) ty := by
    rcases hk with rfl | rfl
    · exact ⟨_, rfl, (g2.1.2 3 _ rfl).1⟩
    · exact ⟨_, rfl, (g2.1.2 4 _ rfl).1⟩
  obtain ⟨ty, h1, h2⟩ := harr
  have hcell : H[lo + a]? = some (arrV (ca ci) n (fun j => va_rf ((h.2.2.2.2 a j).map (fun b => lo + b)))) := g3.2 a _ he
  have hin : ¬ (nI q < 0 ∨ n ≤ (nI q).toNatClampNeg) := vp_in_nI hq (by omega)
  refine W.aald C.1 C.2.1 hcell (h2 n (fun j => va_rf ((h.2.2.2.2 a j).map (fun b => lo + b)))) h1 (fun q => by cases q) (by rw [arrV_size]; exact hin) (v := va_rf ((h.2.2.2.2 a q).map (fun b => lo + b))) (by rw [nI_clamp (by omega)]; exact arrV_read _ _ hq) rfl rfl hd ?_
  rw [cv_vr]
  exact k p l e s m args below meth c lo D ca H locs ls C g1 g2 g3 g4 g5 g6
theorem s_aald {b : Nat} (hd : decode M.2.1 pc = .ok (.aaload, 1)) (hp : pc + 1 = pc') (hk : ci = 16 ∨ ci = 17) (hs : Sh E h a ci n) (hi : i = nI q) (hq : q < n) (hb : h.2.2.2.2 a q = some b) (k : SP E M κ pc' L (.ref b :: st) h cs ss) : SP E M κ pc L (.int i :: .ref a :: st) h cs ss := s_aaldV hd hp hk hs hi hq (by rw [hb]; exact k)
theorem s_alen (hd : decode M.2.1 pc = .ok (.arraylength, 1)) (hp : pc + 1 = pc') (hk : ci = 13 ∨ ci = 14) (hs : Sh E h a ci n) (k : SP E M κ pc' L (.int (nI n) :: st) h cs ss) : SP E M κ pc L (.ref a :: st) h cs ss := by
  subst hp
  intro p l e s m args below meth c lo D ca H locs ls C g1 g2 g3 g4 g5 g6
  obtain ⟨ha, hsh⟩ := hs.al g4
  have he := ws_at (lo := lo) (ca := ca) ha
  rcases hk with rfl | rfl
  · rw [ce_I hsh] at he
    exact va_alen C.1 C.2.1 g2.1 g3.2 a 0 he rfl rfl hd (k p l e s m args below meth c lo D ca H locs ls C g1 g2 g3 g4 g5 g6)
  · rw [ce_J hsh] at he
    exact va_alen C.1 C.2.1 g2.1 g3.2 a 1 he rfl rfl hd (k p l e s m args below meth c lo D ca H locs ls C g1 g2 g3 g4 g5 g6)
theorem s_iast {x : Int32} (hd : decode M.2.1 pc = .ok (.iastore, 1)) (hp : pc + 1 = pc') (hs : Sh E h a 13 n) (hi : i = nI q) (hq : q < n) (k : SP E M κ pc' L st (h.1, h.2.1, up2 h.2.2.1 a q x, h.2.2.2.1, h.2.2.2.2) cs ss) : SP E M κ pc L (.int x :: .int i :: .ref a :: st) h cs ss := by
  subst hp; subst hi
  intro p l e s m args below meth c lo D ca H locs ls C g1 g2 g3 g4 g5 g6
  obtain ⟨ha, hsh⟩ := hs.al g4
  have hn := hs.1
  have he := ws_at (lo := lo) (ca := ca) ha
  rw [ce_I hsh] at he
  have hcell : H[lo + a]? = some (arrV (ca 13) n (fun j => .int (h.2.2.1 a j))) := g3.2 a _ he
  have hin : ¬ (nI q < 0 ∨ n ≤ (nI q).toNatClampNeg) := vp_in_nI hq (by omega)
  refine W.iast C.1 C.2.1 hcell ((g2.1.2 0 _ rfl).1 n (fun j => .int (h.2.2.1 a j))) (fun q => by cases q) (by rw [arrV_size]; exact hin) rfl rfl hd fun H1 ee z oq => ?_
  refine k p l e s m args below meth c lo D ca H1 _ ls C g1 g2 (RH.upd (a := a) (h' := (h.1, h.2.1, up2 h.2.2.1 a q x, h.2.2.2.1, h.2.2.2.2)) g3 rfl (fun b hb => ce_eq rfl (up2_o hb) rfl rfl) z oq (fun _ => ?_)) (g4.I rfl rfl rfl) (g5.put z oq (Nat.le_add_right _ _)) g6
  rw [ce_I (h := (h.1, h.2.1, up2 h.2.2.1 a q x, h.2.2.2.1, h.2.2.2.2)) hsh]
  show H1[lo + a]? = some (vp_cell _ _)
  rw [ee, nI_clamp (by omega)]
  rw [vp_cell_i, arrV_store]
  congr 2
  funext j
  by_cases hj : j = q
  · subst hj; simp [updV, up2]
  · simp [updV, up2, hj]
theorem s_last {x : Int64} (hd : decode M.2.1 pc = .ok (.lastore, 1)) (hp : pc + 1 = pc') (hs : Sh E h a 14 n) (hi : i = nI q) (hq : q < n) (k : SP E M κ pc' L st (h.1, h.2.1, h.2.2.1, up2 h.2.2.2.1 a q x, h.2.2.2.2) cs ss) : SP E M κ pc L (.long x :: .int i :: .ref a :: st) h cs ss := by
  subst hp; subst hi
  intro p l e s m args below meth c lo D ca H locs ls C g1 g2 g3 g4 g5 g6
  obtain ⟨ha, hsh⟩ := hs.al g4
  have hn := hs.1
  have he := ws_at (lo := lo) (ca := ca) ha
  rw [ce_J hsh] at he
  have hcell : H[lo + a]? = some (arrV (ca 14) n (fun j => .long (h.2.2.2.1 a j))) := g3.2 a _ he
  have hin : ¬ (nI q < 0 ∨ n ≤ (nI q).toNatClampNeg) := vp_in_nI hq (by omega)
  refine W.last C.1 C.2.1 hcell ((g2.1.2 1 _ rfl).1 n (fun j => .long (h.2.2.2.1 a j))) (fun q => by cases q) (by rw [arrV_size]; exact hin) rfl rfl hd fun H1 ee z oq => ?_
  refine k p l e s m args below meth c lo D ca H1 _ ls C g1 g2 (RH.upd (a := a) (h' := (h.1, h.2.1, h.2.2.1, up2 h.2.2.2.1 a q x, h.2.2.2.2)) g3 rfl (fun b hb => ce_eq rfl rfl (up2_o hb) rfl) z oq (fun _ => ?_)) (g4.I rfl rfl rfl) (g5.put z oq (Nat.le_add_right _ _)) g6
  rw [ce_J (h := (h.1, h.2.1, h.2.2.1, up2 h.2.2.2.1 a q x, h.2.2.2.2)) hsh]
  show H1[lo + a]? = some (vp_cell _ _)
  rw [ee, nI_clamp (by omega)]
  rw [vp_cell_l, arrV_store]
  congr 2
  funext j
  by_cases hj : j = q
  · subst hj; simp [updV, up2]
  · simp [updV, up2, hj]
theorem s_zast {x : Int32} (hd : decode M.2.1 pc = .ok (.bastore, 1)) (hp : pc + 1 = pc') (hs : Sh E h a 15 n) (hi : i = nI q) (hq : q < n) (hx : narrow .boolean (.int x) = .int x) (k : SP E M κ pc' L st (h.1, h.2.1, up2 h.2.2.1 a q x, h.2.2.2.1, h.2.2.2.2) cs ss) : SP E M κ pc L (.int x :: .int i :: .ref a :: st) h cs ss := by
  subst hp; subst hi
  intro p l e s m args below meth c lo D ca H locs ls C g1 g2 g3 g4 g5 g6
  obtain ⟨ha, hsh⟩ := hs.al g4
  have hn := hs.1
  have he := ws_at (lo := lo) (ca := ca) ha
  rw [ce_Z hsh] at he
  have hcell : H[lo + a]? = some (arrV (ca 15) n (fun j => .int (h.2.2.1 a j))) := g3.2 a _ he
  have hin : ¬ (nI q < 0 ∨ n ≤ (nI q).toNatClampNeg) := vp_in_nI hq (by omega)
  refine W.zast C.1 C.2.1 hcell ((g2.1.2 2 _ rfl).1 n (fun j => .int (h.2.2.1 a j))) (fun q => by cases q) (by rw [arrV_size]; exact hin) rfl rfl hd fun H1 ee z oq => ?_
  refine k p l e s m args below meth c lo D ca H1 _ ls C g1 g2 (RH.upd (a := a) (h' := (h.1, h.2.1, up2 h.2.2.1 a q x, h.2.2.2.1, h.2.2.2.2)) g3 rfl (fun b hb => ce_eq rfl (up2_o hb) rfl rfl) z oq (fun _ => ?_)) (g4.I rfl rfl rfl) (g5.put z oq (Nat.le_add_right _ _)) g6
  rw [ce_Z (h := (h.1, h.2.1, up2 h.2.2.1 a q x, h.2.2.2.1, h.2.2.2.2)) hsh]
  show H1[lo + a]? = some (vp_cell _ _)
  rw [ee, nI_clamp (by omega)]
  rw [hx]
  rw [vp_cell_i, arrV_store]
  congr 2
  funext j
  by_cases hj : j = q
  · subst hj; simp [updV, up2]
  · simp [updV, up2, hj]
/-- the kinds of rules -/
def rk (ci : Nat) : Bool := [0, 2, 3, 4, 6, 7, 10].contains ci
theorem rk_of {ci : Nat} (h : rk ci = true) : ci = 0 ∨ ci = 2 ∨ ci = 3 ∨ ci = 4 ∨ ci = 6 ∨ ci = 7 ∨ ci = 10 := by simpa [rk] using h
theorem rk_lt {ci : Nat} (h : rk ci = true) : ci < 13 := by rcases rk_of h with rfl | rfl | rfl | rfl | rfl | rfl | rfl <;> decide
theorem rk_cast {ci : Nat} (h : rk ci = true) : ci = 6 ∨ Cond.castable (cQ ci).1 RX6 ∈ lw_u := by
  rcases rk_of h with rfl | rfl | rfl | rfl | rfl | rfl | rfl
  · exact Or.inr ct_X0_X6
  · exact Or.inr ct_X2_X6
  · exact Or.inr ct_X3_X6
  · exact Or.inr ct_X4_X6
  · exact Or.inl rfl
  · exact Or.inr ct_X7_X6
  · exact Or.inr ct_X10_X6
/-- a rule into a row of rules -/
theorem s_aast {b : Nat} (hd : decode M.2.1 pc = .ok (.aastore, 1)) (hp : pc + 1 = pc') (hs : Sh E h a 16 n) (hi : i = nI q) (hq : q < n) (hb : Sh E h b ci 0) (hk : rk ci = true) (hx : a < E.1 → ∀ j, E.2.2 a j = none) (k : SP E M κ pc' L st (h.1, h.2.1, h.2.2.1, h.2.2.2.1, up2 h.2.2.2.2 a q (some b)) cs ss) : SP E M κ pc L (.ref b :: .int i :: .ref a :: st) h cs ss := by
  subst hp; subst hi
  intro p l e s m args below meth c lo D ca H locs ls C g1 g2 g3 g4 g5 g6
  obtain ⟨ha, hsh⟩ := hs.al g4
  obtain ⟨hb1, hb2⟩ := hb.al g4
  have hn := hs.1
  have he := ws_at (lo := lo) (ca := ca) ha
  rw [ce_Q hsh (by omega)] at he
  have hv := ws_at (lo := lo) (ca := ca) hb1
  rw [ce_obj hb2 (rk_lt hk)] at hv
  have c1 := (clsF ci (rk_lt hk)).1
  obtain ⟨r', hr', cellV, k1, k2, k3, -⟩ := g3.2 b _ hv
  obtain ⟨-, hfc, kC, hkC, -⟩ := g2.1.1 ci _ c1
  obtain ⟨kA, comp, w1, w2, w3, -⟩ := (g2.1.2 3 _ rfl).2
  have hat6 := (g2.1.1 6 (RX6, TX6, 10) rfl).2
  have hcomp : comp = D.1 6 := Option.some.inj (w3.symm.trans hat6.1)
  subst hcomp
  obtain ⟨k6, hk6, -⟩ := hat6.2
  have hasg : s.vm.assignable (D.1 ci) (D.1 6) = true := by
    rcases rk_cast hk with rfl | hca
    · exact va_assign hat6
    · obtain ⟨x1, x2, z1, z2, z3⟩ := Cond.castable_spec (C.tb _ hca)
      have e1 : x1 = D.1 ci := Option.some.inj (z1.symm.trans hfc)
      have e2 : x2 = D.1 6 := Option.some.inj (z2.symm.trans hat6.1)
      rw [← e1, ← e2]; exact z3
  have hcell : H[lo + a]? = some (arrV (ca 16) n (fun j => va_rf ((h.2.2.2.2 a j).map (fun b => lo + b)))) := g3.2 a _ he
  refine W.aast C.1 C.2.1 hcell (fun q h => by cases h) (fun h => by cases h) w1 w2 rfl hk6 ⟨fun z => (vp_in_nI hq (by omega)) (Or.inl z), by rw [arrV_size, nI_clamp (by omega)]; exact hq⟩ k1 (fun q h => by rw [k3] at h; cases h) (by rw [k2]; exact hkC) (by rw [k2]; exact hasg) rfl rfl hd fun H1 ee z oq => ?_
  refine k p l e s m args below meth c lo D ca H1 _ ls C g1 g2 (RH.upd (a := a) (h' := (h.1, h.2.1, h.2.2.1, h.2.2.2.1, up2 h.2.2.2.2 a q (some b))) g3 rfl (fun b hb => ce_eq rfl rfl rfl (up2_o hb)) z oq (fun _ => ?_)) ⟨g4.1, g4.2.1, fun y hy j v hv => ?_⟩ (g5.put z oq (Nat.le_add_right _ _)) g6
  · rw [ce_Q (h := (h.1, h.2.1, h.2.2.1, h.2.2.2.1, up2 h.2.2.2.2 a q (some b))) hsh (by omega)]
    show H1[lo + a]? = some (vp_cell _ _)
    rw [ee, nI_clamp (by omega)]
    rw [vp_cell_q, arrV_store]
    congr 2
    funext j
    by_cases hj : j = q
    · subst hj; simp [updV, up2, va_rf]
    · simp [updV, up2, hj]
  · show up2 h.2.2.2.2 a q (some b) y j = v
    rw [up2_n]
    · exact g4.2.2 y hy j v hv
    · rintro ⟨rfl, rfl⟩
      rw [hx hy] at hv; cases hv
end AR
