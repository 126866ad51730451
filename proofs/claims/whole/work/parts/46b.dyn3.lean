/-! ===== rows copied, greatest and least, a row's empty place ===== -/
/-- row a is f -/
def row {α : Type} (F : Nat → Nat → α) (a : Nat) (f : Nat → α) : Nat → Nat → α := fun b => if b = a then f else F b
theorem row_o {α : Type} {F : Nat → Nat → α} {a b : Nat} {f : Nat → α} (h : b ≠ a) : row F a f b = F b := if_neg h
theorem row_s {α : Type} {F : Nat → Nat → α} {a : Nat} {f : Nat → α} : row F a f a = f := if_pos rfl
theorem co_max : Cond.code Lib.MathLoose.max_long.x Lib.MathLoose.max_long.code 4 (some .long) ∈ lw_u := tb_3 223 rfl
theorem co_min : Cond.code Lib.MathLoose.min_long.x Lib.MathLoose.min_long.code 4 (some .long) ∈ lw_u := tb_3 226 rfl
section D3
variable {E : EV} {M M' : MD} {κ : Option Value → HP → Prop} {pc pc' : Nat} {L st stk As : List Value} {h : HP} {cs ss : Nat} {a ci n np idx : Nat}
theorem s_copyI {a0 a n0 n1 sp dp n : Nat} {x0 x1 x2 : Int32} (hd : decode M.2.1 pc = .ok (.invokestatic idx, 3)) (hp : pc + 3 = pc') (hl : Cond.methodLink M.1.cls idx arraycopyName ∈ lw_u) (h0 : Sh E h a0 13 n0) (h1 : Sh E h a 13 n1) (e0 : x0 = nI sp) (e1 : x1 = nI dp) (e2 : x2 = nI n) (b0 : sp + n ≤ n0) (b1 : dp + n ≤ n1) (hdp : 1 ≤ M.2.2.2.2.1) (hst : (st.map fun v => v.category).sum ≤ 8)
    (k : SP E M κ pc' L st (h.1, h.2.1, row h.2.2.1 a (va_cpy (h.2.2.1 a0) (h.2.2.1 a) sp dp n), h.2.2.2.1, h.2.2.2.2) cs ss) : SP E M κ pc L (.int x2 :: .int x1 :: .ref a :: .int x0 :: .ref a0 :: st) h cs ss := by
  subst hp; subst e0; subst e1; subst e2
  intro p l e s m args below meth c lo D ca H locs ls C g1 g2 g3 g4 g5 g6
  obtain ⟨ha0, hs0⟩ := h0.al g4
  obtain ⟨ha1, hs1⟩ := h1.al g4
  have hn0 := h0.1
  have hn1 := h1.1
  have w0 := ws_at (lo := lo) (ca := ca) ha0
  rw [ce_I hs0] at w0
  have w1 := ws_at (lo := lo) (ca := ca) ha1
  rw [ce_I hs1] at w1
  have hc0 : H[lo + a0]? = some (vp_cell (ca 13) (n0, .inl (h.2.2.1 a0))) := g3.2 a0 _ w0
  have hc1 : H[lo + a]? = some (vp_cell (ca 13) (n1, .inl (h.2.2.1 a))) := g3.2 a _ w1
  obtain ⟨-, k0, hk0, cm0, hkk0⟩ := (g2.1.2 0 _ rfl).1 n0 (fun j => .int (h.2.2.1 a0 j))
  obtain ⟨-, k1, hk1, cm1, hkk1⟩ := (g2.1.2 0 _ rfl).1 n1 (fun j => .int (h.2.2.1 a j))
  intro T hT X
  have csp : (nI sp).toNatClampNeg = sp := nI_clamp (by omega)
  have cdp : (nI dp).toNatClampNeg = dp := nI_clamp (by omega)
  have cn : (nI n).toNatClampNeg = n := nI_clamp (by omega)
  have isp : (nI sp).toInt = (sp : Int) := nI_toInt (by omega)
  have idp : (nI dp).toInt = (dp : Int) := nI_toInt (by omega)
  have inn : (nI n).toInt = (n : Int) := nI_toInt (by omega)
  obtain ⟨vm', X', step⟩ := X.arraycopy C.1 C.2.2.2.2.1 (C.tb _ hl) (C.tb _ nt_arraycopy) (C.tb _ sm_arraycopy) (C.tb _ in_J10) (src := lo + a0) (dst := lo + a) (cs := vp_cell (ca 13) (n0, .inl (h.2.2.1 a0))) (cd := vp_cell (ca 13) (n1, .inl (h.2.2.1 a))) (srcPos := nI sp) (destPos := nI dp) (n := nI n) (by rw [hT]; exact hc0) (by rw [hT]; exact hc1)
    (fun _ h => by cases h) (fun _ h => by cases h) (fun h => by cases h) (fun h => by cases h) hk0 hk1 hkk0 hkk1 (by simp [refKind]) (nI_pos (by omega)) (nI_pos (by omega)) (nI_pos (by omega))
    (by rw [isp, inn]; show ¬ _ > ((arrV (ca 13) n0 (fun j => .int (h.2.2.1 a0 j))).slots.size : Int); rw [arrV_size]; omega)
    (by rw [idp, inn]; show ¬ _ > ((arrV (ca 13) n1 (fun j => .int (h.2.2.1 a j))).slots.size : Int); rw [arrV_size]; omega)
    (fun vm₁ _ i hi => by
      rw [cn] at hi
      have ee : (vp_cell (ca 13) (n0, .inl (h.2.2.1 a0))).slots.getD ((nI sp).toNatClampNeg + i) .null = .int (h.2.2.1 a0 (sp + i)) := by
        rw [csp]
        show (arrV (ca 13) n0 (fun j => .int (h.2.2.1 a0 j))).slots.getD _ _ = _
        rw [Array.getD_eq_getD_getElem?, arrV_read _ _ (by omega)]
        rfl
      rw [ee]
      exact ⟨rfl, trivial⟩)
    (g := F0 m pc ls (.int (nI n) :: .int (nI dp) :: .ref (lo + a) :: .int (nI sp) :: .ref (lo + a0) :: st.map (cv lo))) rfl (by rw [C.2.2.2.1]; exact g6.2.1) (rest := st.map (cv lo)) rfl (by rw [C.2.1]; exact hd) hdp (by
      have hcat := cat_sum lo st
      have hw : nativeFrameWords "java/lang/System" "arraycopy" 5 ≤ 20 := by decide
      show 2 * 0 + _ + _ ≤ 40 * M.2.2.2.2.1
      omega)
  have e1 : copied (vp_cell (ca 13) (n0, .inl (h.2.2.1 a0))) (vp_cell (ca 13) (n1, .inl (h.2.2.1 a))) (nI sp) (nI dp) (nI n) = vp_cell (ca 13) (n1, .inl (va_cpy (h.2.2.1 a0) (h.2.2.1 a) sp dp n)) := by
    have := va_copied (fun z => .int z) (ca 13) (ca 13) (h.2.2.1 a0) (h.2.2.1 a) (sp := sp) (dp := dp) (n0 := n0) (n1 := n1) b0
    unfold copied
    rw [csp, cdp, cn]
    exact this
  rw [e1] at X' step
  have hlt : lo + a < H.size := (Array.getElem?_eq_some_iff.mp hc1).1
  have oq : ∀ q : Nat, q ≠ lo + a → (H.setIfInBounds (lo + a) (vp_cell (ca 13) (n1, .inl (va_cpy (h.2.2.1 a0) (h.2.2.1 a) sp dp n))))[q]? = H[q]? := fun q hq => by simp [Array.getElem?_setIfInBounds, Ne.symm hq]
  have zz : (H.setIfInBounds (lo + a) (vp_cell (ca 13) (n1, .inl (va_cpy (h.2.2.1 a0) (h.2.2.1 a) sp dp n)))).size = H.size := by simp
  obtain ⟨t, a1, b1⟩ := k p l e s m args below meth c lo D ca (H.setIfInBounds (lo + a) (vp_cell (ca 13) (n1, .inl (va_cpy (h.2.2.1 a0) (h.2.2.1 a) sp dp n)))) _ ls C g1 g2 (RH.upd (a := a) (h' := (h.1, h.2.1, row h.2.2.1 a (va_cpy (h.2.2.1 a0) (h.2.2.1 a) sp dp n), h.2.2.2.1, h.2.2.2.2)) g3 rfl (fun b hb => ce_eq rfl (row_o hb) rfl rfl) zz oq (fun _ => by
      rw [ce_I (h := (h.1, h.2.1, row h.2.2.1 a (va_cpy (h.2.2.1 a0) (h.2.2.1 a) sp dp n), h.2.2.2.1, h.2.2.2.2)) hs1]
      show (H.setIfInBounds (lo + a) _)[lo + a]? = some (vp_cell (ca 13) (n1, .inl (row h.2.2.1 a (va_cpy (h.2.2.1 a0) (h.2.2.1 a) sp dp n) a)))
      rw [row_s]
      simp [Array.getElem?_setIfInBounds, hlt])) (g4.I rfl rfl rfl) ⟨Nat.le_trans g5.1 (Nat.le_of_eq zz.symm), fun q y1 y2 => by
      rw [oq q (fun e => y2 (by rw [e]; exact Nat.le_add_right _ _))]
      exact g5.2.1 q y1 y2, fun q hq => by
      rcases List.mem_append.mp hq with hh | hh
      · exact g5.2.2 q hh
      · obtain ⟨z, -, hz⟩ := List.mem_map.mp hh
        rw [← hz]
        exact Nat.le_add_right _ _⟩ g6 _ (by rw [← hT]; rfl) X'
  exact ⟨t, step t a1, b1⟩
theorem s_copyJ {a0 a n0 n1 sp dp n : Nat} {x0 x1 x2 : Int32} (hd : decode M.2.1 pc = .ok (.invokestatic idx, 3)) (hp : pc + 3 = pc') (hl : Cond.methodLink M.1.cls idx arraycopyName ∈ lw_u) (h0 : Sh E h a0 14 n0) (h1 : Sh E h a 14 n1) (e0 : x0 = nI sp) (e1 : x1 = nI dp) (e2 : x2 = nI n) (b0 : sp + n ≤ n0) (b1 : dp + n ≤ n1) (hdp : 1 ≤ M.2.2.2.2.1) (hst : (st.map fun v => v.category).sum ≤ 8)
    (k : SP E M κ pc' L st (h.1, h.2.1, h.2.2.1, row h.2.2.2.1 a (va_cpy (h.2.2.2.1 a0) (h.2.2.2.1 a) sp dp n), h.2.2.2.2) cs ss) : SP E M κ pc L (.int x2 :: .int x1 :: .ref a :: .int x0 :: .ref a0 :: st) h cs ss := by
  subst hp; subst e0; subst e1; subst e2
  intro p l e s m args below meth c lo D ca H locs ls C g1 g2 g3 g4 g5 g6
  obtain ⟨ha0, hs0⟩ := h0.al g4
  obtain ⟨ha1, hs1⟩ := h1.al g4
  have hn0 := h0.1
  have hn1 := h1.1
  have w0 := ws_at (lo := lo) (ca := ca) ha0
  rw [ce_J hs0] at w0
  have w1 := ws_at (lo := lo) (ca := ca) ha1
  rw [ce_J hs1] at w1
  have hc0 : H[lo + a0]? = some (vp_cell (ca 14) (n0, .inr (.inl (h.2.2.2.1 a0)))) := g3.2 a0 _ w0
  have hc1 : H[lo + a]? = some (vp_cell (ca 14) (n1, .inr (.inl (h.2.2.2.1 a)))) := g3.2 a _ w1
  obtain ⟨-, k0, hk0, cm0, hkk0⟩ := (g2.1.2 1 _ rfl).1 n0 (fun j => .long (h.2.2.2.1 a0 j))
  obtain ⟨-, k1, hk1, cm1, hkk1⟩ := (g2.1.2 1 _ rfl).1 n1 (fun j => .long (h.2.2.2.1 a j))
  intro T hT X
  have csp : (nI sp).toNatClampNeg = sp := nI_clamp (by omega)
  have cdp : (nI dp).toNatClampNeg = dp := nI_clamp (by omega)
  have cn : (nI n).toNatClampNeg = n := nI_clamp (by omega)
  have isp : (nI sp).toInt = (sp : Int) := nI_toInt (by omega)
  have idp : (nI dp).toInt = (dp : Int) := nI_toInt (by omega)
  have inn : (nI n).toInt = (n : Int) := nI_toInt (by omega)
  obtain ⟨vm', X', step⟩ := X.arraycopy C.1 C.2.2.2.2.1 (C.tb _ hl) (C.tb _ nt_arraycopy) (C.tb _ sm_arraycopy) (C.tb _ in_J10) (src := lo + a0) (dst := lo + a) (cs := vp_cell (ca 14) (n0, .inr (.inl (h.2.2.2.1 a0)))) (cd := vp_cell (ca 14) (n1, .inr (.inl (h.2.2.2.1 a)))) (srcPos := nI sp) (destPos := nI dp) (n := nI n) (by rw [hT]; exact hc0) (by rw [hT]; exact hc1)
    (fun _ h => by cases h) (fun _ h => by cases h) (fun h => by cases h) (fun h => by cases h) hk0 hk1 hkk0 hkk1 (by simp [refKind]) (nI_pos (by omega)) (nI_pos (by omega)) (nI_pos (by omega))
    (by rw [isp, inn]; show ¬ _ > ((arrV (ca 14) n0 (fun j => .long (h.2.2.2.1 a0 j))).slots.size : Int); rw [arrV_size]; omega)
    (by rw [idp, inn]; show ¬ _ > ((arrV (ca 14) n1 (fun j => .long (h.2.2.2.1 a j))).slots.size : Int); rw [arrV_size]; omega)
    (fun vm₁ _ i hi => by
      rw [cn] at hi
      have ee : (vp_cell (ca 14) (n0, .inr (.inl (h.2.2.2.1 a0)))).slots.getD ((nI sp).toNatClampNeg + i) .null = .long (h.2.2.2.1 a0 (sp + i)) := by
        rw [csp]
        show (arrV (ca 14) n0 (fun j => .long (h.2.2.2.1 a0 j))).slots.getD _ _ = _
        rw [Array.getD_eq_getD_getElem?, arrV_read _ _ (by omega)]
        rfl
      rw [ee]
      exact ⟨rfl, trivial⟩)
    (g := F0 m pc ls (.int (nI n) :: .int (nI dp) :: .ref (lo + a) :: .int (nI sp) :: .ref (lo + a0) :: st.map (cv lo))) rfl (by rw [C.2.2.2.1]; exact g6.2.1) (rest := st.map (cv lo)) rfl (by rw [C.2.1]; exact hd) hdp (by
      have hcat := cat_sum lo st
      have hw : nativeFrameWords "java/lang/System" "arraycopy" 5 ≤ 20 := by decide
      show 2 * 0 + _ + _ ≤ 40 * M.2.2.2.2.1
      omega)
  have e1 : copied (vp_cell (ca 14) (n0, .inr (.inl (h.2.2.2.1 a0)))) (vp_cell (ca 14) (n1, .inr (.inl (h.2.2.2.1 a)))) (nI sp) (nI dp) (nI n) = vp_cell (ca 14) (n1, .inr (.inl (va_cpy (h.2.2.2.1 a0) (h.2.2.2.1 a) sp dp n))) := by
    have := va_copied (fun z => .long z) (ca 14) (ca 14) (h.2.2.2.1 a0) (h.2.2.2.1 a) (sp := sp) (dp := dp) (n0 := n0) (n1 := n1) b0
    unfold copied
    rw [csp, cdp, cn]
    exact this
  rw [e1] at X' step
  have hlt : lo + a < H.size := (Array.getElem?_eq_some_iff.mp hc1).1
  have oq : ∀ q : Nat, q ≠ lo + a → (H.setIfInBounds (lo + a) (vp_cell (ca 14) (n1, .inr (.inl (va_cpy (h.2.2.2.1 a0) (h.2.2.2.1 a) sp dp n)))))[q]? = H[q]? := fun q hq => by simp [Array.getElem?_setIfInBounds, Ne.symm hq]
  have zz : (H.setIfInBounds (lo + a) (vp_cell (ca 14) (n1, .inr (.inl (va_cpy (h.2.2.2.1 a0) (h.2.2.2.1 a) sp dp n))))).size = H.size := by simp
  obtain ⟨t, a1, b1⟩ := k p l e s m args below meth c lo D ca (H.setIfInBounds (lo + a) (vp_cell (ca 14) (n1, .inr (.inl (va_cpy (h.2.2.2.1 a0) (h.2.2.2.1 a) sp dp n))))) _ ls C g1 g2 (RH.upd (a := a) (h' := (h.1, h.2.1, h.2.2.1, row h.2.2.2.1 a (va_cpy (h.2.2.2.1 a0) (h.2.2.2.1 a) sp dp n), h.2.2.2.2)) g3 rfl (fun b hb => ce_eq rfl rfl (row_o hb) rfl) zz oq (fun _ => by
      rw [ce_J (h := (h.1, h.2.1, h.2.2.1, row h.2.2.2.1 a (va_cpy (h.2.2.2.1 a0) (h.2.2.2.1 a) sp dp n), h.2.2.2.2)) hs1]
      show (H.setIfInBounds (lo + a) _)[lo + a]? = some (vp_cell (ca 14) (n1, .inr (.inl (row h.2.2.2.1 a (va_cpy (h.2.2.2.1 a0) (h.2.2.2.1 a) sp dp n) a))))
      rw [row_s]
      simp [Array.getElem?_setIfInBounds, hlt])) (g4.I rfl rfl rfl) ⟨Nat.le_trans g5.1 (Nat.le_of_eq zz.symm), fun q y1 y2 => by
      rw [oq q (fun e => y2 (by rw [e]; exact Nat.le_add_right _ _))]
      exact g5.2.1 q y1 y2, fun q hq => by
      rcases List.mem_append.mp hq with hh | hh
      · exact g5.2.2 q hh
      · obtain ⟨z, -, hz⟩ := List.mem_map.mp hh
        rw [← hz]
        exact Nat.le_add_right _ _⟩ g6 _ (by rw [← hT]; rfl) X'
  exact ⟨t, step t a1, b1⟩
theorem s_lmax {x y : Int64} (hd : decode M.2.1 pc = .ok (.invokestatic idx, 3)) (hp : pc + 3 = pc') (hl : Cond.methodLink M.1.cls idx yJ9_max_f86c9 ∈ lw_u) (hdp : 1 ≤ M.2.2.2.2.1) (hcs : cs ≤ M.2.2.2.2.2.1) (hss : ss ≤ M.2.2.2.2.2.2) (hst : (st.map fun v => v.category).sum ≤ 8) (k : SP E M κ pc' L (.long (if y < x then x else y) :: st) h cs ss) : SP E M κ pc L (.long y :: .long x :: st) h cs ss := by
  subst hp
  intro p l e s m args below meth c lo D ca H locs ls C g1 g2 g3 g4 g5 g6
  exact va_mmax_long C.1 C.2.1 (by rw [C.2.2.2.1]; exact g6.2.1.symm) C.2.2.2.2.1 (C.tb _ hl) (C.tb _ sm_J9_max_f86c9) (C.tb _ in_J9) (C.tb _ co_max) hdp (by have hcat := cat_sum lo st; show _ ≤ 40 * M.2.2.2.2.1; omega) hcs hss hd (k p l e s m args below meth c lo D ca H locs ls C g1 g2 g3 g4 g5 g6)
theorem s_lmin {x y : Int64} (hd : decode M.2.1 pc = .ok (.invokestatic idx, 3)) (hp : pc + 3 = pc') (hl : Cond.methodLink M.1.cls idx yJ9_min_f86c9 ∈ lw_u) (hdp : 1 ≤ M.2.2.2.2.1) (hcs : cs ≤ M.2.2.2.2.2.1) (hss : ss ≤ M.2.2.2.2.2.2) (hst : (st.map fun v => v.category).sum ≤ 8) (k : SP E M κ pc' L (.long (if y < x then y else x) :: st) h cs ss) : SP E M κ pc L (.long y :: .long x :: st) h cs ss := by
  subst hp
  intro p l e s m args below meth c lo D ca H locs ls C g1 g2 g3 g4 g5 g6
  exact va_mmin_long C.1 C.2.1 (by rw [C.2.2.2.1]; exact g6.2.1.symm) C.2.2.2.2.1 (C.tb _ hl) (C.tb _ sm_J9_min_f86c9) (C.tb _ in_J9) (C.tb _ co_min) hdp (by have hcat := cat_sum lo st; show _ ≤ 40 * M.2.2.2.2.1; omega) hcs hss hd (k p l e s m args below meth c lo D ca H locs ls C g1 g2 g3 g4 g5 g6)
theorem s_aastN {i : Int32} {q : Nat} (hd : decode M.2.1 pc = .ok (.aastore, 1)) (hp : pc + 1 = pc') (hs : Sh E h a 16 n) (hi : i = nI q) (hq : q < n) (hx : a < E.1 → ∀ j, E.2.2 a j = none) (k : SP E M κ pc' L st (h.1, h.2.1, h.2.2.1, h.2.2.2.1, up2 h.2.2.2.2 a q none) cs ss) : SP E M κ pc L (.null :: .int i :: .ref a :: st) h cs ss := by
  subst hp; subst hi
  intro p l e s m args below meth c lo D ca H locs ls C g1 g2 g3 g4 g5 g6
  obtain ⟨ha, hsh⟩ := hs.al g4
  have hn := hs.1
  have he := ws_at (lo := lo) (ca := ca) ha
  rw [ce_Q hsh (by omega)] at he
  have hcell : H[lo + a]? = some (arrV (ca 16) n (fun j => va_rf ((h.2.2.2.2 a j).map (fun b => lo + b)))) := g3.2 a _ he
  refine va_WaastN (C := RX6) C.1 C.2.1 hcell ((g2.1.2 3 _ rfl).1 n (fun j => va_rf ((h.2.2.2.2 a j).map (fun b => lo + b)))) (fun h => by cases h) (by rw [arrV_size]; exact vp_in_nI hq (by omega)) rfl rfl hd fun H1 ee z oq => ?_
  refine k p l e s m args below meth c lo D ca H1 _ ls C g1 g2 (RH.upd (a := a) (h' := (h.1, h.2.1, h.2.2.1, h.2.2.2.1, up2 h.2.2.2.2 a q none)) g3 rfl (fun b hb => ce_eq rfl rfl rfl (up2_o hb)) z oq (fun _ => ?_)) ⟨g4.1, g4.2.1, fun y hy j v hv => ?_⟩ (g5.put z oq (Nat.le_add_right _ _)) g6
  · rw [ce_Q (h := (h.1, h.2.1, h.2.2.1, h.2.2.2.1, up2 h.2.2.2.2 a q none)) hsh (by omega)]
    show H1[lo + a]? = some (vp_cell _ _)
    rw [ee, nI_clamp (by omega)]
    rw [vp_cell_q, arrV_store]
    congr 2
    funext j
    by_cases hj : j = q
    · subst hj; simp [updV, up2, va_rf]
    · simp [updV, up2, hj]
  · show up2 h.2.2.2.2 a q none y j = v
    rw [up2_n]
    · exact g4.2.2 y hy j v hv
    · rintro ⟨rfl, rfl⟩
      rw [hx hy] at hv; cases hv
end D3
/-! ===== a rule's class by its kind ===== -/
def kc (k : Int32) : Nat := if k = 0 then 6 else if k = 1 then 10 else if k = 2 then 7 else if k = 3 then 2 else if k = 4 then 3 else if k = 5 then 4 else 0
theorem kc_all (k : Int32) : (k = 0 ∧ kc k = 6) ∨ (k = 1 ∧ kc k = 10) ∨ (k = 2 ∧ kc k = 7) ∨ (k = 3 ∧ kc k = 2) ∨ (k = 4 ∧ kc k = 3) ∨ (k = 5 ∧ kc k = 4) ∨ ((k ≠ 0 ∧ k ≠ 1 ∧ k ≠ 2 ∧ k ≠ 3 ∧ k ≠ 4 ∧ k ≠ 5) ∧ kc k = 0) := by
  unfold kc
  by_cases h0 : k = 0
  · exact Or.inl ⟨h0, if_pos h0⟩
  · by_cases h1 : k = 1
    · exact Or.inr (Or.inl ⟨h1, by rw [if_neg h0, if_pos h1]⟩)
    · by_cases h2 : k = 2
      · exact Or.inr (Or.inr (Or.inl ⟨h2, by rw [if_neg h0, if_neg h1, if_pos h2]⟩))
      · by_cases h3 : k = 3
        · exact Or.inr (Or.inr (Or.inr (Or.inl ⟨h3, by rw [if_neg h0, if_neg h1, if_neg h2, if_pos h3]⟩)))
        · by_cases h4 : k = 4
          · exact Or.inr (Or.inr (Or.inr (Or.inr (Or.inl ⟨h4, by rw [if_neg h0, if_neg h1, if_neg h2, if_neg h3, if_pos h4]⟩))))
          · by_cases h5 : k = 5
            · exact Or.inr (Or.inr (Or.inr (Or.inr (Or.inr (Or.inl ⟨h5, by rw [if_neg h0, if_neg h1, if_neg h2, if_neg h3, if_neg h4, if_pos h5]⟩)))))
            · exact Or.inr (Or.inr (Or.inr (Or.inr (Or.inr (Or.inr ⟨⟨h0, h1, h2, h3, h4, h5⟩, by rw [if_neg h0, if_neg h1, if_neg h2, if_neg h3, if_neg h4, if_neg h5]⟩)))))
theorem kc_rk (k : Int32) : rk (kc k) = true := by
  rcases kc_all k with ⟨-, e⟩ | ⟨-, e⟩ | ⟨-, e⟩ | ⟨-, e⟩ | ⟨-, e⟩ | ⟨-, e⟩ | ⟨-, e⟩ <;> rw [e] <;> rfl
theorem kc1 {E : EV} {h : HP} {a : Nat} {k : Int32} (e : k = 1) (s : Sh E h a (kc k) 0) : Sh E h a 10 0 := by subst e; exact s
theorem kc3 {E : EV} {h : HP} {a : Nat} {k : Int32} (e : k = 3) (s : Sh E h a (kc k) 0) : Sh E h a 2 0 := by subst e; exact s
section D4
variable {E : EV} {M : MD} {κ : Option Value → HP → Prop} {pc pc' : Nat} {L st : List Value} {h : HP} {cs ss : Nat} {a idx : Nat} {k : Int32}
theorem i_typed (hd : decode M.2.1 pc = .ok (.instanceof idx, 3)) (hp : pc + 3 = pc') (hs : Sh E h a (kc k) 0) (hl : Cond.classLink M.1.cls idx RX10 ∈ lw_u) (k1 : k = 1 → SP E M κ pc' L (.int 1 :: st) h cs ss) (k0 : k ≠ 1 → SP E M κ pc' L (.int 0 :: st) h cs ss) : SP E M κ pc L (.ref a :: st) h cs ss := by
  by_cases e : k = 1
  · exact s_inst1 hd hp (kc1 e hs) (by decide) hl (Or.inl rfl) (k1 e)
  · refine s_inst0 hd hp hs (rk_lt (kc_rk k)) hl ?_ (k0 e)
    rcases kc_all k with ⟨-, q⟩ | ⟨z, -⟩ | ⟨-, q⟩ | ⟨-, q⟩ | ⟨-, q⟩ | ⟨-, q⟩ | ⟨-, q⟩
    · rw [q]; decide
    · exact absurd z e
    all_goals (rw [q]; decide)
theorem i_cap (hd : decode M.2.1 pc = .ok (.instanceof idx, 3)) (hp : pc + 3 = pc') (hs : Sh E h a (kc k) 0) (hl : Cond.classLink M.1.cls idx RX2 ∈ lw_u) (k1 : k = 3 → SP E M κ pc' L (.int 1 :: st) h cs ss) (k0 : k ≠ 3 → SP E M κ pc' L (.int 0 :: st) h cs ss) : SP E M κ pc L (.ref a :: st) h cs ss := by
  by_cases e : k = 3
  · exact s_inst1 hd hp (kc3 e hs) (by decide) hl (Or.inl rfl) (k1 e)
  · refine s_inst0 hd hp hs (rk_lt (kc_rk k)) hl ?_ (k0 e)
    rcases kc_all k with ⟨-, q⟩ | ⟨-, q⟩ | ⟨-, q⟩ | ⟨z, -⟩ | ⟨-, q⟩ | ⟨-, q⟩ | ⟨-, q⟩
    · rw [q]; decide
    · rw [q]; decide
    · rw [q]; decide
    · exact absurd z e
    all_goals (rw [q]; decide)
theorem i_opens (hd : decode M.2.1 pc = .ok (.instanceof idx, 3)) (hp : pc + 3 = pc') (hs : Sh E h a (kc k) 0) (hl : Cond.classLink M.1.cls idx RX4 ∈ lw_u) (k1 : (k ≠ 0 ∧ k ≠ 1 ∧ k ≠ 2 ∧ k ≠ 3 ∧ k ≠ 4) → SP E M κ pc' L (.int 1 :: st) h cs ss) (k0 : (k = 0 ∨ k = 1 ∨ k = 2 ∨ k = 3 ∨ k = 4) → SP E M κ pc' L (.int 0 :: st) h cs ss) : SP E M κ pc L (.ref a :: st) h cs ss := by
  rcases kc_all k with ⟨z, q⟩ | ⟨z, q⟩ | ⟨z, q⟩ | ⟨z, q⟩ | ⟨z, q⟩ | ⟨z, q⟩ | ⟨z, q⟩
  · rw [q] at hs; exact s_inst0 hd hp hs (by decide) hl (by decide) (k0 (Or.inl z))
  · rw [q] at hs; exact s_inst0 hd hp hs (by decide) hl (by decide) (k0 (Or.inr (Or.inl z)))
  · rw [q] at hs; exact s_inst0 hd hp hs (by decide) hl (by decide) (k0 (Or.inr (Or.inr (Or.inl z))))
  · rw [q] at hs; exact s_inst0 hd hp hs (by decide) hl (by decide) (k0 (Or.inr (Or.inr (Or.inr (Or.inl z)))))
  · rw [q] at hs; exact s_inst0 hd hp hs (by decide) hl (by decide) (k0 (Or.inr (Or.inr (Or.inr (Or.inr z)))))
  · rw [q] at hs; exact s_inst1 hd hp hs (by decide) hl (Or.inl rfl) (k1 (by subst z; decide))
  · rw [q] at hs; exact s_inst1 hd hp hs (by decide) hl (Or.inr ct_X0_X4) (k1 ⟨z.1, z.2.1, z.2.2.1, z.2.2.2.1, z.2.2.2.2.1⟩)
theorem i_castT (hd : decode M.2.1 pc = .ok (.checkcast idx, 3)) (hp : pc + 3 = pc') (hs : Sh E h a 10 0) (hl : Cond.classLink M.1.cls idx RX10 ∈ lw_u) (kk : SP E M κ pc' L (.ref a :: st) h cs ss) : SP E M κ pc L (.ref a :: st) h cs ss := s_cast hd hp hs (by decide) hl (Or.inl rfl) kk
theorem i_castC (hd : decode M.2.1 pc = .ok (.checkcast idx, 3)) (hp : pc + 3 = pc') (hs : Sh E h a 2 0) (hl : Cond.classLink M.1.cls idx RX2 ∈ lw_u) (kk : SP E M κ pc' L (.ref a :: st) h cs ss) : SP E M κ pc L (.ref a :: st) h cs ss := s_cast hd hp hs (by decide) hl (Or.inl rfl) kk
end D4
theorem sel_amountBy {ci : Nat} (h : rk ci = true) : Cond.selects (cQ ci).1 yX6_amountBy yX6_amountBy ∈ lw_u := by
  rcases rk_of h with rfl | rfl | rfl | rfl | rfl | rfl | rfl
  · exact se_X0_X6_X6_amountBy
  · exact se_X2_X6_X6_amountBy
  · exact se_X3_X6_X6_amountBy
  · exact se_X4_X6_X6_amountBy
  · exact se_X6_X6_X6_amountBy
  · exact se_X7_X6_X6_amountBy
  · exact se_X10_X6_X6_amountBy
theorem sel_readBits {ci : Nat} (h : rk ci = true) : Cond.selects (cQ ci).1 yX6_readBits yX6_readBits ∈ lw_u := by
  rcases rk_of h with rfl | rfl | rfl | rfl | rfl | rfl | rfl
  · exact se_X0_X6_X6_readBits
  · exact se_X2_X6_X6_readBits
  · exact se_X3_X6_X6_readBits
  · exact se_X4_X6_X6_readBits
  · exact se_X6_X6_X6_readBits
  · exact se_X7_X6_X6_readBits
  · exact se_X10_X6_X6_readBits
