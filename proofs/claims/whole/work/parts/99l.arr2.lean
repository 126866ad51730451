/-! ===== new rows ===== -/
theorem nI_tn {n : Nat} (h : n < 65536) : (nI n).toNatClampNeg = n := by
  show (nI n).toInt.toNat = n
  rw [nI_toInt (by omega)]; rfl
theorem arrV_cg {cA : ClassId} {n : Nat} {f g : Nat → Value} (h : ∀ j, j < n → f j = g j) : arrV cA n f = arrV cA n g := by
  unfold arrV
  congr 2
  funext j
  exact h j.val j.isLt
section NA
variable {E : EV} {M : MD} {κ : Option Value → HP → Prop} {pc pc' : Nat} {L st : List Value} {cs ss : Nat} {n idx : Nat} {x : Int32} {N : Nat} {S : Nat → Nat × Nat} {I : Nat → Nat → Int32} {J : Nat → Nat → Int64} {Q : Nat → Nat → Option Nat}
theorem s_newI (hd : decode M.2.1 pc = .ok (.newarray .int, 2)) (hp : pc + 2 = pc') (hx : x = nI n) (hn : n < 65536) (hcs : cs + 1 ≤ M.2.2.2.2.2.1) (hss : ss + n ≤ M.2.2.2.2.2.2) (k : SP E M κ pc' L (.ref N :: st) (N + 1, nS S N (13, n), zI I N, J, Q) (cs + 1) (ss + n)) : SP E M κ pc L (.int x :: st) (N, S, I, J, Q) cs ss := by
  subst hp
  intro p l e s m args below meth c lo D ca H locs ls C g1 g2 g3 g4 g5 g6
  have hsz : H.size = lo + N := g3.1
  refine va_newaK (atype := .int) C.1 C.2.1 (C.tb _ ac_int) rfl hd rfl (by rw [hx]; exact nI_n0 (by omega)) (by rw [hx]; exact nI_tn hn) (by show n * 4 ≤ _; omega) hcs hss hsz fun H1 cA e1 z1 o1 hAr hNm => ?_
  have hk : s.vm.findClass ("[" ++ FieldType.int.toString) = some (ca 13) := (g2.1.2 0 (ca 13, .int) rfl).2
  have ec : ca 13 = cA := Option.some.inj (hk.symm.trans hNm)
  have R1 : RH lo D ca (N + 1, nS S N (13, n), zI I N, J, Q) H1 := by
    refine RH.push g3 rfl (fun b hb => ?_) (by rw [z1, hsz]) (fun q hq => o1 q (by omega)) ?_
    · have hb' : b ≠ N := Nat.ne_of_lt hb
      exact ce_eq (nS_o hb') (zI_o hb') rfl rfl
    · show va_at D classes (lo + N, ce lo ca (N + 1, nS S N (13, n), zI I N, J, Q) N) H1
      rw [ce_I (h := (N + 1, nS S N (13, n), zI I N, J, Q)) (n := n) nS_s]
      show H1[lo + N]? = some (vp_cell (ca 13) (n, .inl (zI I N N)))
      rw [e1, vp_cell_i, ec]
      congr 1
      exact arrV_cg (fun j _ => by rw [zI_s]; rfl)
  exact k p l e s m args below meth c lo D ca H1 locs ls C g1 g2 R1 (g4.grow (by omega) (fun a ha => nS_o (Nat.ne_of_lt ha)) (fun a ha => rfl)) ⟨Nat.le_trans g5.1 (by omega), fun x h1 h2 => (o1 x (by have := g5.1; omega)).trans (g5.2.1 x h1 h2), g5.2.2⟩ g6
theorem s_newZ (hd : decode M.2.1 pc = .ok (.newarray .boolean, 2)) (hp : pc + 2 = pc') (hx : x = nI n) (hn : n < 65536) (hcs : cs + 1 ≤ M.2.2.2.2.2.1) (hss : ss + n ≤ M.2.2.2.2.2.2) (k : SP E M κ pc' L (.ref N :: st) (N + 1, nS S N (15, n), zI I N, J, Q) (cs + 1) (ss + n)) : SP E M κ pc L (.int x :: st) (N, S, I, J, Q) cs ss := by
  subst hp
  intro p l e s m args below meth c lo D ca H locs ls C g1 g2 g3 g4 g5 g6
  have hsz : H.size = lo + N := g3.1
  refine va_newaK (atype := .boolean) C.1 C.2.1 (C.tb _ ac_boolean) rfl hd rfl (by rw [hx]; exact nI_n0 (by omega)) (by rw [hx]; exact nI_tn hn) (by show n * 1 ≤ _; omega) hcs hss hsz fun H1 cA e1 z1 o1 hAr hNm => ?_
  have hk : s.vm.findClass ("[" ++ FieldType.boolean.toString) = some (ca 15) := (g2.1.2 2 (ca 15, .boolean) rfl).2
  have ec : ca 15 = cA := Option.some.inj (hk.symm.trans hNm)
  have R1 : RH lo D ca (N + 1, nS S N (15, n), zI I N, J, Q) H1 := by
    refine RH.push g3 rfl (fun b hb => ?_) (by rw [z1, hsz]) (fun q hq => o1 q (by omega)) ?_
    · have hb' : b ≠ N := Nat.ne_of_lt hb
      exact ce_eq (nS_o hb') (zI_o hb') rfl rfl
    · show va_at D classes (lo + N, ce lo ca (N + 1, nS S N (15, n), zI I N, J, Q) N) H1
      rw [ce_Z (h := (N + 1, nS S N (15, n), zI I N, J, Q)) (n := n) nS_s]
      show H1[lo + N]? = some (vp_cell (ca 15) (n, .inl (zI I N N)))
      rw [e1, vp_cell_i, ec]
      congr 1
      exact arrV_cg (fun j _ => by rw [zI_s]; rfl)
  exact k p l e s m args below meth c lo D ca H1 locs ls C g1 g2 R1 (g4.grow (by omega) (fun a ha => nS_o (Nat.ne_of_lt ha)) (fun a ha => rfl)) ⟨Nat.le_trans g5.1 (by omega), fun x h1 h2 => (o1 x (by have := g5.1; omega)).trans (g5.2.1 x h1 h2), g5.2.2⟩ g6
theorem s_newJ (hd : decode M.2.1 pc = .ok (.newarray .long, 2)) (hp : pc + 2 = pc') (hx : x = nI n) (hn : n < 65536) (hcs : cs + 1 ≤ M.2.2.2.2.2.1) (hss : ss + n ≤ M.2.2.2.2.2.2) (k : SP E M κ pc' L (.ref N :: st) (N + 1, nS S N (14, n), I, zJ J N, Q) (cs + 1) (ss + n)) : SP E M κ pc L (.int x :: st) (N, S, I, J, Q) cs ss := by
  subst hp
  intro p l e s m args below meth c lo D ca H locs ls C g1 g2 g3 g4 g5 g6
  have hsz : H.size = lo + N := g3.1
  refine va_newaK (atype := .long) C.1 C.2.1 (C.tb _ ac_long) rfl hd rfl (by rw [hx]; exact nI_n0 (by omega)) (by rw [hx]; exact nI_tn hn) (by show n * 8 ≤ _; omega) hcs hss hsz fun H1 cA e1 z1 o1 hAr hNm => ?_
  have hk : s.vm.findClass ("[" ++ FieldType.long.toString) = some (ca 14) := (g2.1.2 1 (ca 14, .long) rfl).2
  have ec : ca 14 = cA := Option.some.inj (hk.symm.trans hNm)
  have R1 : RH lo D ca (N + 1, nS S N (14, n), I, zJ J N, Q) H1 := by
    refine RH.push g3 rfl (fun b hb => ?_) (by rw [z1, hsz]) (fun q hq => o1 q (by omega)) ?_
    · have hb' : b ≠ N := Nat.ne_of_lt hb
      exact ce_eq (nS_o hb') rfl (zJ_o hb') rfl
    · show va_at D classes (lo + N, ce lo ca (N + 1, nS S N (14, n), I, zJ J N, Q) N) H1
      rw [ce_J (h := (N + 1, nS S N (14, n), I, zJ J N, Q)) (n := n) nS_s]
      show H1[lo + N]? = some (vp_cell (ca 14) (n, .inr (.inl (zJ J N N))))
      rw [e1, vp_cell_l, ec]
      congr 1
      exact arrV_cg (fun j _ => by rw [zJ_s]; rfl)
  exact k p l e s m args below meth c lo D ca H1 locs ls C g1 g2 R1 (g4.grow (by omega) (fun a ha => nS_o (Nat.ne_of_lt ha)) (fun a ha => rfl)) ⟨Nat.le_trans g5.1 (by omega), fun x h1 h2 => (o1 x (by have := g5.1; omega)).trans (g5.2.1 x h1 h2), g5.2.2⟩ g6
theorem s_newR (hd : decode M.2.1 pc = .ok (.anewarray idx, 3)) (hp : pc + 3 = pc') (hl : Cond.classLink M.1.cls idx RX6 ∈ lw_u) (hx : x = nI n) (hn : n < 65536) (hcs : cs + 1 ≤ M.2.2.2.2.2.1) (hss : ss + n ≤ M.2.2.2.2.2.2) (k : SP E M κ pc' L (.ref N :: st) (N + 1, nS S N (16, n), I, J, zQ Q N) (cs + 1) (ss + n)) : SP E M κ pc L (.int x :: st) (N, S, I, J, Q) cs ss := by
  subst hp; subst hx
  intro p l e s m args below meth c lo D ca H locs ls C g1 g2 g3 g4 g5 g6
  have hsz : H.size = lo + N := g3.1
  have en : (nI n).toNatClampNeg = n := nI_tn hn
  refine W.anew C.1 C.2.1 C.2.2.2.2.1 (C.tb _ hl) (va_AO.use (va_AO.of (C.tb _ ao_Rule))) rfl hd rfl (nI_n0 (by omega)) (by rw [en]; omega) hcs (by rw [en]; exact hss) fun cA kA comp f1 f2 f3 f4 => ?_
  rw [en]
  generalize hH1 : H.push ({ cls := cA, slots := Array.replicate n .null, vm := .none } : Cell) = H1
  have z1 : H1.size = H.size + 1 := by rw [← hH1, Array.size_push]
  have e1 : H1[H.size]? = some (arrV cA n (fun _ => .null)) := by rw [← hH1, Array.getElem?_push_size, ← arrV_new]
  have o1 : ∀ q : Nat, q < H.size → H1[q]? = H[q]? := fun q hq => by rw [← hH1, Array.getElem?_push, if_neg (Nat.ne_of_lt hq)]
  obtain ⟨kA', comp', -, -, -, hk⟩ := (g2.1.2 3 (ca 16, .object RX6) rfl).2
  have ec : ca 16 = cA := Option.some.inj (hk.symm.trans f1)
  have R1 : RH lo D ca (N + 1, nS S N (16, n), I, J, zQ Q N) H1 := by
    refine RH.push g3 rfl (fun b hb => ?_) z1 o1 ?_
    · have hb' : b ≠ N := Nat.ne_of_lt hb
      exact ce_eq (nS_o hb') rfl rfl (zQ_o hb')
    · show va_at D classes (lo + N, ce lo ca (N + 1, nS S N (16, n), I, J, zQ Q N) N) H1
      rw [ce_Q (h := (N + 1, nS S N (16, n), I, J, zQ Q N)) (n := n) nS_s (by decide)]
      show H1[lo + N]? = some (vp_cell (ca 16) (n, .inr (.inr (.inr (.inr (fun i => (zQ Q N N i).map (fun b => lo + b)))))))
      rw [← hsz, e1, vp_cell_q, ec]
      congr 1
      exact arrV_cg (fun j _ => by rw [zQ_s]; rfl)
  have := k p l e s m args below meth c lo D ca H1 locs ls C g1 g2 R1 (g4.grow (by omega) (fun a ha => nS_o (Nat.ne_of_lt ha)) (fun a ha => zQ_o (Nat.ne_of_lt ha))) ⟨Nat.le_trans g5.1 (by omega), fun x h1 h2 => (o1 x (by have := g5.1; omega)).trans (g5.2.1 x h1 h2), g5.2.2⟩ g6
  rw [hsz]
  exact this
end NA
