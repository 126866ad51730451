/-! ===== four rows of forty ===== -/
def gS5 (S : Nat → Nat × Nat) (N : Nat) : Nat → Nat × Nat := fun a => if a = N then (17, 4) else if N < a ∧ a ≤ N + 4 then (13, 40) else S a
def gI5 (I : Nat → Nat → Int32) (N : Nat) : Nat → Nat → Int32 := fun a j => if N < a ∧ a ≤ N + 4 then 0 else I a j
def gQ5 (Q : Nat → Nat → Option Nat) (N : Nat) : Nat → Nat → Option Nat := fun a j => if a = N then (if j < 4 then some (N + 1 + j) else none) else Q a j
theorem gS5_o {S : Nat → Nat × Nat} {N a : Nat} (h : a < N) : gS5 S N a = S a := by unfold gS5; rw [if_neg (by omega), if_neg (by omega)]
theorem gI5_o {I : Nat → Nat → Int32} {N a : Nat} (h : a < N) : gI5 I N a = I a := by funext j; unfold gI5; rw [if_neg (by omega)]
theorem gQ5_o {Q : Nat → Nat → Option Nat} {N a : Nat} (h : a < N) : gQ5 Q N a = Q a := by funext j; unfold gQ5; rw [if_neg (by omega)]
section NM
variable {E : EV} {M : MD} {κ : Option Value → HP → Prop} {pc pc' : Nat} {L st : List Value} {cs ss : Nat} {idx : Nat} {N : Nat} {S : Nat → Nat × Nat} {I : Nat → Nat → Int32} {J : Nat → Nat → Int64} {Q : Nat → Nat → Option Nat}
theorem inner_arr (comp : ClassId) (k : Nat) : Jvm.Free.Multi.innerC comp k (defaultValue .int) = arrV comp k (fun _ => .int 0) := arrV_new comp k (.int 0)
theorem outer_arr (cA : ClassId) (h0 : Nat) : Jvm.Free.Multi.outerC cA 4 h0 4 = arrV cA 4 (fun j => .ref (h0 + 1 + j)) := by
  have e0 : Jvm.Free.Multi.outerC cA 4 h0 0 = arrV cA 4 (fun _ => .null) := arrV_new cA 4 .null
  show ((((Jvm.Free.Multi.outerC cA 4 h0 0).setSlot 0 (.ref (h0 + 1 + 0))).setSlot 1 (.ref (h0 + 1 + 1))).setSlot 2 (.ref (h0 + 1 + 2))).setSlot 3 (.ref (h0 + 1 + 3)) = _
  rw [e0, arrV_store, arrV_store, arrV_store, arrV_store]
  refine arrV_cg (fun j hj => ?_)
  rcases (show j = 0 ∨ j = 1 ∨ j = 2 ∨ j = 3 by omega) with rfl | rfl | rfl | rfl <;> simp [updV]
theorem s_multi (hd : decode M.2.1 pc = .ok (.multianewarray idx 2, 4)) (hp : pc + 4 = pc') (hl : Cond.classLink M.1.cls idx ("[" ++ (FieldType.array .int).toString) ∈ lw_u) (hcs : cs + 5 ≤ M.2.2.2.2.2.1) (hss : ss + 164 ≤ M.2.2.2.2.2.2) (k : SP E M κ pc' L (.ref N :: st) (N + 5, gS5 S N, gI5 I N, J, gQ5 Q N) (cs + 5) (ss + 164)) : SP E M κ pc L (.int 40 :: .int 4 :: st) (N, S, I, J, Q) cs ss := by
  subst hp
  intro p l e s m args below meth c lo D ca H locs ls C g1 g2 g3 g4 g5 g6
  have hsz : H.size = lo + N := g3.1
  intro T hT X
  obtain ⟨vm₁, cA, comp, hW1, hfA, hfC, hO, hI, X1, step⟩ := X.multianewarray2F C.1 (own := M.1.cls) (index := idx) (ty := .int) C.2.2.2.2.1 (C.tb _ hl) (C.tb _ ao_I) (C.tb _ ac_int) (g := F0 m pc ls (.int 40 :: .int 4 :: st.map (cv lo))) rfl (by rw [C.2.1]; exact hd) (n := 4) (k := 40) (rest := st.map (cv lo)) rfl (by decide) (by decide) (by decide) (by decide) (by decide) rfl rfl (show cs + (1 + 4) ≤ _ from hcs) (show ss + (4 + 4 * 40) ≤ _ from hss)
  have t4 : (4 : Int32).toNatClampNeg = 4 := by decide
  have t40 : (40 : Int32).toNatClampNeg = 40 := by decide
  rw [t4, t40] at X1 step
  obtain ⟨f1, f2, f3, f4⟩ := Jvm.Free.Multi.fill_facts (T.setVm vm₁) cA comp 4 40 (defaultValue .int) 4
  have fo := fun (a : Nat) (ha : a < T.heap.size) => Jvm.Free.Multi.fill_old (T.setVm vm₁) cA comp 4 40 (defaultValue .int) (a := a) ha 4
  have fi := fun (j : Nat) (hj : j < 4) => Jvm.Free.Multi.fill_inner (T.setVm vm₁) cA comp 4 40 (defaultValue .int) 4 j hj
  have hTs : T.heap.size = lo + N := by rw [hT]; exact hsz
  generalize hF : Jvm.Free.Multi.fill (T.setVm vm₁) cA comp 4 40 (defaultValue .int) 4 = T1 at X1 step f1 f2 f3 f4 fo fi
  have f1' : T1.heap.size = T.heap.size + 1 + 4 := f1
  have f2' : T1.heap[T.heap.size]? = some (Jvm.Free.Multi.outerC cA 4 T.heap.size 4) := f2
  have fo' : ∀ a, a < T.heap.size → T1.heap[a]? = T.heap[a]? := fo
  have fi' : ∀ j, j < 4 → T1.heap[T.heap.size + 1 + j]? = some (Jvm.Free.Multi.innerC comp 40 (defaultValue .int)) := fi
  have hk17 : s.vm.findClass ("[" ++ (FieldType.array .int).toString) = some (ca 17) := (g2.1.2 4 (ca 17, .array .int) rfl).2
  have hk13 : s.vm.findClass ("[" ++ FieldType.int.toString) = some (ca 13) := (g2.1.2 0 (ca 13, .int) rfl).2
  have eA : ca 17 = cA := Option.some.inj (hk17.symm.trans hfA)
  have eC : ca 13 = comp := Option.some.inj (hk13.symm.trans hfC)
  have R1 : RH lo D ca (N + 5, gS5 S N, gI5 I N, J, gQ5 Q N) T1.heap := by
    refine ⟨by rw [f1', hTs]; show lo + N + 1 + 4 = lo + (N + 5); omega, fun i q hq => ?_⟩
    obtain ⟨hi, rfl⟩ := ws_of hq
    have hi5 : i < N + 5 := hi
    rcases Nat.lt_or_ge i N with z | z
    · have e : ce lo ca (N + 5, gS5 S N, gI5 I N, J, gQ5 Q N) i = ce lo ca (N, S, I, J, Q) i := ce_eq (gS5_o z) (gI5_o z) rfl (gQ5_o z)
      rw [e]
      exact (g3.2 i _ (ws_at z)).kept (by rw [← hT]; exact fo' (lo + i) (by omega))
    · rcases Nat.lt_or_ge N i with y | y
      · have sI : gS5 S N i = (13, 40) := by unfold gS5; rw [if_neg (by omega), if_pos (by omega)]
        rw [ce_I (h := (N + 5, gS5 S N, gI5 I N, J, gQ5 Q N)) (n := 40) sI]
        show T1.heap[lo + i]? = some (vp_cell (ca 13) (40, .inl (gI5 I N i)))
        have := fi' (i - (N + 1)) (by omega)
        rw [show T.heap.size + 1 + (i - (N + 1)) = lo + i by omega] at this
        rw [this, vp_cell_i, eC, inner_arr]
        exact congrArg some (arrV_cg (fun j _ => by unfold gI5; rw [if_pos (by omega)]))
      · obtain rfl : i = N := by omega
        have sI : gS5 S i i = (17, 4) := if_pos rfl
        rw [ce_Q (h := (i + 5, gS5 S i, gI5 I i, J, gQ5 Q i)) (n := 4) sI (by decide)]
        show T1.heap[lo + i]? = some (vp_cell (ca 17) (4, .inr (.inr (.inr (.inr (fun j => (gQ5 Q i i j).map (fun b => lo + b)))))))
        rw [← hTs, f2', outer_arr, vp_cell_q, eA]
        refine congrArg some (arrV_cg (fun j hj => ?_))
        have : gQ5 Q i i j = some (i + 1 + j) := by unfold gQ5; rw [if_pos rfl, if_pos hj]
        rw [this, hTs]
        show Value.ref (lo + i + 1 + j) = Value.ref (lo + (i + 1 + j))
        rw [show lo + i + 1 + j = lo + (i + 1 + j) by omega]
  have S1 : va_S (fun q => lo ≤ q) s.heap T1.heap locs := ⟨Nat.le_trans g5.1 (by rw [← hT, f1']; omega), fun x h1 h2 => (by rw [fo' x (by rw [hT]; exact Nat.lt_of_lt_of_le h1 g5.1), hT]; exact g5.2.1 x h1 h2), g5.2.2⟩
  obtain ⟨t, a1, b1⟩ := k p l e s m args below meth c lo D ca T1.heap locs ls C g1 g2 R1 (g4.grow (by omega) (fun a ha => gS5_o ha) (fun a ha => gQ5_o ha)) S1 g6 T1 rfl X1
  refine ⟨t, step t ?_, b1⟩
  rw [hTs]
  exact a1
end NM
