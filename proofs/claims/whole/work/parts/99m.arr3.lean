/-! ===== four rows of forty: the step itself ===== -/
def q4_o (cA : ClassId) (b n : Nat) : Cell := arrV cA 4 (fun j => if j < n then .ref (b + 1 + j) else .null)
def q4_r (cI : ClassId) : Cell := arrV cI 40 (fun _ => .int 0)
def q4_s (s : State) (cA cI : ClassId) : Nat → State
  | 0 => s.pushCell (q4_o cA s.heap.size 0)
  | n + 1 => ((q4_s s cA cI n).pushCell (q4_r cI)).setCell s.heap.size (q4_o cA s.heap.size (n + 1))
theorem q4_o0 (cA : ClassId) (b : Nat) : ({ cls := cA, slots := Array.replicate 4 .null } : Cell) = q4_o cA b 0 :=
  (arrV_new cA 4 .null).trans (arrV_cg fun j _ => (if_neg (Nat.not_lt_zero j)).symm)
theorem q4_r0 (cI : ClassId) : ({ cls := cI, slots := Array.replicate 40 (.int 0) } : Cell) = q4_r cI := arrV_new cI 40 (.int 0)
theorem q4_set (cA : ClassId) (b n : Nat) : (q4_o cA b n).setSlot n (.ref (b + 1 + n)) = q4_o cA b (n + 1) := by
  unfold q4_o
  rw [arrV_store]
  refine arrV_cg fun j _ => ?_
  unfold updV
  by_cases h : j = n
  · rw [if_pos h, if_pos (by omega), h]
  · rw [if_neg h]
    show (if j < n then Value.ref (b + 1 + j) else Value.null) = _
    by_cases k : j < n
    · rw [if_pos k, if_pos (by omega)]
    · rw [if_neg k, if_neg (by omega)]
theorem q4_at (s : State) (cA cI : ClassId) (n : Nat) (hz : (q4_s s cA cI n).heap.size = s.heap.size + 1 + n) (a : Nat) : (q4_s s cA cI (n + 1)).heap[a]? = if a = s.heap.size then some (q4_o cA s.heap.size (n + 1)) else if a = s.heap.size + 1 + n then some (q4_r cI) else (q4_s s cA cI n).heap[a]? := by
  show (((q4_s s cA cI n).heap.push (q4_r cI)).setIfInBounds s.heap.size (q4_o cA s.heap.size (n + 1)))[a]? = _
  rw [Array.getElem?_setIfInBounds]
  by_cases h : a = s.heap.size
  · rw [if_pos h.symm, if_pos h, if_pos (by rw [Array.size_push, hz]; omega)]
  · rw [if_neg (fun x => h x.symm), if_neg h, Array.getElem?_push, hz]
theorem q4_f (s : State) (cA cI : ClassId) (n : Nat) : (q4_s s cA cI n).heap.size = s.heap.size + 1 + n ∧ (q4_s s cA cI n).vm = s.vm ∧ (q4_s s cA cI n).slotsUsed = s.slotsUsed + 4 + 40 * n ∧ (q4_s s cA cI n).heap[s.heap.size]? = some (q4_o cA s.heap.size n) ∧ (∀ a, a < s.heap.size → (q4_s s cA cI n).heap[a]? = s.heap[a]?) ∧ (∀ j, j < n → (q4_s s cA cI n).heap[s.heap.size + 1 + j]? = some (q4_r cI)) := by
  induction n with
  | zero =>
    refine ⟨Array.size_push .., rfl, ?_, State.heap_pushCell_size .., fun a ha => State.heap_pushCell_of_lt _ _ ha, fun j hj => absurd hj (Nat.not_lt_zero j)⟩
    show s.slotsUsed + (q4_o cA s.heap.size 0).slots.size = _
    unfold q4_o
    rw [arrV_size]
  | succ n ih =>
    obtain ⟨i1, i2, i3, i4, i5, i6⟩ := ih
    have w := q4_at s cA cI n i1
    refine ⟨?_, i2, ?_, by rw [w, if_pos rfl], fun a ha => ?_, fun j hj => ?_⟩
    · show (((q4_s s cA cI n).heap.push (q4_r cI)).setIfInBounds s.heap.size (q4_o cA s.heap.size (n + 1))).size = _
      rw [Array.size_setIfInBounds, Array.size_push, i1]; omega
    · show (q4_s s cA cI n).slotsUsed + (q4_r cI).slots.size = _
      unfold q4_r
      rw [i3, arrV_size]; omega
    · rw [w, if_neg (by omega), if_neg (by omega)]; exact i5 a ha
    · rw [w, if_neg (by omega)]
      by_cases h : j = n
      · rw [if_pos (by omega)]
      · rw [if_neg (by omega)]; exact i6 j (by omega)
theorem q4_top (s : State) (f : JFrame) (cA cI : ClassId) (n : Nat) : q4_s (s.setTop f) cA cI n = (q4_s s cA cI n).setTop f := by
  induction n with
  | zero => rfl
  | succ n ih =>
    show ((q4_s (s.setTop f) cA cI n).pushCell (q4_r cI)).setCell s.heap.size (q4_o cA s.heap.size (n + 1)) = _
    rw [ih]; rfl
theorem q4_over {args : Array Value} {s : State} (h : (Cond.arrayOver (.array .int)).before args s = true) : ∃ cI cA kA, s.vm.findClass (FieldType.array .int).toString = some cI ∧ s.vm.classes[cA]? = some kA ∧ kA.kind = .array cI (.array .int) ∧ s.vm.findClass ("[" ++ (FieldType.array .int).toString) = some cA := by
  simp only [Cond.before, Cond.holds, Cond.value, beq_iff_eq, Option.bind_eq_some_iff, Option.map_eq_some_iff] at h
  obtain ⟨cI, h1, cA, h2, kA, h3, h4⟩ := h
  have hp := (Array.findIdx?_eq_some_iff_getElem.mp h2).2.1
  rw [(Array.getElem?_eq_some_iff.mp h3).2] at hp
  refine ⟨cI, cA, kA, h1, h3, ?_, ?_⟩ <;> cases hk : kA.kind <;> rw [hk] at h4 hp <;> simp at h4 hp <;> simp_all
section Q4
variable {Ec : CtlPost} {e : Env} {d : Bool} {acts : List Action} {s : State} {cA cI cc : ClassId} {kA kI : Class}
theorem q4_in (h1 : s.vm.classes[cI]? = some kI) (h2 : kI.kind = .array cc .int) (p1 : 40 ≤ e.platform.arrayLengthLimit) (p2 : 160 ≤ e.platform.maxHeapBytes) (p3 : s.heap.size < e.platform.maxCells) (p4 : s.slotsUsed + 40 ≤ e.platform.maxSlots) {Q : Addr → Pre} (hq : ∀ acts', Q s.heap.size d acts' (s.pushCell (q4_r cI))) : wp (Op.multianewarray.make cI [40]) Q Ec e d acts s := by
  rw [Op.multianewarray.make]
  simp only [wp_bind', show ¬ ((40 : Int32) < 0) by decide, if_false, wp_pure', W.theClass, h1, h2, Option.some.injEq, exists_eq_left', show (40 : Int32).toNatClampNeg = 40 by decide]
  refine W.newArray_of h1 h2 (by omega) (by show ¬ 40 * 4 > _; omega) p3 p4 rfl fun acts' => ?_
  have := hq acts'
  rw [← q4_r0] at this
  exact this
theorem q4_pass {n : Nat} (hn : n < 4) (g1 : s.vm.classes[cA]? = some kA) (g2 : kA.kind = .array cI (.array .int)) (h1 : s.vm.classes[cI]? = some kI) (h2 : kI.kind = .array cc .int) (p1 : 40 ≤ e.platform.arrayLengthLimit) (p2 : 160 ≤ e.platform.maxHeapBytes) (p3 : s.heap.size + 5 ≤ e.platform.maxCells) (p4 : s.slotsUsed + 164 ≤ e.platform.maxSlots) {Q : Unit → Pre} (hq : ∀ d' acts', Q () d' acts' (q4_s s cA cI (n + 1))) : wp (Op.multianewarray.make cI [40]) (fun a => wp (Jvm.writeLoc s.heap.size n (.ref a)) Q Ec e) Ec e d acts (q4_s s cA cI n) := by
  obtain ⟨i1, i2, i3, i4, i5, i6⟩ := q4_f s cA cI n
  refine q4_in (by rw [i2]; exact h1) h2 p1 p2 (by rw [i1]; omega) (by rw [i3]; omega) fun acts' => ?_
  rw [W.writeLoc]
  have hlt : s.heap.size < (q4_s s cA cI n).heap.size := by rw [i1]; omega
  refine ⟨q4_o cA s.heap.size n, by rw [State.heap_pushCell_of_lt _ _ hlt]; exact i4, by unfold q4_o arrV; simp, by unfold q4_o; rw [arrV_size]; exact hn, ?_, ?_⟩
  · show State.fitsSlot _ cA .none n _ = true
    simp [State.fitsSlot, State.slotType?, i2, g1, g2, fits]
  · have := hq true (writeActs ⟨s.heap.size, n⟩ .plain (.ref (q4_s s cA cI n).heap.size) acts')
    rw [i1, q4_set]
    rw [i1] at this
    exact this
theorem q4_once {n : Nat} (hn : n < 4) (g1 : s.vm.classes[cA]? = some kA) (g2 : kA.kind = .array cI (.array .int)) (h1 : s.vm.classes[cI]? = some kI) (h2 : kI.kind = .array cc .int) (p1 : 40 ≤ e.platform.arrayLengthLimit) (p2 : 160 ≤ e.platform.maxHeapBytes) (p3 : s.heap.size + 5 ≤ e.platform.maxCells) (p4 : s.slotsUsed + 164 ≤ e.platform.maxSlots) {Q : ForInStep PUnit → Pre} (hq : ∀ d' acts', Q (.yield PUnit.unit) d' acts' (q4_s s cA cI (n + 1))) : wp (do
    let a ← Op.multianewarray.make cI [40]
    Jvm.writeLoc s.heap.size n (.ref a)
    Pure.pure (ForInStep.yield PUnit.unit)) Q Ec e d acts (q4_s s cA cI n) := by
  rw [wp_bind']
  have w := q4_pass (Ec := Ec) (d := d) (acts := acts) hn g1 g2 h1 h2 p1 p2 p3 p4 (Q := fun _ => Q (.yield PUnit.unit)) hq
  have ew : (fun a => wp (do
      Jvm.writeLoc s.heap.size n (.ref a)
      Pure.pure (ForInStep.yield PUnit.unit)) Q Ec e) = fun a => wp (Jvm.writeLoc s.heap.size n (.ref a)) (fun _ => Q (.yield PUnit.unit)) Ec e := by
    funext a d' acts' s'
    rw [wp_bind']
    rfl
  rw [ew]
  exact w
theorem q4_make (g1 : s.vm.classes[cA]? = some kA) (g2 : kA.kind = .array cI (.array .int)) (h1 : s.vm.classes[cI]? = some kI) (h2 : kI.kind = .array cc .int) (p1 : 40 ≤ e.platform.arrayLengthLimit) (p2 : 160 ≤ e.platform.maxHeapBytes) (p3 : s.heap.size + 5 ≤ e.platform.maxCells) (p4 : s.slotsUsed + 164 ≤ e.platform.maxSlots) {Q : Addr → Pre} (hq : ∀ d' acts', Q s.heap.size d' acts' (q4_s s cA cI 4)) : wp (Op.multianewarray.make cA [4, 40]) Q Ec e d acts s := by
  rw [Op.multianewarray.make]
  simp only [wp_bind', show ¬ ((4 : Int32) < 0) by decide, show ((4 : Int32) == 0) = false by decide, Bool.false_eq_true, if_false, wp_pure', W.theClass, g1, g2, Option.some.injEq, exists_eq_left', show (4 : Int32).toNatClampNeg = 4 by decide]
  refine W.newArray_of g1 g2 (by omega) (by show ¬ 4 * 4 > _; omega) (by omega) (by omega) rfl fun acts' => ?_
  rw [q4_o0 cA s.heap.size]
  show wp _ _ _ _ _ _ (q4_s s cA cI 0)
  rw [Std.Legacy.Range.forIn_eq_forIn_range', wp_bind']
  show wp (forIn [0, 1, 2, 3] PUnit.unit _) _ _ _ _ _ _
  rw [List.forIn_cons, wp_bind']
  refine q4_once (n := 0) (by decide) g1 g2 h1 h2 p1 p2 p3 p4 fun _ _ => ?_
  show wp (forIn [1, 2, 3] PUnit.unit _) _ _ _ _ _ _
  rw [List.forIn_cons, wp_bind']
  refine q4_once (n := 1) (by decide) g1 g2 h1 h2 p1 p2 p3 p4 fun _ _ => ?_
  show wp (forIn [2, 3] PUnit.unit _) _ _ _ _ _ _
  rw [List.forIn_cons, wp_bind']
  refine q4_once (n := 2) (by decide) g1 g2 h1 h2 p1 p2 p3 p4 fun _ _ => ?_
  show wp (forIn [3] PUnit.unit _) _ _ _ _ _ _
  rw [List.forIn_cons, wp_bind']
  refine q4_once (n := 3) (by decide) g1 g2 h1 h2 p1 p2 p3 p4 fun _ _ => ?_
  exact hq _ _
end Q4
section Q5
variable {p : Program} {l : Launch} {e : Env} {R : Room} {s : State} {m : MethodId} {args : Array Value} {below : List Frame} {meth : Method} {c : Code} {T : State} {locs : List Loc} {cells slots : Nat}
theorem q4_std (X : Stand p l e R s m args below meth c T locs cells slots) (cA cI : ClassId) (n : Nat) : Stand p l e R s m args below meth c (q4_s T cA cI n) locs (cells + 1 + n) (slots + 4 + 40 * n) := by
  induction n with
  | zero =>
    have h := X.pushed (q4_o cA T.heap.size 0)
    have e0 : (q4_o cA T.heap.size 0).slots.size = 4 := arrV_size ..
    rw [e0] at h
    exact h
  | succ n ih =>
    obtain ⟨i1, -, -, i4, -, -⟩ := q4_f T cA cI n
    have hc : ((q4_s T cA cI n).pushCell (q4_r cI)).heap[T.heap.size]? = some (q4_o cA T.heap.size n) := by
      have hlt : T.heap.size < (q4_s T cA cI n).heap.size := by rw [i1]; omega
      rw [State.heap_pushCell_of_lt _ _ hlt]; exact i4
    have h := (ih.pushed (q4_r cI)).stored hc n (.ref (T.heap.size + 1 + n))
    have e0 : (q4_r cI).slots.size = 40 := arrV_size ..
    rw [e0, q4_set] at h
    exact h.dropFresh (fun x hx => by rw [List.mem_singleton] at hx; subst hx; exact X.heapGrown)
theorem q4_step (X : Stand p l e R s m args below meth c T locs cells slots) (hexec : p.tables.exec = Jvm.exec) {own : String} {idx : Nat} (hown : s.vm.findClass own = some m.cls) (hl : (Cond.classLink own idx ("[" ++ (FieldType.array .int).toString)).before args s = true) (ho : (Cond.arrayOver (.array .int)).before args s = true) (ha : (Cond.arrayClass .int).before args s = true) {g : JFrame} (hg : g.method = m) (hd : decode c.code g.pc = .ok (.multianewarray idx 2, 4)) {rest : List Value} (hs : g.stack = .int 40 :: .int 4 :: rest) (hc : cells + 5 ≤ R.cells) (hw : slots + 164 ≤ R.slots) :
    ∃ (vm₁ : Vm) (cA cI : ClassId), s.vm.findClass ("[" ++ (FieldType.array .int).toString) = some cA ∧ s.vm.findClass ("[" ++ FieldType.int.toString) = some cI ∧ Stand p l e R s m args below meth c (q4_s (T.setVm vm₁) cA cI 4) locs (cells + 5) (slots + 164) ∧ ∀ t, Steps p.tables e below ((q4_s (T.setVm vm₁) cA cI 4).setTop { g with pc := g.pc + 4, stack := .ref T.heap.size :: rest }) t → Steps p.tables e below (T.setTop g) t := by
  subst hg
  obtain ⟨cI, cA, kA, o1, o2, o3, o4⟩ := q4_over ho
  obtain ⟨cI', kI, cc, a1, a2, a3⟩ := Cond.arrayClass_spec ha
  cases Option.some.inj (a1.symm.trans o1)
  obtain ⟨c0, l1, l2⟩ := Cond.classLink_spec hown hl e.platform (by rw [X.admits.platform])
  cases Option.some.inj (l1.symm.trans o4)
  obtain ⟨v1, v2, -⟩ := State.classEntry (e := e) X.warmed l2
  obtain ⟨r1, r2⟩ := X.roomAbove hc hw
  generalize T.vm.noted g.method.cls idx (.cls cA) = vm₁ at v1 v2
  have Y := q4_std (X.noted v2) cA cI 4
  refine ⟨vm₁, cA, cI, o4, a1, Y, fun t ht => ?_⟩
  obtain ⟨kA', b1, b2⟩ := v2.alike.2.2 _ _ o2
  obtain ⟨kI', b3, b4⟩ := v2.alike.2.2 _ _ a2
  have k1 : kA'.kind = .array cI (.array .int) := by rw [b2]; exact o3
  have k2 : kI'.kind = .array cc .int := by rw [b4]; exact a3
  have p1 : 40 ≤ e.platform.arrayLengthLimit := by rw [Launch.admits_arrayLengthLimit X.admits]; decide
  have p2 : 160 ≤ e.platform.maxHeapBytes := by rw [Launch.admits_maxHeapBytes X.admits]; decide
  jvm_step X.here [hexec, hd]
  simp only [Op.multianewarray.sem, wp_bind', W.resolveClassAt_links (State.method?_setTop g X.here.top) v1]
  have eS : (T.setTop g).setVm vm₁ = (T.setVm vm₁).setTop g := rfl
  rw [eS]
  refine (Jvm.Op.popN_top (args := [.int 4, .int 40]) (rest := rest) (show (T.setVm vm₁).topJava?.isSome = true from X.here.top) hs).mpr ?_
  simp only [List.mapM_cons, List.mapM_nil, wp_bind', wp_pure']
  refine q4_make (s := (T.setVm vm₁).setTop { g with stack := rest }) b1 k1 b3 k2 p1 p2 r1 r2 fun d' acts' => ?_
  rw [q4_top]
  simp only [wp_bind', W.mark, W.pushRef, State.topJava?_setTop' _ Y.here.top, Option.some.injEq, exists_eq_left', State.setTop_setTop, State.heap_setTop]
  intro acts
  simp [jvm, Y.here.top]
  exact ht
end Q5
/-! ===== four rows of forty ===== -/
def gS5 (S : Nat → Nat × Nat) (N : Nat) : Nat → Nat × Nat := fun a => if a = N then (17, 4) else if N < a ∧ a ≤ N + 4 then (13, 40) else S a
def gI5 (I : Nat → Nat → Int32) (N : Nat) : Nat → Nat → Int32 := fun a j => if N < a ∧ a ≤ N + 4 then 0 else I a j
def gQ5 (Q : Nat → Nat → Option Nat) (N : Nat) : Nat → Nat → Option Nat := fun a j => if a = N then (if j < 4 then some (N + 1 + j) else none) else Q a j
theorem gS5_o {S : Nat → Nat × Nat} {N a : Nat} (h : a < N) : gS5 S N a = S a := by unfold gS5; rw [if_neg (by omega), if_neg (by omega)]
theorem gI5_o {I : Nat → Nat → Int32} {N a : Nat} (h : a < N) : gI5 I N a = I a := by funext j; unfold gI5; rw [if_neg (by omega)]
theorem gQ5_o {Q : Nat → Nat → Option Nat} {N a : Nat} (h : a < N) : gQ5 Q N a = Q a := by funext j; unfold gQ5; rw [if_neg (by omega)]
section NM
variable {E : EV} {M : MD} {κ : Option Value → HP → Prop} {pc pc' : Nat} {L st : List Value} {cs ss : Nat} {idx : Nat} {N : Nat} {S : Nat → Nat × Nat} {I : Nat → Nat → Int32} {J : Nat → Nat → Int64} {Q : Nat → Nat → Option Nat}
theorem s_multi (hd : decode M.2.1 pc = .ok (.multianewarray idx 2, 4)) (hp : pc + 4 = pc') (hl : Cond.classLink M.1.cls idx ("[" ++ (FieldType.array .int).toString) ∈ lw_u) (hcs : cs + 5 ≤ M.2.2.2.2.2.1) (hss : ss + 164 ≤ M.2.2.2.2.2.2) (k : SP E M κ pc' L (.ref N :: st) (N + 5, gS5 S N, gI5 I N, J, gQ5 Q N) (cs + 5) (ss + 164)) : SP E M κ pc L (.int 40 :: .int 4 :: st) (N, S, I, J, Q) cs ss := by
  subst hp
  intro p l e s m args below meth c lo D ca H locs ls C g1 g2 g3 g4 g5 g6
  have hsz : H.size = lo + N := g3.1
  intro T hT X
  obtain ⟨vm₁, cA, comp, hfA, hfC, X1, step⟩ := q4_step X C.1 (own := M.1.cls) (idx := idx) C.2.2.2.2.1 (C.tb _ hl) (C.tb _ ao_I) (C.tb _ ac_int) (g := F0 m pc ls (.int 40 :: .int 4 :: st.map (cv lo))) rfl (by rw [C.2.1]; exact hd) (rest := st.map (cv lo)) rfl hcs hss
  obtain ⟨f1, -, -, f2, fo, fi⟩ := q4_f (T.setVm vm₁) cA comp 4
  have hTs : T.heap.size = lo + N := by rw [hT]; exact hsz
  generalize q4_s (T.setVm vm₁) cA comp 4 = T1 at X1 step f1 f2 fo fi
  have f1' : T1.heap.size = T.heap.size + 1 + 4 := f1
  have f2' : T1.heap[T.heap.size]? = some (q4_o cA T.heap.size 4) := f2
  have fo' : ∀ a, a < T.heap.size → T1.heap[a]? = T.heap[a]? := fo
  have fi' : ∀ j, j < 4 → T1.heap[T.heap.size + 1 + j]? = some (q4_r comp) := fi
  have hk17 : s.vm.findClass ("[" ++ (FieldType.array .int).toString) = some (ca 17) := (g2.1.2 4 (ca 17, .array .int) rfl).2
  have hk13 : s.vm.findClass ("[" ++ FieldType.int.toString) = some (ca 13) := (g2.1.2 0 (ca 13, .int) rfl).2
  have eA : ca 17 = cA := Option.some.inj (hk17.symm.trans hfA)
  have eC : ca 13 = comp := Option.some.inj (hk13.symm.trans hfC)
  have R1 : RH lo D ca (N + 5, gS5 S N, gI5 I N, J, gQ5 Q N) T1.heap := by
    refine ⟨by rw [f1', hTs]; show lo + N + 1 + 4 = lo + (N + 5); omega, fun i q hq => ?_⟩
    obtain ⟨hi, rfl⟩ := ws_of hq
    have hi5 : i < N + 5 := hi
    rcases Nat.lt_or_ge i N with z | z
    · have e : ce lo ca (N + 5, gS5 S N, gI5 I N, J, gQ5 Q N) i = ce lo ca (N, S, I, J, Q) i := ce_eq (gS5_o z) (gI5_o z) rfl (gQ5_o z)
      rw [e]
      exact (g3.2 i _ (ws_at z)).kept (by rw [← hT]; exact fo' (lo + i) (by omega))
    · rcases Nat.lt_or_ge N i with y | y
      · have sI : gS5 S N i = (13, 40) := by unfold gS5; rw [if_neg (by omega), if_pos (by omega)]
        rw [ce_I (h := (N + 5, gS5 S N, gI5 I N, J, gQ5 Q N)) (n := 40) sI]
        show T1.heap[lo + i]? = some (vp_cell (ca 13) (40, .inl (gI5 I N i)))
        have := fi' (i - (N + 1)) (by omega)
        rw [show T.heap.size + 1 + (i - (N + 1)) = lo + i by omega] at this
        rw [this, vp_cell_i, eC]
        exact congrArg some (arrV_cg (fun j _ => by unfold gI5; rw [if_pos (by omega)]))
      · obtain rfl : i = N := by omega
        have sI : gS5 S i i = (17, 4) := if_pos rfl
        rw [ce_Q (h := (i + 5, gS5 S i, gI5 I i, J, gQ5 Q i)) (n := 4) sI (by decide)]
        show T1.heap[lo + i]? = some (vp_cell (ca 17) (4, .inr (.inr (.inr (.inr (fun j => (gQ5 Q i i j).map (fun b => lo + b)))))))
        rw [← hTs, f2', vp_cell_q, eA]
        refine congrArg some (arrV_cg (fun j hj => ?_))
        have : gQ5 Q i i j = some (i + 1 + j) := by unfold gQ5; rw [if_pos rfl, if_pos hj]
        rw [this, if_pos hj, hTs]
        show Value.ref (lo + i + 1 + j) = Value.ref (lo + (i + 1 + j))
        rw [show lo + i + 1 + j = lo + (i + 1 + j) by omega]
  have S1 : va_S (fun q => lo ≤ q) s.heap T1.heap locs := ⟨Nat.le_trans g5.1 (by rw [← hT, f1']; omega), fun x h1 h2 => (by rw [fo' x (by rw [hT]; exact Nat.lt_of_lt_of_le h1 g5.1), hT]; exact g5.2.1 x h1 h2), g5.2.2⟩
  obtain ⟨t, a1, b1⟩ := k p l e s m args below meth c lo D ca T1.heap locs ls C g1 g2 R1 (g4.grow (by omega) (fun a ha => gS5_o ha) (fun a ha => gQ5_o ha)) S1 g6 T1 rfl X1
  refine ⟨t, step t ?_, b1⟩
  rw [hTs]
  exact a1
end NM
