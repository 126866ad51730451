/-! ===== objects that come later, their classes, calls that are chosen by the class ===== -/
def nS (S : Nat → Nat × Nat) (N : Nat) (k : Nat × Nat) : Nat → Nat × Nat := fun a => if a = N then k else S a
def zI (I : Nat → Nat → Int32) (N : Nat) : Nat → Nat → Int32 := fun a j => if a = N then 0 else I a j
def zQ (Q : Nat → Nat → Option Nat) (N : Nat) : Nat → Nat → Option Nat := fun a j => if a = N then none else Q a j
def zJ (J : Nat → Nat → Int64) (N : Nat) : Nat → Nat → Int64 := fun a j => if a = N then 0 else J a j
theorem nS_o {S : Nat → Nat × Nat} {N a : Nat} {k : Nat × Nat} (h : a ≠ N) : nS S N k a = S a := by simp [nS, h]
theorem nS_s {S : Nat → Nat × Nat} {N : Nat} {k : Nat × Nat} : nS S N k N = k := by simp [nS]
theorem zI_o {I : Nat → Nat → Int32} {N a : Nat} (h : a ≠ N) : zI I N a = I a := by funext j; simp [zI, h]
theorem zQ_o {Q : Nat → Nat → Option Nat} {N a : Nat} (h : a ≠ N) : zQ Q N a = Q a := by funext j; simp [zQ, h]
theorem zJ_o {J : Nat → Nat → Int64} {N a : Nat} (h : a ≠ N) : zJ J N a = J a := by funext j; simp [zJ, h]
theorem zI_s {I : Nat → Nat → Int32} {N j : Nat} : zI I N N j = 0 := by simp [zI]
theorem zQ_s {Q : Nat → Nat → Option Nat} {N j : Nat} : zQ Q N N j = none := by simp [zQ]
theorem zJ_s {J : Nat → Nat → Int64} {N j : Nat} : zJ J N N j = 0 := by simp [zJ]
section DY
variable {E : EV} {M M' : MD} {κ : Option Value → HP → Prop} {pc pc' : Nat} {L st stk As : List Value} {h : HP} {cs ss : Nat} {a ci n np idx : Nat} {N : Nat} {S : Nat → Nat × Nat} {I : Nat → Nat → Int32} {J : Nat → Nat → Int64} {Q : Nat → Nat → Option Nat}
theorem WF.grow {N' : Nat} {S' : Nat → Nat × Nat} {I' : Nat → Nat → Int32} {J' : Nat → Nat → Int64} {Q' : Nat → Nat → Option Nat} (w : WF E (N, S, I, J, Q)) (h1 : N ≤ N') (h2 : ∀ a, a < N → S' a = S a) (h3 : ∀ a, a < N → Q' a = Q a) : WF E (N', S', I', J', Q') := by
  obtain ⟨w1, w2, w3⟩ := w
  have w1' : E.1 ≤ N := w1
  exact ⟨Nat.le_trans w1 h1, fun a ha => (h2 a (by omega)).trans (w2 a ha), fun a ha j v hv => by show Q' a j = v; rw [h3 a (by omega)]; exact w3 a ha j v hv⟩
theorem dflt {ci j N lo : Nat} (hc : ci < 13) (hj : j < nf ci) : defaultValue (cTy ci j) = cv lo (fv (N + 1, nS S N (ci, 0), zI I N, J, zQ Q N) ci N j) := by
  rcases tyF ci hc j hj with ⟨e1, e2⟩ | ⟨e1, e2⟩ | ⟨e1, e2⟩
  · rw [e2]; simp [fv, e1, zI, cv, defaultValue]
  · rw [e2]; simp [fv, e1, zI, cv, defaultValue]
  · have : defaultValue (cTy ci j) = .null := by
      cases ht : cTy ci j <;> rw [ht] at e2 <;> first | rfl | (simp [FieldType.isReference] at e2)
    rw [this]; simp [fv, e1, zQ, vr, cv]
theorem s_new (hd : decode M.2.1 pc = .ok (.new idx, 3)) (hp : pc + 3 = pc') (hc : ci < 13) (hcl : Cond.classLink M.1.cls idx (cQ ci).1 ∈ lw_u) (hin : Cond.instantiable (cQ ci).1 (nf ci) ∈ lw_u) (hini : Cond.initialized (cQ ci).1 ∈ lw_u) (hcs : cs + 1 ≤ M.2.2.2.2.2.1) (hss : ss + nf ci ≤ M.2.2.2.2.2.2)
    (k : SP E M κ pc' L (.ref N :: st) (N + 1, nS S N (ci, 0), zI I N, J, zQ Q N) (cs + 1) (ss + nf ci)) : SP E M κ pc L st (N, S, I, J, Q) cs ss := by
  subst hp
  intro p l e s m args below meth c lo D ca H locs ls C g1 g2 g3 g4 g5 g6
  obtain ⟨c1, c2, c3, c4, c5⟩ := clsF ci hc
  have hKn := g2.1.1 ci _ c1
  refine W.newcK C.1 C.2.1 C.2.2.2.2.1 (C.tb _ hcl) (C.tb _ hin) (C.tb _ hini) rfl hd hcs hss hKn.2.1 rfl fun H1 kC hkC e1 z1 o1 => ?_
  have hsz : H.size = lo + N := g3.1
  have R1 : RH lo D ca (N + 1, nS S N (ci, 0), zI I N, J, zQ Q N) H1 := by
    refine RH.push g3 rfl (fun b hb => ?_) z1 o1 ?_
    · have hb' : b ≠ N := Nat.ne_of_lt hb
      exact ce_eq (nS_o hb') (zI_o hb') rfl (zQ_o hb')
    · show va_at D classes (lo + N, ce lo ca (N + 1, nS S N (ci, 0), zI I N, J, zQ Q N) N) H1
      rw [ce_obj (h := (N + 1, nS S N (ci, 0), zI I N, J, zQ Q N)) (n := 0) nS_s hc]
      rw [hsz] at e1
      refine ⟨_, c1, (u_born (cTy ci) C.tb c2 hKn hkC e1 c3).to (fun j hj => ?_)⟩
      rw [c5] at hj
      unfold vp_V
      rw [List.getD_eq_getElem?_getD, List.getElem?_map, List.getElem?_range hj]
      exact dflt hc hj
  have S1 : va_S (fun q => lo ≤ q) s.heap H1 locs := ⟨Nat.le_trans g5.1 (by omega), fun x h1 h2 => (o1 x (Nat.lt_of_lt_of_le h1 g5.1)).trans (g5.2.1 x h1 h2), g5.2.2⟩
  have := k p l e s m args below meth c lo D ca H1 locs ls C g1 g2 R1 (g4.grow (by omega) (fun a ha => nS_o (Nat.ne_of_lt ha)) (fun a ha => zQ_o (Nat.ne_of_lt ha))) S1 g6
  rw [hsz]
  exact this
theorem recv {p : Program} {s : State} {lo : Nat} {D : va_G} {ca : Nat → ClassId} {H : Heap} (hs : Sh E h a ci n) (hc : ci < 13) (g2 : KW D ca s) (g3 : RH lo D ca h H) (g4 : WF E h) : ∃ cell : Cell, H[lo + a]? = some cell ∧ cell.vm.isStatics = false ∧ s.vm.findClass (cQ ci).1 = some cell.cls := by
  obtain ⟨ha, hsh⟩ := hs.al g4
  have he := ws_at (lo := lo) (ca := ca) ha
  rw [ce_obj hsh hc] at he
  exact va_recv g2.1 g3.2 (clsF ci hc).1 he
theorem s_inst1 {nm : String} (hd : decode M.2.1 pc = .ok (.instanceof idx, 3)) (hp : pc + 3 = pc') (hs : Sh E h a ci n) (hc : ci < 13) (hl : Cond.classLink M.1.cls idx nm ∈ lw_u) (hc2 : (cQ ci).1 = nm ∨ Cond.castable (cQ ci).1 nm ∈ lw_u) (k : SP E M κ pc' L (.int 1 :: st) h cs ss) : SP E M κ pc L (.ref a :: st) h cs ss := by
  subst hp
  intro p l e s m args below meth c lo D ca H locs ls C g1 g2 g3 g4 g5 g6
  have hr := recv (p := p) hs hc g2 g3 g4
  rcases hc2 with e1 | e1
  · subst e1
    exact va_instS C.1 C.2.1 C.2.2.2.2.1 (C.tb _ hl) (g2.1.1 ci _ (clsF ci hc).1).2 hr hd (k p l e s m args below meth c lo D ca H locs ls C g1 g2 g3 g4 g5 g6)
  · exact va_instY C.1 C.2.1 C.2.2.2.2.1 (C.tb _ hl) (va_Nw.of rfl (C.tb _ e1)) hr hd (k p l e s m args below meth c lo D ca H locs ls C g1 g2 g3 g4 g5 g6)
theorem s_cast {nm : String} (hd : decode M.2.1 pc = .ok (.checkcast idx, 3)) (hp : pc + 3 = pc') (hs : Sh E h a ci n) (hc : ci < 13) (hl : Cond.classLink M.1.cls idx nm ∈ lw_u) (hc2 : (cQ ci).1 = nm ∨ Cond.castable (cQ ci).1 nm ∈ lw_u) (k : SP E M κ pc' L (.ref a :: st) h cs ss) : SP E M κ pc L (.ref a :: st) h cs ss := by
  subst hp
  intro p l e s m args below meth c lo D ca H locs ls C g1 g2 g3 g4 g5 g6
  have hr := recv (p := p) hs hc g2 g3 g4
  rcases hc2 with e1 | e1
  · subst e1
    exact va_castS C.1 C.2.1 C.2.2.2.2.1 (C.tb _ hl) (g2.1.1 ci _ (clsF ci hc).1).2 hr hd (k p l e s m args below meth c lo D ca H locs ls C g1 g2 g3 g4 g5 g6)
  · exact va_castY C.1 C.2.1 C.2.2.2.2.1 (C.tb _ hl) (va_Nw.of rfl (C.tb _ e1)) hr hd (k p l e s m args below meth c lo D ca H locs ls C g1 g2 g3 g4 g5 g6)
theorem s_inst0 {nm : String} (hd : decode M.2.1 pc = .ok (.instanceof idx, 3)) (hp : pc + 3 = pc') (hs : Sh E h a ci n) (hc : ci < 13) (hl : Cond.classLink M.1.cls idx nm ∈ lw_u) (hc2 : ((cQ ci).1, nm) ∈ ncl) (k : SP E M κ pc' L (.int 0 :: st) h cs ss) : SP E M κ pc L (.ref a :: st) h cs ss := by
  subst hp
  intro p l e s m args below meth c lo D ca H locs ls C g1 g2 g3 g4 g5 g6
  exact va_instNo C.1 C.2.1 C.2.2.2.2.1 (C.tb _ hl) (g2.2.1 _ hc2) (recv (p := p) hs hc g2 g3 g4) hd (k p l e s m args below meth c lo D ca H locs ls C g1 g2 g3 g4 g5 g6)
/-- a call that is chosen by the receiver's class -/
theorem s_callU {owner : String} {x : MethodName} {b0 : ByteArray} {m0 : Nat} {r0 : Option FieldType} (hd : decode M.2.1 pc = .ok (.invokevirtual idx, 3)) (hp : pc + 3 = pc') (hM : MOK M' np) (hl : Cond.methodLink M.1.cls idx x ∈ lw_u) (hsm : Cond.sameMethod x.cls owner x.name x.desc ∈ lw_u) (ho : Cond.instanceMethod ⟨owner, x.name, x.desc⟩ ∈ lw_u) (h0 : Cond.code ⟨owner, x.name, x.desc⟩ b0 m0 r0 ∈ lw_u) (hdd : owner ≠ "java/lang/invoke/MethodHandle" ∧ owner ≠ "java/lang/invoke/VarHandle" ∧ (parseMethodDescriptor x.desc).map (fun d => d.parameters.length) = some np)
    (hse : Cond.selects (cQ ci).1 x M'.1 ∈ lw_u) (hi : Cond.instanceMethod M'.1 ∈ lw_u) (hs : Sh E h a ci n) (hc : ci < 13) (hk : stk = As.reverse ++ .ref a :: st) (hn : As.length = np) (hrm : RM M M' cs ss) (hst : (st.map fun v => v.category).sum ≤ 8) (k : CT E M' (.ref a :: As) h (fun r h' => SP E M κ pc' L (r.toList ++ st) h' (cs + M'.2.2.2.2.2.1) (ss + M'.2.2.2.2.2.2))) : SP E M κ pc L stk h cs ss := by
  subst hp; subst hk
  intro p l e s m args below meth c lo D ca H locs ls C g1 g2 g3 g4 g5 g6
  have hmet := k l lo D ca
  have hrecv := recv (p := p) hs hc g2 g3 g4
  refine w_call (va_runU (As := As.map (cv lo)) (rest := st.map (cv lo)) (b := lo + a) (owner := owner) ⟨C.1, C.2.1, C.2.2.2.1, C.2.2.2.2.1, C.2.2.2.2.2.1⟩ hmet (va_cwO np C.2.2.2.2.2.1 (good_in hM.1 (l := [.methodLink M.1.cls idx x, .sameMethod x.cls owner x.name x.desc, .instanceMethod ⟨owner, x.name, x.desc⟩, .selects (cQ ci).1 x M'.1, .instanceMethod M'.1, .initialized M'.1.cls]) (by
    intro w hw
    simp only [List.mem_cons, List.not_mem_nil, or_false] at hw
    rcases hw with rfl | rfl | rfl | rfl | rfl | rfl
    · exact ⟨hl, rfl⟩
    · exact ⟨hsm, rfl⟩
    · exact ⟨ho, rfl⟩
    · exact ⟨hse, rfl⟩
    · exact ⟨hi, rfl⟩
    · exact ⟨hM.2.1, rfl⟩)) rfl rfl rfl h0 hdd hrm.R) ⟨PK.blind, hrecv, PK.of (av := .ref a :: As) (p := p) (m := m) (args := args) (meth := meth) (c := c) g1 g2 g3 g4 g5⟩ rfl (by rw [List.length_map]; exact hn) g6.2.1 (by rw [List.map_append, List.map_reverse]; rfl) (lv_room (by rw [cat_sum]; exact hst)) hd ⟨hrm.2.2.1, hrm.2.2.2⟩) g5 ?_
  intro r h' H1 locs1 hκ hR hW hS
  rw [cont]
  exact hκ p l e s m args below meth c lo D ca H1 locs1 ls C g1 g2 hR hW hS g6
end DY
