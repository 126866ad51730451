/-! ===== a static method named by a subclass; a superclass's method, inherited there ===== -/
theorem su_sub {s : State} {args : Array Value} {C O : String} {c o : ClassId} (h1 : s.vm.findClass C = some c) (h2 : s.vm.findClass O = some o) (h : C = O ∨ (Cond.superclass C O).before args s = true) : s.vm.isSubclass c o = true := by
  rcases h with e | e
  · subst e
    have : c = o := Option.some.inj (h1.symm.trans h2)
    subst this
    simp [Vm.isSubclass, Vm.isSubclassAux]
  · obtain ⟨q, k, kp, hq, hk, -, hs, -⟩ := Cond.superclass_spec h1 e
    have : q = o := Option.some.inj (hq.symm.trans h2)
    subst this
    have hpos : 0 < s.vm.classes.size := Nat.lt_of_le_of_lt (Nat.zero_le _) (Array.getElem?_eq_some_iff.mp hk).1
    obtain ⟨z, hz⟩ : ∃ z, s.vm.classes.size = z + 1 := ⟨s.vm.classes.size - 1, by omega⟩
    simp [Vm.isSubclass, Vm.isSubclassAux, hz, hk, hs]
section UP
variable {p : Program} {l : Launch} {e : Env} {R : Room} {s : State} {m : MethodId} {args : Array Value} {below : List Frame} {meth : Method} {c : Code} {H : Heap} {locs : List Loc} {cells slots : Nat}
variable {y : MethodName} {bytes cc : ByteArray} {maxL nL mc ms n index : Nat} {ret : Option FieldType} {ws : List Cond} {rm : Room} {Pc : Array Value → State → Prop} {Qc : Array Value → State → Outcome → State → Prop} {free : Addr → Prop} {Ts : List Cond} {own C xc : String} {b : Addr} {As rest : List Value} {g : JFrame}
/-- what a call needs of the words, its method being y = owner.name -/
def cwZ (R : Room) (s : State) (args : Array Value) (y : MethodName) (bytes : ByteArray) (maxL : Nat) (ret : Option FieldType) (ws : List Cond) (rm : Room) (mc ms n : Nat) : Prop :=
  (rm.cells = mc ∧ rm.slots = ms ∧ rm.frames + 1 ≤ R.frames ∧ 8 + (maxL + 11) + rm.locals ≤ R.locals ∧ (∀ w ∈ ws, ∀ (a' : Array Value) (U : State), s.WarmedH U.vm → w.before a' U = true) ∧ Cond.code y bytes maxL ret ∈ ws) ∧ (Cond.initialized y.cls).before args s = true ∧ (Cond.code y bytes maxL ret).before args s = true ∧ (∀ sig, parseMethodDescriptor y.desc = some sig → n = sig.parameters.length)
theorem run_super (S : CallFix p m c cc nL s args Ts own) (hM : Met l y ws rm Pc Qc mc ms free) (cw : cwZ R s args y bytes maxL ret ws rm mc ms n) (hl1 : (Cond.methodLink own index ⟨xc, y.name, y.desc⟩).before args s = true) (hl2 : (Cond.sameMethod xc y.cls y.name y.desc).before args s = true) (hl3 : (Cond.superclass own xc).before args s = true) (hl4 : (Cond.instanceMethod y).before args s = true) (hl5 : xc = y.cls ∨ (Cond.superclass xc y.cls).before args s = true) (hno : y.name ≠ "<init>") (hp : PreV s H C b Pc As)
    (hg : g.method = m) (hn : As.length = n) (hsize : g.locals.size = nL) (hstack : g.stack = As.reverse ++ .ref b :: rest) (hW : 2 * g.monitorRoom + (rest.map fun v => v.category).sum ≤ 8) (hdg : decode cc g.pc = .ok (.invokespecial index, 3)) (hf : cells + mc ≤ R.cells ∧ slots + ms ≤ R.slots) :
    va_Run p l e R s m args below meth c H locs cells slots mc ms g rest (Qc (Value.ref b :: As).toArray) (free) := by
  obtain ⟨⟨hrc, hrs, hfr, hlo, hws, hcw⟩, hini, hcode, hlen⟩ := cw
  have hK : Back l R p e below s args y 3 8 (PreOf R mc ms Pc) (PostOf Qc mc ms free) := back_of (bytes := bytes) (maxL := maxL) (ret := ret) hM hp.1 hrc hrs hfr hlo hws hcw (fun a' U hW => word_at hW (Or.inl (by first | rfl | simp [Cond.onTables, Cond.keeps, Cond.steady])) hini)
  obtain ⟨hx, hb, hml, ho, -⟩ := S
  obtain ⟨-, ⟨cellB, hcB, hoB, hclB⟩, hPc⟩ := hp
  obtain ⟨kB, hkB, -⟩ := Vm.findClass_spec hclB
  obtain ⟨mk, methM, hnamed, hmethM, hstM, habM⟩ := Cond.instanceMethod_spec hl4
  obtain ⟨methM', cM, hmethM', -, -, -, -, -, -, hsigM⟩ := Cond.code_spec hnamed hcode
  cases hmethM.symm.trans hmethM'
  obtain ⟨ps, dk, kp, hps, hdk, hkp, hsuper, -, -, hnid⟩ := Cond.superclass_spec ho hl3
  have hsub : s.vm.isSubclass ps mk.cls = true := su_sub hps (findClass_of_methodNamed hnamed) hl5
  intro T hT X
  obtain ⟨vm₁, X₁, hstep₁⟩ := X.invokespecialUp hx (x := ⟨xc, y.name, y.desc⟩) (owner := y.cls) ho hl1 hl2 hnamed hmethM hstM habM hno hdk hnid hps hsuper hsub (a := b) (cell := cellB) (by rw [hT]; exact hcB)
    (fun z h => by rw [h] at hoB; cases hoB) hkB (g := g) hg (argsL := As) (rest := rest) (hn.trans (hlen _ hsigM)) hstack (by rw [hb]; exact hdg)
  obtain ⟨v, ⟨U', l2, c2, s2⟩, X', ⟨g', mk', t, L, e1, e2, hq, h1, hL, h2, h3⟩, st⟩ := hK m meth c ⟨T.setVm vm₁, locs, cells, slots⟩ { g with stack := rest } (.invokespecial index) mk (Value.ref b :: As).toArray X₁ hg (hsize.trans hml.symm) (by rw [hb]; exact hdg) hW (X₁.named hnamed) ⟨hf.1, hf.2, hPc (T.setVm vm₁) hT X₁.warmed⟩
  dsimp only [Pt.U, Pt.locs, Pt.cells, Pt.slots] at X' e1 e2 h1 h2 h3 st
  subst h1; subst h2; subst h3
  exact ⟨v, (T.setVm vm₁).calling g' mk' (Value.ref b :: As).toArray, t, U', L, hT, X', hL, e1, e2, hq, fun target h => hstep₁ _ (by rw [doInvoke_state]; exact st.trans h)⟩
end UP
section UPS
variable {Qq : Unit → Pre} {Ee : CtlPost} {e : Env} {d : Bool} {acts : List Action} {s s₀ : State} {f : JFrame}
/-- invokestatic, the named class c apart from the declaring one: as from the tables with both entries noted -/
theorem stat_cold {index ci n c : Nat} {m : MethodId} {dk ck : Class} {cf : ClassFile} {name desc : String} (hs : s.topJava?.isSome) (hp : e.platform.polymorphicOnlyByInvokevirtual = true)
    (hW : s₀.WarmedH s.vm) (hE : s₀.MethodEntryUp e s.vm f.method.cls index c m ci) (h1 : s₀.vm.classes[f.method.cls]? = some dk) (h2 : dk.cf = some cf)
    (h3 : cf.constantPool[index]? = some (if false then .interfaceMethodref ci n else .methodref ci n)) (h4 : cf.constantPool.nameAndType? n = some (name, desc)) (hck : s₀.vm.classes[c]? = some ck) (hno : (ck.methods.any fun x => x.name == name && !x.isStatic && signaturePolymorphic ck x) = false) :
    wp (invokestatic.sem index) Qq Ee e d acts (s.setTop f) ↔ wp (invokestatic.sem index) Qq Ee e d acts ((s.setVm (s.vm.calledUp f.method.cls ci index c m)).setTop f) := by
  obtain ⟨hgc, -, hW₁, hgm⟩ := hE.classFirst
  have tA := State.method?_setTop f hs
  have tB := State.method?_setTop (s := s.setVm (s.vm.calledUp f.method.cls ci index c m)) f hs
  have tC := State.method?_setTop (s := s.setVm (s.vm.noted f.method.cls ci (.cls c))) f hs
  obtain ⟨kA, a1, a2⟩ := hW.alike.2.2 _ _ h1
  obtain ⟨kB, b1, b2⟩ := hE.warmed.alike.2.2 _ _ h1
  obtain ⟨cA, ca1, ca2⟩ := hW₁.alike.2.2 _ _ hck
  obtain ⟨cB, cb1, cb2⟩ := hE.warmed.alike.2.2 _ _ hck
  have nA : (cA.methods.any fun x => x.name == name && !x.isStatic && signaturePolymorphic cA x) = false := by rw [ca2]; exact hno
  have nB : (cB.methods.any fun x => x.name == name && !x.isStatic && signaturePolymorphic cB x) = false := by rw [cb2]; exact hno
  have rA := memberRef_ask_via (e := e) a1 (by rw [a2]; exact h2) h3 h4
  have rB := memberRef_ask_via (e := e) b1 (by rw [b2]; exact h2) h3 h4
  have L1 : ∀ {Q' : ClassId → Pre} {d' : Bool} {acts' : List Action}, wp (Jvm.resolveClassAt ci) Q' Ee e d' acts' (s.setTop f) ↔ Q' c d' acts' ((s.setVm (s.vm.noted f.method.cls ci (.cls c))).setTop f) := W.resolveClassAt_links (t := s.setTop f) tA hgc
  have L2 : ∀ {Q' : MethodId → Pre} {d' : Bool} {acts' : List Action}, wp (Jvm.resolveMethodAt index) Q' Ee e d' acts' ((s.setVm (s.vm.noted f.method.cls ci (.cls c))).setTop f) ↔ Q' m d' acts' ((s.setVm (s.vm.calledUp f.method.cls ci index c m)).setTop f) := W.resolveMethodAt_links (t := (s.setVm (s.vm.noted f.method.cls ci (.cls c))).setTop f) tC hgm
  simp [invokestatic.sem, hp, Seam.memberRefOf, tA, tB, rA, rB, L1, L2, W.resolveClassAt_ready (s := (s.setVm (s.vm.calledUp f.method.cls ci index c m)).setTop f) tB hE.classReady, ca1, cb1, nA, nB, W.resolveMethodAt_ready (s := (s.setVm (s.vm.calledUp f.method.cls ci index c m)).setTop f) tB hE.ready, -Array.any_eq_true]
end UPS
section UQ
variable {p : Program} {l : Launch} {e : Env} {R : Room} {s : State} {m : MethodId} {args : Array Value} {below : List Frame} {meth : Method} {c : Code} {H : Heap} {locs : List Loc} {cells slots : Nat}
variable {y : MethodName} {bytes cc : ByteArray} {maxL nL mc ms n index : Nat} {ret : Option FieldType} {ws : List Cond} {rm : Room} {Pc : Array Value → State → Prop} {Qc : Array Value → State → Outcome → State → Prop} {free : Addr → Prop} {Ts : List Cond} {own xc : String} {As rest : List Value} {g : JFrame}
theorem run_stat (S : CallFix p m c cc nL s args Ts own) (hM : Met l y ws rm Pc Qc mc ms free) (cw : cwZ R s args y bytes maxL ret ws rm mc ms n) (hl1 : (Cond.methodLink own index ⟨xc, y.name, y.desc⟩).before args s = true) (hl2 : (Cond.sameMethod xc y.cls y.name y.desc).before args s = true) (hl4 : (Cond.static y).before args s = true) (hy : y.cls ≠ "java/lang/invoke/MethodHandle" ∧ y.cls ≠ "java/lang/invoke/VarHandle") (hp : PreS s H Pc As)
    (hg : g.method = m) (hn : As.length = n) (hsize : g.locals.size = nL) (hstack : g.stack = As.reverse ++ rest) (hW : 2 * g.monitorRoom + (rest.map fun v => v.category).sum ≤ 8) (hdg : decode cc g.pc = .ok (.invokestatic index, 3)) (hf : cells + mc ≤ R.cells ∧ slots + ms ≤ R.slots) :
    va_Run p l e R s m args below meth c H locs cells slots mc ms g rest (Qc As.toArray) (free) := by
  obtain ⟨⟨hrc, hrs, hfr, hlo, hws, hcw⟩, hini, hcode, hlen⟩ := cw
  have hK : Back l R p e below s args y 3 8 (PreOf R mc ms Pc) (PostOf Qc mc ms free) := back_of (bytes := bytes) (maxL := maxL) (ret := ret) hM hp.1 hrc hrs hfr hlo hws hcw (fun a' U hW => word_at hW (Or.inl (by first | rfl | simp [Cond.onTables, Cond.keeps, Cond.steady])) hini)
  obtain ⟨hx, hb, hml, ho, -⟩ := S
  obtain ⟨mk, hnamed⟩ := Cond.code_named hcode
  obtain ⟨methM, cM, hmethM, -, -, -, -, -, -, hsigM⟩ := Cond.code_spec hnamed hcode
  have hstatic : methM.isStatic = true := Cond.static_spec hnamed hmethM hl4
  obtain ⟨kP, hkP, hnP⟩ := className_of_methodNamed hnamed
  have hinitP : kP.init = .initialized := Cond.initialized_spec (findClass_of_methodNamed hnamed) hkP hini
  intro T hT X
  have hpl : e.platform.magicAccessors = ({} : Platform).magicAccessors := by rw [X.admits.platform]
  have hpv : e.platform.polymorphicOnlyByInvokevirtual = true := by rw [X.admits.platform]
  obtain ⟨cn, ck, r1, hcn, hck, hni, hfd, hn1⟩ := Cond.sameMethod_found hl2
  have hn1' : s.methodNamed? y = some r1 := hn1
  cases hnamed.symm.trans hn1'
  obtain ⟨ci, hlk, hright⟩ := Cond.methodLink_specUp (x := ⟨xc, y.name, y.desc⟩) ho hcn hck hni hfd hl1 e.platform hpl (by rw [X.admits.platform])
  have hE : s.MethodEntryUp e T.vm m.cls index cn mk ci := State.methodEntryUp X.warmed hlk hright
  obtain ⟨dk, cfile, nt, mname, mdesc, ck', _, _, hd, hcf, hcp, hnt, -, -, hck', -, hnp, -⟩ := hlk.here
  cases hck.symm.trans hck'
  have al := hE.warmed.alike
  obtain ⟨d2, d2a, d2b⟩ := al.2.2 _ _ hd
  obtain ⟨k2, k2a, k2b⟩ := al.2.2 _ _ hkP
  obtain ⟨q2, q2a, q2b⟩ := al.2.2 _ _ hck
  have hno : (ck.methods.any fun z => z.name == mname && !z.isStatic && signaturePolymorphic ck z) = false := by simp [hnp]
  have hno2 : (q2.methods.any fun z => z.name == mname && !z.isStatic && signaturePolymorphic q2 z) = false := by rw [q2b]; exact hno
  have hcp' : cfile.constantPool[index]? = some (if false then .interfaceMethodref ci nt else .methodref ci nt) := hcp
  have X₁ := X.noted hE.warmed
  subst hg
  obtain ⟨v, ⟨U', l2, c2, s2⟩, X', ⟨g', mk', t, L, e1, e2, hq, h1, hL, h2, h3⟩, st⟩ := hK g.method meth c ⟨T.setVm (T.vm.calledUp g.method.cls ci index cn mk), locs, cells, slots⟩ { g with stack := rest } (.invokestatic index) mk As.toArray X₁ rfl (hsize.trans hml.symm) (by rw [hb]; exact hdg) hW (X₁.named hnamed) ⟨hf.1, hf.2, hp.2 (T.setVm (T.vm.calledUp g.method.cls ci index cn mk)) hT X₁.warmed⟩
  dsimp only [Pt.U, Pt.locs, Pt.cells, Pt.slots] at X' e1 e2 h1 h2 h3 st
  subst h1; subst h2; subst h3
  refine ⟨v, (T.setVm (T.vm.calledUp g.method.cls ci index cn mk)).calling g' mk' As.toArray, t, U', L, hT, X', hL, e1, e2, hq, fun target h => ?_⟩
  subst hb
  jvm_step X.here [hx, hdg, stat_cold (e := e) (s := T) (s₀ := s) (f := g) X.here.top hpv X.warmed hE hd hcf hcp' hnt hck hno,
    invokestatic.wp_ready (e := e) (s := T.setVm (T.vm.calledUp g.method.cls ci index cn mk)) (k := k2) (meth := methM) (m := mk) (args := As) (rest := rest) (f := g)
      X.here.top ⟨ci, mname, mdesc, false, cn, q2, memberRef_ask_via (e := e) d2a (by rw [d2b]; exact hcf) hcp' hnt, hE.classReady, q2a, hno2⟩ hE.ready k2a
      (by show (T.vm.calledUp g.method.cls ci index cn mk).method? mk = some methM; rw [al.method?]; exact hmethM)
      (by rw [k2b]; show signaturePolymorphic kP methM = false; simp [signaturePolymorphic, hnP, hy.1, hy.2]) hstatic (by rw [k2b]; exact hinitP) (hn.trans (hlen _ hsigM)) hstack]
  intro acts
  rw [doInvoke_state]
  exact st.trans h
end UQ
section DZ
variable {E : EV} {M M' : MD} {κ : Option Value → HP → Prop} {pc pc' : Nat} {L st stk As : List Value} {h : HP} {cs ss : Nat} {a ci n np idx : Nat} {xc : String}
theorem cwZ_of {p : Program} {s : State} {m : MethodId} {args : Array Value} {meth : Method} {c : Code} (C : CX M p s m args meth c) (hM : MOK M' np) (hrm : RM M M' cs ss) : cwZ (mRm M) s args M'.1 M'.2.1 M'.2.2.1 M'.2.2.2.1 (mWs M') (mRm M') M'.2.2.2.2.2.1 M'.2.2.2.2.2.2 np := by
  refine ⟨⟨rfl, rfl, hrm.R.1, hrm.R.2, pay_in C.tb (good_ws hM.1), List.mem_cons_self⟩, C.tb _ hM.2.1, C.tb _ hM.1, fun sig hs => ?_⟩
  have h2 := hM.2.2.1.2.2
  rw [hs] at h2
  exact (Option.some.inj h2).symm
theorem s_callST (hd : decode M.2.1 pc = .ok (.invokestatic idx, 3)) (hp : pc + 3 = pc') (hM : MOK M' np) (hl : Cond.methodLink M.1.cls idx ⟨xc, M'.1.name, M'.1.desc⟩ ∈ lw_u) (hsm : Cond.sameMethod xc M'.1.cls M'.1.name M'.1.desc ∈ lw_u) (hi : Cond.static M'.1 ∈ lw_u) (hk : stk = As.reverse ++ st) (hn : As.length = np) (hrm : RM M M' cs ss) (hst : (st.map fun v => v.category).sum ≤ 8) (k : CT E M' As h (fun r h' => SP E M κ pc' L (r.toList ++ st) h' (cs + M'.2.2.2.2.2.1) (ss + M'.2.2.2.2.2.2))) : SP E M κ pc L stk h cs ss := by
  subst hp; subst hk
  intro p l e s m args below meth c lo D ca H locs ls C g1 g2 g3 g4 g5 g6
  refine w_call (run_stat (As := As.map (cv lo)) (rest := st.map (cv lo)) (xc := xc) ⟨C.1, C.2.1, C.2.2.2.1, C.2.2.2.2.1, C.2.2.2.2.2.1⟩ (k l lo D ca) (cwZ_of C hM hrm) (C.tb _ hl) (C.tb _ hsm) (C.tb _ hi) ⟨hM.2.2.1.1, hM.2.2.1.2.1⟩ ⟨PK.blind, PK.of (av := As) (p := p) (m := m) (args := args) (meth := meth) (c := c) g1 g2 g3 g4 g5⟩ rfl (by rw [List.length_map]; exact hn) g6.2.1 (by rw [List.map_append, List.map_reverse]) (lv_room (by rw [cat_sum]; exact hst)) hd ⟨hrm.2.2.1, hrm.2.2.2⟩) g5 ?_
  intro r h' H1 locs1 hκ hR hW hS
  rw [cont]
  exact hκ p l e s m args below meth c lo D ca H1 locs1 ls C g1 g2 hR hW hS g6
theorem s_callSU (hd : decode M.2.1 pc = .ok (.invokespecial idx, 3)) (hp : pc + 3 = pc') (hM : MOK M' np) (hl : Cond.methodLink M.1.cls idx ⟨xc, M'.1.name, M'.1.desc⟩ ∈ lw_u) (hsm : Cond.sameMethod xc M'.1.cls M'.1.name M'.1.desc ∈ lw_u) (hsu : Cond.superclass M.1.cls xc ∈ lw_u) (hi : Cond.instanceMethod M'.1 ∈ lw_u) (hs2 : xc = M'.1.cls ∨ Cond.superclass xc M'.1.cls ∈ lw_u) (hno : M'.1.name ≠ "<init>") (hs : Sh E h a ci n) (hc : ci < 13) (hk : stk = As.reverse ++ .ref a :: st) (hn : As.length = np) (hrm : RM M M' cs ss) (hst : (st.map fun v => v.category).sum ≤ 8) (k : CT E M' (.ref a :: As) h (fun r h' => SP E M κ pc' L (r.toList ++ st) h' (cs + M'.2.2.2.2.2.1) (ss + M'.2.2.2.2.2.2))) : SP E M κ pc L stk h cs ss := by
  subst hp; subst hk
  intro p l e s m args below meth c lo D ca H locs ls C g1 g2 g3 g4 g5 g6
  refine w_call (run_super (As := As.map (cv lo)) (rest := st.map (cv lo)) (xc := xc) (b := lo + a) ⟨C.1, C.2.1, C.2.2.2.1, C.2.2.2.2.1, C.2.2.2.2.2.1⟩ (k l lo D ca) (cwZ_of C hM hrm) (C.tb _ hl) (C.tb _ hsm) (C.tb _ hsu) (C.tb _ hi) (hs2.imp id (fun z => C.tb _ z)) hno ⟨PK.blind, recv (p := p) hs hc g2 g3 g4, PK.of (av := .ref a :: As) (p := p) (m := m) (args := args) (meth := meth) (c := c) g1 g2 g3 g4 g5⟩ rfl (by rw [List.length_map]; exact hn) g6.2.1 (by rw [List.map_append, List.map_reverse]; rfl) (lv_room (by rw [cat_sum]; exact hst)) hd ⟨hrm.2.2.1, hrm.2.2.2⟩) g5 ?_
  intro r h' H1 locs1 hκ hR hW hS
  rw [cont]
  exact hκ p l e s m args below meth c lo D ca H1 locs1 ls C g1 g2 hR hW hS g6
end DZ
