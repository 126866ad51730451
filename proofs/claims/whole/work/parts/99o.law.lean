/-! THE CLAIM OUT OF ONE WALK OF THE LAW'S BODY. Your part is whole_start (and what it stands on); all else here is the same for every law, but numbers. -/
def R_law : String := "HeroSheetLaw"
def lw_P (b : Addr) (xs : List Int32) (args : Array Value) (s : State) : Prop := args = #[.ref b] ∧ s.IntsAt b xs ∧ xs.length ≤ 3072 ∧ (Jvm.Cond.and given_1 narrow_1).before args s = true
def lw_Q (_ : Array Value) (s : State) (o : Outcome) (t : State) : Prop := o = .returned (some (.int 1)) ∧ Framed s o t [] 600000 7302250
def lw_Z (below : List Frame) (a : Array Value) (s : State) : State → Prop := fun t => ∃ o, t.status = .running ∧ Ended t below o ∧ lw_Q a s o t
/-- the law's own end, with 1 on the stack, nothing written that was there before, its room as the claim has it -/
theorem lw_ret {p : Program} {l : Launch} {e : Env} {s : State} {m : MethodId} {below : List Frame} {meth : Method} {c : Code} {b : Nat} (hx : p.tables.exec = Jvm.exec) (hb : c.code = code) (hr : meth.sig.returnType = ret) (hlocks : meth.locks = false) {pc : Nat} {H : Heap} {ls : Array Slot} (hdg : decode code pc = .ok (.ireturn, 1)) : W p l e room_1 s m #[Value.ref b] below meth c H [] 600000 7302250 (lw_Z below #[Value.ref b] s) (F0 m pc ls [.int 1]) := by
  intro T hT X
  obtain ⟨fs, hret, hrun, hended, hW, hframe⟩ := X.leave (v := some (.int 1)) (hlocks := hlocks) (fun h => by rw [hr] at h; cases h)
  have hmeth' : T.vm.method? m = some meth := X.method'
  refine ⟨T.setFrames fs, ?_, .returned (some (.int 1)), hrun, hended, rfl, ⟨_, rfl⟩, hW, hframe⟩
  jvm_step X.here [X.here.top, hx, hb, hdg, hmeth', hr, ret, narrow_b1]
  (try refine ⟨rfl, ?_⟩); (try refine ⟨rfl, ?_⟩)
  first | (intro acts; rw [hret _ acts rfl rfl rfl]) | rw [hret _ _ rfl rfl rfl]
  exact Steps.refl _
/-- what holds at the law's entry: the machine, the code, the tables' words (any of lw_tbl by 'hts w (by decide +kernel)'), the script of L ints xs at the cell b, what the Statement gives of the start (any of its parts by flat_of_before) -/
def lw_At (p : Program) (s : State) (m : MethodId) (meth : Method) (c : Code) (b L : Nat) (xs : Nat → Int32) : Prop :=
  p.tables.exec = Jvm.exec ∧ c.code = code ∧ meth.sig.returnType = ret ∧ c.maxLocals = 4 ∧ s.vm.findClass R_law = some m.cls ∧ (∀ w ∈ lw_tbl, w.before #[Value.ref b] s = true) ∧ va_X b L xs s s.heap ∧ b < s.heap.size ∧ meth.locks = false ∧ (Jvm.Cond.and given_1 narrow_1).before #[Value.ref b] s = true
/-! ===== the law's own walk ===== -/
/-- the law at pc: locals 1 .. 3 are L, the script lies at b -/
def LWP (E : EV) (b Ln : Nat) (xs : Nat → Int32) (pc : Nat) (L st : List Value) (h : HP) (cs ss : Nat) : Prop :=
  ∀ (p : Program) (l : Launch) (e : Env) (s : State) (m : MethodId) (below : List Frame) (meth : Method) (c : Code) (D : va_G) (ca : Nat → ClassId) (H : Heap) (locs : List Loc) (ls : Array Slot),
    lw_At p s m meth c b Ln xs → KW D ca s → RH s.heap.size D ca h H → WF E h → va_S (fun q => s.heap.size ≤ q) s.heap H locs → lv_has ls 4 ((0, .ref b) :: lvl s.heap.size 1 L) →
    W p l e room_1 s m #[Value.ref b] below meth c H locs cs ss (lw_Z below #[Value.ref b] s) (F0 m pc ls (st.map (cv s.heap.size)))
section LW
variable {E : EV} {b Ln : Nat} {xs : Nat → Int32} {pc pc' : Nat} {L st stk As : List Value} {h : HP} {cs ss : Nat} {M' : MD} {a a2 ci n np idx i j : Nat}
theorem lw_At.tb {p : Program} {s : State} {m : MethodId} {meth : Method} {c : Code} (C : lw_At p s m meth c b Ln xs) : ∀ w ∈ lw_u, w.before #[Value.ref b] s = true := fun w hw => C.2.2.2.2.2.1 w (List.mem_filter.mp hw).1
theorem LG {lo : Nat} {ls : Array Slot} (g : lv_has ls 4 ((0, .ref b) :: lvl lo 1 L)) {q : Nat} {v : Value} (hi : L[q]? = some v) (hr : ∀ z, v ≠ .retAddr z) : ls[1 + q]? = some (.val (cv lo v)) := g.2.2 _ (List.mem_cons_of_mem _ (lvl_mem hr L 1 q hi))
theorem LG0 {lo : Nat} {ls : Array Slot} (g : lv_has ls 4 ((0, .ref b) :: lvl lo 1 L)) : ls[0]? = some (.val (.ref b)) := g.2.2 (0, .ref b) List.mem_cons_self
theorem lp_wid {c2 s2 : Nat} (h1 : cs ≤ c2) (h2 : ss ≤ s2) (k : LWP E b Ln xs pc L st h c2 s2) : LWP E b Ln xs pc L st h cs ss := by
  intro p l e s m below meth c D ca H locs ls C g2 g3 g4 g5 g6
  exact W.widen h1 h2 (k p l e s m below meth c D ca H locs ls C g2 g3 g4 g5 g6)
theorem lp_env (hw : WF E1 h) (k : LWP E1 b Ln xs pc L st h cs ss) : LWP E b Ln xs pc L st h cs ss := by
  intro p l e s m below meth c D ca H locs ls C g2 g3 g4 g5 g6
  exact k p l e s m below meth c D ca H locs ls C g2 g3 hw g5 g6
theorem lp_eq {h' : HP} (hh : h = h') (k : LWP E b Ln xs pc L st h' cs ss) : LWP E b Ln xs pc L st h cs ss := by subst hh; exact k
theorem lp_iconst {n : Int} {v : Int32} (hd : decode code pc = .ok (.iconst n, 1)) (hp : pc + 1 = pc') (hv : Int32.ofInt n = v) (k : LWP E b Ln xs pc' L (.int v :: st) h cs ss) : LWP E b Ln xs pc L st h cs ss := by
  subst hp
  intro p l e s m below meth c D ca H locs ls C g2 g3 g4 g5 g6
  exact lv_iconst C.1 C.2.1 hd hv (k p l e s m below meth c D ca H locs ls C g2 g3 g4 g5 g6)
theorem lp_bipush {n : Int} {v : Int32} (hd : decode code pc = .ok (.bipush n, 2)) (hp : pc + 2 = pc') (hv : (Int8.ofInt n).toInt32 = v) (k : LWP E b Ln xs pc' L (.int v :: st) h cs ss) : LWP E b Ln xs pc L st h cs ss := by
  subst hp
  intro p l e s m below meth c D ca H locs ls C g2 g3 g4 g5 g6
  exact lv_bipush C.1 C.2.1 hd hv (k p l e s m below meth c D ca H locs ls C g2 g3 g4 g5 g6)
theorem lp_isub {x y : Int32} (hd : decode code pc = .ok (.isub, 1)) (hp : pc + 1 = pc') (k : LWP E b Ln xs pc' L (.int (x - y) :: st) h cs ss) : LWP E b Ln xs pc L (.int y :: .int x :: st) h cs ss := by
  subst hp
  intro p l e s m below meth c D ca H locs ls C g2 g3 g4 g5 g6
  exact lv_isub C.1 C.2.1 hd (k p l e s m below meth c D ca H locs ls C g2 g3 g4 g5 g6)
theorem lp_iand {x y : Int32} (hd : decode code pc = .ok (.iand, 1)) (hp : pc + 1 = pc') (k : LWP E b Ln xs pc' L (.int (x &&& y) :: st) h cs ss) : LWP E b Ln xs pc L (.int y :: .int x :: st) h cs ss := by
  subst hp
  intro p l e s m below meth c D ca H locs ls C g2 g3 g4 g5 g6
  exact lv_iand C.1 C.2.1 hd (k p l e s m below meth c D ca H locs ls C g2 g3 g4 g5 g6)
theorem lp_icmpgt {x y : Int32} {off : Int} {tgt : Nat} (hd : decode code pc = .ok (.if_icmp .gt off, 3)) (ht : (pc : Int) + off = (tgt : Int)) (hp : pc + 3 = pc') (kt : y < x → LWP E b Ln xs tgt L st h cs ss) (kf : ¬ (y < x) → LWP E b Ln xs pc' L st h cs ss) : LWP E b Ln xs pc L (.int y :: .int x :: st) h cs ss := by
  subst hp
  intro p l e s m below meth c D ca H locs ls C g2 g3 g4 g5 g6
  exact lv_icmp_gt C.1 C.2.1 hd ht (fun z => kt z p l e s m below meth c D ca H locs ls C g2 g3 g4 g5 g6) (fun z => kf z p l e s m below meth c D ca H locs ls C g2 g3 g4 g5 g6)
theorem lp_same {x y : Int32} {off : Int} {tgt : Nat} (hd : decode code pc = .ok (.if_icmp .eq off, 3)) (ht : (pc : Int) + off = (tgt : Int)) (hx : x = y) (k : LWP E b Ln xs tgt L st h cs ss) : LWP E b Ln xs pc L (.int y :: .int x :: st) h cs ss := by
  intro p l e s m below meth c D ca H locs ls C g2 g3 g4 g5 g6
  exact lv_icmp_eq C.1 C.2.1 hd ht (fun _ => k p l e s m below meth c D ca H locs ls C g2 g3 g4 g5 g6) (fun z => absurd hx z)
theorem lp_sameL {x y : Int64} {off : Int} {tgt : Nat} (hd : decode code pc = .ok (.lcmp, 1)) (hd2 : decode code (pc + 1) = .ok (.ifCond .eq off, 3)) (ht : ((pc + 1 : Nat) : Int) + off = (tgt : Int)) (hx : x = y) (k : LWP E b Ln xs tgt L st h cs ss) : LWP E b Ln xs pc L (.long y :: .long x :: st) h cs ss := by
  intro p l e s m below meth c D ca H locs ls C g2 g3 g4 g5 g6
  refine W.lcmp C.1 C.2.1 hd ?_
  exact lv_if_eq C.1 C.2.1 hd2 ht (fun _ => k p l e s m below meth c D ca H locs ls C g2 g3 g4 g5 g6) (fun z => absurd ((lg_cmp_eq _ _).mpr hx) z)
theorem lp_goto {off : Int} {tgt : Nat} (hd : decode code pc = .ok (.goto off, 3)) (ht : (pc : Int) + off = (tgt : Int)) (k : LWP E b Ln xs tgt L st h cs ss) : LWP E b Ln xs pc L st h cs ss := by
  intro p l e s m below meth c D ca H locs ls C g2 g3 g4 g5 g6
  exact lv_goto C.1 C.2.1 hd ht (k p l e s m below meth c D ca H locs ls C g2 g3 g4 g5 g6)
theorem lp_tabIn {dflt lo1 hi : Int} {offs : Array Int} {len : Nat} {x : Int32} {off : Int} {tgt : Nat} (hd : decode code pc = .ok (.tableswitch dflt lo1 hi offs, len)) (q1 : ¬ x.toInt < lo1) (q2 : ¬ hi < x.toInt) (ho : offs[(x.toInt - lo1).toNat]? = some off) (ht : (pc : Int) + off = (tgt : Int)) (k : LWP E b Ln xs tgt L st h cs ss) : LWP E b Ln xs pc L (.int x :: st) h cs ss := by
  intro p l e s m below meth c D ca H locs ls C g2 g3 g4 g5 g6
  exact lv_tableIn C.1 C.2.1 hd q1 q2 ho ht (k p l e s m below meth c D ca H locs ls C g2 g3 g4 g5 g6)
theorem lp_tabOut {dflt lo1 hi : Int} {offs : Array Int} {len : Nat} {x : Int32} {tgt : Nat} (hd : decode code pc = .ok (.tableswitch dflt lo1 hi offs, len)) (q1 : x.toInt < lo1 ∨ hi < x.toInt) (ht : (pc : Int) + dflt = (tgt : Int)) (k : LWP E b Ln xs tgt L st h cs ss) : LWP E b Ln xs pc L (.int x :: st) h cs ss := by
  intro p l e s m below meth c D ca H locs ls C g2 g3 g4 g5 g6
  exact lv_tableOut C.1 C.2.1 hd q1 ht (k p l e s m below meth c D ca H locs ls C g2 g3 g4 g5 g6)
theorem lp_iload3 {x : Int32} (hd : decode code pc = .ok (.iload_n 3, 1)) (hp : pc + 1 = pc') (hl : L[2]? = some (.int x)) (k : LWP E b Ln xs pc' L (.int x :: st) h cs ss) : LWP E b Ln xs pc L st h cs ss := by
  subst hp
  intro p l e s m below meth c D ca H locs ls C g2 g3 g4 g5 g6
  exact lv_iload_n C.1 C.2.1 hd rfl (LG g6 hl (fun _ z => by cases z)) (k p l e s m below meth c D ca H locs ls C g2 g3 g4 g5 g6)
theorem lp_aload1 {x : Nat} (hd : decode code pc = .ok (.aload_n 1, 1)) (hp : pc + 1 = pc') (hl : L[0]? = some (.ref x)) (k : LWP E b Ln xs pc' L (.ref x :: st) h cs ss) : LWP E b Ln xs pc L st h cs ss := by
  subst hp
  intro p l e s m below meth c D ca H locs ls C g2 g3 g4 g5 g6
  exact lv_aload_n C.1 C.2.1 hd rfl (LG g6 hl (fun _ z => by cases z)) (k p l e s m below meth c D ca H locs ls C g2 g3 g4 g5 g6)
theorem lp_aload2 {x : Nat} (hd : decode code pc = .ok (.aload_n 2, 1)) (hp : pc + 1 = pc') (hl : L[1]? = some (.ref x)) (k : LWP E b Ln xs pc' L (.ref x :: st) h cs ss) : LWP E b Ln xs pc L st h cs ss := by
  subst hp
  intro p l e s m below meth c D ca H locs ls C g2 g3 g4 g5 g6
  exact lv_aload_n C.1 C.2.1 hd rfl (LG g6 hl (fun _ z => by cases z)) (k p l e s m below meth c D ca H locs ls C g2 g3 g4 g5 g6)
theorem lp_dup {v : Value} (hd : decode code pc = .ok (.dup, 1)) (hp : pc + 1 = pc') (hv : v.category = 1) (k : LWP E b Ln xs pc' L (v :: v :: st) h cs ss) : LWP E b Ln xs pc L (v :: st) h cs ss := by
  subst hp
  intro p l e s m below meth c D ca H locs ls C g2 g3 g4 g5 g6
  exact lv_dup C.1 C.2.1 hd (by rw [cv_cat]; exact hv) (k p l e s m below meth c D ca H locs ls C g2 g3 g4 g5 g6)
/-- the script's length -/
theorem lp_len (h0 : decode code pc = .ok (.aload_n 0, 1)) (h1 : decode code (pc + 1) = .ok (.arraylength, 1)) (hp : pc + 2 = pc') (k : LWP E b Ln xs pc' L (.int (nI Ln) :: st) h cs ss) : LWP E b Ln xs pc L st h cs ss := by
  subst hp
  intro p l e s m below meth c D ca H locs ls C g2 g3 g4 g5 g6
  refine lv_aload_n C.1 C.2.1 h0 rfl (LG0 g6) ?_
  exact va_slen C.1 C.2.1 C.2.2.2.2.2.2.1 C.2.2.2.2.2.2.2.1 (Nat.not_le.mpr C.2.2.2.2.2.2.2.1) g5 h1 (k p l e s m below meth c D ca H locs ls C g2 g3 g4 g5 g6)
theorem in_scr {q : Nat} (hq : q < Ln) (hL : Ln ≤ 3072) : vp_in (nI q) Ln := fun z => z.elim (nI_n0 (by omega)) (fun y => by rw [nI_tn (by omega)] at y; omega)
/-- a place of the script -/
theorem lp_rd0 (h0 : decode code pc = .ok (.aload_n 0, 1)) (h1 : decode code (pc + 1) = .ok (.iload_n 3, 1)) (h4 : decode code (pc + 1 + 1) = .ok (.iaload, 1)) (hp : pc + 1 + 1 + 1 = pc') (hq : i < Ln) (hL : Ln ≤ 3072) (hl : L[2]? = some (.int (nI i))) (k : LWP E b Ln xs pc' L (.int (xs i) :: st) h cs ss) : LWP E b Ln xs pc L st h cs ss := by
  subst hp
  intro p l e s m below meth c D ca H locs ls C g2 g3 g4 g5 g6
  refine lv_aload_n C.1 C.2.1 h0 rfl (LG0 g6) ?_
  refine lv_iload_n C.1 C.2.1 h1 rfl (LG g6 hl (fun _ z => by cases z)) ?_
  refine va_sld C.1 C.2.1 C.2.2.2.2.2.2.1 C.2.2.2.2.2.2.2.1 (Nat.not_le.mpr C.2.2.2.2.2.2.2.1) g5 (in_scr hq hL) h4 ?_
  rw [nI_tn (by omega)]
  exact k p l e s m below meth c D ca H locs ls C g2 g3 g4 g5 g6
theorem lp_rd {jj : Int} (h0 : decode code pc = .ok (.aload_n 0, 1)) (h1 : decode code (pc + 1) = .ok (.iload_n 3, 1)) (h2 : decode code (pc + 1 + 1) = .ok (.iconst jj, 1)) (h3 : decode code (pc + 1 + 1 + 1) = .ok (.iadd, 1)) (h4 : decode code (pc + 1 + 1 + 1 + 1) = .ok (.iaload, 1)) (hp : pc + 1 + 1 + 1 + 1 + 1 = pc') (hj : Int32.ofInt jj = nI j) (hq : i + j < Ln) (hL : Ln ≤ 3072) (hl : L[2]? = some (.int (nI i))) (k : LWP E b Ln xs pc' L (.int (xs (i + j)) :: st) h cs ss) : LWP E b Ln xs pc L st h cs ss := by
  subst hp
  intro p l e s m below meth c D ca H locs ls C g2 g3 g4 g5 g6
  refine lv_aload_n C.1 C.2.1 h0 rfl (LG0 g6) ?_
  refine lv_iload_n C.1 C.2.1 h1 rfl (LG g6 hl (fun _ z => by cases z)) ?_
  refine lv_iconst C.1 C.2.1 h2 hj ?_
  refine lv_iadd C.1 C.2.1 h3 ?_
  rw [nI_add]
  refine va_sld C.1 C.2.1 C.2.2.2.2.2.2.1 C.2.2.2.2.2.2.2.1 (Nat.not_le.mpr C.2.2.2.2.2.2.2.1) g5 (in_scr hq hL) h4 ?_
  rw [nI_tn (by omega)]
  exact k p l e s m below meth c D ca H locs ls C g2 g3 g4 g5 g6
/-- x != 0, as a boolean -/
theorem lp_bool {x : Int32} {o1 o2 : Int} {p1 p2 p3 p4 : Nat} (h0 : decode code pc = .ok (.ifCond .eq o1, 3)) (t1 : (pc : Int) + o1 = (p3 : Int)) (e1 : pc + 3 = p1) (h1 : decode code p1 = .ok (.iconst 1, 1)) (e2 : p1 + 1 = p2) (h2 : decode code p2 = .ok (.goto o2, 3)) (t2 : (p2 : Int) + o2 = (p4 : Int)) (h3 : decode code p3 = .ok (.iconst 0, 1)) (e3 : p3 + 1 = p4) (k : LWP E b Ln xs p4 L (.int (if x = 0 then 0 else 1) :: st) h cs ss) : LWP E b Ln xs pc L (.int x :: st) h cs ss := by
  subst e1; subst e2; subst e3
  intro p l e s m below meth c D ca H locs ls C g2 g3 g4 g5 g6
  refine lv_if_eq C.1 C.2.1 h0 t1 (fun z => ?_) (fun z => ?_)
  · rw [if_pos z] at k
    exact lv_iconst C.1 C.2.1 h3 rfl (k p l e s m below meth c D ca H locs ls C g2 g3 g4 g5 g6)
  · rw [if_neg z] at k
    refine lv_iconst C.1 C.2.1 h1 rfl ?_
    exact lv_goto C.1 C.2.1 h2 t2 (k p l e s m below meth c D ca H locs ls C g2 g3 g4 g5 g6)
theorem lp_new (hd : decode code pc = .ok (.new idx, 3)) (hp : pc + 3 = pc') (hc : ci < 13) (hcl : Cond.classLink RL idx (cQ ci).1 ∈ lw_u) (hin : Cond.instantiable (cQ ci).1 (nf ci) ∈ lw_u) (hini : Cond.initialized (cQ ci).1 ∈ lw_u) {N : Nat} {S : Nat → Nat × Nat} {I : Nat → Nat → Int32} {J : Nat → Nat → Int64} {Q : Nat → Nat → Option Nat} (hcs : cs + 1 ≤ 600000) (hss : ss + nf ci ≤ 7302250)
    (k : LWP E b Ln xs pc' L (.ref N :: st) (N + 1, nS S N (ci, 0), zI I N, J, zQ Q N) (cs + 1) (ss + nf ci)) : LWP E b Ln xs pc L st (N, S, I, J, Q) cs ss := by
  subst hp
  intro p l e s m below meth c D ca H locs ls C g2 g3 g4 g5 g6
  obtain ⟨c1, c2, c3, c4, c5⟩ := clsF ci hc
  have hKn := g2.1.1 ci _ c1
  refine W.newcK C.1 C.2.1 C.2.2.2.2.1 (C.tb _ hcl) (C.tb _ hin) (C.tb _ hini) rfl hd hcs hss hKn.2.1 rfl fun H1 kC hkC e1 z1 o1 => ?_
  have hsz : H.size = s.heap.size + N := g3.1
  have R1 : RH s.heap.size D ca (N + 1, nS S N (ci, 0), zI I N, J, zQ Q N) H1 := by
    refine RH.push g3 rfl (fun b hb => ?_) z1 o1 ?_
    · have hb' : b ≠ N := Nat.ne_of_lt hb
      exact ce_eq (nS_o hb') (zI_o hb') rfl (zQ_o hb')
    · show va_at D classes (s.heap.size + N, ce s.heap.size ca (N + 1, nS S N (ci, 0), zI I N, J, zQ Q N) N) H1
      rw [ce_obj (h := (N + 1, nS S N (ci, 0), zI I N, J, zQ Q N)) (n := 0) nS_s hc]
      rw [hsz] at e1
      refine ⟨_, c1, (u_born (cTy ci) C.tb c2 hKn hkC e1 c3).to (fun j hj => ?_)⟩
      rw [c5] at hj
      unfold vp_V
      rw [List.getD_eq_getElem?_getD, List.getElem?_map, List.getElem?_range hj]
      exact dflt hc hj
  have S1 : va_S (fun q => s.heap.size ≤ q) s.heap H1 locs := ⟨Nat.le_trans g5.1 (by omega), fun x h1 h2 => (o1 x (Nat.lt_of_lt_of_le h1 g5.1)).trans (g5.2.1 x h1 h2), g5.2.2⟩
  have := k p l e s m below meth c D ca H1 locs ls C g2 R1 (g4.grow (by omega) (fun a ha => nS_o (Nat.ne_of_lt ha)) (fun a ha => zQ_o (Nat.ne_of_lt ha))) S1 g6
  rw [hsz]
  exact this
theorem w_callR {R : Room} {κ' : Option Value → HP → Prop} {p : Program} {l : Launch} {e : Env} {s : State} {m : MethodId} {args aa : Array Value} {below : List Frame} {meth : Method} {c : Code} {lo : Nat} {D : va_G} {ca : Nat → ClassId} {H : Heap} {locs : List Loc} {ls : Array Slot} {cs ss mc' ms' pc : Nat} {st0 rest : List Value} {Q : State → Prop}
    (hr : va_Run p l e R s m args below meth c H locs cs ss mc' ms' (F0 m pc ls st0) rest (QK E κ' lo D ca aa) (fun q => lo ≤ q)) (hS : va_S (fun q => lo ≤ q) s.heap H locs)
    (kk : ∀ (r : Option Value) (h' : HP) (H1 : Heap) (locs1 : List Loc), κ' r h' → RH lo D ca h' H1 → WF E h' → va_S (fun q => lo ≤ q) s.heap H1 locs1 → W p l e R s m args below meth c H1 locs1 (cs + mc') (ss + ms') Q (F0 m (pc + 3) ls ((r.map (cv lo)).toList ++ rest))) : W p l e R s m args below meth c H locs cs ss Q (F0 m pc ls st0) := by
  intro T hT X
  obtain ⟨v, st₀, t, T', L, h0, X', hL, e1, e2, ⟨r, h', hv, hκ, hR, hW, hF⟩, st⟩ := hr T hT X
  have hv' : v = r.map (cv lo) := by injection hv
  subst hv'
  have hz : H.size ≤ T'.heap.size := by rw [e1, ← h0]; exact hF.1
  obtain ⟨t2, a1, b1⟩ := kk r h' T'.heap (locs ++ L) hκ (by rw [e1]; exact hR) hW ⟨Nat.le_trans hS.1 hz, fun q q1 q2 => by
      have := hF.2 q (by rw [h0]; exact Nat.lt_of_lt_of_le q1 hS.1) q2
      rw [h0, ← e1] at this
      exact this.trans (hS.2.1 q q1 q2), fun q hq => by
      rcases List.mem_append.mp hq with h | h
      · exact hS.2.2 q h
      · exact hL q h⟩ T' rfl X'
  exact ⟨t2, st t2 a1, b1⟩
/-- room for a call of the law -/
def RML (M' : MD) (cs ss : Nat) : Prop := M'.2.2.2.2.1 ≤ 13 ∧ M'.2.2.1 ≤ 21 ∧ cs + M'.2.2.2.2.2.1 ≤ 600000 ∧ ss + M'.2.2.2.2.2.2 ≤ 7302250
theorem RML.R (h : RML M' cs ss) : (mRm M').frames + 1 ≤ room_1.frames ∧ 8 + (M'.2.2.1 + 11) + (mRm M').locals ≤ room_1.locals := by
  obtain ⟨h1, h2, -, -⟩ := h
  exact ⟨by show M'.2.2.2.2.1 + 1 ≤ 14; omega, by show 8 + (M'.2.2.1 + 11) + 40 * M'.2.2.2.2.1 ≤ 576; omega⟩
theorem lp_callV (hd : decode code pc = .ok (.invokevirtual idx, 3)) (hp : pc + 3 = pc') (hM : MOK M' np) (hl : Cond.methodLink RL idx M'.1 ∈ lw_u) (hi : Cond.instanceMethod M'.1 ∈ lw_u) (hse : Cond.selects M'.1.cls M'.1 M'.1 ∈ lw_u) (hs : Sh E h a ci n) (hc : ci < 13) (hC : (cQ ci).1 = M'.1.cls) (hk : stk = As.reverse ++ .ref a :: st) (hn : As.length = np) (hrm : RML M' cs ss) (hst : (st.map fun v => v.category).sum ≤ 8) (k : CT E M' (.ref a :: As) h (fun r h' => LWP E b Ln xs pc' L (r.toList ++ st) h' (cs + M'.2.2.2.2.2.1) (ss + M'.2.2.2.2.2.2))) : LWP E b Ln xs pc L stk h cs ss := by
  subst hp; subst hk
  intro p l e s m below meth c D ca H locs ls C g2 g3 g4 g5 g6
  have hmet := k l s.heap.size D ca
  obtain ⟨ha, hsh⟩ := hs.al g4
  have he := ws_at (lo := s.heap.size) (ca := ca) ha
  rw [ce_obj hsh hc] at he
  have c1 := (clsF ci hc).1
  have hrecv := va_recv g2.1 g3.2 c1 he
  have hall : ∀ w ∈ lw_u, w.before #[Value.ref b] s = true := C.tb
  rw [hC] at hrecv
  refine w_callR (va_runV (As := As.map (cv s.heap.size)) (rest := st.map (cv s.heap.size)) (b := s.heap.size + a) ⟨C.1, C.2.1, C.2.2.2.1, C.2.2.2.2.1, hall⟩ hmet (cwV np hall (good_in hM.1 (l := [.methodLink RL idx M'.1, .instanceMethod M'.1, .selects M'.1.cls M'.1 M'.1, .initialized M'.1.cls]) (by
    intro w hw
    simp only [List.mem_cons, List.not_mem_nil, or_false] at hw
    rcases hw with rfl | rfl | rfl | rfl
    · exact ⟨hl, rfl⟩
    · exact ⟨hi, rfl⟩
    · exact ⟨hse, rfl⟩
    · exact ⟨hM.2.1, rfl⟩)) rfl rfl rfl ⟨rfl, hM.2.2.1⟩ hrm.R) ⟨PK.blind, hrecv, PK.of (av := .ref a :: As) (p := p) (m := m) (args := #[Value.ref b]) (meth := meth) (c := c) (Nat.le_refl _) g2 g3 g4 g5⟩ rfl (by rw [List.length_map]; exact hn) g6.1 (by rw [List.map_append, List.map_reverse]; rfl) (lv_room (by rw [cat_sum]; exact hst)) hd ⟨hrm.2.2.1, hrm.2.2.2⟩) g5 ?_
  intro r h' H1 locs1 hκ hR hW hS
  rw [cont]
  exact hκ p l e s m below meth c D ca H1 locs1 ls C g2 hR hW hS g6
theorem lp_callI (hd : decode code pc = .ok (.invokespecial idx, 3)) (hp : pc + 3 = pc') (hM : MOK M' np) (hl : Cond.methodLink RL idx M'.1 ∈ lw_u) (hi : Cond.instanceMethod M'.1 ∈ lw_u) (hy : M'.1.name = "<init>") (hrt : M'.2.2.2.1 = none) (hk : stk = As.reverse ++ .ref a :: st) (hn : As.length = np) (hrm : RML M' cs ss) (hst : (st.map fun v => v.category).sum ≤ 8) (k : CT E M' (.ref a :: As) h (fun r h' => LWP E b Ln xs pc' L (r.toList ++ st) h' (cs + M'.2.2.2.2.2.1) (ss + M'.2.2.2.2.2.2))) : LWP E b Ln xs pc L stk h cs ss := by
  subst hp; subst hk
  intro p l e s m below meth c D ca H locs ls C g2 g3 g4 g5 g6
  have hmet := k l s.heap.size D ca
  have hall : ∀ w ∈ lw_u, w.before #[Value.ref b] s = true := C.tb
  refine w_callR (va_runI (As := As.map (cv s.heap.size)) (rest := st.map (cv s.heap.size)) (b := s.heap.size + a) ⟨C.1, C.2.1, C.2.2.2.1, C.2.2.2.2.1, hall⟩ hmet (cwI (bytes := M'.2.1) (maxL := M'.2.2.1) (ws' := lw_g) np hall (good_ws hM.1) (by rw [← hrt]) rfl rfl (hall _ hM.2.1) (hall _ hl) (hall _ hi) hy hM.2.2.1 hrm.R) ⟨PK.blind, PK.of (av := .ref a :: As) (p := p) (m := m) (args := #[Value.ref b]) (meth := meth) (c := c) (Nat.le_refl _) g2 g3 g4 g5⟩ rfl (by rw [List.length_map]; exact hn) g6.1 (by rw [List.map_append, List.map_reverse]; rfl) (lv_room (by rw [cat_sum]; exact hst)) hd ⟨hrm.2.2.1, hrm.2.2.2⟩) g5 ?_
  intro r h' H1 locs1 hκ hR hW hS
  rw [cont]
  exact hκ p l e s m below meth c D ca H1 locs1 ls C g2 hR hW hS g6
theorem lp_st1 (hd : decode code pc = .ok (.astore_n 1, 1)) (hp : pc + 1 = pc') (k : LWP E b Ln xs pc' [.ref a, .retAddr 0, .retAddr 0] st h cs ss) : LWP E b Ln xs pc [.retAddr 0, .retAddr 0, .retAddr 0] (.ref a :: st) h cs ss := by
  subst hp
  intro p l e s m below meth c D ca H locs ls C g2 g3 g4 g5 g6
  exact lv_astore_n C.1 C.2.1 hd rfl g6 (by decide) rfl (fun ls2 hl2 => k p l e s m below meth c D ca H locs ls2 C g2 g3 g4 g5 (hl2.mono (fun q hq => by
    simp only [lvl, List.mem_cons, List.not_mem_nil, or_false] at hq
    rcases hq with rfl | rfl <;> simp [lvl, cv, Value.category])))
theorem lp_st2 (hd : decode code pc = .ok (.astore_n 2, 1)) (hp : pc + 1 = pc') (k : LWP E b Ln xs pc' [.ref a, .ref a2, .retAddr 0] st h cs ss) : LWP E b Ln xs pc [.ref a, .retAddr 0, .retAddr 0] (.ref a2 :: st) h cs ss := by
  subst hp
  intro p l e s m below meth c D ca H locs ls C g2 g3 g4 g5 g6
  exact lv_astore_n C.1 C.2.1 hd rfl g6 (by decide) rfl (fun ls2 hl2 => k p l e s m below meth c D ca H locs ls2 C g2 g3 g4 g5 (hl2.mono (fun q hq => by
    simp only [lvl, List.mem_cons, List.not_mem_nil, or_false] at hq
    rcases hq with rfl | rfl | rfl <;> simp [lvl, cv, Value.category])))
theorem lp_st3 {x : Int32} (hd : decode code pc = .ok (.istore_n 3, 1)) (hp : pc + 1 = pc') (k : LWP E b Ln xs pc' [.ref a, .ref a2, .int x] st h cs ss) : LWP E b Ln xs pc [.ref a, .ref a2, .retAddr 0] (.int x :: st) h cs ss := by
  subst hp
  intro p l e s m below meth c D ca H locs ls C g2 g3 g4 g5 g6
  refine lv_istore_n C.1 C.2.1 hd rfl g6 (by decide) rfl (fun ls2 hl2 => ?_)
  have hl3 : lv_has ls2 4 ((3, .int x) :: List.filter (fun q => !(q.1 == 3) && !(q.1 + 1 == 3 && q.2.category == 2)) ((0, .ref b) :: lvl s.heap.size 1 [.ref a, .ref a2, .retAddr 0])) := hl2
  exact k p l e s m below meth c D ca H locs ls2 C g2 g3 g4 g5 (hl3.mono (fun q hq => by
    simp only [lvl, List.mem_cons, List.not_mem_nil, or_false] at hq
    rcases hq with rfl | rfl | rfl | rfl <;> simp [lvl, cv, Value.category]))
theorem lp_inc {x v : Int32} {n : Int} (hd : decode code pc = .ok (.iinc 3 n, 3)) (hp : pc + 3 = pc') (hv : x + Int32.ofInt n = v) (k : LWP E b Ln xs pc' [.ref a, .ref a2, .int v] st h cs ss) : LWP E b Ln xs pc [.ref a, .ref a2, .int x] st h cs ss := by
  subst hp
  intro p l e s m below meth c D ca H locs ls C g2 g3 g4 g5 g6
  exact lv_iinc C.1 C.2.1 hd g6 (k := 3) rfl hv (by decide) rfl (fun ls2 hl2 => k p l e s m below meth c D ca H locs ls2 C g2 g3 g4 g5 (hl2.mono (fun q hq => by
    simp only [lvl, List.mem_cons, List.not_mem_nil, or_false] at hq
    rcases hq with rfl | rfl | rfl | rfl <;> simp [lvl, cv, Value.category])))
/-- the law's end -/
theorem lp_end (h0 : decode code pc = .ok (.iconst 1, 1)) (h1 : decode code (pc + 1) = .ok (.ireturn, 1)) (hcs : cs ≤ 600000) (hss : ss ≤ 7302250) : LWP E b Ln xs pc L [] h cs ss := by
  intro p l e s m below meth c D ca H locs ls C g2 g3 g4 g5 g6
  refine lv_iconst C.1 C.2.1 h0 rfl ?_
  exact va_forget g5.2.2 (W.widen hcs hss (lw_ret C.1 C.2.1 C.2.2.1 C.2.2.2.2.2.2.2.2.1 h1))
end LW
