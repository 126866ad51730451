theorem good_ws {M' : MD} (hc : Cond.code M'.1 M'.2.1 M'.2.2.1 M'.2.2.2.1 ∈ lw_u) : GoodIn lw_u (mWs M') := by
  intro w hw
  rcases List.mem_cons.mp hw with rfl | h
  · exact ⟨hc, good_of_word rfl⟩
  · exact ⟨(List.mem_filter.mp h).1, good_of_word (List.mem_filter.mp h).2⟩
theorem good_in {M' : MD} (hc : Cond.code M'.1 M'.2.1 M'.2.2.1 M'.2.2.2.1 ∈ lw_u) {l : List Cond} (hl : ∀ w ∈ l, w ∈ lw_u ∧ goodWord w = true) : GoodIn lw_u (l ++ mWs M') := by
  intro w hw
  rcases List.mem_append.mp hw with h | h
  · exact ⟨(hl w h).1, good_of_word (hl w h).2⟩
  · exact good_ws hc w h
theorem cat_sum (lo : Nat) (st : List Value) : ((st.map (cv lo)).map fun v => v.category).sum = (st.map fun v => v.category).sum := by
  rw [List.map_map]
  congr 1
  apply List.map_congr_left
  intro v _
  exact cv_cat lo v
theorem PK.blind {E : EV} {av : List Value} {h : HP} {lo : Nat} {D : va_G} {ca : Nat → ClassId} : FrameBlind (PK E av h lo D ca) := by
  intro a U g mk q
  obtain ⟨q1, q2, q3, q4, q5⟩ := q
  exact ⟨q1, q2, q3, q4, KW.same (u := U) (U := U.calling g mk a) rfl q5⟩
theorem w_call {E : EV} {M : MD} {κ' : Option Value → HP → Prop} {p : Program} {l : Launch} {e : Env} {s : State} {m : MethodId} {args aa : Array Value} {below : List Frame} {meth : Method} {c : Code} {lo : Nat} {D : va_G} {ca : Nat → ClassId} {H : Heap} {locs : List Loc} {ls : Array Slot} {cs ss mc' ms' pc : Nat} {st0 rest : List Value} {Q : State → Prop}
    (hr : va_Run p l e (mRm M) s m args below meth c H locs cs ss mc' ms' (F0 m pc ls st0) rest (QK E κ' lo D ca aa) (fun q => lo ≤ q)) (hS : va_S (fun q => lo ≤ q) s.heap H locs)
    (kk : ∀ (r : Option Value) (h' : HP) (H1 : Heap) (locs1 : List Loc), κ' r h' → RH lo D ca h' H1 → WF E h' → va_S (fun q => lo ≤ q) s.heap H1 locs1 → W p l e (mRm M) s m args below meth c H1 locs1 (cs + mc') (ss + ms') Q (F0 m (pc + 3) ls ((r.map (cv lo)).toList ++ rest))) : W p l e (mRm M) s m args below meth c H locs cs ss Q (F0 m pc ls st0) := by
  intro T hT X
  obtain ⟨v, st₀, t, T', L, h0, X', hL, e1, e2, ⟨r, h', hv, hκ, hR, hW, hF⟩, st⟩ := hr T hT X
  have hv' : v = r.map (cv lo) := by injection hv
  subst hv'
  have hz : H.size ≤ T'.heap.size := by rw [e1, ← h0]; exact hF.1
  obtain ⟨t2, a1, b1⟩ := kk r h' T'.heap (locs ++ L) hκ (by rw [e1]; exact hR) hW ⟨Nat.le_trans hS.1 hz, fun q q1 q2 => by
      have := hF.2 q (by rw [h0]; exact Nat.lt_of_lt_of_le q1 hS.1) q2
      rw [h0, ← e1] at this
      exact this.trans (hS.2.1 q q1 q2), fun q hq => by
      rcases List.mem_append.mp hq with h | h
      · exact hS.2.2 q h
      · exact hL q h⟩ T' rfl X'
  exact ⟨t2, st t2 a1, b1⟩
/-- room for a call -/
def RM (M M' : MD) (cs ss : Nat) : Prop := M'.2.2.2.2.1 + 1 ≤ M.2.2.2.2.1 ∧ M'.2.2.1 ≤ 21 ∧ cs + M'.2.2.2.2.2.1 ≤ M.2.2.2.2.2.1 ∧ ss + M'.2.2.2.2.2.2 ≤ M.2.2.2.2.2.2
theorem RM.R {M M' : MD} {cs ss : Nat} (h : RM M M' cs ss) : (mRm M').frames + 1 ≤ (mRm M).frames ∧ 8 + (M'.2.2.1 + 11) + (mRm M').locals ≤ (mRm M).locals := by
  obtain ⟨h1, h2, -, -⟩ := h
  exact ⟨h1, by show 8 + (M'.2.2.1 + 11) + 40 * M'.2.2.2.2.1 ≤ 40 * M.2.2.2.2.1; omega⟩
section CL
variable {E : EV} {M M' : MD} {κ : Option Value → HP → Prop} {pc pc' : Nat} {L st stk As : List Value} {h : HP} {cs ss : Nat} {a ci n np idx : Nat}
theorem PK.of {p : Program} {s : State} {m : MethodId} {args : Array Value} {meth : Method} {c : Code} {lo : Nat} {D : va_G} {ca : Nat → ClassId} {H : Heap} {locs : List Loc} {av : List Value} (g1 : lo ≤ s.heap.size) (g2 : KW D ca s) (g3 : RH lo D ca h H) (g4 : WF E h) (g5 : va_S (fun q => lo ≤ q) s.heap H locs) : ∀ U : State, U.heap = H → s.WarmedH U.vm → PK E av h lo D ca (av.map (cv lo)).toArray U :=
  fun U hU hW => ⟨rfl, by rw [hU]; exact Nat.le_trans g1 g5.1, by rw [hU]; exact g3, g4, KW.warm hW g2⟩
theorem cont {r : Option Value} {lo : Nat} : (r.map (cv lo)).toList ++ st.map (cv lo) = (r.toList ++ st).map (cv lo) := by cases r <;> rfl
theorem s_callV (hd : decode M.2.1 pc = .ok (.invokevirtual idx, 3)) (hp : pc + 3 = pc') (hM : MOK M' np) (hl : Cond.methodLink M.1.cls idx M'.1 ∈ lw_u) (hi : Cond.instanceMethod M'.1 ∈ lw_u) (hse : Cond.selects M'.1.cls M'.1 M'.1 ∈ lw_u) (hs : Sh E h a ci n) (hc : ci < 13) (hC : (cQ ci).1 = M'.1.cls) (hk : stk = As.reverse ++ .ref a :: st) (hn : As.length = np) (hrm : RM M M' cs ss) (hst : (st.map fun v => v.category).sum ≤ 8) (k : CT E M' (.ref a :: As) h (fun r h' => SP E M κ pc' L (r.toList ++ st) h' (cs + M'.2.2.2.2.2.1) (ss + M'.2.2.2.2.2.2))) : SP E M κ pc L stk h cs ss := by
  subst hp; subst hk
  intro p l e s m args below meth c lo D ca H locs ls C g1 g2 g3 g4 g5 g6
  have hmet := k l lo D ca
  obtain ⟨ha, hsh⟩ := hs.al g4
  have he := ws_at (lo := lo) (ca := ca) ha
  rw [ce_obj hsh hc] at he
  have c1 := (clsF ci hc).1
  have hrecv := va_recv g2.1 g3.2 c1 he
  have hall : ∀ w ∈ lw_u, w.before args s = true := C.tb
  rw [hC] at hrecv
  refine w_call (va_runV (As := As.map (cv lo)) (rest := st.map (cv lo)) (b := lo + a) ⟨C.1, C.2.1, C.2.2.2.1, C.2.2.2.2.1, C.2.2.2.2.2.1⟩ hmet (cwV np C.2.2.2.2.2.1 (good_in hM.1 (l := [.methodLink M.1.cls idx M'.1, .instanceMethod M'.1, .selects M'.1.cls M'.1 M'.1, .initialized M'.1.cls]) (by
    intro w hw
    simp only [List.mem_cons, List.not_mem_nil, or_false] at hw
    rcases hw with rfl | rfl | rfl | rfl
    · exact ⟨hl, rfl⟩
    · exact ⟨hi, rfl⟩
    · exact ⟨hse, rfl⟩
    · exact ⟨hM.2.1, rfl⟩)) rfl rfl rfl ⟨rfl, hM.2.2.1⟩ hrm.R) ⟨PK.blind, hrecv, PK.of (av := .ref a :: As) (p := p) (m := m) (args := args) (meth := meth) (c := c) g1 g2 g3 g4 g5⟩ rfl (by rw [List.length_map]; exact hn) g6.2.1 (by rw [List.map_append, List.map_reverse]; rfl) (lv_room (by rw [cat_sum]; exact hst)) hd ⟨hrm.2.2.1, hrm.2.2.2⟩) g5 ?_
  intro r h' H1 locs1 hκ hR hW hS
  rw [cont]
  exact hκ p l e s m args below meth c lo D ca H1 locs1 ls C g1 g2 hR hW hS g6

theorem s_callS (hd : decode M.2.1 pc = .ok (.invokestatic idx, 3)) (hp : pc + 3 = pc') (hM : MOK M' np) (hl : Cond.methodLink M.1.cls idx M'.1 ∈ lw_u) (hi : Cond.static M'.1 ∈ lw_u) (hk : stk = As.reverse ++ st) (hn : As.length = np) (hrm : RM M M' cs ss) (hst : (st.map fun v => v.category).sum ≤ 8) (k : CT E M' As h (fun r h' => SP E M κ pc' L (r.toList ++ st) h' (cs + M'.2.2.2.2.2.1) (ss + M'.2.2.2.2.2.2))) : SP E M κ pc L stk h cs ss := by
  subst hp; subst hk
  intro p l e s m args below meth c lo D ca H locs ls C g1 g2 g3 g4 g5 g6
  have hmet := k l lo D ca
  refine w_call (va_runS (As := As.map (cv lo)) (rest := st.map (cv lo)) ⟨C.1, C.2.1, C.2.2.2.1, C.2.2.2.2.1, C.2.2.2.2.2.1⟩ hmet (va_cwS np C.2.2.2.2.2.1 (good_in hM.1 (l := [.methodLink M.1.cls idx M'.1, .static M'.1, .initialized M'.1.cls]) (by
    intro w hw
    simp only [List.mem_cons, List.not_mem_nil, or_false] at hw
    rcases hw with rfl | rfl | rfl
    · exact ⟨hl, rfl⟩
    · exact ⟨hi, rfl⟩
    · exact ⟨hM.2.1, rfl⟩)) rfl rfl rfl hM.2.2.1 hrm.R) ⟨PK.blind, PK.of (av := As) (p := p) (m := m) (args := args) (meth := meth) (c := c) g1 g2 g3 g4 g5⟩ rfl (by rw [List.length_map]; exact hn) g6.2.1 (by rw [List.map_append, List.map_reverse]) (lv_room (by rw [cat_sum]; exact hst)) hd ⟨hrm.2.2.1, hrm.2.2.2⟩) g5 ?_
  intro r h' H1 locs1 hκ hR hW hS
  rw [cont]
  exact hκ p l e s m args below meth c lo D ca H1 locs1 ls C g1 g2 hR hW hS g6

theorem s_callSN {host : String} (hd : decode M.2.1 pc = .ok (.invokestatic idx, 3)) (hp : pc + 3 = pc') (hM : MOK M' np) (hl : Cond.methodLinkNest M.1.cls idx M'.1 host ∈ lw_u) (hi : Cond.static M'.1 ∈ lw_u) (hk : stk = As.reverse ++ st) (hn : As.length = np) (hrm : RM M M' cs ss) (hst : (st.map fun v => v.category).sum ≤ 8) (k : CT E M' As h (fun r h' => SP E M κ pc' L (r.toList ++ st) h' (cs + M'.2.2.2.2.2.1) (ss + M'.2.2.2.2.2.2))) : SP E M κ pc L stk h cs ss := by
  subst hp; subst hk
  intro p l e s m args below meth c lo D ca H locs ls C g1 g2 g3 g4 g5 g6
  have hmet := k l lo D ca
  refine w_call (va_runSN (As := As.map (cv lo)) (rest := st.map (cv lo)) (host := host) ⟨C.1, C.2.1, C.2.2.2.1, C.2.2.2.2.1, C.2.2.2.2.2.1⟩ hmet ⟨va_cnB np C.2.2.2.2.2.1 (good_ws hM.1) rfl rfl rfl (va_Nw.of rfl (C.tb _ hl)) (C.tb _ hM.2.1) hM.2.2.1 hrm.R, C.tb _ hi, trivial⟩ ⟨PK.blind, PK.of (av := As) (p := p) (m := m) (args := args) (meth := meth) (c := c) g1 g2 g3 g4 g5⟩ rfl (by rw [List.length_map]; exact hn) g6.2.1 (by rw [List.map_append, List.map_reverse]) (lv_room (by rw [cat_sum]; exact hst)) hd ⟨hrm.2.2.1, hrm.2.2.2⟩) g5 ?_
  intro r h' H1 locs1 hκ hR hW hS
  rw [cont]
  exact hκ p l e s m args below meth c lo D ca H1 locs1 ls C g1 g2 hR hW hS g6

theorem s_callI (hd : decode M.2.1 pc = .ok (.invokespecial idx, 3)) (hp : pc + 3 = pc') (hM : MOK M' np) (hl : Cond.methodLink M.1.cls idx M'.1 ∈ lw_u) (hi : Cond.instanceMethod M'.1 ∈ lw_u) (hy : M'.1.name = "<init>") (hrt : M'.2.2.2.1 = none) (hk : stk = As.reverse ++ .ref a :: st) (hn : As.length = np) (hrm : RM M M' cs ss) (hst : (st.map fun v => v.category).sum ≤ 8) (k : CT E M' (.ref a :: As) h (fun r h' => SP E M κ pc' L (r.toList ++ st) h' (cs + M'.2.2.2.2.2.1) (ss + M'.2.2.2.2.2.2))) : SP E M κ pc L stk h cs ss := by
  subst hp; subst hk
  intro p l e s m args below meth c lo D ca H locs ls C g1 g2 g3 g4 g5 g6
  have hmet := k l lo D ca
  refine w_call (va_runI (As := As.map (cv lo)) (rest := st.map (cv lo)) (b := lo + a) ⟨C.1, C.2.1, C.2.2.2.1, C.2.2.2.2.1, C.2.2.2.2.2.1⟩ hmet (cwI (bytes := M'.2.1) (maxL := M'.2.2.1) (ws' := lw_g) np C.2.2.2.2.2.1 (good_ws hM.1) (by rw [← hrt]) rfl rfl (C.tb _ hM.2.1) (C.tb _ hl) (C.tb _ hi) hy hM.2.2.1 hrm.R) ⟨PK.blind, PK.of (av := .ref a :: As) (p := p) (m := m) (args := args) (meth := meth) (c := c) g1 g2 g3 g4 g5⟩ rfl (by rw [List.length_map]; exact hn) g6.2.1 (by rw [List.map_append, List.map_reverse]; rfl) (lv_room (by rw [cat_sum]; exact hst)) hd ⟨hrm.2.2.1, hrm.2.2.2⟩) g5 ?_
  intro r h' H1 locs1 hκ hR hW hS
  rw [cont]
  exact hκ p l e s m args below meth c lo D ca H1 locs1 ls C g1 g2 hR hW hS g6

theorem s_callIN {host : String} (hd : decode M.2.1 pc = .ok (.invokespecial idx, 3)) (hp : pc + 3 = pc') (hM : MOK M' np) (hl : Cond.methodLinkNest M.1.cls idx M'.1 host ∈ lw_u) (hi : Cond.instanceMethod M'.1 ∈ lw_u) (hy : M'.1.name = "<init>") (hrt : M'.2.2.2.1 = none) (hk : stk = As.reverse ++ .ref a :: st) (hn : As.length = np) (hrm : RM M M' cs ss) (hst : (st.map fun v => v.category).sum ≤ 8) (k : CT E M' (.ref a :: As) h (fun r h' => SP E M κ pc' L (r.toList ++ st) h' (cs + M'.2.2.2.2.2.1) (ss + M'.2.2.2.2.2.2))) : SP E M κ pc L stk h cs ss := by
  subst hp; subst hk
  intro p l e s m args below meth c lo D ca H locs ls C g1 g2 g3 g4 g5 g6
  have hmet := k l lo D ca
  refine w_call (va_runIN (As := As.map (cv lo)) (rest := st.map (cv lo)) (b := lo + a) (host := host) ⟨C.1, C.2.1, C.2.2.2.1, C.2.2.2.2.1, C.2.2.2.2.2.1⟩ hmet ⟨va_cnB (bytes := M'.2.1) (maxL := M'.2.2.1) (ws' := lw_g) np C.2.2.2.2.2.1 (good_ws hM.1) (by rw [← hrt]) rfl rfl (va_Nw.of rfl (C.tb _ hl)) (C.tb _ hM.2.1) hM.2.2.1 hrm.R, hy, C.tb _ hi⟩ ⟨PK.blind, PK.of (av := .ref a :: As) (p := p) (m := m) (args := args) (meth := meth) (c := c) g1 g2 g3 g4 g5⟩ rfl (by rw [List.length_map]; exact hn) g6.2.1 (by rw [List.map_append, List.map_reverse]; rfl) (lv_room (by rw [cat_sum]; exact hst)) hd ⟨hrm.2.2.1, hrm.2.2.2⟩) g5 ?_
  intro r h' H1 locs1 hκ hR hW hS
  rw [cont]
  exact hκ p l e s m args below meth c lo D ca H1 locs1 ls C g1 g2 hR hW hS g6

theorem s_objInit (hd : decode M.2.1 pc = .ok (.invokespecial idx, 3)) (hp : pc + 3 = pc') (hl : Cond.methodLink M.1.cls idx objectInit ∈ lw_u) (hdp : 1 ≤ M.2.2.2.2.1) (hst : (st.map fun v => v.category).sum ≤ 8) (k : SP E M κ pc' L st h cs ss) : SP E M κ pc L (.ref a :: st) h cs ss := by
  subst hp
  intro p l e s m args below meth c lo D ca H locs ls C g1 g2 g3 g4 g5 g6
  refine W.objInit C.1 C.2.1 C.2.2.2.2.1 (C.tb _ hl) (C.tb _ im_Obj_init) (C.tb _ co_Obj_init) rfl (by rw [C.2.2.2.1]; exact g6.2.1) rfl hd hdp ?_ (k p l e s m args below meth c lo D ca H locs ls C g1 g2 g3 g4 g5 g6)
  have := lv_room (m := m) (pc := pc) (ls := ls) (rest := (Value.ref a :: st).map (cv lo)) (st := st.map (cv lo)) (by rw [cat_sum]; exact hst)
  show _ ≤ 40 * M.2.2.2.2.1
  omega
end CL
