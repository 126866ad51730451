section RW
variable {E : EV} {M : MD} {κ : Option Value → HP → Prop} {pc pc' : Nat} {L st : List Value} {h : HP} {cs ss : Nat}
theorem ofSP {np : Nat} {av : List Value} (hM : MOK M np) (hl : (enl av).length ≤ M.2.2.1) (hL : enl av ++ List.replicate (M.2.2.1 - (enl av).length) (.retAddr 0) = L) (H0 : SP E M κ 0 L [] h 0 0) : CT E M av h κ := by
  subst hL
  intro l lo D ca
  refine (hM.2.2.2.elim (fun hy => Met.ofW (cc := M.2.1) (maxL := M.2.2.1) (ret := M.2.2.2.1) hy rfl) (fun hy => va_MetF (cc := M.2.1) (maxL := M.2.2.1) (ret := M.2.2.2.1) hy rfl)) ?_
  intro p e s m args below meth c s₁ B hml hv
  obtain ⟨rfl, hlo, hR, hW, hK⟩ := hv
  have hts := hK.all (fun w hw => atoms_spec (ws := mWs M) B.pre w (List.mem_cons_of_mem _ hw))
  have hown : s.vm.findClass M.1.cls = some m.cls := findClass_of_methodNamed B.named
  have hin : meth.name = M.1.name := (name_of_methodNamed B.named B.method).1
  have hl' := lv_entry (av.map (cv lo)) (n := M.2.2.1) (by rw [enl_len]; exact hl)
  rw [lg_entry_eq]
  exact H0 p l e s m _ below meth c lo D ca s.heap [] _ ⟨B.exec, B.bytes, B.returns, hml, hown, hts, B.notSynchronized, hin⟩ hlo hK hR hW va_S.rf ⟨by simp; omega, hl'.mono (fun q hq => enl_sub _ av 0 q hq)⟩
/-- the same heap picture in other words -/
theorem s_eq {h' : HP} {L' st' : List Value} (hL : L = L') (hs : st = st') (hh : h = h') (k : SP E M κ pc L' st' h' cs ss) : SP E M κ pc L st h cs ss := by
  subst hL; subst hs; subst hh; exact k
theorem s_wid {c2 s2 : Nat} (h1 : cs ≤ c2) (h2 : ss ≤ s2) (k : SP E M κ pc L st h c2 s2) : SP E M κ pc L st h cs ss := by
  intro p l e s m args below meth c lo D ca H locs ls C g1 g2 g3 g4 g5 g6
  exact W.widen h1 h2 (k p l e s m args below meth c lo D ca H locs ls C g1 g2 g3 g4 g5 g6)
theorem s_iconst {n : Int} {v : Int32} (hd : decode M.2.1 pc = .ok (.iconst n, 1)) (hp : pc + 1 = pc') (hv : Int32.ofInt n = v) (k : SP E M κ pc' L (.int v :: st) h cs ss) : SP E M κ pc L (st) h cs ss := by
  subst hp
  intro p l e s m args below meth c lo D ca H locs ls C g1 g2 g3 g4 g5 g6
  exact lv_iconst C.1 C.2.1 hd hv (k p l e s m args below meth c lo D ca H locs ls C g1 g2 g3 g4 g5 g6)
theorem s_bipush {n : Int} {v : Int32} (hd : decode M.2.1 pc = .ok (.bipush n, 2)) (hp : pc + 2 = pc') (hv : (Int8.ofInt n).toInt32 = v) (k : SP E M κ pc' L (.int v :: st) h cs ss) : SP E M κ pc L (st) h cs ss := by
  subst hp
  intro p l e s m args below meth c lo D ca H locs ls C g1 g2 g3 g4 g5 g6
  exact lv_bipush C.1 C.2.1 hd hv (k p l e s m args below meth c lo D ca H locs ls C g1 g2 g3 g4 g5 g6)
theorem s_sipush {n : Int} {v : Int32} (hd : decode M.2.1 pc = .ok (.sipush n, 3)) (hp : pc + 3 = pc') (hv : (Int16.ofInt n).toInt32 = v) (k : SP E M κ pc' L (.int v :: st) h cs ss) : SP E M κ pc L (st) h cs ss := by
  subst hp
  intro p l e s m args below meth c lo D ca H locs ls C g1 g2 g3 g4 g5 g6
  exact lv_sipush C.1 C.2.1 hd hv (k p l e s m args below meth c lo D ca H locs ls C g1 g2 g3 g4 g5 g6)
theorem s_lconst {n : Fin 2} {v : Int64} (hd : decode M.2.1 pc = .ok (.lconst n, 1)) (hp : pc + 1 = pc') (hv : Int64.ofNat (n : Nat) = v) (k : SP E M κ pc' L (.long v :: st) h cs ss) : SP E M κ pc L (st) h cs ss := by
  subst hp
  intro p l e s m args below meth c lo D ca H locs ls C g1 g2 g3 g4 g5 g6
  exact lv_lconst C.1 C.2.1 hd hv (k p l e s m args below meth c lo D ca H locs ls C g1 g2 g3 g4 g5 g6)
theorem s_null  (hd : decode M.2.1 pc = .ok (.aconst_null, 1)) (hp : pc + 1 = pc') (k : SP E M κ pc' L (.null :: st) h cs ss) : SP E M κ pc L (st) h cs ss := by
  subst hp
  intro p l e s m args below meth c lo D ca H locs ls C g1 g2 g3 g4 g5 g6
  exact lv_null C.1 C.2.1 hd (k p l e s m args below meth c lo D ca H locs ls C g1 g2 g3 g4 g5 g6)
theorem s_ldc2 {i : Nat} {v : Int64} (hd : decode M.2.1 pc = .ok (.ldc2_w i, 3)) (hp : pc + 3 = pc') (hm : Cond.constantLong M.1.cls i v ∈ lw_u) (k : SP E M κ pc' L (.long v :: st) h cs ss) : SP E M κ pc L (st) h cs ss := by
  subst hp
  intro p l e s m args below meth c lo D ca H locs ls C g1 g2 g3 g4 g5 g6
  exact lv_ldc2 C.1 C.2.1 C.2.2.2.2.1 (C.2.2.2.2.2.1 _ hm) hd (k p l e s m args below meth c lo D ca H locs ls C g1 g2 g3 g4 g5 g6)
theorem s_ldcw {i : Nat} {v : Int32} (hd : decode M.2.1 pc = .ok (.ldc_w i, 3)) (hp : pc + 3 = pc') (hm : Cond.constant M.1.cls i v ∈ lw_u) (k : SP E M κ pc' L (.int v :: st) h cs ss) : SP E M κ pc L (st) h cs ss := by
  subst hp
  intro p l e s m args below meth c lo D ca H locs ls C g1 g2 g3 g4 g5 g6
  exact lv_ldcw C.1 C.2.1 C.2.2.2.2.1 (C.2.2.2.2.2.1 _ hm) hd (k p l e s m args below meth c lo D ca H locs ls C g1 g2 g3 g4 g5 g6)
theorem s_iload_n {q : Fin 4} {x : Int32} (hd : decode M.2.1 pc = .ok (.iload_n q, 1)) (hp : pc + 1 = pc') (hl : L[(q : Nat)]? = some (.int x)) (k : SP E M κ pc' L (.int x :: st) h cs ss) : SP E M κ pc L (st) h cs ss := by
  subst hp
  intro p l e s m args below meth c lo D ca H locs ls C g1 g2 g3 g4 g5 g6
  exact lv_iload_n C.1 C.2.1 hd rfl (g6.get hl (fun _ z => by cases z)) (k p l e s m args below meth c lo D ca H locs ls C g1 g2 g3 g4 g5 g6)
theorem s_iload {q : Nat} {x : Int32} (hd : decode M.2.1 pc = .ok (.iload q, 2)) (hp : pc + 2 = pc') (hl : L[q]? = some (.int x)) (k : SP E M κ pc' L (.int x :: st) h cs ss) : SP E M κ pc L (st) h cs ss := by
  subst hp
  intro p l e s m args below meth c lo D ca H locs ls C g1 g2 g3 g4 g5 g6
  exact lv_iload C.1 C.2.1 hd (g6.get hl (fun _ z => by cases z)) (k p l e s m args below meth c lo D ca H locs ls C g1 g2 g3 g4 g5 g6)
theorem s_lload_n {q : Fin 4} {x : Int64} (hd : decode M.2.1 pc = .ok (.lload_n q, 1)) (hp : pc + 1 = pc') (hl : L[(q : Nat)]? = some (.long x)) (k : SP E M κ pc' L (.long x :: st) h cs ss) : SP E M κ pc L (st) h cs ss := by
  subst hp
  intro p l e s m args below meth c lo D ca H locs ls C g1 g2 g3 g4 g5 g6
  exact lv_lload_n C.1 C.2.1 hd rfl (g6.get hl (fun _ z => by cases z)) (k p l e s m args below meth c lo D ca H locs ls C g1 g2 g3 g4 g5 g6)
theorem s_lload {q : Nat} {x : Int64} (hd : decode M.2.1 pc = .ok (.lload q, 2)) (hp : pc + 2 = pc') (hl : L[q]? = some (.long x)) (k : SP E M κ pc' L (.long x :: st) h cs ss) : SP E M κ pc L (st) h cs ss := by
  subst hp
  intro p l e s m args below meth c lo D ca H locs ls C g1 g2 g3 g4 g5 g6
  exact lv_lload C.1 C.2.1 hd (g6.get hl (fun _ z => by cases z)) (k p l e s m args below meth c lo D ca H locs ls C g1 g2 g3 g4 g5 g6)
theorem s_aload_n {q : Fin 4} {x : Nat} (hd : decode M.2.1 pc = .ok (.aload_n q, 1)) (hp : pc + 1 = pc') (hl : L[(q : Nat)]? = some (.ref x)) (k : SP E M κ pc' L (.ref x :: st) h cs ss) : SP E M κ pc L (st) h cs ss := by
  subst hp
  intro p l e s m args below meth c lo D ca H locs ls C g1 g2 g3 g4 g5 g6
  exact lv_aload_n C.1 C.2.1 hd rfl (g6.get hl (fun _ z => by cases z)) (k p l e s m args below meth c lo D ca H locs ls C g1 g2 g3 g4 g5 g6)
theorem s_aload_nN {q : Fin 4} (hd : decode M.2.1 pc = .ok (.aload_n q, 1)) (hp : pc + 1 = pc') (hl : L[(q : Nat)]? = some .null) (k : SP E M κ pc' L (.null :: st) h cs ss) : SP E M κ pc L (st) h cs ss := by
  subst hp
  intro p l e s m args below meth c lo D ca H locs ls C g1 g2 g3 g4 g5 g6
  exact lv_aload_nN C.1 C.2.1 hd rfl (g6.get hl (fun _ z => by cases z)) (k p l e s m args below meth c lo D ca H locs ls C g1 g2 g3 g4 g5 g6)
theorem s_aload {q : Nat} {x : Nat} (hd : decode M.2.1 pc = .ok (.aload q, 2)) (hp : pc + 2 = pc') (hl : L[q]? = some (.ref x)) (k : SP E M κ pc' L (.ref x :: st) h cs ss) : SP E M κ pc L (st) h cs ss := by
  subst hp
  intro p l e s m args below meth c lo D ca H locs ls C g1 g2 g3 g4 g5 g6
  exact lv_aload C.1 C.2.1 hd (g6.get hl (fun _ z => by cases z)) (k p l e s m args below meth c lo D ca H locs ls C g1 g2 g3 g4 g5 g6)
theorem s_aloadN {q : Nat} (hd : decode M.2.1 pc = .ok (.aload q, 2)) (hp : pc + 2 = pc') (hl : L[q]? = some .null) (k : SP E M κ pc' L (.null :: st) h cs ss) : SP E M κ pc L (st) h cs ss := by
  subst hp
  intro p l e s m args below meth c lo D ca H locs ls C g1 g2 g3 g4 g5 g6
  exact lv_aloadN C.1 C.2.1 hd (g6.get hl (fun _ z => by cases z)) (k p l e s m args below meth c lo D ca H locs ls C g1 g2 g3 g4 g5 g6)
theorem s_istore_n {q : Fin 4} {x : Int32} (hd : decode M.2.1 pc = .ok (.istore_n q, 1)) (hp : pc + 1 = pc') (hn : (q : Nat) < L.length) (k : SP E M κ pc' (st1 L (q : Nat) (.int x)) st h cs ss) : SP E M κ pc L (.int x :: st) h cs ss := by
  subst hp
  intro p l e s m args below meth c lo D ca H locs ls C g1 g2 g3 g4 g5 g6
  exact lv_istore_n C.1 C.2.1 hd rfl g6.2 (by rw [← g6.1]; exact hn) rfl (fun ls2 hl2 => k p l e s m args below meth c lo D ca H locs ls2 C g1 g2 g3 g4 g5 ⟨by rw [st1_len]; exact g6.1, hl2.mono (st1_sub hn)⟩)
theorem s_istore {q : Nat} {x : Int32} (hd : decode M.2.1 pc = .ok (.istore q, 2)) (hp : pc + 2 = pc') (hn : q < L.length) (k : SP E M κ pc' (st1 L q (.int x)) st h cs ss) : SP E M κ pc L (.int x :: st) h cs ss := by
  subst hp
  intro p l e s m args below meth c lo D ca H locs ls C g1 g2 g3 g4 g5 g6
  exact lv_istore C.1 C.2.1 hd g6.2 (by rw [← g6.1]; exact hn) rfl (fun ls2 hl2 => k p l e s m args below meth c lo D ca H locs ls2 C g1 g2 g3 g4 g5 ⟨by rw [st1_len]; exact g6.1, hl2.mono (st1_sub hn)⟩)
theorem s_lstore_n {q : Fin 4} {x : Int64} (hd : decode M.2.1 pc = .ok (.lstore_n q, 1)) (hp : pc + 1 = pc') (hn : (q : Nat) + 1 < L.length) (k : SP E M κ pc' (st2 L (q : Nat) (.long x)) st h cs ss) : SP E M κ pc L (.long x :: st) h cs ss := by
  subst hp
  intro p l e s m args below meth c lo D ca H locs ls C g1 g2 g3 g4 g5 g6
  exact lv_lstore_n C.1 C.2.1 hd rfl g6.2 (by rw [← g6.1]; exact hn) rfl (fun ls2 hl2 => k p l e s m args below meth c lo D ca H locs ls2 C g1 g2 g3 g4 g5 ⟨by rw [st2_len]; exact g6.1, hl2.mono (st2_sub hn)⟩)
theorem s_lstore {q : Nat} {x : Int64} (hd : decode M.2.1 pc = .ok (.lstore q, 2)) (hp : pc + 2 = pc') (hn : q + 1 < L.length) (k : SP E M κ pc' (st2 L q (.long x)) st h cs ss) : SP E M κ pc L (.long x :: st) h cs ss := by
  subst hp
  intro p l e s m args below meth c lo D ca H locs ls C g1 g2 g3 g4 g5 g6
  exact lv_lstore C.1 C.2.1 hd g6.2 (by rw [← g6.1]; exact hn) rfl (fun ls2 hl2 => k p l e s m args below meth c lo D ca H locs ls2 C g1 g2 g3 g4 g5 ⟨by rw [st2_len]; exact g6.1, hl2.mono (st2_sub hn)⟩)
theorem s_astore_n {q : Fin 4} {x : Nat} (hd : decode M.2.1 pc = .ok (.astore_n q, 1)) (hp : pc + 1 = pc') (hn : (q : Nat) < L.length) (k : SP E M κ pc' (st1 L (q : Nat) (.ref x)) st h cs ss) : SP E M κ pc L (.ref x :: st) h cs ss := by
  subst hp
  intro p l e s m args below meth c lo D ca H locs ls C g1 g2 g3 g4 g5 g6
  exact lv_astore_n C.1 C.2.1 hd rfl g6.2 (by rw [← g6.1]; exact hn) rfl (fun ls2 hl2 => k p l e s m args below meth c lo D ca H locs ls2 C g1 g2 g3 g4 g5 ⟨by rw [st1_len]; exact g6.1, hl2.mono (st1_sub hn)⟩)
theorem s_astore {q : Nat} {x : Nat} (hd : decode M.2.1 pc = .ok (.astore q, 2)) (hp : pc + 2 = pc') (hn : q < L.length) (k : SP E M κ pc' (st1 L q (.ref x)) st h cs ss) : SP E M κ pc L (.ref x :: st) h cs ss := by
  subst hp
  intro p l e s m args below meth c lo D ca H locs ls C g1 g2 g3 g4 g5 g6
  exact lv_astore C.1 C.2.1 hd g6.2 (by rw [← g6.1]; exact hn) rfl (fun ls2 hl2 => k p l e s m args below meth c lo D ca H locs ls2 C g1 g2 g3 g4 g5 ⟨by rw [st1_len]; exact g6.1, hl2.mono (st1_sub hn)⟩)
theorem s_astore_nN {q : Fin 4} (hd : decode M.2.1 pc = .ok (.astore_n q, 1)) (hp : pc + 1 = pc') (hn : (q : Nat) < L.length) (k : SP E M κ pc' (st1 L (q : Nat) (.null)) st h cs ss) : SP E M κ pc L (.null :: st) h cs ss := by
  subst hp
  intro p l e s m args below meth c lo D ca H locs ls C g1 g2 g3 g4 g5 g6
  exact lv_astore_nN C.1 C.2.1 hd rfl g6.2 (by rw [← g6.1]; exact hn) rfl (fun ls2 hl2 => k p l e s m args below meth c lo D ca H locs ls2 C g1 g2 g3 g4 g5 ⟨by rw [st1_len]; exact g6.1, hl2.mono (st1_sub hn)⟩)
theorem s_astoreN {q : Nat} (hd : decode M.2.1 pc = .ok (.astore q, 2)) (hp : pc + 2 = pc') (hn : q < L.length) (k : SP E M κ pc' (st1 L q (.null)) st h cs ss) : SP E M κ pc L (.null :: st) h cs ss := by
  subst hp
  intro p l e s m args below meth c lo D ca H locs ls C g1 g2 g3 g4 g5 g6
  exact lv_astoreN C.1 C.2.1 hd g6.2 (by rw [← g6.1]; exact hn) rfl (fun ls2 hl2 => k p l e s m args below meth c lo D ca H locs ls2 C g1 g2 g3 g4 g5 ⟨by rw [st1_len]; exact g6.1, hl2.mono (st1_sub hn)⟩)
theorem s_iinc {q : Nat} {n : Int} {x v : Int32} (hd : decode M.2.1 pc = .ok (.iinc q n, 3)) (hp : pc + 3 = pc') (hl : L[q]? = some (.int x)) (hv : x + Int32.ofInt n = v) (k : SP E M κ pc' (st1 L q (.int v)) st h cs ss) : SP E M κ pc L st h cs ss := by
  subst hp
  intro p l e s m args below meth c lo D ca H locs ls C g1 g2 g3 g4 g5 g6
  have hn : q < L.length := (List.getElem?_eq_some_iff.mp hl).1
  obtain ⟨i, hi⟩ := List.getElem?_of_mem (lvl_mem (lo := lo) (v := .int x) (fun _ z => by cases z) L 0 q hl)
  rw [Nat.zero_add] at hi
  exact lv_iinc C.1 C.2.1 hd g6.2 (k := i) hi hv (by rw [← g6.1]; exact hn) rfl (fun ls2 hl2 => k p l e s m args below meth c lo D ca H locs ls2 C g1 g2 g3 g4 g5 ⟨by rw [st1_len]; exact g6.1, hl2.mono (st1_sub hn)⟩)
theorem s_iadd {x y : Int32} (hd : decode M.2.1 pc = .ok (.iadd, 1)) (hp : pc + 1 = pc') (k : SP E M κ pc' L (.int (x + y) :: st) h cs ss) : SP E M κ pc L (.int y :: .int x :: st) h cs ss := by
  subst hp
  intro p l e s m args below meth c lo D ca H locs ls C g1 g2 g3 g4 g5 g6
  exact lv_iadd C.1 C.2.1 hd (k p l e s m args below meth c lo D ca H locs ls C g1 g2 g3 g4 g5 g6)
theorem s_isub {x y : Int32} (hd : decode M.2.1 pc = .ok (.isub, 1)) (hp : pc + 1 = pc') (k : SP E M κ pc' L (.int (x - y) :: st) h cs ss) : SP E M κ pc L (.int y :: .int x :: st) h cs ss := by
  subst hp
  intro p l e s m args below meth c lo D ca H locs ls C g1 g2 g3 g4 g5 g6
  exact lv_isub C.1 C.2.1 hd (k p l e s m args below meth c lo D ca H locs ls C g1 g2 g3 g4 g5 g6)
theorem s_imul {x y : Int32} (hd : decode M.2.1 pc = .ok (.imul, 1)) (hp : pc + 1 = pc') (k : SP E M κ pc' L (.int (x * y) :: st) h cs ss) : SP E M κ pc L (.int y :: .int x :: st) h cs ss := by
  subst hp
  intro p l e s m args below meth c lo D ca H locs ls C g1 g2 g3 g4 g5 g6
  exact lv_imul C.1 C.2.1 hd (k p l e s m args below meth c lo D ca H locs ls C g1 g2 g3 g4 g5 g6)
theorem s_iand {x y : Int32} (hd : decode M.2.1 pc = .ok (.iand, 1)) (hp : pc + 1 = pc') (k : SP E M κ pc' L (.int (x &&& y) :: st) h cs ss) : SP E M κ pc L (.int y :: .int x :: st) h cs ss := by
  subst hp
  intro p l e s m args below meth c lo D ca H locs ls C g1 g2 g3 g4 g5 g6
  exact lv_iand C.1 C.2.1 hd (k p l e s m args below meth c lo D ca H locs ls C g1 g2 g3 g4 g5 g6)
theorem s_ior {x y : Int32} (hd : decode M.2.1 pc = .ok (.ior, 1)) (hp : pc + 1 = pc') (k : SP E M κ pc' L (.int (x ||| y) :: st) h cs ss) : SP E M κ pc L (.int y :: .int x :: st) h cs ss := by
  subst hp
  intro p l e s m args below meth c lo D ca H locs ls C g1 g2 g3 g4 g5 g6
  exact lv_ior C.1 C.2.1 hd (k p l e s m args below meth c lo D ca H locs ls C g1 g2 g3 g4 g5 g6)
theorem s_ixor {x y : Int32} (hd : decode M.2.1 pc = .ok (.ixor, 1)) (hp : pc + 1 = pc') (k : SP E M κ pc' L (.int (x ^^^ y) :: st) h cs ss) : SP E M κ pc L (.int y :: .int x :: st) h cs ss := by
  subst hp
  intro p l e s m args below meth c lo D ca H locs ls C g1 g2 g3 g4 g5 g6
  exact lv_ixor C.1 C.2.1 hd (k p l e s m args below meth c lo D ca H locs ls C g1 g2 g3 g4 g5 g6)
theorem s_ishl {x y : Int32} (hd : decode M.2.1 pc = .ok (.ishl, 1)) (hp : pc + 1 = pc') (k : SP E M κ pc' L (.int (x <<< (y &&& 31)) :: st) h cs ss) : SP E M κ pc L (.int y :: .int x :: st) h cs ss := by
  subst hp
  intro p l e s m args below meth c lo D ca H locs ls C g1 g2 g3 g4 g5 g6
  exact lv_ishl C.1 C.2.1 hd (k p l e s m args below meth c lo D ca H locs ls C g1 g2 g3 g4 g5 g6)
theorem s_ishr {x y : Int32} (hd : decode M.2.1 pc = .ok (.ishr, 1)) (hp : pc + 1 = pc') (k : SP E M κ pc' L (.int (x >>> (y &&& 31)) :: st) h cs ss) : SP E M κ pc L (.int y :: .int x :: st) h cs ss := by
  subst hp
  intro p l e s m args below meth c lo D ca H locs ls C g1 g2 g3 g4 g5 g6
  exact lv_ishr C.1 C.2.1 hd (k p l e s m args below meth c lo D ca H locs ls C g1 g2 g3 g4 g5 g6)
theorem s_iushr {x y : Int32} (hd : decode M.2.1 pc = .ok (.iushr, 1)) (hp : pc + 1 = pc') (k : SP E M κ pc' L (.int ((x.toUInt32 >>> (y.toUInt32 &&& Int32.toUInt32 31)).toInt32) :: st) h cs ss) : SP E M κ pc L (.int y :: .int x :: st) h cs ss := by
  subst hp
  intro p l e s m args below meth c lo D ca H locs ls C g1 g2 g3 g4 g5 g6
  exact lv_iushr C.1 C.2.1 hd rfl (k p l e s m args below meth c lo D ca H locs ls C g1 g2 g3 g4 g5 g6)
theorem s_ladd {x y : Int64} (hd : decode M.2.1 pc = .ok (.ladd, 1)) (hp : pc + 1 = pc') (k : SP E M κ pc' L (.long (x + y) :: st) h cs ss) : SP E M κ pc L (.long y :: .long x :: st) h cs ss := by
  subst hp
  intro p l e s m args below meth c lo D ca H locs ls C g1 g2 g3 g4 g5 g6
  exact lv_ladd C.1 C.2.1 hd (k p l e s m args below meth c lo D ca H locs ls C g1 g2 g3 g4 g5 g6)
theorem s_lsub {x y : Int64} (hd : decode M.2.1 pc = .ok (.lsub, 1)) (hp : pc + 1 = pc') (k : SP E M κ pc' L (.long (x - y) :: st) h cs ss) : SP E M κ pc L (.long y :: .long x :: st) h cs ss := by
  subst hp
  intro p l e s m args below meth c lo D ca H locs ls C g1 g2 g3 g4 g5 g6
  exact lv_lsub C.1 C.2.1 hd (k p l e s m args below meth c lo D ca H locs ls C g1 g2 g3 g4 g5 g6)
theorem s_lmul {x y : Int64} (hd : decode M.2.1 pc = .ok (.lmul, 1)) (hp : pc + 1 = pc') (k : SP E M κ pc' L (.long (x * y) :: st) h cs ss) : SP E M κ pc L (.long y :: .long x :: st) h cs ss := by
  subst hp
  intro p l e s m args below meth c lo D ca H locs ls C g1 g2 g3 g4 g5 g6
  exact lv_lmul C.1 C.2.1 hd (k p l e s m args below meth c lo D ca H locs ls C g1 g2 g3 g4 g5 g6)
theorem s_idiv {x y : Int32} (hd : decode M.2.1 pc = .ok (.idiv, 1)) (hp : pc + 1 = pc') (hy : ¬ y = 0) (k : SP E M κ pc' L (.int (x / y) :: st) h cs ss) : SP E M κ pc L (.int y :: .int x :: st) h cs ss := by
  subst hp
  intro p l e s m args below meth c lo D ca H locs ls C g1 g2 g3 g4 g5 g6
  exact lv_idiv C.1 C.2.1 hd hy (k p l e s m args below meth c lo D ca H locs ls C g1 g2 g3 g4 g5 g6)
theorem s_irem {x y : Int32} (hd : decode M.2.1 pc = .ok (.irem, 1)) (hp : pc + 1 = pc') (hy : ¬ y = 0) (k : SP E M κ pc' L (.int (x - x / y * y) :: st) h cs ss) : SP E M κ pc L (.int y :: .int x :: st) h cs ss := by
  subst hp
  intro p l e s m args below meth c lo D ca H locs ls C g1 g2 g3 g4 g5 g6
  exact lv_irem C.1 C.2.1 hd hy (k p l e s m args below meth c lo D ca H locs ls C g1 g2 g3 g4 g5 g6)
theorem s_ldiv {x y : Int64} (hd : decode M.2.1 pc = .ok (.ldiv, 1)) (hp : pc + 1 = pc') (hy : ¬ y = 0) (k : SP E M κ pc' L (.long (x / y) :: st) h cs ss) : SP E M κ pc L (.long y :: .long x :: st) h cs ss := by
  subst hp
  intro p l e s m args below meth c lo D ca H locs ls C g1 g2 g3 g4 g5 g6
  exact lv_ldiv C.1 C.2.1 hd hy (k p l e s m args below meth c lo D ca H locs ls C g1 g2 g3 g4 g5 g6)
theorem s_lrem {x y : Int64} (hd : decode M.2.1 pc = .ok (.lrem, 1)) (hp : pc + 1 = pc') (hy : ¬ y = 0) (k : SP E M κ pc' L (.long (x - x / y * y) :: st) h cs ss) : SP E M κ pc L (.long y :: .long x :: st) h cs ss := by
  subst hp
  intro p l e s m args below meth c lo D ca H locs ls C g1 g2 g3 g4 g5 g6
  exact lv_lrem C.1 C.2.1 hd hy (k p l e s m args below meth c lo D ca H locs ls C g1 g2 g3 g4 g5 g6)
theorem s_ineg {x : Int32} (hd : decode M.2.1 pc = .ok (.ineg, 1)) (hp : pc + 1 = pc') (k : SP E M κ pc' L (.int (-x) :: st) h cs ss) : SP E M κ pc L (.int x :: st) h cs ss := by
  subst hp
  intro p l e s m args below meth c lo D ca H locs ls C g1 g2 g3 g4 g5 g6
  exact lv_ineg C.1 C.2.1 hd (k p l e s m args below meth c lo D ca H locs ls C g1 g2 g3 g4 g5 g6)
theorem s_lneg {x : Int64} (hd : decode M.2.1 pc = .ok (.lneg, 1)) (hp : pc + 1 = pc') (k : SP E M κ pc' L (.long (-x) :: st) h cs ss) : SP E M κ pc L (.long x :: st) h cs ss := by
  subst hp
  intro p l e s m args below meth c lo D ca H locs ls C g1 g2 g3 g4 g5 g6
  exact lv_lneg C.1 C.2.1 hd (k p l e s m args below meth c lo D ca H locs ls C g1 g2 g3 g4 g5 g6)
theorem s_i2l {x : Int32} (hd : decode M.2.1 pc = .ok (.i2l, 1)) (hp : pc + 1 = pc') (k : SP E M κ pc' L (.long x.toInt64 :: st) h cs ss) : SP E M κ pc L (.int x :: st) h cs ss := by
  subst hp
  intro p l e s m args below meth c lo D ca H locs ls C g1 g2 g3 g4 g5 g6
  exact lv_i2l C.1 C.2.1 hd rfl (k p l e s m args below meth c lo D ca H locs ls C g1 g2 g3 g4 g5 g6)
theorem s_l2i {x : Int64} (hd : decode M.2.1 pc = .ok (.l2i, 1)) (hp : pc + 1 = pc') (k : SP E M κ pc' L (.int x.toInt32 :: st) h cs ss) : SP E M κ pc L (.long x :: st) h cs ss := by
  subst hp
  intro p l e s m args below meth c lo D ca H locs ls C g1 g2 g3 g4 g5 g6
  exact lv_l2i C.1 C.2.1 hd rfl (k p l e s m args below meth c lo D ca H locs ls C g1 g2 g3 g4 g5 g6)
theorem s_i2b {x : Int32} (hd : decode M.2.1 pc = .ok (.i2b, 1)) (hp : pc + 1 = pc') (k : SP E M κ pc' L (.int x.toInt8.toInt32 :: st) h cs ss) : SP E M κ pc L (.int x :: st) h cs ss := by
  subst hp
  intro p l e s m args below meth c lo D ca H locs ls C g1 g2 g3 g4 g5 g6
  exact lv_i2b C.1 C.2.1 hd rfl (k p l e s m args below meth c lo D ca H locs ls C g1 g2 g3 g4 g5 g6)
theorem s_lcmp {x y : Int64} (hd : decode M.2.1 pc = .ok (.lcmp, 1)) (hp : pc + 1 = pc') (k : SP E M κ pc' L (.int (lg_cmp x y) :: st) h cs ss) : SP E M κ pc L (.long y :: .long x :: st) h cs ss := by
  subst hp
  intro p l e s m args below meth c lo D ca H locs ls C g1 g2 g3 g4 g5 g6
  exact W.lcmp C.1 C.2.1 hd (k p l e s m args below meth c lo D ca H locs ls C g1 g2 g3 g4 g5 g6)
theorem s_dup {v : Value} (hd : decode M.2.1 pc = .ok (.dup, 1)) (hp : pc + 1 = pc') (hv : v.category = 1) (k : SP E M κ pc' L (v :: v :: st) h cs ss) : SP E M κ pc L (v :: st) h cs ss := by
  subst hp
  intro p l e s m args below meth c lo D ca H locs ls C g1 g2 g3 g4 g5 g6
  exact lv_dup C.1 C.2.1 hd (by rw [cv_cat]; exact hv) (k p l e s m args below meth c lo D ca H locs ls C g1 g2 g3 g4 g5 g6)
theorem s_dup2 {v w : Value} (hd : decode M.2.1 pc = .ok (.dup2, 1)) (hp : pc + 1 = pc') (hv : v.category = 1) (hw : w.category = 1) (k : SP E M κ pc' L (v :: w :: v :: w :: st) h cs ss) : SP E M κ pc L (v :: w :: st) h cs ss := by
  subst hp
  intro p l e s m args below meth c lo D ca H locs ls C g1 g2 g3 g4 g5 g6
  exact lv_dup2_11 C.1 C.2.1 hd (by rw [cv_cat]; exact hv) (by rw [cv_cat]; exact hw) (k p l e s m args below meth c lo D ca H locs ls C g1 g2 g3 g4 g5 g6)
theorem s_dup_x1 {v w : Value} (hd : decode M.2.1 pc = .ok (.dup_x1, 1)) (hp : pc + 1 = pc') (hv : v.category = 1) (hw : w.category = 1) (k : SP E M κ pc' L (v :: w :: v :: st) h cs ss) : SP E M κ pc L (v :: w :: st) h cs ss := by
  subst hp
  intro p l e s m args below meth c lo D ca H locs ls C g1 g2 g3 g4 g5 g6
  exact lv_dup_x1 C.1 C.2.1 hd (by rw [cv_cat]; exact hv) (by rw [cv_cat]; exact hw) (k p l e s m args below meth c lo D ca H locs ls C g1 g2 g3 g4 g5 g6)
theorem s_ifeq {x : Int32} {off : Int} {tgt : Nat} (hd : decode M.2.1 pc = .ok (.ifCond .eq off, 3)) (ht : (pc : Int) + off = (tgt : Int)) (hp : pc + 3 = pc') (kt : x = 0 → SP E M κ tgt L st h cs ss) (kf : ¬ (x = 0) → SP E M κ pc' L st h cs ss) : SP E M κ pc L (.int x :: st) h cs ss := by
  subst hp
  intro p l e s m args below meth c lo D ca H locs ls C g1 g2 g3 g4 g5 g6
  exact lv_if_eq C.1 C.2.1 hd ht (fun z => kt z p l e s m args below meth c lo D ca H locs ls C g1 g2 g3 g4 g5 g6) (fun z => kf z p l e s m args below meth c lo D ca H locs ls C g1 g2 g3 g4 g5 g6)
theorem s_ifne {x : Int32} {off : Int} {tgt : Nat} (hd : decode M.2.1 pc = .ok (.ifCond .ne off, 3)) (ht : (pc : Int) + off = (tgt : Int)) (hp : pc + 3 = pc') (kt : x ≠ 0 → SP E M κ tgt L st h cs ss) (kf : x = 0 → SP E M κ pc' L st h cs ss) : SP E M κ pc L (.int x :: st) h cs ss := by
  subst hp
  intro p l e s m args below meth c lo D ca H locs ls C g1 g2 g3 g4 g5 g6
  exact lv_if_ne C.1 C.2.1 hd ht (fun z => kt z p l e s m args below meth c lo D ca H locs ls C g1 g2 g3 g4 g5 g6) (fun z => kf z p l e s m args below meth c lo D ca H locs ls C g1 g2 g3 g4 g5 g6)
theorem s_iflt {x : Int32} {off : Int} {tgt : Nat} (hd : decode M.2.1 pc = .ok (.ifCond .lt off, 3)) (ht : (pc : Int) + off = (tgt : Int)) (hp : pc + 3 = pc') (kt : x < 0 → SP E M κ tgt L st h cs ss) (kf : ¬ (x < 0) → SP E M κ pc' L st h cs ss) : SP E M κ pc L (.int x :: st) h cs ss := by
  subst hp
  intro p l e s m args below meth c lo D ca H locs ls C g1 g2 g3 g4 g5 g6
  exact lv_if_lt C.1 C.2.1 hd ht (fun z => kt z p l e s m args below meth c lo D ca H locs ls C g1 g2 g3 g4 g5 g6) (fun z => kf z p l e s m args below meth c lo D ca H locs ls C g1 g2 g3 g4 g5 g6)
theorem s_ifge {x : Int32} {off : Int} {tgt : Nat} (hd : decode M.2.1 pc = .ok (.ifCond .ge off, 3)) (ht : (pc : Int) + off = (tgt : Int)) (hp : pc + 3 = pc') (kt : 0 ≤ x → SP E M κ tgt L st h cs ss) (kf : ¬ (0 ≤ x) → SP E M κ pc' L st h cs ss) : SP E M κ pc L (.int x :: st) h cs ss := by
  subst hp
  intro p l e s m args below meth c lo D ca H locs ls C g1 g2 g3 g4 g5 g6
  exact lv_if_ge C.1 C.2.1 hd ht (fun z => kt z p l e s m args below meth c lo D ca H locs ls C g1 g2 g3 g4 g5 g6) (fun z => kf z p l e s m args below meth c lo D ca H locs ls C g1 g2 g3 g4 g5 g6)
theorem s_ifgt {x : Int32} {off : Int} {tgt : Nat} (hd : decode M.2.1 pc = .ok (.ifCond .gt off, 3)) (ht : (pc : Int) + off = (tgt : Int)) (hp : pc + 3 = pc') (kt : 0 < x → SP E M κ tgt L st h cs ss) (kf : ¬ (0 < x) → SP E M κ pc' L st h cs ss) : SP E M κ pc L (.int x :: st) h cs ss := by
  subst hp
  intro p l e s m args below meth c lo D ca H locs ls C g1 g2 g3 g4 g5 g6
  exact lv_if_gt C.1 C.2.1 hd ht (fun z => kt z p l e s m args below meth c lo D ca H locs ls C g1 g2 g3 g4 g5 g6) (fun z => kf z p l e s m args below meth c lo D ca H locs ls C g1 g2 g3 g4 g5 g6)
theorem s_ifle {x : Int32} {off : Int} {tgt : Nat} (hd : decode M.2.1 pc = .ok (.ifCond .le off, 3)) (ht : (pc : Int) + off = (tgt : Int)) (hp : pc + 3 = pc') (kt : x ≤ 0 → SP E M κ tgt L st h cs ss) (kf : ¬ (x ≤ 0) → SP E M κ pc' L st h cs ss) : SP E M κ pc L (.int x :: st) h cs ss := by
  subst hp
  intro p l e s m args below meth c lo D ca H locs ls C g1 g2 g3 g4 g5 g6
  exact lv_if_le C.1 C.2.1 hd ht (fun z => kt z p l e s m args below meth c lo D ca H locs ls C g1 g2 g3 g4 g5 g6) (fun z => kf z p l e s m args below meth c lo D ca H locs ls C g1 g2 g3 g4 g5 g6)
theorem s_icmpeq {x y : Int32} {off : Int} {tgt : Nat} (hd : decode M.2.1 pc = .ok (.if_icmp .eq off, 3)) (ht : (pc : Int) + off = (tgt : Int)) (hp : pc + 3 = pc') (kt : x = y → SP E M κ tgt L st h cs ss) (kf : ¬ (x = y) → SP E M κ pc' L st h cs ss) : SP E M κ pc L (.int y :: .int x :: st) h cs ss := by
  subst hp
  intro p l e s m args below meth c lo D ca H locs ls C g1 g2 g3 g4 g5 g6
  exact lv_icmp_eq C.1 C.2.1 hd ht (fun z => kt z p l e s m args below meth c lo D ca H locs ls C g1 g2 g3 g4 g5 g6) (fun z => kf z p l e s m args below meth c lo D ca H locs ls C g1 g2 g3 g4 g5 g6)
theorem s_icmpne {x y : Int32} {off : Int} {tgt : Nat} (hd : decode M.2.1 pc = .ok (.if_icmp .ne off, 3)) (ht : (pc : Int) + off = (tgt : Int)) (hp : pc + 3 = pc') (kt : x ≠ y → SP E M κ tgt L st h cs ss) (kf : x = y → SP E M κ pc' L st h cs ss) : SP E M κ pc L (.int y :: .int x :: st) h cs ss := by
  subst hp
  intro p l e s m args below meth c lo D ca H locs ls C g1 g2 g3 g4 g5 g6
  exact lv_icmp_ne C.1 C.2.1 hd ht (fun z => kt z p l e s m args below meth c lo D ca H locs ls C g1 g2 g3 g4 g5 g6) (fun z => kf z p l e s m args below meth c lo D ca H locs ls C g1 g2 g3 g4 g5 g6)
theorem s_icmplt {x y : Int32} {off : Int} {tgt : Nat} (hd : decode M.2.1 pc = .ok (.if_icmp .lt off, 3)) (ht : (pc : Int) + off = (tgt : Int)) (hp : pc + 3 = pc') (kt : x < y → SP E M κ tgt L st h cs ss) (kf : ¬ (x < y) → SP E M κ pc' L st h cs ss) : SP E M κ pc L (.int y :: .int x :: st) h cs ss := by
  subst hp
  intro p l e s m args below meth c lo D ca H locs ls C g1 g2 g3 g4 g5 g6
  exact lv_icmp_lt C.1 C.2.1 hd ht (fun z => kt z p l e s m args below meth c lo D ca H locs ls C g1 g2 g3 g4 g5 g6) (fun z => kf z p l e s m args below meth c lo D ca H locs ls C g1 g2 g3 g4 g5 g6)
theorem s_icmpge {x y : Int32} {off : Int} {tgt : Nat} (hd : decode M.2.1 pc = .ok (.if_icmp .ge off, 3)) (ht : (pc : Int) + off = (tgt : Int)) (hp : pc + 3 = pc') (kt : y ≤ x → SP E M κ tgt L st h cs ss) (kf : ¬ (y ≤ x) → SP E M κ pc' L st h cs ss) : SP E M κ pc L (.int y :: .int x :: st) h cs ss := by
  subst hp
  intro p l e s m args below meth c lo D ca H locs ls C g1 g2 g3 g4 g5 g6
  exact lv_icmp_ge C.1 C.2.1 hd ht (fun z => kt z p l e s m args below meth c lo D ca H locs ls C g1 g2 g3 g4 g5 g6) (fun z => kf z p l e s m args below meth c lo D ca H locs ls C g1 g2 g3 g4 g5 g6)
theorem s_icmpgt {x y : Int32} {off : Int} {tgt : Nat} (hd : decode M.2.1 pc = .ok (.if_icmp .gt off, 3)) (ht : (pc : Int) + off = (tgt : Int)) (hp : pc + 3 = pc') (kt : y < x → SP E M κ tgt L st h cs ss) (kf : ¬ (y < x) → SP E M κ pc' L st h cs ss) : SP E M κ pc L (.int y :: .int x :: st) h cs ss := by
  subst hp
  intro p l e s m args below meth c lo D ca H locs ls C g1 g2 g3 g4 g5 g6
  exact lv_icmp_gt C.1 C.2.1 hd ht (fun z => kt z p l e s m args below meth c lo D ca H locs ls C g1 g2 g3 g4 g5 g6) (fun z => kf z p l e s m args below meth c lo D ca H locs ls C g1 g2 g3 g4 g5 g6)
theorem s_icmple {x y : Int32} {off : Int} {tgt : Nat} (hd : decode M.2.1 pc = .ok (.if_icmp .le off, 3)) (ht : (pc : Int) + off = (tgt : Int)) (hp : pc + 3 = pc') (kt : x ≤ y → SP E M κ tgt L st h cs ss) (kf : ¬ (x ≤ y) → SP E M κ pc' L st h cs ss) : SP E M κ pc L (.int y :: .int x :: st) h cs ss := by
  subst hp
  intro p l e s m args below meth c lo D ca H locs ls C g1 g2 g3 g4 g5 g6
  exact lv_icmp_le C.1 C.2.1 hd ht (fun z => kt z p l e s m args below meth c lo D ca H locs ls C g1 g2 g3 g4 g5 g6) (fun z => kf z p l e s m args below meth c lo D ca H locs ls C g1 g2 g3 g4 g5 g6)
theorem s_goto {off : Int} {tgt : Nat} (hd : decode M.2.1 pc = .ok (.goto off, 3)) (ht : (pc : Int) + off = (tgt : Int)) (k : SP E M κ tgt L st h cs ss) : SP E M κ pc L st h cs ss := by
  intro p l e s m args below meth c lo D ca H locs ls C g1 g2 g3 g4 g5 g6
  exact lv_goto C.1 C.2.1 hd ht (k p l e s m args below meth c lo D ca H locs ls C g1 g2 g3 g4 g5 g6)
theorem s_ifnull {x : Nat} {off : Int} (hd : decode M.2.1 pc = .ok (.ifnull off, 3)) (hp : pc + 3 = pc') (k : SP E M κ pc' L st h cs ss) : SP E M κ pc L (.ref x :: st) h cs ss := by
  subst hp
  intro p l e s m args below meth c lo D ca H locs ls C g1 g2 g3 g4 g5 g6
  exact lv_ifnull C.1 C.2.1 hd (k p l e s m args below meth c lo D ca H locs ls C g1 g2 g3 g4 g5 g6)
theorem s_ifnullN {off : Int} {tgt : Nat} (hd : decode M.2.1 pc = .ok (.ifnull off, 3)) (ht : (pc : Int) + off = (tgt : Int)) (k : SP E M κ tgt L st h cs ss) : SP E M κ pc L (.null :: st) h cs ss := by
  intro p l e s m args below meth c lo D ca H locs ls C g1 g2 g3 g4 g5 g6
  exact lv_ifnullN C.1 C.2.1 hd ht (k p l e s m args below meth c lo D ca H locs ls C g1 g2 g3 g4 g5 g6)
theorem s_ifnonnull {x : Nat} {off : Int} {tgt : Nat} (hd : decode M.2.1 pc = .ok (.ifnonnull off, 3)) (ht : (pc : Int) + off = (tgt : Int)) (k : SP E M κ tgt L st h cs ss) : SP E M κ pc L (.ref x :: st) h cs ss := by
  intro p l e s m args below meth c lo D ca H locs ls C g1 g2 g3 g4 g5 g6
  exact lv_ifnonnull C.1 C.2.1 hd ht (k p l e s m args below meth c lo D ca H locs ls C g1 g2 g3 g4 g5 g6)
theorem s_ifnonnullN {off : Int} (hd : decode M.2.1 pc = .ok (.ifnonnull off, 3)) (hp : pc + 3 = pc') (k : SP E M κ pc' L st h cs ss) : SP E M κ pc L (.null :: st) h cs ss := by
  subst hp
  intro p l e s m args below meth c lo D ca H locs ls C g1 g2 g3 g4 g5 g6
  exact lv_ifnonnullN C.1 C.2.1 hd (k p l e s m args below meth c lo D ca H locs ls C g1 g2 g3 g4 g5 g6)
theorem s_tabIn {dflt lo1 hi : Int} {offs : Array Int} {len : Nat} {x : Int32} {off : Int} {tgt : Nat} (hd : decode M.2.1 pc = .ok (.tableswitch dflt lo1 hi offs, len)) (q1 : ¬ x.toInt < lo1) (q2 : ¬ hi < x.toInt) (ho : offs[(x.toInt - lo1).toNat]? = some off) (ht : (pc : Int) + off = (tgt : Int)) (k : SP E M κ tgt L st h cs ss) : SP E M κ pc L (.int x :: st) h cs ss := by
  intro p l e s m args below meth c lo D ca H locs ls C g1 g2 g3 g4 g5 g6
  exact lv_tableIn C.1 C.2.1 hd q1 q2 ho ht (k p l e s m args below meth c lo D ca H locs ls C g1 g2 g3 g4 g5 g6)
theorem s_tabOut {dflt lo1 hi : Int} {offs : Array Int} {len : Nat} {x : Int32} {tgt : Nat} (hd : decode M.2.1 pc = .ok (.tableswitch dflt lo1 hi offs, len)) (q1 : x.toInt < lo1 ∨ hi < x.toInt) (ht : (pc : Int) + dflt = (tgt : Int)) (k : SP E M κ tgt L st h cs ss) : SP E M κ pc L (.int x :: st) h cs ss := by
  intro p l e s m args below meth c lo D ca H locs ls C g1 g2 g3 g4 g5 g6
  exact lv_tableOut C.1 C.2.1 hd q1 ht (k p l e s m args below meth c lo D ca H locs ls C g1 g2 g3 g4 g5 g6)
theorem s_iret {v : Int32} (hd : decode M.2.1 pc = .ok (.ireturn, 1)) (hr : M.2.2.2.1 = some .int) (hc : cs ≤ M.2.2.2.2.2.1) (hs : ss ≤ M.2.2.2.2.2.2) (hk : κ (some (.int v)) h) : SP E M κ pc L [.int v] h cs ss := by
  intro p l e s m args below meth c lo D ca H locs ls C g1 g2 g3 g4 g5 g6
  exact W.widen hc hs (W.iret C.1 C.2.1 (C.2.2.1.trans hr) (fun t ht hW => ⟨(some (.int v)), h, rfl, hk, by rw [ht]; exact g3, g4, g5.F ht⟩) g5.2.2 hd C.2.2.2.2.2.2.1)
theorem s_zret {v : Int32} (hd : decode M.2.1 pc = .ok (.ireturn, 1)) (hr : M.2.2.2.1 = some .boolean) (hv : narrow .boolean (.int v) = .int v) (hc : cs ≤ M.2.2.2.2.2.1) (hs : ss ≤ M.2.2.2.2.2.2) (hk : κ (some (.int v)) h) : SP E M κ pc L [.int v] h cs ss := by
  intro p l e s m args below meth c lo D ca H locs ls C g1 g2 g3 g4 g5 g6
  exact W.widen hc hs (W.zret C.1 C.2.1 (C.2.2.1.trans hr) hv (fun t ht hW => ⟨(some (.int v)), h, rfl, hk, by rw [ht]; exact g3, g4, g5.F ht⟩) g5.2.2 hd C.2.2.2.2.2.2.1)
theorem s_lret {v : Int64} (hd : decode M.2.1 pc = .ok (.lreturn, 1)) (hr : M.2.2.2.1 = some .long) (hc : cs ≤ M.2.2.2.2.2.1) (hs : ss ≤ M.2.2.2.2.2.2) (hk : κ (some (.long v)) h) : SP E M κ pc L [.long v] h cs ss := by
  intro p l e s m args below meth c lo D ca H locs ls C g1 g2 g3 g4 g5 g6
  exact W.widen hc hs (W.lret C.1 C.2.1 (C.2.2.1.trans hr) (fun t ht hW => ⟨(some (.long v)), h, rfl, hk, by rw [ht]; exact g3, g4, g5.F ht⟩) g5.2.2 hd C.2.2.2.2.2.2.1)
theorem s_vret  (hd : decode M.2.1 pc = .ok (.return_, 1)) (hr : M.2.2.2.1 = none) (hc : cs ≤ M.2.2.2.2.2.1) (hs : ss ≤ M.2.2.2.2.2.2) (hk : κ none h) : SP E M κ pc L [] h cs ss := by
  intro p l e s m args below meth c lo D ca H locs ls C g1 g2 g3 g4 g5 g6
  exact W.widen hc hs (W.vret C.1 C.2.1 (C.2.2.1.trans hr) (fun t ht hW => ⟨none, h, rfl, hk, by rw [ht]; exact g3, g4, g5.F ht⟩) g5.2.2 hd C.2.2.2.2.2.2.1)
theorem s_aret {a : Nat} {n : String} (hd : decode M.2.1 pc = .ok (.areturn, 1)) (hr : M.2.2.2.1 = some (.object n)) (hc : cs ≤ M.2.2.2.2.2.1) (hs : ss ≤ M.2.2.2.2.2.2) (hk : κ (some (.ref a)) h) : SP E M κ pc L [.ref a] h cs ss := by
  intro p l e s m args below meth c lo D ca H locs ls C g1 g2 g3 g4 g5 g6
  exact W.widen hc hs (W.aret C.1 C.2.1 (C.2.2.1.trans hr) (Or.inl ⟨_, rfl⟩) (Or.inr ⟨_, rfl⟩) (fun t ht hW => ⟨(some (.ref a)), h, rfl, hk, by rw [ht]; exact g3, g4, g5.F ht⟩) g5.2.2 hd C.2.2.2.2.2.2.1)
theorem s_aretN {n : String} (hd : decode M.2.1 pc = .ok (.areturn, 1)) (hr : M.2.2.2.1 = some (.object n)) (hc : cs ≤ M.2.2.2.2.2.1) (hs : ss ≤ M.2.2.2.2.2.2) (hk : κ (some .null) h) : SP E M κ pc L [.null] h cs ss := by
  intro p l e s m args below meth c lo D ca H locs ls C g1 g2 g3 g4 g5 g6
  exact W.widen hc hs (W.aret C.1 C.2.1 (C.2.2.1.trans hr) (Or.inl ⟨_, rfl⟩) (Or.inl rfl) (fun t ht hW => ⟨(some .null), h, rfl, hk, by rw [ht]; exact g3, g4, g5.F ht⟩) g5.2.2 hd C.2.2.2.2.2.2.1)
end RW
