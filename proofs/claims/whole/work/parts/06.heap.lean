theorem inX0 : ∀ w ∈ wsX00, w ∈ lw_u := by decide +kernel
theorem inX1 : ∀ w ∈ wsX10, w ∈ lw_u := by decide +kernel
theorem inX2 : ∀ w ∈ wsX20, w ∈ lw_u := by decide +kernel
theorem inX3 : ∀ w ∈ wsX30, w ∈ lw_u := by decide +kernel
theorem inX4 : ∀ w ∈ wsX40, w ∈ lw_u := by decide +kernel
theorem inX5 : ∀ w ∈ wsX50, w ∈ lw_u := by decide +kernel
theorem inX6 : ∀ w ∈ wsX60, w ∈ lw_u := by decide +kernel
theorem inX7 : ∀ w ∈ wsX70, w ∈ lw_u := by decide +kernel
theorem inX8 : ∀ w ∈ wsX80, w ∈ lw_u := by decide +kernel
theorem inX9 : ∀ w ∈ wsX90, w ∈ lw_u := by decide +kernel
theorem inX10 : ∀ w ∈ wsX100, w ∈ lw_u := by decide +kernel
theorem inX11 : ∀ w ∈ wsX110, w ∈ lw_u := by decide +kernel
theorem inX12 : ∀ w ∈ wsX120, w ∈ lw_u := by decide +kernel
def cQ (ci : Nat) : vw_C := classes.getD ci (RX0, TX0, 0)
def cTyL : List (Nat → FieldType) := [tyX0, tyX1, tyX2, tyX3, tyX4, tyX5, tyX6, tyX7, tyX8, tyX9, tyX10, tyX11, tyX12]
def cTy (ci : Nat) : Nat → FieldType := cTyL.getD ci tyX0
theorem clsF (ci : Nat) (hc : ci < 13) : classes[ci]? = some ((cQ ci).1, (cQ ci).2.1, (cQ ci).2.2) ∧ (∀ w ∈ u_ws (cQ ci).1 (cQ ci).2.1 (cQ ci).2.2, w ∈ lw_u) ∧ (∀ k, k < (cQ ci).2.2 → parseFieldDescriptor ((cQ ci).2.1 k).2.2.1 = some (cTy ci k)) ∧ (∀ a, a < (cQ ci).2.2 → ∀ b, b < (cQ ci).2.2 → a ≠ b → ((cQ ci).2.1 a).2.1 ≠ ((cQ ci).2.1 b).2.1) ∧ (cQ ci).2.2 = nf ci := by
  match ci, hc with
  | 0, _ => exact ⟨rfl, inX0, tyX0_ok, nmX0, rfl⟩
  | 1, _ => exact ⟨rfl, inX1, tyX1_ok, nmX1, rfl⟩
  | 2, _ => exact ⟨rfl, inX2, tyX2_ok, nmX2, rfl⟩
  | 3, _ => exact ⟨rfl, inX3, tyX3_ok, nmX3, rfl⟩
  | 4, _ => exact ⟨rfl, inX4, tyX4_ok, nmX4, rfl⟩
  | 5, _ => exact ⟨rfl, inX5, tyX5_ok, nmX5, rfl⟩
  | 6, _ => exact ⟨rfl, inX6, tyX6_ok, nmX6, rfl⟩
  | 7, _ => exact ⟨rfl, inX7, tyX7_ok, nmX7, rfl⟩
  | 8, _ => exact ⟨rfl, inX8, tyX8_ok, nmX8, rfl⟩
  | 9, _ => exact ⟨rfl, inX9, tyX9_ok, nmX9, rfl⟩
  | 10, _ => exact ⟨rfl, inX10, tyX10_ok, nmX10, rfl⟩
  | 11, _ => exact ⟨rfl, inX11, tyX11_ok, nmX11, rfl⟩
  | 12, _ => exact ⟨rfl, inX12, tyX12_ok, nmX12, rfl⟩
  | n + 13, hc => exact absurd hc (by omega)
theorem tyF : ∀ ci, ci < 13 → ∀ j, j < nf ci → (ft ci j = 0 ∧ cTy ci j = .int) ∨ (ft ci j = 1 ∧ cTy ci j = .boolean) ∨ (ft ci j = 2 ∧ (cTy ci j).isReference = true) := by decide +kernel
def FA (own : String) (idx ci j : Nat) : Prop := j < (cQ ci).2.2 ∧ ∃ ref : String, Cond.fieldLink own idx ref ((cQ ci).2.1 j).2.1 ((cQ ci).2.1 j).2.2.1 ∈ lw_u ∧ (((cQ ci).2.1 j).1 = ref ∨ Cond.sameField ref ((cQ ci).2.1 j).1 ((cQ ci).2.1 j).2.1 ((cQ ci).2.1 j).2.2.1 ∈ lw_u)
def Sh (E : EV) (h : HP) (a ci n : Nat) : Prop := n < 65536 ∧ ((a < E.1 ∧ E.2.1 a = (ci, n)) ∨ (a < h.1 ∧ h.2.1 a = (ci, n)))
theorem Sh.al {E : EV} {h : HP} {a ci n : Nat} (hs : Sh E h a ci n) (w : WF E h) : a < h.1 ∧ h.2.1 a = (ci, n) := by
  rcases hs.2 with ⟨h1, h2⟩ | h1
  · exact ⟨Nat.lt_of_lt_of_le h1 w.1, (w.2.1 a h1).trans h2⟩
  · exact h1
theorem Sh.st {E : EV} {h : HP} {a ci n : Nat} (hn : n < 65536) (h1 : a < E.1) (h2 : E.2.1 a = (ci, n)) : Sh E h a ci n := ⟨hn, Or.inl ⟨h1, h2⟩⟩
theorem Sh.dy {E : EV} {h : HP} {a ci n : Nat} (hn : n < 65536) (h1 : a < h.1) (h2 : h.2.1 a = (ci, n)) : Sh E h a ci n := ⟨hn, Or.inr ⟨h1, h2⟩⟩
section CE
variable {lo : Nat} {ca : Nat → ClassId} {h h' : HP} {a ci n : Nat}
theorem ce_obj (hs : h.2.1 a = (ci, n)) (hc : ci < 13) : ce lo ca h a = .inr (ci, (List.range (nf ci)).map (fun j => cv lo (fv h ci a j))) := by simp [ce, hs, hc]
theorem ce_I (hs : h.2.1 a = (13, n)) : ce lo ca h a = .inl (ca 13, n, .inl (h.2.2.1 a)) := by simp [ce, hs]
theorem ce_Z (hs : h.2.1 a = (15, n)) : ce lo ca h a = .inl (ca 15, n, .inl (h.2.2.1 a)) := by simp [ce, hs]
theorem ce_J (hs : h.2.1 a = (14, n)) : ce lo ca h a = .inl (ca 14, n, .inr (.inl (h.2.2.2.1 a))) := by simp [ce, hs]
theorem ce_Q (hs : h.2.1 a = (ci, n)) (hk : 16 ≤ ci) : ce lo ca h a = .inl (ca ci, n, .inr (.inr (.inr (.inr (fun i => (h.2.2.2.2 a i).map (fun b => lo + b)))))) := by
  have h1 : ¬ ci < 13 := by omega
  have h2 : ¬ ci = 14 := by omega
  have h3 : ¬ ci < 16 := by omega
  simp [ce, hs, h1, h2, h3]
/-- the cell a is what the fields of h at a say -/
theorem ce_eq (h1 : h'.2.1 a = h.2.1 a) (h2 : h'.2.2.1 a = h.2.2.1 a) (h3 : h'.2.2.2.1 a = h.2.2.2.1 a) (h4 : h'.2.2.2.2 a = h.2.2.2.2 a) : ce lo ca h' a = ce lo ca h a := by
  simp only [ce, fv, h1, h2, h3, h4]
end CE
def up2 {α : Type} (f : Nat → Nat → α) (a j : Nat) (x : α) : Nat → Nat → α := fun b i => if b = a then (if i = j then x else f b i) else f b i
theorem up2_s {α : Type} {f : Nat → Nat → α} {a j : Nat} {x : α} : up2 f a j x a j = x := by simp [up2]
theorem up2_n {α : Type} {f : Nat → Nat → α} {a j b i : Nat} {x : α} (h : ¬ (b = a ∧ i = j)) : up2 f a j x b i = f b i := by
  by_cases h1 : b = a
  · by_cases h2 : i = j
    · exact absurd ⟨h1, h2⟩ h
    · simp [up2, h2]
  · simp [up2, h1]
theorem up2_o {α : Type} {f : Nat → Nat → α} {a j b : Nat} {x : α} (h : b ≠ a) : up2 f a j x b = f b := by funext i; simp [up2, h]
theorem RH.upd {lo : Nat} {D : va_G} {ca : Nat → ClassId} {h h' : HP} {H H' : Heap} {a : Nat} (hR : RH lo D ca h H) (hn : h'.1 = h.1) (ho : ∀ b, b ≠ a → ce lo ca h' b = ce lo ca h b) (e2 : H'.size = H.size) (e3 : ∀ q, q ≠ lo + a → H'[q]? = H[q]?) (he : a < h.1 → va_at D classes (lo + a, ce lo ca h' a) H') : RH lo D ca h' H' := by
  refine ⟨by rw [e2, hn]; exact hR.1, fun k q hq => ?_⟩
  obtain ⟨hk, rfl⟩ := ws_of hq
  rw [hn] at hk
  by_cases hka : k = a
  · subst hka
    exact he hk
  · rw [ho k hka]
    exact (hR.2 k _ (ws_at hk)).kept (e3 _ (by omega))
theorem RH.push {lo : Nat} {D : va_G} {ca : Nat → ClassId} {h h' : HP} {H H' : Heap} (hR : RH lo D ca h H) (hn : h'.1 = h.1 + 1) (ho : ∀ b, b < h.1 → ce lo ca h' b = ce lo ca h b) (e2 : H'.size = H.size + 1) (e3 : ∀ q, q < H.size → H'[q]? = H[q]?) (he : va_at D classes (lo + h.1, ce lo ca h' h.1) H') : RH lo D ca h' H' := by
  refine ⟨by rw [e2, hn, hR.1]; omega, fun k q hq => ?_⟩
  obtain ⟨hk, rfl⟩ := ws_of hq
  rw [hn] at hk
  by_cases hka : k = h.1
  · subst hka
    exact he
  · have hk2 : k < h.1 := by omega
    rw [ho k hk2]
    exact (hR.2 k _ (ws_at hk2)).kept (e3 _ (by rw [hR.1]; omega))
section HP1
variable {E : EV} {M : MD} {κ : Option Value → HP → Prop} {pc pc' : Nat} {L st : List Value} {h : HP} {cs ss : Nat} {a ci n j idx : Nat}
theorem CX.tb {p : Program} {s : State} {m : MethodId} {args : Array Value} {meth : Method} {c : Code} (C : CX M p s m args meth c) : ∀ w ∈ lw_u, w.before args s = true := C.2.2.2.2.2.1
theorem s_getV (hd : decode M.2.1 pc = .ok (.getfield idx, 3)) (hp : pc + 3 = pc') (hs : Sh E h a ci n) (hc : ci < 13) (hF : FA M.1.cls idx ci j) (k : SP E M κ pc' L (fv h ci a j :: st) h cs ss) : SP E M κ pc L (.ref a :: st) h cs ss := by
  subst hp
  intro p l e s m args below meth c lo D ca H locs ls C g1 g2 g3 g4 g5 g6
  obtain ⟨ha, hsh⟩ := hs.al g4
  obtain ⟨c1, c2, c3, c4, c5⟩ := clsF ci hc
  obtain ⟨hj, ref, hl, hsm⟩ := hF
  have he : (wsOf lo ca h)[a]? = some (lo + a, .inr (ci, (List.range (nf ci)).map (fun j => cv lo (fv h ci a j)))) := by rw [ws_at ha, ce_obj hsh hc]
  have hsame : ∀ x, s.fieldFound? ((cQ ci).2.1 j).1 ((cQ ci).2.1 j).2.1 ((cQ ci).2.1 j).2.2.1 = some x → s.fieldFound? ref ((cQ ci).2.1 j).2.1 ((cQ ci).2.1 j).2.2.1 = some x := fun x hx => by
    rcases hsm with e | e
    · rw [← e]; exact hx
    · exact u_same (C.tb _ e) x hx
  exact va_get C.1 C.2.1 C.tb c2 C.2.2.2.2.1 g2.1 g3.2 a he c1 j hj (C.tb _ hl) hsame (v := cv lo (fv h ci a j)) (by rw [List.getElem?_map, List.getElem?_range (by omega)]; rfl) hd (k p l e s m args below meth c lo D ca H locs ls C g1 g2 g3 g4 g5 g6)
theorem fv_I (ht : (ft ci j == 2) = false) : fv h ci a j = .int (h.2.2.1 a j) := by
  have : ¬ ft ci j = 2 := by simpa using ht
  simp [fv, this]
theorem fv_R (ht : ft ci j = 2) : fv h ci a j = vr (h.2.2.2.2 a j) := by simp [fv, ht]
theorem s_getI (hd : decode M.2.1 pc = .ok (.getfield idx, 3)) (hp : pc + 3 = pc') (hs : Sh E h a ci n) (hc : ci < 13) (hF : FA M.1.cls idx ci j) (ht : (ft ci j == 2) = false) (k : SP E M κ pc' L (.int (h.2.2.1 a j) :: st) h cs ss) : SP E M κ pc L (.ref a :: st) h cs ss := s_getV hd hp hs hc hF (by rw [fv_I ht]; exact k)
theorem s_getR {b : Nat} (hd : decode M.2.1 pc = .ok (.getfield idx, 3)) (hp : pc + 3 = pc') (hs : Sh E h a ci n) (hc : ci < 13) (hF : FA M.1.cls idx ci j) (ht : ft ci j = 2) (hr : h.2.2.2.2 a j = some b) (k : SP E M κ pc' L (.ref b :: st) h cs ss) : SP E M κ pc L (.ref a :: st) h cs ss := s_getV hd hp hs hc hF (by rw [fv_R ht, hr]; exact k)
theorem s_getS {b : Nat} (hd : decode M.2.1 pc = .ok (.getfield idx, 3)) (hp : pc + 3 = pc') (ha : a < E.1) (hs : E.2.1 a = (ci, 0)) (hc : ci < 13) (hF : FA M.1.cls idx ci j) (ht : ft ci j = 2) (hr : E.2.2 a j = some (some b)) (k : SP E M κ pc' L (.ref b :: st) h cs ss) : SP E M κ pc L (.ref a :: st) h cs ss := by
  intro p l e s m args below meth c lo D ca H locs ls C g1 g2 g3 g4 g5 g6
  exact s_getR hd hp (Sh.st (by decide) ha hs) hc hF ht (g4.2.2 a ha j _ hr) k p l e s m args below meth c lo D ca H locs ls C g1 g2 g3 g4 g5 g6
theorem s_putV {v : Value} {h' : HP} (hd : decode M.2.1 pc = .ok (.putfield idx, 3)) (hp : pc + 3 = pc') (hs : Sh E h a ci n) (hc : ci < 13) (hF : FA M.1.cls idx ci j) (hfin : ((cQ ci).2.1 j).2.2.2 = false ∨ (((cQ ci).2.1 j).2.2.2 = true ∧ M.1.name = "<init>" ∧ ((cQ ci).2.1 j).1 = M.1.cls))
    (hn : ∀ lo, narrow (cTy ci j) (cv lo v) = cv lo v) (hfit : ∀ lo, fits (cTy ci j) (cv lo v) = true) (h1' : h'.1 = h.1) (h2' : h'.2.1 = h.2.1) (hv : ∀ k, k < nf ci → fv h' ci a k = if k = j then v else fv h ci a k) (ho : ∀ lo ca b, b ≠ a → ce lo ca h' b = ce lo ca h b) (hw : WF E h → WF E h') (k : SP E M κ pc' L st h' cs ss) : SP E M κ pc L (v :: .ref a :: st) h cs ss := by
  subst hp
  intro p l e s m args below meth c lo D ca H locs ls C g1 g2 g3 g4 g5 g6
  obtain ⟨ha, hsh⟩ := hs.al g4
  obtain ⟨c1, c2, c3, c4, c5⟩ := clsF ci hc
  obtain ⟨hj, ref, hl, hsm⟩ := hF
  have he : (wsOf lo ca h)[a]? = some (lo + a, .inr (ci, (List.range (nf ci)).map (fun j => cv lo (fv h ci a j)))) := by rw [ws_at ha, ce_obj hsh hc]
  have hsame : ∀ x, s.fieldFound? ((cQ ci).2.1 j).1 ((cQ ci).2.1 j).2.1 ((cQ ci).2.1 j).2.2.1 = some x → s.fieldFound? ref ((cQ ci).2.1 j).2.1 ((cQ ci).2.1 j).2.2.1 = some x := fun x hx => by
    rcases hsm with e | e
    · rw [← e]; exact hx
    · exact u_same (C.tb _ e) x hx
  have hap := va_apart (own := M.1.cls) C.tb c2 (cTy ci) c3 c4 g2.1 c1
  obtain ⟨r, h1, cell, q1, q2, q3, q4⟩ := g3.2 a _ he
  have hr : r = ((cQ ci).1, (cQ ci).2.1, (cQ ci).2.2) := Option.some.inj (h1.symm.trans c1)
  subst hr
  obtain ⟨hS, hfc, kC, hkC, hkind⟩ := g2.1.1 ci _ c1
  obtain ⟨cf, kf, fi, f, hi, hsl⟩ := hS j hj
  have hlay := C.tb _ (c2 _ (u_in_lay hj))
  unfold u_lay at hlay
  have hst := (u_facts hfc hkC (u_lays C.tb c2 hj) hi).1
  have fin : ∀ H' : Heap, H'[lo + a]? = some (cell.setSlot f.slot (cv lo v)) → H'.size = H.size → (∀ q, q ≠ lo + a → H'[q]? = H[q]?) → W p l e (mRm M) s m args below meth c H' (locs ++ [⟨lo + a, f.slot⟩]) cs ss (MQ below (QK E κ lo D ca) args s M.2.2.2.2.2.1 M.2.2.2.2.2.2 (fun q => lo ≤ q)) (F0 m (pc + 3) ls (st.map (cv lo))) := by
    intro H' e1 e2 e3
    rw [hsl] at e1 ⊢
    have hob : t_OB (lo + a) (D.1 ci) (cQ ci).2.2 (D.2 ci) H' (updV (vp_V ((List.range (nf ci)).map (fun j => cv lo (fv h ci a j)))) j (cv lo v)) := ⟨_, e1, q2, q3, t_set q4 hap hj _⟩
    refine k p l e s m args below meth c lo D ca H' _ ls C g1 g2 (RH.upd (a := a) g3 h1' (fun b hb => ho lo ca b hb) e2 e3 (fun _ => ?_)) (hw g4) (g5.put e2 e3 (Nat.le_add_right _ _)) g6
    rw [ce_obj (h := h') (by rw [h2']; exact hsh) hc]
    refine ⟨_, c1, t_OB.to hob (fun i hi => ?_)⟩
    have hi2 : i < nf ci := by rw [← c5]; exact hi
    have e5 : ∀ f : Nat → Value, vp_V ((List.range (nf ci)).map f) i = f i := fun f => by
      show ((List.range (nf ci)).map f).getD i .null = f i
      rw [List.getD_eq_getElem?_getD, List.getElem?_map, List.getElem?_range hi2]; rfl
    rw [e5, hv i hi2]
    by_cases hij : i = j
    · subst hij; simp [updV]
    · simp only [updV, if_neg hij]; rw [e5]
  rcases hfin with hf | ⟨hf, hf2, hf3⟩
  · rw [if_neg (by rw [hf]; decide)] at hlay
    have h6 := u_store hfc hkC hkind hlay hi (c3 j hj) (hn lo) (hfit lo)
    exact W.putK C.1 C.2.1 (f := f) ⟨C.2.2.2.2.1, C.tb _ hl, ⟨_, _, _, hsame _ hi⟩, hst⟩ (by rw [q2]; exact h6) q1 q3 (by rw [hsl]; exact k2_hasslot (q4 j hj)) rfl rfl hd fin
  · rw [if_pos hf] at hlay
    have hcf : m.cls = cf := by
      obtain ⟨_, _, c', _, _, _, -, -, hf', -, -, -, hown2, -⟩ := Cond.laysFinal_spec hlay
      have e1 : c' = cf := by have := hi.symm.trans hf'; simp at this; exact this.1.symm
      rw [hf3] at hown2
      rw [← e1]; exact Option.some.inj (C.2.2.2.2.1.symm.trans hown2)
    have h6 := u_fits hfc hkC hkind (Or.inr hlay) hi (c3 j hj) (hn lo) (hfit lo)
    exact W.putFinK C.1 C.2.1 C.2.2.2.2.1 (C.tb _ hl) (hsame _ hi) hst hcf (by rw [C.2.2.2.2.2.2.2]; exact hf2) (by rw [q2]; exact h6) q1 q3 (by rw [hsl]; exact k2_hasslot (q4 j hj)) rfl rfl hd fin
theorem WF.I {h h' : HP} (e1 : h'.1 = h.1) (e2 : h'.2.1 = h.2.1) (e3 : h'.2.2.2.2 = h.2.2.2.2) (w : WF E h) : WF E h' := by
  unfold WF; rw [e1, e2, e3]; exact w
theorem s_putI {x : Int32} (hd : decode M.2.1 pc = .ok (.putfield idx, 3)) (hp : pc + 3 = pc') (hs : Sh E h a ci n) (hc : ci < 13) (hF : FA M.1.cls idx ci j) (hfin : ((cQ ci).2.1 j).2.2.2 = false ∨ (((cQ ci).2.1 j).2.2.2 = true ∧ M.1.name = "<init>" ∧ ((cQ ci).2.1 j).1 = M.1.cls)) (ht : (ft ci j == 2) = false)
    (hn : narrow (cTy ci j) (.int x) = .int x) (hfit : fits (cTy ci j) (.int x) = true) (k : SP E M κ pc' L st (h.1, h.2.1, up2 h.2.2.1 a j x, h.2.2.2.1, h.2.2.2.2) cs ss) : SP E M κ pc L (.int x :: .ref a :: st) h cs ss := by
  have ht2 : ¬ ft ci j = 2 := by simpa using ht
  refine s_putV (h' := (h.1, h.2.1, up2 h.2.2.1 a j x, h.2.2.2.1, h.2.2.2.2)) hd hp hs hc hF hfin (fun _ => hn) (fun _ => hfit) rfl rfl (fun i _ => ?_) (fun lo ca b hb => ce_eq rfl (up2_o hb) rfl rfl) (fun w => w.I rfl rfl rfl) k
  by_cases hi : i = j
  · subst hi; simp [fv, ht2, up2]
  · rw [if_neg hi]
    simp only [fv]
    by_cases h2 : ft ci i = 2
    · simp [h2]
    · simp [h2, up2, hi]
/-- a reference field that E does not hold fixed -/
theorem s_putR {r : Option Nat} (hd : decode M.2.1 pc = .ok (.putfield idx, 3)) (hp : pc + 3 = pc') (hs : Sh E h a ci n) (hc : ci < 13) (hF : FA M.1.cls idx ci j) (hfin : ((cQ ci).2.1 j).2.2.2 = false ∨ (((cQ ci).2.1 j).2.2.2 = true ∧ M.1.name = "<init>" ∧ ((cQ ci).2.1 j).1 = M.1.cls)) (ht : ft ci j = 2)
    (hx : a < E.1 → E.2.2 a j = none) (k : SP E M κ pc' L st (h.1, h.2.1, h.2.2.1, h.2.2.2.1, up2 h.2.2.2.2 a j r) cs ss) : SP E M κ pc L (vr r :: .ref a :: st) h cs ss := by
  have hrf : (cTy ci j).isReference = true := by
    have hj : j < nf ci := by rw [← (clsF ci hc).2.2.2.2]; exact hF.1
    rcases tyF ci hc j hj with ⟨h1, -⟩ | ⟨h1, -⟩ | ⟨-, h1⟩
    · rw [ht] at h1; cases h1
    · rw [ht] at h1; cases h1
    · exact h1
  refine s_putV (h' := (h.1, h.2.1, h.2.2.1, h.2.2.2.1, up2 h.2.2.2.2 a j r)) hd hp hs hc hF hfin (fun lo => ?_) (fun lo => ?_) rfl rfl (fun i _ => ?_) (fun lo ca b hb => ce_eq rfl rfl rfl (up2_o hb)) (fun w => ⟨w.1, w.2.1, fun b hb i v hv => ?_⟩) k
  · cases r <;> generalize cTy ci j = ty at hrf ⊢ <;> cases ty <;> first | rfl | cases hrf
  · cases r <;> generalize cTy ci j = ty at hrf ⊢ <;> cases ty <;> first | rfl | cases hrf
  · by_cases hi : i = j
    · subst hi; simp [fv, ht, up2]
    · rw [if_neg hi]
      simp [fv, up2, hi]
  · show up2 h.2.2.2.2 a j r b i = v
    rw [up2_n]
    · exact w.2.2 b hb i v hv
    · rintro ⟨rfl, rfl⟩
      rw [hx hb] at hv; cases hv
end HP1
