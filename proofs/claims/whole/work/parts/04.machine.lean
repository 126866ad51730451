abbrev HP : Type := Nat × (Nat → Nat × Nat) × (Nat → Nat → Int32) × (Nat → Nat → Int64) × (Nat → Nat → Option Nat)
abbrev EV : Type := Nat × (Nat → Nat × Nat) × (Nat → Nat → Option (Option Nat))
abbrev classes : List vw_C := [(RX0, TX0, 10), (RX1, TX1, 10), (RX2, TX2, 11), (RX3, TX3, 10), (RX4, TX4, 10), (RX5, TX5, 15), (RX6, TX6, 10), (RX7, TX7, 10), (RX8, TX8, 17), (RX9, TX9, 3), (RX10, TX10, 11), (RX11, TX11, 16), (RX12, TX12, 51)]
def nfl : List Nat := [10, 10, 11, 10, 10, 15, 10, 10, 17, 3, 11, 16, 51]
def ftl : List (List Nat) := [[0, 0, 2, 0, 0, 0, 0, 0, 0, 0], [2, 2, 0, 2, 2, 2, 2, 2, 0, 2], [0, 0, 2, 0, 0, 0, 0, 0, 0, 0, 1], [0, 0, 2, 0, 0, 0, 0, 0, 0, 0], [0, 0, 2, 0, 0, 0, 0, 0, 0, 0], [2, 2, 2, 2, 0, 0, 0, 2, 2, 2, 2, 0, 2, 2, 2], [0, 0, 2, 0, 0, 0, 0, 0, 0, 0], [0, 0, 2, 0, 0, 0, 0, 0, 0, 0], [0, 2, 2, 2, 2, 2, 2, 0, 2, 0, 2, 2, 2, 0, 0, 0, 0], [0, 0, 0], [0, 0, 2, 0, 0, 0, 0, 0, 0, 0, 0], [2, 2, 2, 1, 0, 0, 2, 2, 2, 2, 0, 2, 2, 2, 2, 2], [2, 2, 2, 2, 2, 2, 2, 2, 2, 2, 2, 2, 2, 2, 2, 2, 2, 2, 2, 2, 2, 2, 1, 0, 0, 0, 0, 0, 2, 2, 2, 0, 0, 2, 2, 2, 2, 1, 0, 0, 2, 2, 2, 2, 2, 2, 2, 0, 2, 2, 2]]
def nf (ci : Nat) : Nat := nfl.getD ci 0
def ft (ci j : Nat) : Nat := (ftl.getD ci []).getD j 0
def lw_g : List Cond := lw_u.filter goodWord
def lw_nest (w : Cond) : Bool := match w with
  | .methodLinkNest .. => true
  | _ => false
def lw_cast (w : Cond) : Bool := match w with
  | .castable .. => true
  | _ => false
def lw_decl (w : Cond) : Bool := match w with
  | .declares _ => true
  | _ => false
def lw_over (w : Cond) : Bool := match w with
  | .arrayOver (.object _) => true
  | .arrayOver (.array _) => true
  | _ => false
def lw_kd (w : Cond) : Bool := lw_pv w || goodWord w || lw_nest w || lw_cast w || lw_decl w || lw_over w
theorem lw_k1 : tables_1_1.all lw_kd = true := by decide +kernel
theorem lw_k2 : tables_1_2.all lw_kd = true := by decide +kernel
theorem lw_k3 : tables_1_3.all lw_kd = true := by decide +kernel
theorem lw_k4 : tables_1_4.all lw_kd = true := by decide +kernel
theorem lw_k5 : tables_1_5.all lw_kd = true := by decide +kernel
theorem lw_k6 : tables_1_6.all lw_kd = true := by decide +kernel
theorem lw_k7 : tables_1_7.all lw_kd = true := by decide +kernel
theorem lw_k0 : (k2_sels lw_privs).all lw_kd = true := by decide +kernel
theorem lw_kinds : ∀ w ∈ lw_u, (goodWord w || lw_nest w || lw_cast w || lw_decl w || lw_over w) = true := by
  have h : lw_tbl.all lw_kd = true := by
    unfold lw_tbl tables_1
    simp only [List.all_append, lw_k0, lw_k1, lw_k2, lw_k3, lw_k4, lw_k5, lw_k6, lw_k7, Bool.and_true]
  intro w hw
  have h1 := List.mem_filter.mp hw
  have h2 := List.all_eq_true.mp h w h1.1
  have h3 : lw_pv w = false := by simpa using h1.2
  unfold lw_kd at h2
  rw [h3, Bool.false_or] at h2
  exact h2
abbrev mWs (M : MD) : List Cond := Cond.code M.1 M.2.1 M.2.2.1 M.2.2.2.1 :: lw_g
abbrev mRm (M : MD) : Room := { frames := M.2.2.2.2.1, cells := M.2.2.2.2.2.1, slots := M.2.2.2.2.2.2, locals := 40 * M.2.2.2.2.1 }
def cv (lo : Nat) (v : Value) : Value := match v with
  | .ref a => .ref (lo + a)
  | v => v
def vr (r : Option Nat) : Value := match r with
  | none => .null
  | some a => .ref a
def fv (h : HP) (ci a j : Nat) : Value := if ft ci j = 2 then vr (h.2.2.2.2 a j) else .int (h.2.2.1 a j)
def ce (lo : Nat) (ca : Nat → ClassId) (h : HP) (a : Nat) : va_E :=
  if (h.2.1 a).1 < 13 then .inr ((h.2.1 a).1, (List.range (nf (h.2.1 a).1)).map (fun j => cv lo (fv h (h.2.1 a).1 a j)))
  else if (h.2.1 a).1 = 14 then .inl (ca 14, (h.2.1 a).2, .inr (.inl (h.2.2.2.1 a)))
  else if (h.2.1 a).1 < 16 then .inl (ca (h.2.1 a).1, (h.2.1 a).2, .inl (h.2.2.1 a))
  else .inl (ca (h.2.1 a).1, (h.2.1 a).2, .inr (.inr (.inr (.inr (fun i => (h.2.2.2.2 a i).map (fun b => lo + b))))))
def wsOf (lo : Nat) (ca : Nat → ClassId) (h : HP) : va_W := (List.range h.1).map (fun a => (lo + a, ce lo ca h a))
def tyl (ca : Nat → ClassId) : List (ClassId × FieldType) := [(ca 13, .int), (ca 14, .long), (ca 15, .boolean), (ca 16, .object RX6), (ca 17, .array .int)]
def ncl : List (String × String) := [(RX6, RX10), (RX7, RX10), (RX2, RX10), (RX3, RX10), (RX4, RX10), (RX0, RX10), (RX6, RX2), (RX7, RX2), (RX10, RX2), (RX3, RX2), (RX4, RX2), (RX0, RX2), (RX6, RX4), (RX7, RX4), (RX10, RX4), (RX2, RX4), (RX3, RX4)]
def CX (M : MD) (p : Program) (s : State) (m : MethodId) (args : Array Value) (meth : Method) (c : Code) : Prop :=
  p.tables.exec = Jvm.exec ∧ c.code = M.2.1 ∧ meth.sig.returnType = M.2.2.2.1 ∧ c.maxLocals = M.2.2.1 ∧ s.vm.findClass M.1.cls = some m.cls ∧ (∀ w ∈ lw_u, w.before args s = true) ∧ meth.locks = false ∧ meth.name = M.1.name
def KW (D : va_G) (ca : Nat → ClassId) (U : State) : Prop := va_K D classes (tyl ca) U ∧ (∀ q ∈ ncl, va_Nc q.1 q.2 U) ∧ ∀ w ∈ lw_u, goodWord w = false → w.before #[] U = true
def WF (E : EV) (h : HP) : Prop := E.1 ≤ h.1 ∧ (∀ a, a < E.1 → h.2.1 a = E.2.1 a) ∧ ∀ a, a < E.1 → ∀ j v, E.2.2 a j = some v → h.2.2.2.2 a j = v
def RH (lo : Nat) (D : va_G) (ca : Nat → ClassId) (h : HP) (H : Heap) : Prop := H.size = lo + h.1 ∧ va_P D classes (wsOf lo ca h) H
def lvl (lo : Nat) : Nat → List Value → List (Nat × Value)
  | _, [] => []
  | i, .retAddr _ :: L => lvl lo (i + 1) L
  | i, v :: L => (i, cv lo v) :: lvl lo (i + 1) L
def LR (lo : Nat) (ls : Array Slot) (nL : Nat) (L : List Value) : Prop := L.length = nL ∧ lv_has ls nL (lvl lo 0 L)
def QK (E : EV) (κ : Option Value → HP → Prop) (lo : Nat) (D : va_G) (ca : Nat → ClassId) : Array Value → State → Outcome → State → Prop := fun _ st oc t =>
  ∃ (r : Option Value) (h' : HP), oc = .returned (r.map (cv lo)) ∧ κ r h' ∧ RH lo D ca h' t.heap ∧ WF E h' ∧ va_F (fun q => lo ≤ q) st t
def PK (E : EV) (av : List Value) (h : HP) (lo : Nat) (D : va_G) (ca : Nat → ClassId) : Array Value → State → Prop := fun v U =>
  v = (av.map (cv lo)).toArray ∧ lo ≤ U.heap.size ∧ RH lo D ca h U.heap ∧ WF E h ∧ KW D ca U
/-- the contract of a method: at the picture h, with these arguments, it returns, and κ holds of its answer and the new picture -/
def CT (E : EV) (M : MD) (av : List Value) (h : HP) (κ : Option Value → HP → Prop) : Prop := ∀ (l : Launch) (lo : Nat) (D : va_G) (ca : Nat → ClassId),
  Met l M.1 (mWs M) (mRm M) (PK E av h lo D ca) (QK E κ lo D ca) M.2.2.2.2.2.1 M.2.2.2.2.2.2 (fun q => lo ≤ q)
/-- the machine in method M at pc, with locals L, stack st, picture h: it returns, and κ holds of its answer and the new picture -/
def SP (E : EV) (M : MD) (κ : Option Value → HP → Prop) (pc : Nat) (L st : List Value) (h : HP) (cs ss : Nat) : Prop :=
  ∀ (p : Program) (l : Launch) (e : Env) (s : State) (m : MethodId) (args : Array Value) (below : List Frame) (meth : Method) (c : Code) (lo : Nat) (D : va_G) (ca : Nat → ClassId) (H : Heap) (locs : List Loc) (ls : Array Slot),
    CX M p s m args meth c → lo ≤ s.heap.size → KW D ca s → RH lo D ca h H → WF E h → va_S (fun q => lo ≤ q) s.heap H locs → LR lo ls M.2.2.1 L →
    W p l e (mRm M) s m args below meth c H locs cs ss (MQ below (QK E κ lo D ca) args s M.2.2.2.2.2.1 M.2.2.2.2.2.2 (fun q => lo ≤ q)) (F0 m pc ls (st.map (cv lo)))
theorem lw_overM {u U : State} (hvm : u.vm.Alike U.vm) {ty : FieldType} (ht : lw_over (.arrayOver ty) = true) (h : (Cond.arrayOver ty).before #[] u = true) : (Cond.arrayOver ty).before #[] U = true := by
  cases ty with
  | object n => exact va_AO.moved hvm h
  | array t => exact over_moved hvm h
  | _ => simp [lw_over] at ht
theorem KW.warm {D : va_G} {ca : Nat → ClassId} {u U : State} (hW : u.WarmedH U.vm) (h : KW D ca u) : KW D ca U := by
  refine ⟨va_K.moved hW.alike h.1, fun q hq => va_Nc.moved hW.alike (h.2.1 q hq), fun w hw hg => ?_⟩
  have h1 := h.2.2 w hw hg
  have h2 := lw_kinds w hw
  rw [hg] at h2
  cases w with
  | methodLinkNest a i x y => exact va_Nw.warmM hW h1
  | castable a b => exact va_Nw.warmC hW h1
  | declares a => exact va_Nw.warmD hW h1
  | arrayOver ty => exact lw_overM hW.alike (by simpa [lw_nest, lw_cast, lw_decl] using h2) h1
  | _ => simp [lw_nest, lw_cast, lw_decl, lw_over] at h2
theorem KW.same {D : va_G} {ca : Nat → ClassId} {u U : State} (hv : u.vm = U.vm) (h : KW D ca u) : KW D ca U := by
  have ha : u.vm.Alike U.vm := by rw [hv]; exact Vm.Alike.refl U.vm
  refine ⟨va_K.moved ha h.1, fun q hq => va_Nc.moved ha (h.2.1 q hq), fun w hw hg => ?_⟩
  have h1 := h.2.2 w hw hg
  have h2 := lw_kinds w hw
  rw [hg] at h2
  cases w with
  | methodLinkNest a i x y => exact va_Nw.same rfl hv h1
  | castable a b => exact va_Nw.same rfl hv h1
  | declares a => exact va_Nw.same rfl hv h1
  | arrayOver ty => exact lw_overM ha (by simpa [lw_nest, lw_cast, lw_decl] using h2) h1
  | _ => simp [lw_nest, lw_cast, lw_decl, lw_over] at h2
/-- all words of the tables, from the good ones and the world's -/
theorem KW.all {D : va_G} {ca : Nat → ClassId} {u : State} {args : Array Value} (h : KW D ca u) (hg : ∀ w ∈ lw_g, w.before args u = true) : ∀ w ∈ lw_u, w.before args u = true := by
  intro w hw
  cases hb : goodWord w with
  | true => exact hg w (List.mem_filter.mpr ⟨hw, hb⟩)
  | false =>
    have h1 := h.2.2 w hw hb
    have h2 := lw_kinds w hw
    rw [hb] at h2
    cases w with
    | methodLinkNest a i x y => exact va_Nw.use rfl h1
    | castable a b => exact va_Nw.use rfl h1
    | declares a => exact va_Nw.use rfl h1
    | arrayOver ty => exact h1
    | _ => simp [lw_nest, lw_cast, lw_decl, lw_over] at h2
theorem ws_at {lo : Nat} {ca : Nat → ClassId} {h : HP} {a : Nat} (ha : a < h.1) : (wsOf lo ca h)[a]? = some (lo + a, ce lo ca h a) := by
  simp [wsOf, List.getElem?_map, List.getElem?_range, ha]
theorem ws_of {lo : Nat} {ca : Nat → ClassId} {h : HP} {k : Nat} {q : Nat × va_E} (hq : (wsOf lo ca h)[k]? = some q) : k < h.1 ∧ q = (lo + k, ce lo ca h k) := by
  have hl : k < (wsOf lo ca h).length := (List.getElem?_eq_some_iff.mp hq).1
  have hk : k < h.1 := by simpa [wsOf] using hl
  rw [ws_at hk] at hq
  exact ⟨hk, (Option.some.inj hq).symm⟩
theorem ws_D {lo : Nat} {ca : Nat → ClassId} {h : HP} : va_D (fun q => lo ≤ q) (wsOf lo ca h) := by
  refine ⟨fun i j x y hi hj hxy => ?_, fun k q hk => ?_⟩
  · rw [(ws_of hi).2, (ws_of hj).2] at hxy
    simpa using hxy
  · rw [(ws_of hk).2]
    exact Nat.le_add_right _ _
/-- locals -/
theorem lvl_mem {lo : Nat} {v : Value} (hr : ∀ q, v ≠ .retAddr q) : ∀ (L : List Value) (i0 i : Nat), L[i]? = some v → (i0 + i, cv lo v) ∈ lvl lo i0 L
  | [], _, _, h => by simp at h
  | w :: L, i0, i, h => by
    cases i with
    | zero =>
      rw [List.getElem?_cons_zero] at h
      cases h
      cases v with
      | retAddr q => exact absurd rfl (hr q)
      | _ => exact List.mem_cons_self
    | succ i =>
      rw [List.getElem?_cons_succ] at h
      have h1 := lvl_mem (lo := lo) hr L (i0 + 1) i h
      rw [show i0 + (i + 1) = i0 + 1 + i by omega]
      cases w with
      | retAddr q => exact h1
      | _ => exact List.mem_cons_of_mem _ h1
theorem lvl_of {lo : Nat} : ∀ (L : List Value) (i0 : Nat) (q : Nat × Value), q ∈ lvl lo i0 L → ∃ (i : Nat) (v : Value), q = (i0 + i, cv lo v) ∧ L[i]? = some v ∧ ∀ z, v ≠ .retAddr z
  | [], _, _, h => by simp [lvl] at h
  | w :: L, i0, q, h => by
    have key : q ∈ lvl lo (i0 + 1) L → ∃ (i : Nat) (v : Value), q = (i0 + i, cv lo v) ∧ (w :: L)[i]? = some v ∧ ∀ z, v ≠ .retAddr z := by
      intro h
      obtain ⟨i, v, h1, h2, h3⟩ := lvl_of L (i0 + 1) q h
      exact ⟨i + 1, v, by rw [h1]; congr 1; omega, by rw [List.getElem?_cons_succ]; exact h2, h3⟩
    have head : ∀ v : Value, w = v → (∀ z, v ≠ .retAddr z) → q ∈ (i0, cv lo v) :: lvl lo (i0 + 1) L → ∃ (i : Nat) (v : Value), q = (i0 + i, cv lo v) ∧ (w :: L)[i]? = some v ∧ ∀ z, v ≠ .retAddr z := by
      intro v hw hv h
      rcases List.mem_cons.mp h with h | h
      · exact ⟨0, v, h, by rw [hw]; rfl, hv⟩
      · exact key h
    cases w with
    | retAddr z => exact key h
    | int x => exact head _ rfl (fun z hz => by cases hz) h
    | long x => exact head _ rfl (fun z hz => by cases hz) h
    | float x => exact head _ rfl (fun z hz => by cases hz) h
    | double x => exact head _ rfl (fun z hz => by cases hz) h
    | null => exact head _ rfl (fun z hz => by cases hz) h
    | ref x => exact head _ rfl (fun z hz => by cases hz) h
theorem LR.get {lo : Nat} {ls : Array Slot} {nL : Nat} {L : List Value} (h : LR lo ls nL L) {i : Nat} {v : Value} (hi : L[i]? = some v) (hr : ∀ q, v ≠ .retAddr q) : ls[i]? = some (.val (cv lo v)) := by
  have h1 := h.2.2.2 _ (lvl_mem (lo := lo) hr L 0 i hi)
  simpa using h1
theorem lv_has.mono {ls : Array Slot} {nL : Nat} {l l' : List (Nat × Value)} (h : lv_has ls nL l) (hs : ∀ q ∈ l', q ∈ l) : lv_has ls nL l' := ⟨h.1, h.2.1, fun q hq => h.2.2 q (hs q hq)⟩
/-- a store: what stood there, a long that reached there, and (for a long) the next place go -/
def cl1 (L : List Value) (i : Nat) : List Value := match i with
  | 0 => L
  | j + 1 => match L[j]? with
    | some (.long _) => L.set j (.retAddr 0)
    | some (.double _) => L.set j (.retAddr 0)
    | _ => L
def st1 (L : List Value) (i : Nat) (v : Value) : List Value := (cl1 L i).set i v
def st2 (L : List Value) (i : Nat) (v : Value) : List Value := ((cl1 L i).set i v).set (i + 1) (.retAddr 0)
theorem cl1_len (L : List Value) (i : Nat) : (cl1 L i).length = L.length := by
  unfold cl1
  split
  · rfl
  · split <;> simp
theorem cl1_get {L : List Value} {i k : Nat} {v : Value} (h : (cl1 L i)[k]? = some v) (hv : ∀ z, v ≠ .retAddr z) : L[k]? = some v ∧ ¬ (k + 1 = i ∧ v.category = 2) := by
  unfold cl1 at h
  split at h
  · exact ⟨h, fun q => by omega⟩
  · rename_i j
    have cut : ∀ w : Value, L[j]? = some w → (L.set j (.retAddr 0))[k]? = some v → L[k]? = some v ∧ ¬ (k + 1 = j + 1 ∧ v.category = 2) := by
      intro w hw h
      by_cases hk : j = k
      · subst hk
        rw [List.getElem?_set_self (List.getElem?_eq_some_iff.mp hw).1] at h
        cases h
        exact absurd rfl (hv 0)
      · rw [List.getElem?_set_ne hk] at h
        exact ⟨h, fun q => hk (by omega)⟩
    split at h
    · rename_i x hx
      exact cut _ hx h
    · rename_i x hx
      exact cut _ hx h
    · rename_i h1 h2
      refine ⟨h, fun q => ?_⟩
      have : k = j := by omega
      subst this
      cases v with
      | long x => exact h1 x h
      | double x => exact h2 x h
      | _ => cases q.2
theorem cv_cat (lo : Nat) (v : Value) : (cv lo v).category = v.category := by cases v <;> rfl
theorem st1_sub {lo : Nat} {L : List Value} {i : Nat} {v : Value} (hi : i < L.length) : ∀ q ∈ lvl lo 0 (st1 L i v), q ∈ (i, cv lo v) :: (lvl lo 0 L).filter (fun q => !(q.1 == i) && !(q.1 + 1 == i && q.2.category == 2)) := by
  intro q hq
  obtain ⟨k, w, e1, e2, e3⟩ := lvl_of _ 0 q hq
  rw [Nat.zero_add] at e1
  subst e1
  unfold st1 at e2
  by_cases hk : i = k
  · subst hk
    rw [List.getElem?_set_self (by rw [cl1_len]; exact hi)] at e2
    cases e2
    exact List.mem_cons_self
  · rw [List.getElem?_set_ne hk] at e2
    obtain ⟨g1, g2⟩ := cl1_get e2 e3
    refine List.mem_cons_of_mem _ (List.mem_filter.mpr ⟨by simpa using lvl_mem (lo := lo) e3 L 0 k g1, ?_⟩)
    have hk2 : ¬ k = i := fun q => hk q.symm
    rw [cv_cat]
    by_cases a : k + 1 = i
    · have : ¬ w.category = 2 := fun q => g2 ⟨a, q⟩
      simp [hk2, this]
    · simp [hk2, a]
theorem st2_sub {lo : Nat} {L : List Value} {i : Nat} {v : Value} (hi : i + 1 < L.length) : ∀ q ∈ lvl lo 0 (st2 L i v), q ∈ (i, cv lo v) :: (lvl lo 0 L).filter (fun q => !(q.1 == i) && (!(q.1 == i + 1) && !(q.1 + 1 == i && q.2.category == 2))) := by
  intro q hq
  obtain ⟨k, w, e1, e2, e3⟩ := lvl_of _ 0 q hq
  rw [Nat.zero_add] at e1
  subst e1
  unfold st2 at e2
  by_cases h1 : i + 1 = k
  · subst h1
    rw [List.getElem?_set_self (by rw [List.length_set, cl1_len]; exact hi)] at e2
    cases e2
    exact absurd rfl (e3 0)
  rw [List.getElem?_set_ne h1] at e2
  by_cases hk : i = k
  · subst hk
    rw [List.getElem?_set_self (by rw [cl1_len]; omega)] at e2
    cases e2
    exact List.mem_cons_self
  · rw [List.getElem?_set_ne hk] at e2
    obtain ⟨g1, g2⟩ := cl1_get e2 e3
    refine List.mem_cons_of_mem _ (List.mem_filter.mpr ⟨by simpa using lvl_mem (lo := lo) e3 L 0 k g1, ?_⟩)
    have hk2 : ¬ k = i := fun q => hk q.symm
    have h12 : ¬ k = i + 1 := fun q => h1 q.symm
    rw [cv_cat]
    by_cases a : k + 1 = i
    · have : ¬ w.category = 2 := fun q => g2 ⟨a, q⟩
      simp [hk2, h12, this]
    · simp [hk2, h12, a]
theorem st1_len (L : List Value) (i : Nat) (v : Value) : (st1 L i v).length = L.length := by unfold st1; rw [List.length_set, cl1_len]
theorem st2_len (L : List Value) (i : Nat) (v : Value) : (st2 L i v).length = L.length := by unfold st2; rw [List.length_set, List.length_set, cl1_len]
/-- the locals at the entry -/
def enl : List Value → List Value
  | [] => []
  | .long x :: vs => .long x :: .retAddr 0 :: enl vs
  | .double x :: vs => .double x :: .retAddr 0 :: enl vs
  | v :: vs => v :: enl vs
theorem enl_sub {lo : Nat} (n : Nat) : ∀ (vs : List Value) (i0 : Nat) (q : Nat × Value), q ∈ lvl lo i0 (enl vs ++ List.replicate n (.retAddr 0)) → q ∈ lv_args i0 (vs.map (cv lo))
  | [], i0, q, h => by
    exfalso
    have : ∀ (k i0 : Nat) , q ∉ lvl lo i0 (List.replicate k (.retAddr 0)) := by
      intro k
      induction k with
      | zero => intro i0 h; simp [lvl] at h
      | succ k ih => intro i0 h; rw [List.replicate_succ] at h; exact ih (i0 + 1) h
    exact this n i0 h
  | v :: vs, i0, q, h => by
    have one : ∀ w : Value, cv lo w = cv lo v → ¬ (cv lo v).category = 2 → q ∈ (i0, cv lo w) :: lvl lo (i0 + 1) (enl vs ++ List.replicate n (.retAddr 0)) → q ∈ lv_args i0 ((v :: vs).map (cv lo)) := by
      intro w hw hc h
      show q ∈ (i0, cv lo v) :: lv_args (if (cv lo v).category = 2 then i0 + 2 else i0 + 1) (vs.map (cv lo))
      rw [if_neg hc]
      rcases List.mem_cons.mp h with h | h
      · rw [h, hw]; exact List.mem_cons_self
      · exact List.mem_cons_of_mem _ (enl_sub n vs _ q h)
    cases v with
    | long x =>
      show q ∈ (i0, Value.long x) :: lv_args (i0 + 2) (vs.map (cv lo))
      rcases List.mem_cons.mp (show q ∈ (i0, Value.long x) :: lvl lo (i0 + 1 + 1) (enl vs ++ List.replicate n (.retAddr 0)) from h) with h | h
      · rw [h]; exact List.mem_cons_self
      · exact List.mem_cons_of_mem _ (enl_sub n vs _ q h)
    | double x =>
      show q ∈ (i0, Value.double x) :: lv_args (i0 + 2) (vs.map (cv lo))
      rcases List.mem_cons.mp (show q ∈ (i0, Value.double x) :: lvl lo (i0 + 1 + 1) (enl vs ++ List.replicate n (.retAddr 0)) from h) with h | h
      · rw [h]; exact List.mem_cons_self
      · exact List.mem_cons_of_mem _ (enl_sub n vs _ q h)
    | int x => exact one (.int x) rfl (by simp [cv, Value.category]) h
    | float x => exact one (.float x) rfl (by simp [cv, Value.category]) h
    | null => exact one .null rfl (by simp [cv, Value.category]) h
    | ref x => exact one (.ref x) rfl (by simp [cv, Value.category]) h
    | retAddr x =>
      show q ∈ (i0, Value.retAddr x) :: lv_args (i0 + 1) (vs.map (cv lo))
      exact List.mem_cons_of_mem _ (enl_sub n vs _ q h)
theorem enl_len (lo : Nat) : ∀ vs : List Value, (lg_sl (vs.map (cv lo))).length = (enl vs).length
  | [] => rfl
  | v :: vs => by
    have ih := enl_len lo vs
    have e : lg_sl (cv lo v :: vs.map (cv lo)) = (if (cv lo v).category = 2 then [.val (cv lo v), .second] else [.val (cv lo v)]) ++ lg_sl (vs.map (cv lo)) := by simp [lg_sl]
    rw [List.map_cons, e, List.length_append, ih]
    cases v <;> simp [cv, Value.category, enl] <;> omega

