/-! ===== rings: the class ===== -/
theorem bt_ex {x : Int32} (h : ¬ x = 0) : ∃ i, i < 32 ∧ bt x i = true := by
  refine Classical.byContradiction (fun z => h (b_ext (fun i hi => ?_)))
  rw [b_0]
  cases e : bt x i with
  | false => rfl
  | true => exact absurd ⟨i, hi, e⟩ z
theorem bt_no {x : Int32} (h : x = 0) (i : Nat) : bt x i = true → False := fun z => by rw [h, b_0] at z; cases z
theorem bt_lt {x : Int32} {i : Nat} (h : bt x i = true) : i < 32 := by
  rcases Nat.lt_or_ge i 32 with z | z
  · exact z
  · rw [b_big z] at h; cases h
theorem bt_andI {x y : Int32} {i : Nat} : bt (x &&& y) i = true ↔ bt x i = true ∧ bt y i = true := by rw [b_and, Bool.and_eq_true]
theorem bt_orI {x y : Int32} {i : Nat} : bt (x ||| y) i = true ↔ bt x i = true ∨ bt y i = true := by rw [b_or, Bool.or_eq_true]
/-- a row of bits that stands for p -/
def BS (x : Int32) (p : Nat → Prop) : Prop := ∀ u, u < 32 → (bt x u = true ↔ p u)
theorem nI_sc {m q : Nat} (h : q < m) : nI m - nI (q + 1) + 1 = nI (m - q) := by
  obtain ⟨k, rfl⟩ : ∃ k, m = k + 1 := ⟨m - 1, by omega⟩
  rw [nI_sb (by omega), nI_1]; congr 1; omega
/-- the layers so far -/
def CLI (I I' : Nat → Nat → Int32) (D : Nat → Nat → Int32) (nr w : Nat) (rd : Int32) (k : Nat) (ly sn : Int32) : Prop :=
  (∀ a, a ≠ 44 → I' a = I a) ∧ BS ly (fun u => u < 10 ∧ dst D nr w u = k) ∧ BS sn (fun u => u < 10 ∧ dst D nr w u < k) ∧ (∀ i, i < k → BS (I' 44 i) (fun u => u < 10 ∧ dst D nr w u = i)) ∧ ∀ v, v < 10 → bt rd v = true → k ≤ dst D nr w v
section CL
variable {I I' : Nat → Nat → Int32} {D : Nat → Nat → Int32} {nv nr w k m q : Nat} {rd ly sn x : Int32} {r : Nat → Nat}
theorem CLI.z (R : RKP D nv nr w) : CLI I I D nr w rd 0 ((1 : Int32) <<< (nI w &&& 31)) 0 := by
  have hw : w < 10 := by have := R.1; have := R.2.1; omega
  refine ⟨fun _ _ => rfl, fun u hu => ?_, fun u hu => ?_, fun i hi => absurd hi (Nat.not_lt_zero _), fun _ _ _ => Nat.zero_le _⟩
  · rw [bt_one (by omega) hu, decide_eq_true_iff]
    exact ⟨fun e => by rw [e]; exact ⟨hw, R.w0⟩, fun ⟨a, b⟩ => R.ew a b⟩
  · rw [b_0]; exact ⟨fun z => (by cases z), fun ⟨_, z⟩ => absurd z (Nat.not_lt_zero _)⟩
theorem CLI.no (h : CLI I I' D nr w rd 10 ly sn) (R : RKP D nv nr w) : ∀ v, v < 10 → bt rd v = true → dst D nr w v = 100 := fun v hv hb => by
  have := h.2.2.2.2 v hv hb
  rcases R.c9 hv with z | ⟨z, -⟩ <;> omega
theorem CLI.ys (h : CLI I I' D nr w rd k ly sn) (hk : k < 10) (hc : ¬ rd &&& ly = 0) : MNR D nr w rd k := by
  obtain ⟨i, i1, i2⟩ := bt_ex hc
  rw [bt_andI] at i2
  have := (h.2.1 i i1).mp i2.2
  exact ⟨by omega, ⟨i, this.1, i2.1, this.2⟩, h.2.2.2.2⟩
theorem CLI.st (h : CLI I I' D nr w rd k ly sn) (i : Nat) (hi : i ≤ k) : BS (up2 I' 44 k ly 44 i) (fun u => u < 10 ∧ dst D nr w u = i) := by
  by_cases e : i = k
  · rw [e, up2_s]; exact h.2.1
  · rw [up2_e e]; exact h.2.2.2.1 i (by omega)
theorem CLI.s (h : CLI I I' D nr w rd k ly sn) (hk : k < 10) (R : RKP D nv nr w) (hc : rd &&& ly = 0) (hx : BS x (fun u => u < nv ∧ ¬ nd D nr u &&& ly = 0)) : CLI I (up2 I' 44 k ly) D nr w rd (k + 1) (x &&& ((sn ||| ly) ^^^ (-1))) (sn ||| ly) := by
  have hn := R.1
  have hs : BS (sn ||| ly) (fun u => u < 10 ∧ dst D nr w u < k + 1) := fun u hu => by
    rw [bt_orI, h.2.1 u hu, h.2.2.1 u hu]; omega
  refine ⟨fun a ha => by rw [up2_o ha]; exact h.1 a ha, fun u hu => ?_, hs, fun i hi => h.st i (by omega), fun v hv hb => ?_⟩
  · rw [bt_andI, bt_not hu, hx u hu]
    have hs2 := hs u hu
    constructor
    · rintro ⟨⟨a1, a2⟩, a3⟩
      have nb : ¬ (u < 10 ∧ dst D nr w u < k + 1) := fun z => by rw [hs2.mpr z] at a3; cases a3
      obtain ⟨y, y1, y2⟩ := bt_ex a2
      rw [bt_andI] at y2
      have hy := (h.2.1 y y1).mp y2.2
      have := R.st (v := u) (by omega) hy.1 y2.1 (by omega)
      exact ⟨by omega, by omega⟩
    · rintro ⟨a1, a2⟩
      have hu9 : u < nv := by rcases R.c9 a1 with z | ⟨-, z⟩ <;> omega
      obtain ⟨y, y1, y2, y3⟩ := R.pr a1 a2 (by omega)
      refine ⟨⟨hu9, fun z => bt_no z y (bt_andI.mpr ⟨y2, (h.2.1 y (by omega)).mpr ⟨by omega, y3⟩⟩)⟩, ?_⟩
      cases e : bt (sn ||| ly) u with
      | false => rfl
      | true => have := hs2.mp e; omega
  · have a := h.2.2.2.2 v hv hb
    rcases Nat.lt_or_ge k (dst D nr w v) with z | z
    · exact z
    · exact (bt_no hc v (bt_andI.mpr ⟨hb, (h.2.1 v (by omega)).mpr ⟨hv, by omega⟩⟩)).elim
/-- the ring that is kept, so far; nx: what the last of it needs -/
def KRI (I I' : Nat → Nat → Int32) (D : Nat → Nat → Int32) (nr w : Nat) (rd : Int32) (m q : Nat) (r : Nat → Nat) (nx : Int32) : Prop :=
  (∀ a, a ≠ 43 → I' a = I a) ∧ (∀ i, i ≤ q → I' 43 i = nI (r i)) ∧ RNGq D nr w rd m q r ∧ nx = if q = 0 then rd else nd D nr (r q)
theorem KRI.z : KRI I (up2 I 43 0 (nI w)) D nr w rd m 0 (fun _ => w) rd :=
  ⟨fun a ha => up2_o ha, fun i hi => by obtain rfl : i = 0 := by omega
                                        exact up2_s, ⟨rfl, fun i hi => absurd hi (Nat.not_lt_zero _)⟩, rfl⟩
theorem KRI.bits {nx ly : Int32} (h : KRI I I' D nr w rd m q r nx) (R : RKP D nv nr w) (hm : m ≤ 9) (hq : q < m) (hl : BS ly (fun u => u < 10 ∧ dst D nr w u = m - q)) {u : Nat} (hu : u < 32) : bt (nx &&& ly) u = true ↔ u < 10 ∧ bt (ed D nr w rd (r q)) u = true ∧ dst D nr w u = m - q := by
  obtain ⟨-, -, h3, h4⟩ := h
  rw [bt_andI, hl u hu]
  have key : u < 10 → dst D nr w u = m - q → (bt nx u = true ↔ bt (ed D nr w rd (r q)) u = true) := fun a b => by
    rw [h4]
    by_cases e : q = 0
    · rw [if_pos e, e, h3.1, ed_w, bt_orI]
      exact ⟨Or.inr, fun z => z.resolve_left (fun y => by have := R.nw y; omega)⟩
    · rw [if_neg e]
      obtain ⟨p, rfl⟩ : ∃ p, q = p + 1 := ⟨q - 1, by omega⟩
      have hne : r (p + 1) ≠ w := fun z => by have := (h3.2 p (by omega)).2.2.1; rw [z, R.w0] at this; omega
      rw [ed_o hne]
  constructor
  · rintro ⟨a, b, c⟩; exact ⟨b, (key b c).mp a, c⟩
  · rintro ⟨a, b, c⟩; exact ⟨(key a c).mpr b, a, c⟩
theorem KRI.s {nx y : Int32} {x : Nat} (h : KRI I I' D nr w rd m q r nx) (hx : x < 10 ∧ bt (ed D nr w rd (r q)) x = true ∧ dst D nr w x = m - q) (hx2 : ∀ u, u < x → ¬ (bt (ed D nr w rd (r q)) u = true ∧ dst D nr w u = m - q)) (hy : y = nd D nr x) : KRI I (up2 I' 43 (q + 1) (nI x)) D nr w rd m (q + 1) (fu r (q + 1) x) y := by
  refine ⟨fun a ha => by rw [up2_o ha]; exact h.1 a ha, fun i hi => ?_, h.2.2.1.s hx hx2, by rw [if_neg (by omega), fu_s, hy]⟩
  by_cases e : i = q + 1
  · rw [e, up2_s, fu_s]
  · rw [up2_e e, fu_o e]; exact h.2.1 i (by omega)
end CL
set_option maxHeartbeats 200000 in
theorem l_X8_needing {N : Nat} {S : Nat → Nat × Nat} {I : Nat → Nat → Int32} {J : Nat → Nat → Int64} {Q : Nat → Nat → Option Nat} {κ : Option Value → HP → Prop} {D : Nat → Nat → Int32} {nv nr : Nat} (h10 : I 1 0 = nI nv) (hn : nv ≤ 10) (h6 : ∀ v, v < nv → I 6 v = nd D nr v) {ly : Int32} (hk : ∀ x, BS x (fun u => u < nv ∧ ¬ nd D nr u &&& ly = 0) → κ (some (.int x)) (N, S, I, J, Q)) : ∀ d : Nat, ∀ k x, k + d = nv → BS x (fun u => u < k ∧ ¬ nd D nr u &&& ly = 0) → SP E1 M_X8_needing κ 4 [.ref 1, .int ly, .int x, .int (nI k)] [] (N, S, I, J, Q) 0 0 := by
  intro d
  induction d with
  | zero =>
    intro k x hd b
    obtain rfl : k = nv := by omega
    refine s_iload_n (pc' := 5) dX8_needing_4 rfl rfl ?_
    refine s_aload_n (pc' := 6) dX8_needing_5 rfl rfl ?_
    refine t_getI (pc' := 9) dX8_needing_6 rfl sh_1 (by decide) fa_X8_9_8 rfl ?_
    refine s_icmpgeT (tgt := 35) dX8_needing_9 (by decide) (by rw [h10]; exact Int32.le_refl _) ?_
    refine s_iload_n (pc' := 36) dX8_needing_35 rfl rfl ?_
    exact s_iret dX8_needing_36 rfl (by decide) (by decide) (hk x b)
  | succ d ih =>
    intro k x hd b
    refine s_iload_n (pc' := 5) dX8_needing_4 rfl rfl ?_
    refine s_aload_n (pc' := 6) dX8_needing_5 rfl rfl ?_
    refine t_getI (pc' := 9) dX8_needing_6 rfl sh_1 (by decide) fa_X8_9_8 rfl ?_
    refine s_icmpgeF (pc' := 12) (tgt := 35) dX8_needing_9 (by decide) rfl (by rw [h10]; exact nI_ge (by omega) (by omega)) ?_
    refine s_aload_n (pc' := 13) dX8_needing_12 rfl rfl ?_
    refine s_getS (pc' := 16) (b := 6) dX8_needing_13 rfl (by decide) rfl (by decide) fa_X8_28_8 rfl rfl ?_
    refine s_iload_n (pc' := 17) dX8_needing_16 rfl rfl ?_
    refine t_iald (pc' := 18) dX8_needing_17 rfl sh_6 rfl (by omega) ?_
    refine s_iload_n (pc' := 19) dX8_needing_18 rfl rfl ?_
    refine s_iand (pc' := 20) dX8_needing_19 rfl ?_
    refine s_ifeq (pc' := 23) (tgt := 29) dX8_needing_20 (by decide) rfl (fun c20 => ?_) (fun c20 => ?_)
    · refine t_iinc (pc' := 32) (v := nI (k + 1)) (L' := [.ref 1, .int _, .int _, .int _]) dX8_needing_29 rfl rfl (nI_inc k) rfl ?_
      refine s_goto (tgt := 4) dX8_needing_32 (by decide) ?_
      refine ih (k + 1) x (by omega) (fun u hu => ?_)
      rw [b u hu]
      have : u = k → ¬ ¬ nd D nr u &&& ly = 0 := fun e => by rw [e, ← h6 k (by omega)]; exact fun z => z c20
      exact ⟨fun ⟨a, z⟩ => ⟨by omega, z⟩, fun ⟨a, z⟩ => ⟨Nat.lt_of_le_of_ne (by omega) (fun e => this e z), z⟩⟩
    · refine s_iload_n (pc' := 24) dX8_needing_23 rfl rfl ?_
      refine s_iconst (pc' := 25) (v := 1) dX8_needing_24 rfl (by decide) ?_
      refine s_iload_n (pc' := 26) dX8_needing_25 rfl rfl ?_
      refine s_ishl (pc' := 27) dX8_needing_26 rfl ?_
      refine s_ior (pc' := 28) dX8_needing_27 rfl ?_
      refine t_istore_n (pc' := 29) (L' := [.ref 1, .int _, .int _, .int _]) dX8_needing_28 rfl (Nat.le_of_ble_eq_true rfl) rfl ?_
      refine t_iinc (pc' := 32) (v := nI (k + 1)) (L' := [.ref 1, .int _, .int _, .int _]) dX8_needing_29 rfl rfl (nI_inc k) rfl ?_
      refine s_goto (tgt := 4) dX8_needing_32 (by decide) ?_
      refine ih (k + 1) _ (by omega) (fun u hu => ?_)
      rw [bt_orI, bt_one (by omega) hu, decide_eq_true_iff, b u hu]
      rw [h6 k (by omega)] at c20
      exact ⟨fun z => z.elim (fun ⟨a, z⟩ => ⟨by omega, z⟩) (fun e => by rw [e]; exact ⟨by omega, c20⟩), fun ⟨a, z⟩ => (Nat.lt_or_ge u k).elim (fun q => Or.inl ⟨q, z⟩) (fun q => Or.inr (by omega))⟩
set_option maxHeartbeats 200000 in
theorem c_X8_needing {N : Nat} {S : Nat → Nat × Nat} {I : Nat → Nat → Int32} {J : Nat → Nat → Int64} {Q : Nat → Nat → Option Nat} {κ : Option Value → HP → Prop} {D : Nat → Nat → Int32} {nv nr : Nat} (h10 : I 1 0 = nI nv) (hn : nv ≤ 10) (h6 : ∀ v, v < nv → I 6 v = nd D nr v) {ly : Int32} (hk : ∀ x, BS x (fun u => u < nv ∧ ¬ nd D nr u &&& ly = 0) → κ (some (.int x)) (N, S, I, J, Q)) : CT E1 M_X8_needing [.ref 1, .int ly] (N, S, I, J, Q) κ := by
  refine ofSP mk_X8_needing (Nat.le_of_ble_eq_true rfl) (L := [.ref 1, .int _, .retAddr _, .retAddr _]) rfl ?_
  refine s_iconst (pc' := 1) (v := 0) dX8_needing_0 rfl (by decide) ?_
  refine t_istore_n (pc' := 2) (L' := [.ref 1, .int _, .int _, .retAddr _]) dX8_needing_1 rfl (Nat.le_of_ble_eq_true rfl) rfl ?_
  refine s_iconst (pc' := 3) (v := 0) dX8_needing_2 rfl (by decide) ?_
  refine t_istore_n (pc' := 4) (L' := [.ref 1, .int _, .int _, .int _]) dX8_needing_3 rfl (Nat.le_of_ble_eq_true rfl) rfl ?_
  exact l_X8_needing h10 hn h6 hk nv 0 0 (by omega) (fun u hu => by rw [b_0]; exact ⟨fun z => (by cases z), fun ⟨z, _⟩ => absurd z (Nat.not_lt_zero _)⟩)
set_option maxHeartbeats 200000 in
theorem l_X11_leastOf {N : Nat} {S : Nat → Nat × Nat} {I : Nat → Nat → Int32} {J : Nat → Nat → Int64} {Q : Nat → Nat → Option Nat} {κ : Option Value → HP → Prop} {x : Int32} {y : Nat} (hy : y < 10) (hb : bt x y = true) (hl : ∀ u, u < y → ¬ bt x u = true) (hk : κ (some (.int (nI y))) (N, S, I, J, Q)) : ∀ d : Nat, ∀ v, v + d = y → SP E1 M_X11_leastOf κ 2 [.int x, .int (nI v)] [] (N, S, I, J, Q) 0 0 := by
  intro d
  induction d with
  | zero =>
    intro v hd
    obtain rfl : v = y := by omega
    by_cases e9 : v = 9
    · subst e9
      refine s_iload_n (pc' := 3) dX11_leastOf_2 rfl rfl ?_
      refine s_bipush (pc' := 5) (v := 9) dX11_leastOf_3 rfl (by decide) ?_
      refine s_icmpgeT (tgt := 24) dX11_leastOf_5 (by decide) (by decide) ?_
      refine s_bipush (pc' := 26) (v := 9) dX11_leastOf_24 rfl (by decide) ?_
      exact s_iret dX11_leastOf_26 rfl (by decide) (by decide) hk
    · refine s_iload_n (pc' := 3) dX11_leastOf_2 rfl rfl ?_
      refine s_bipush (pc' := 5) (v := 9) dX11_leastOf_3 rfl (by decide) ?_
      refine s_icmpgeF (pc' := 8) (tgt := 24) dX11_leastOf_5 (by decide) rfl (nI_ge (b := 9) (by omega) (by decide)) ?_
      refine s_iload_n (pc' := 9) dX11_leastOf_8 rfl rfl ?_
      refine s_iload_n (pc' := 10) dX11_leastOf_9 rfl rfl ?_
      refine s_callS (pc' := 13) (As := [.int _, .int _]) dX11_leastOf_10 rfl mk_X11_hasBit ml_X11_145 sm_X11_hasBit rfl rfl ⟨Nat.le_of_ble_eq_true rfl, Nat.le_of_ble_eq_true rfl, Nat.le_of_ble_eq_true rfl, Nat.le_of_ble_eq_true rfl⟩ (Nat.le_of_ble_eq_true rfl) (e_hasBit (j := v) rfl (by omega) (fun b10 => ?_) (fun b10 => ?_))
      · refine s_ifeqF (pc' := 16) (tgt := 18) dX11_leastOf_13 (by decide) rfl (by decide) ?_
        refine s_iload_n (pc' := 17) dX11_leastOf_16 rfl rfl ?_
        exact s_iret dX11_leastOf_17 rfl (by decide) (by decide) hk
      · refine s_ifeqT (tgt := 18) dX11_leastOf_13 (by decide) (by decide) ?_
        exact absurd hb (by rw [b10]; decide)
  | succ d ih =>
    intro v hd
    refine s_iload_n (pc' := 3) dX11_leastOf_2 rfl rfl ?_
    refine s_bipush (pc' := 5) (v := 9) dX11_leastOf_3 rfl (by decide) ?_
    refine s_icmpgeF (pc' := 8) (tgt := 24) dX11_leastOf_5 (by decide) rfl (nI_ge (b := 9) (by omega) (by decide)) ?_
    refine s_iload_n (pc' := 9) dX11_leastOf_8 rfl rfl ?_
    refine s_iload_n (pc' := 10) dX11_leastOf_9 rfl rfl ?_
    refine s_callS (pc' := 13) (As := [.int _, .int _]) dX11_leastOf_10 rfl mk_X11_hasBit ml_X11_145 sm_X11_hasBit rfl rfl ⟨Nat.le_of_ble_eq_true rfl, Nat.le_of_ble_eq_true rfl, Nat.le_of_ble_eq_true rfl, Nat.le_of_ble_eq_true rfl⟩ (Nat.le_of_ble_eq_true rfl) (e_hasBit (j := v) rfl (by omega) (fun b10 => ?_) (fun b10 => ?_))
    · refine s_ifeqF (pc' := 16) (tgt := 18) dX11_leastOf_13 (by decide) rfl (by decide) ?_
      refine s_iload_n (pc' := 17) dX11_leastOf_16 rfl rfl ?_
      exact s_iret dX11_leastOf_17 rfl (by decide) (by decide) (absurd b10 (hl v (by omega)))
    · refine s_ifeqT (tgt := 18) dX11_leastOf_13 (by decide) (by decide) ?_
      refine t_iinc (pc' := 21) (v := nI (v + 1)) (L' := [.int _, .int _]) dX11_leastOf_18 rfl rfl (nI_inc v) rfl ?_
      refine s_goto (tgt := 2) dX11_leastOf_21 (by decide) ?_
      exact ih (v + 1) (by omega)
set_option maxHeartbeats 200000 in
theorem c_X11_leastOf {N : Nat} {S : Nat → Nat × Nat} {I : Nat → Nat → Int32} {J : Nat → Nat → Int64} {Q : Nat → Nat → Option Nat} {κ : Option Value → HP → Prop} {x : Int32} {y : Nat} (hy : y < 10) (hb : bt x y = true) (hl : ∀ u, u < y → ¬ bt x u = true) (hk : κ (some (.int (nI y))) (N, S, I, J, Q)) : CT E1 M_X11_leastOf [.int x] (N, S, I, J, Q) κ := by
  refine ofSP mk_X11_leastOf (Nat.le_of_ble_eq_true rfl) (L := [.int _, .retAddr _]) rfl ?_
  refine s_iconst (pc' := 1) (v := 0) dX11_leastOf_0 rfl (by decide) ?_
  refine t_istore_n (pc' := 2) (L' := [.int _, .int _]) dX11_leastOf_1 rfl (Nat.le_of_ble_eq_true rfl) rfl ?_
  exact l_X11_leastOf hy hb hl hk y 0 (by omega)
set_option maxHeartbeats 200000 in
theorem l_X11_keepRing {N : Nat} {S : Nat → Nat × Nat} {I : Nat → Nat → Int32} {J : Nat → Nat → Int64} {Q : Nat → Nat → Option Nat} {κ : Option Value → HP → Prop} {D : Nat → Nat → Int32} {nv nr w m : Nat} {rd : Int32} (R : RKP D nv nr w) (hm : MNR D nr w rd m) (h6 : ∀ v, v < nv → I 6 v = nd D nr v) (h44 : ∀ i, i ≤ m → BS (I 44 i) (fun u => u < 10 ∧ dst D nr w u = i)) (hk : ∀ r nx I', KRI I I' D nr w rd m m r nx → κ none (N, S, up2 I' 0 10 (nI (m + 1)), J, Q)) : ∀ d : Nat, ∀ q r nx I' (x6 : Value), q + d = m → KRI I I' D nr w rd m q r nx → SP E1 M_X11_keepRing κ 13 [.ref 0, .int (nI w), .int rd, .int (nI m), .int nx, .int (nI (q + 1)), x6] [] (N, S, I', J, Q) 0 0 := by
  intro d
  induction d with
  | zero =>
    intro q r nx I' x6 hd g
    have h9 := hm.1
    obtain rfl : q = m := by omega
    refine s_iload (pc' := 15) dX11_keepRing_13 rfl rfl ?_
    refine s_iload_n (pc' := 16) dX11_keepRing_15 rfl rfl ?_
    refine s_icmpgtT (tgt := 65) dX11_keepRing_16 (by decide) (nI_lt (by omega) (by omega)) ?_
    refine s_aload_n (pc' := 66) dX11_keepRing_65 rfl rfl ?_
    refine s_iload_n (pc' := 67) dX11_keepRing_66 rfl rfl ?_
    refine s_iconst (pc' := 68) (v := 1) dX11_keepRing_67 rfl (by decide) ?_
    refine s_iadd (pc' := 69) dX11_keepRing_68 rfl ?_
    refine t_putI (pc' := 72) dX11_keepRing_69 rfl sh_0 (by decide) fa_X11_58_11 (Or.inl rfl) rfl rfl rfl ?_
    exact s_vret dX11_keepRing_72 rfl (by decide) (by decide) (by have z := hk r nx I' g; rw [← nI_1 q] at z; exact z)
  | succ d ih =>
    intro q r nx I' x6 hd g
    have h9 := hm.1
    obtain ⟨x, x1, x2⟩ := g.2.2.1.ex R hm (by omega)
    have e44 : I' 44 = I 44 := g.1 44 (by decide)
    have bb : ∀ u, u < 32 → (bt (nx &&& I' 44 (m - q)) u = true ↔ u < 10 ∧ bt (ed D nr w rd (r q)) u = true ∧ dst D nr w u = m - q) := fun u hu => g.bits R hm.1 (by omega) (by rw [e44]; exact h44 (m - q) (by omega)) hu
    have xn : x < nv := by rcases R.c9 x1.1 with z | ⟨-, z⟩; · have := hm.1; omega
                           · exact z
    refine s_iload (pc' := 15) dX11_keepRing_13 rfl rfl ?_
    refine s_iload_n (pc' := 16) dX11_keepRing_15 rfl rfl ?_
    refine s_icmpgtF (pc' := 19) (tgt := 65) dX11_keepRing_16 (by decide) rfl (Int32.not_lt.mpr (nI_le (by omega) (by omega))) ?_
    refine s_iload (pc' := 21) dX11_keepRing_19 rfl rfl ?_
    refine s_aload_n (pc' := 22) dX11_keepRing_21 rfl rfl ?_
    refine s_getS (pc' := 25) (b := 44) dX11_keepRing_22 rfl (by decide) rfl (by decide) fa_X11_55_11 rfl rfl ?_
    refine s_iload_n (pc' := 26) dX11_keepRing_25 rfl rfl ?_
    refine s_iload (pc' := 28) dX11_keepRing_26 rfl rfl ?_
    refine s_isub (pc' := 29) dX11_keepRing_28 rfl ?_
    refine s_iconst (pc' := 30) (v := 1) dX11_keepRing_29 rfl (by decide) ?_
    refine s_iadd (pc' := 31) dX11_keepRing_30 rfl ?_
    refine t_iald (pc' := 32) (q := m - q) dX11_keepRing_31 rfl sh_44 (nI_sc (by omega)) (by omega) ?_
    refine s_iand (pc' := 33) dX11_keepRing_32 rfl ?_
    refine s_callS (pc' := 36) (As := [.int _]) dX11_keepRing_33 rfl mk_X11_leastOf ml_X11_404 sm_X11_leastOf rfl rfl ⟨Nat.le_of_ble_eq_true rfl, Nat.le_of_ble_eq_true rfl, Nat.le_of_ble_eq_true rfl, Nat.le_of_ble_eq_true rfl⟩ (Nat.le_of_ble_eq_true rfl) (c_X11_leastOf x1.1 ((bb x (by omega)).mpr x1) (fun u hu z => x2 u hu ((bb u (by omega)).mp z).2) ?_)
    refine t_istore (pc' := 38) (L' := [.ref 0, .int _, .int _, .int _, .int _, .int _, .int _]) dX11_keepRing_36 rfl (Nat.le_of_ble_eq_true rfl) rfl ?_
    refine s_aload_n (pc' := 39) dX11_keepRing_38 rfl rfl ?_
    refine s_getS (pc' := 42) (b := 43) dX11_keepRing_39 rfl (by decide) rfl (by decide) fa_X11_51_11 rfl rfl ?_
    refine s_iload (pc' := 44) dX11_keepRing_42 rfl rfl ?_
    refine s_iload (pc' := 46) dX11_keepRing_44 rfl rfl ?_
    refine t_iast (pc' := 47) dX11_keepRing_46 rfl sh_43 rfl (by omega) ?_
    refine s_aload_n (pc' := 48) dX11_keepRing_47 rfl rfl ?_
    refine s_getS (pc' := 51) (b := 1) dX11_keepRing_48 rfl (by decide) rfl (by decide) fa_X11_10_11 rfl rfl ?_
    refine s_getS (pc' := 54) (b := 6) dX11_keepRing_51 rfl (by decide) rfl (by decide) fa_X11_407_8 rfl rfl ?_
    refine s_iload (pc' := 56) dX11_keepRing_54 rfl rfl ?_
    refine t_iald (pc' := 57) (q := x) dX11_keepRing_56 rfl sh_6 rfl (by omega) ?_
    refine t_istore (pc' := 59) (L' := [.ref 0, .int _, .int _, .int _, .int _, .int _, .int _]) dX11_keepRing_57 rfl (Nat.le_of_ble_eq_true rfl) rfl ?_
    refine t_iinc (pc' := 62) (v := nI (q + 2)) (L' := [.ref 0, .int _, .int _, .int _, .int _, .int _, .int _]) dX11_keepRing_59 rfl rfl (nI_inc (q + 1)) rfl ?_
    refine s_goto (tgt := 13) dX11_keepRing_62 (by decide) ?_
    exact ih (q + 1) _ _ _ _ (by omega) (g.s x1 x2 (by rw [up2_d (by decide), g.1 6 (by decide)]; exact h6 x xn))
set_option maxHeartbeats 200000 in
theorem c_X11_keepRing {N : Nat} {S : Nat → Nat × Nat} {I : Nat → Nat → Int32} {J : Nat → Nat → Int64} {Q : Nat → Nat → Option Nat} {κ : Option Value → HP → Prop} {D : Nat → Nat → Int32} {nv nr w m : Nat} {rd : Int32} (R : RKP D nv nr w) (hm : MNR D nr w rd m) (h6 : ∀ v, v < nv → I 6 v = nd D nr v) (h44 : ∀ i, i ≤ m → BS (I 44 i) (fun u => u < 10 ∧ dst D nr w u = i)) (hk : ∀ r nx I', KRI I I' D nr w rd m m r nx → κ none (N, S, up2 I' 0 10 (nI (m + 1)), J, Q)) : CT E1 M_X11_keepRing [.ref 0, .int (nI w), .int rd, .int (nI m)] (N, S, I, J, Q) κ := by
  refine ofSP mk_X11_keepRing (Nat.le_of_ble_eq_true rfl) (L := [.ref 0, .int _, .int _, .int _, .retAddr _, .retAddr _, .retAddr _]) rfl ?_
  refine s_aload_n (pc' := 1) dX11_keepRing_0 rfl rfl ?_
  refine s_getS (pc' := 4) (b := 43) dX11_keepRing_1 rfl (by decide) rfl (by decide) fa_X11_51_11 rfl rfl ?_
  refine s_iconst (pc' := 5) (v := 0) dX11_keepRing_4 rfl (by decide) ?_
  refine s_iload_n (pc' := 6) dX11_keepRing_5 rfl rfl ?_
  refine t_iast (pc' := 7) (q := 0) dX11_keepRing_6 rfl sh_43 rfl (by decide) ?_
  refine s_iload_n (pc' := 8) dX11_keepRing_7 rfl rfl ?_
  refine t_istore (pc' := 10) (L' := [.ref 0, .int _, .int _, .int _, .int _, .retAddr _, .retAddr _]) dX11_keepRing_8 rfl (Nat.le_of_ble_eq_true rfl) rfl ?_
  refine s_iconst (pc' := 11) (v := 1) dX11_keepRing_10 rfl (by decide) ?_
  refine t_istore (pc' := 13) (L' := [.ref 0, .int _, .int _, .int _, .int _, .int _, .retAddr _]) dX11_keepRing_11 rfl (Nat.le_of_ble_eq_true rfl) rfl ?_
  exact l_X11_keepRing R hm h6 h44 hk m 0 _ _ _ _ (by omega) KRI.z
set_option maxHeartbeats 200000 in
theorem l_X11_closesRing {N : Nat} {S : Nat → Nat × Nat} {I : Nat → Nat → Int32} {J : Nat → Nat → Int64} {Q : Nat → Nat → Option Nat} {κ : Option Value → HP → Prop} {D : Nat → Nat → Int32} {nv nr w : Nat} {rd : Int32} (R : RKP D nv nr w) (h10 : I 1 0 = nI nv) (h6 : ∀ v, v < nv → I 6 v = nd D nr v) (k1 : (∀ v, v < 10 → bt rd v = true → dst D nr w v = 100) → ∀ I', (∀ a, a ≠ 44 → I' a = I a) → κ (some (.int 0)) (N, S, I', J, Q)) (k2 : ∀ m r, MNR D nr w rd m → RNG D nr w rd m r → ∀ I', (∀ a, a ≠ 43 → a ≠ 44 → I' a = I a) → (∀ i, i ≤ m → I' 43 i = nI (r i)) → κ (some (.int 1)) (N, S, up2 I' 0 10 (nI (m + 1)), J, Q)) : ∀ d : Nat, ∀ k ly sn I', k + d = 10 → CLI I I' D nr w rd k ly sn → SP E1 M_X11_closesRing κ 10 [.ref 0, .int (nI w), .int rd, .int ly, .int sn, .int (nI k)] [] (N, S, I', J, Q) 0 0 := by
  intro d
  induction d with
  | zero =>
    intro k ly sn I' hd g
    obtain rfl : k = 10 := by omega
    refine s_iload (pc' := 12) dX11_closesRing_10 rfl rfl ?_
    refine s_bipush (pc' := 14) (v := 10) dX11_closesRing_12 rfl (by decide) ?_
    refine s_icmpgeT (tgt := 67) dX11_closesRing_14 (by decide) (by decide) ?_
    refine s_iconst (pc' := 68) (v := 0) dX11_closesRing_67 rfl (by decide) ?_
    exact s_zret dX11_closesRing_68 rfl rfl (by decide) (by decide) (k1 (g.no R) I' g.1)
  | succ d ih =>
    intro k ly sn I' hd g
    refine s_iload (pc' := 12) dX11_closesRing_10 rfl rfl ?_
    refine s_bipush (pc' := 14) (v := 10) dX11_closesRing_12 rfl (by decide) ?_
    refine s_icmpgeF (pc' := 17) (tgt := 67) dX11_closesRing_14 (by decide) rfl (nI_ge (b := 10) (by omega) (by decide)) ?_
    refine s_aload_n (pc' := 18) dX11_closesRing_17 rfl rfl ?_
    refine s_getS (pc' := 21) (b := 44) dX11_closesRing_18 rfl (by decide) rfl (by decide) fa_X11_55_11 rfl rfl ?_
    refine s_iload (pc' := 23) dX11_closesRing_21 rfl rfl ?_
    refine s_iload_n (pc' := 24) dX11_closesRing_23 rfl rfl ?_
    refine t_iast (pc' := 25) dX11_closesRing_24 rfl sh_44 rfl (by omega) ?_
    refine s_iload_n (pc' := 26) dX11_closesRing_25 rfl rfl ?_
    refine s_iload_n (pc' := 27) dX11_closesRing_26 rfl rfl ?_
    refine s_iand (pc' := 28) dX11_closesRing_27 rfl ?_
    refine s_ifeq (pc' := 31) (tgt := 41) dX11_closesRing_28 (by decide) rfl (fun c28 => ?_) (fun c28 => ?_)
    · refine s_iload (pc' := 43) dX11_closesRing_41 rfl rfl ?_
      refine s_iload_n (pc' := 44) dX11_closesRing_43 rfl rfl ?_
      refine s_ior (pc' := 45) dX11_closesRing_44 rfl ?_
      refine t_istore (pc' := 47) (L' := [.ref 0, .int _, .int _, .int _, .int _, .int _]) dX11_closesRing_45 rfl (Nat.le_of_ble_eq_true rfl) rfl ?_
      refine s_aload_n (pc' := 48) dX11_closesRing_47 rfl rfl ?_
      refine s_getS (pc' := 51) (b := 1) dX11_closesRing_48 rfl (by decide) rfl (by decide) fa_X11_10_11 rfl rfl ?_
      refine s_iload_n (pc' := 52) dX11_closesRing_51 rfl rfl ?_
      refine s_callV (pc' := 55) (As := [.int _]) dX11_closesRing_52 rfl mk_X8_needing ml_X11_401 im_X8_needing se_X8_X8_X8_needing sh_1 (by decide) rfl rfl rfl ⟨Nat.le_of_ble_eq_true rfl, Nat.le_of_ble_eq_true rfl, Nat.le_of_ble_eq_true rfl, Nat.le_of_ble_eq_true rfl⟩ (Nat.le_of_ble_eq_true rfl) (c_X8_needing (D := D) (nr := nr) (by rw [up2_d (by decide), g.1 1 (by decide)]; exact h10) R.1 (fun v hv => by rw [up2_d (by decide), g.1 6 (by decide)]; exact h6 v hv) (fun x hx => ?_))
      refine s_iload (pc' := 57) dX11_closesRing_55 rfl rfl ?_
      refine s_iconst (pc' := 58) (v := -1) dX11_closesRing_57 rfl (by decide) ?_
      refine s_ixor (pc' := 59) dX11_closesRing_58 rfl ?_
      refine s_iand (pc' := 60) dX11_closesRing_59 rfl ?_
      refine t_istore_n (pc' := 61) (L' := [.ref 0, .int _, .int _, .int _, .int _, .int _]) dX11_closesRing_60 rfl (Nat.le_of_ble_eq_true rfl) rfl ?_
      refine t_iinc (pc' := 64) (v := nI (k + 1)) (L' := [.ref 0, .int _, .int _, .int _, .int _, .int _]) dX11_closesRing_61 rfl rfl (nI_inc k) rfl ?_
      refine s_goto (tgt := 10) dX11_closesRing_64 (by decide) ?_
      exact ih (k + 1) _ _ _ (by omega) (g.s (by omega) R c28 hx)
    · refine s_aload_n (pc' := 32) dX11_closesRing_31 rfl rfl ?_
      refine s_iload_n (pc' := 33) dX11_closesRing_32 rfl rfl ?_
      refine s_iload_n (pc' := 34) dX11_closesRing_33 rfl rfl ?_
      refine s_iload (pc' := 36) dX11_closesRing_34 rfl rfl ?_
      refine s_callV (pc' := 39) (As := [.int _, .int _, .int _]) dX11_closesRing_36 rfl mk_X11_keepRing ml_X11_398 im_X11_keepRing se_X11_X11_X11_keepRing sh_0 (by decide) rfl rfl rfl ⟨Nat.le_of_ble_eq_true rfl, Nat.le_of_ble_eq_true rfl, Nat.le_of_ble_eq_true rfl, Nat.le_of_ble_eq_true rfl⟩ (Nat.le_of_ble_eq_true rfl) (c_X11_keepRing R (g.ys (by omega) c28) (fun v hv => by rw [up2_d (by decide), g.1 6 (by decide)]; exact h6 v hv) (fun i hi => g.st i hi) (fun r nx I2 g2 => ?_))
      refine s_iconst (pc' := 40) (v := 1) dX11_closesRing_39 rfl (by decide) ?_
      exact s_zret dX11_closesRing_40 rfl rfl (by decide) (by decide) (k2 k r (g.ys (by omega) c28) g2.2.2.1 I2 (fun a a1 a2 => by rw [g2.1 a a1, up2_o a2]; exact g.1 a a2) g2.2.1)
set_option maxHeartbeats 200000 in
theorem c_X11_closesRing {N : Nat} {S : Nat → Nat × Nat} {I : Nat → Nat → Int32} {J : Nat → Nat → Int64} {Q : Nat → Nat → Option Nat} {κ : Option Value → HP → Prop} {D : Nat → Nat → Int32} {nv nr w : Nat} {rd : Int32} (R : RKP D nv nr w) (h10 : I 1 0 = nI nv) (h6 : ∀ v, v < nv → I 6 v = nd D nr v) (k1 : (∀ v, v < 10 → bt rd v = true → dst D nr w v = 100) → ∀ I', (∀ a, a ≠ 44 → I' a = I a) → κ (some (.int 0)) (N, S, I', J, Q)) (k2 : ∀ m r, MNR D nr w rd m → RNG D nr w rd m r → ∀ I', (∀ a, a ≠ 43 → a ≠ 44 → I' a = I a) → (∀ i, i ≤ m → I' 43 i = nI (r i)) → κ (some (.int 1)) (N, S, up2 I' 0 10 (nI (m + 1)), J, Q)) : CT E1 M_X11_closesRing [.ref 0, .int (nI w), .int rd] (N, S, I, J, Q) κ := by
  refine ofSP mk_X11_closesRing (Nat.le_of_ble_eq_true rfl) (L := [.ref 0, .int _, .int _, .retAddr _, .retAddr _, .retAddr _]) rfl ?_
  refine s_iconst (pc' := 1) (v := 1) dX11_closesRing_0 rfl (by decide) ?_
  refine s_iload_n (pc' := 2) dX11_closesRing_1 rfl rfl ?_
  refine s_ishl (pc' := 3) dX11_closesRing_2 rfl ?_
  refine t_istore_n (pc' := 4) (L' := [.ref 0, .int _, .int _, .int _, .retAddr _, .retAddr _]) dX11_closesRing_3 rfl (Nat.le_of_ble_eq_true rfl) rfl ?_
  refine s_iconst (pc' := 5) (v := 0) dX11_closesRing_4 rfl (by decide) ?_
  refine t_istore (pc' := 7) (L' := [.ref 0, .int _, .int _, .int _, .int _, .retAddr _]) dX11_closesRing_5 rfl (Nat.le_of_ble_eq_true rfl) rfl ?_
  refine s_iconst (pc' := 8) (v := 0) dX11_closesRing_7 rfl (by decide) ?_
  refine t_istore (pc' := 10) (L' := [.ref 0, .int _, .int _, .int _, .int _, .int _]) dX11_closesRing_8 rfl (Nat.le_of_ble_eq_true rfl) rfl ?_
  exact l_X11_closesRing R h10 h6 k1 k2 10 0 _ _ _ (by omega) (CLI.z R)
