/-- value v is worked out on sheet b -/
def LV (I' : Nat → Nat → Int32) (J' : Nat → Nat → Int64) (D : Nat → Nat → Int32) (th : Int32) (b nr ns v : Nat) : Prop :=
  gM J' b v = numF D (nI b) (gM J' b) th v nr ns ∧ (∀ r, r < nr → kvB D (nI v) r = true → I' 84 r = hwF D (nI b) (gM J' b) th v nr ns r ∧ I' 85 r = btF D (nI b) (gM J' b) th v nr r) ∧ I' 86 v = b2 (qrS D (nI b) (gM J' b) th (nI v) nr)
/-- the sheet's numbers alone change among the longs -/
def JF (J J' : Nat → Nat → Int64) (b nv : Nat) : Prop := ∀ a i, ¬ (a = 80 ∧ 10 * b ≤ i ∧ i < 10 * b + nv) → J' a i = J a i
/-- rows 54 (place 39), 84, 85, 86 alone change among the ints -/
def F54 (I I' : Nat → Nat → Int32) : Prop := (∀ i, i ≠ 54 → (i < 84 ∨ 86 < i) → I' i = I i) ∧ ∀ j, j ≠ 39 → I' 54 j = I 54 j
/-- the loop over the values of lays() -/
def LI (I I' : Nat → Nat → Int32) (J J' : Nat → Nat → Int64) (D : Nat → Nat → Int32) (th : Int32) (nv nr ns b k : Nat) : Prop :=
  F54 I I' ∧ JF J J' b nv ∧ cntB (bt (I' 54 39)) nv = k ∧ (∀ i, bt (I' 54 39) i = true → i < nv) ∧ ∀ v, bt (I' 54 39) v = true → (∀ u, u < nv → bt (nd D nr v) u = true → bt (I' 54 39) u = true) ∧ LV I' J' D th b nr ns v
theorem LI.st {I I' D : Nat → Nat → Int32} {J J' : Nat → Nat → Int64} {th : Int32} {nv nr ns b k : Nat} (h : LI I I' J J' D th nv nr ns b k) (C : ST I D nv nr ns b th) : ST I' D nv nr ns b th :=
  ⟨⟨fun i h1 h2 => (h.1.1 i (by omega) (by omega)).trans (C.1.1 i h1 h2), C.1.2.1, by rw [h.1.2 38 (by decide)]; exact C.1.2.2.1, C.1.2.2.2⟩, by rw [h.1.1 81 (by decide) (by decide)]; exact C.2⟩
theorem gM_up {J' : Nat → Nat → Int64} {b v u : Nat} {y : Int64} (h : u ≠ v) : gM (up2 J' 80 (10 * b + v) y) b u = gM J' b u := by
  unfold gM; rw [up2_e (by omega)]
theorem gM_s {J' : Nat → Nat → Int64} {b v : Nat} {y : Int64} : gM (up2 J' 80 (10 * b + v) y) b v = y := by unfold gM; rw [up2_s]
theorem LI.step {I I' I2 D : Nat → Nat → Int32} {J J' : Nat → Nat → Int64} {th : Int32} {nv nr ns b k v : Nat} (hW : DW D nv nr ns) (h : LI I I' J J' D th nv nr ns b k) (hv : v < nv) (hn : bt (I' 54 39) v = false) (hok : ∀ u, u < nv → bt (nd D nr v) u = true → bt (I' 54 39) u = true)
    (hP : PW I' I2 D (nI b) (gM J' b) th v nr ns) : LI I (up2 I2 54 39 (I2 54 39 ||| ((1 : Int32) <<< (nI v &&& 31)))) J (up2 J' 80 (10 * b + v) (numF D (nI b) (gM J' b) th v nr ns)) D th nv nr ns b (k + 1) := by
  obtain ⟨h1, h2, h3, h4, h5⟩ := h
  have hnv := hW.nv
  have e54 : I2 54 = I' 54 := hP.1 54 (by omega)
  have hK : ∀ i, bt ((up2 I2 54 39 (I2 54 39 ||| ((1 : Int32) <<< (nI v &&& 31)))) 54 39) i = (bt (I' 54 39) i || decide (i = v)) := by
    intro i
    rw [up2_s, e54, b_or]
    rcases Nat.lt_or_ge i 32 with hi | hi
    · rw [bt_one (by omega) hi]
    · rw [b_big hi, b_big hi, decide_eq_false (by omega)]
  have hag : ∀ u, u < nv → (∀ w, w < nv → bt (nd D nr u) w = true → bt (I' 54 39) w = true) → AG D (nI b) (nI u) nr (gM J' b) (gM (up2 J' 80 (10 * b + v) (numF D (nI b) (gM J' b) th v nr ns)) b) := by
    intro u _ hu
    refine AG_of hW (fun w hw hb => ?_)
    rw [gM_up]
    intro e
    have := hu w hw hb
    rw [e, hn] at this
    cases this
  refine ⟨⟨fun i a1 a2 => ?_, fun j hj => ?_⟩, fun a i hi => ?_, ?_, fun i hi => ?_, fun u hu => ?_⟩
  · rw [up2_o a1, hP.1 i a2]; exact h1.1 i a1 a2
  · rw [up2_e hj, e54]; exact h1.2 j hj
  · rw [up2_n (fun z => hi ⟨z.1, by omega, by omega⟩)]; exact h2 a i hi
  · rw [cntB_add (p := bt (I' 54 39)) hK hn nv, if_pos hv, h3]
  · rw [hK] at hi
    simp only [Bool.or_eq_true, decide_eq_true_eq] at hi
    rcases hi with hi | hi
    · exact h4 i hi
    · rw [hi]; exact hv
  · rw [hK] at hu
    simp only [Bool.or_eq_true, decide_eq_true_eq] at hu
    by_cases e : u = v
    · subst e
      refine ⟨fun w hw hb => by rw [hK, hok w hw hb]; rfl, ?_⟩
      have ag := hag u hv hok
      refine ⟨?_, fun r hr hk => ?_, ?_⟩
      · rw [gM_s, ← ag.numF]
      · rw [up2_o (by decide), up2_o (by decide), ← ag.hwF hr, ← ag.btF hr]
        exact hP.2.1 r hr hk
      · rw [up2_o (by decide), ← ag.qrS]; exact hP.2.2.2.1
    · have hu2 : bt (I' 54 39) u = true := by
        rcases hu with hu | hu
        · exact hu
        · exact absurd hu e
      obtain ⟨g1, g2⟩ := h5 u hu2
      have ag := hag u (h4 u hu2) g1
      refine ⟨fun w hw hb => by rw [hK, g1 w hw hb]; rfl, ?_, fun r hr hk => ?_, ?_⟩
      · rw [gM_up e, ← ag.numF]; exact g2.1
      · have hkv : kvB D (nI v) r = false := by
          cases hc : kvB D (nI v) r with
          | false => rfl
          | true =>
            simp only [kvB, Bool.and_eq_true, decide_eq_true_eq] at hc hk
            have hu3 := h4 u hu2
            exact absurd ((nI_eq (by omega) (by omega)).mp (hk.2.symm.trans hc.2)) e
        rw [up2_o (by decide), up2_o (by decide), (hP.2.2.1 r (Or.inr hkv)).1, (hP.2.2.1 r (Or.inr hkv)).2, ← ag.hwF hr, ← ag.btF hr]
        exact g2.2.1 r hr hk
      · rw [up2_o (by decide), hP.2.2.2.2 u e, ← ag.qrS]; exact g2.2.2
/-- what lays(b) leaves -/
def PL (I I' : Nat → Nat → Int32) (J J' : Nat → Nat → Int64) (D : Nat → Nat → Int32) (nv nr ns b : Nat) : Prop :=
  (∀ i, i ≠ 54 → i ≠ 81 → i ≠ 82 → (i < 84 ∨ 86 < i) → I' i = I i) ∧ (∀ j, j ≠ 38 → j ≠ 39 → I' 54 j = I 54 j) ∧ I' 54 38 = nI b ∧ (∀ c, c ≠ b → I' 81 c = I 81 c ∧ I' 82 c = I 82 c) ∧ JF J J' b nv ∧ I' 81 b = thS D (nI b) nr ∧
  (∀ v, v < nv → LV I' J' D (thS D (nI b) nr) b nr ns v) ∧ I' 82 b = opM D (nI b) (gM J' b) (thS D (nI b) nr) nr 8
theorem cntB_0 {p : Nat → Bool} (h : ∀ i, p i = false) : ∀ n, cntB p n = 0
  | 0 => rfl
  | n + 1 => by unfold cntB; rw [cntB_0 h n, h n]; rfl
theorem LI.zero {I0 D : Nat → Nat → Int32} {J : Nat → Nat → Int64} {th : Int32} {nv nr ns b : Nat} (h : I0 54 39 = 0) : LI I0 I0 J J D th nv nr ns b 0 := by
  refine ⟨⟨fun _ _ _ => rfl, fun _ _ => rfl⟩, fun _ _ _ => rfl, cntB_0 (fun i => by rw [h]; exact b_0 i) nv, fun i hi => ?_, fun v hv => ?_⟩
  · rw [h, b_0] at hi; cases hi
  · rw [h, b_0] at hv; cases hv
theorem PL_of {I I' D : Nat → Nat → Int32} {J J' : Nat → Nat → Int64} {th : Int32} {nv nr ns b : Nat} (ht : th = thS D (nI b) nr) (h : LI (up2 (up2 (up2 I 54 38 (nI b)) 81 b th) 54 39 0) I' J J' D th nv nr ns b nv) : PL I (up2 I' 82 b (opM D (nI b) (gM J' b) th nr 8)) J J' D nv nr ns b := by
  obtain ⟨h1, h2, h3, -, h5⟩ := h
  subst ht
  refine ⟨fun i a1 a2 a3 a4 => ?_, fun j a1 a2 => ?_, ?_, fun c hc => ⟨?_, ?_⟩, h2, ?_, fun v hv => ?_, up2_s⟩
  · rw [up2_o a3, h1.1 i a1 a4, up2_o a1, up2_o a2, up2_o a1]
  · rw [up2_d (by decide), h1.2 j a2, up2_e a2, up2_d (by decide), up2_e a1]
  · rw [up2_d (by decide), h1.2 38 (by decide), up2_e (by decide), up2_d (by decide), up2_s]
  · rw [up2_d (by decide), h1.1 81 (by decide) (by decide), up2_d (by decide), up2_e hc, up2_d (by decide)]
  · rw [up2_e hc, h1.1 82 (by decide) (by decide), up2_d (by decide), up2_d (by decide), up2_d (by decide)]
  · rw [up2_d (by decide), h1.1 81 (by decide) (by decide), up2_d (by decide), up2_s]
  · have hl := (h5 v (cntB_all nv h3 v hv)).2
    refine ⟨hl.1, fun r hr hk => ?_, ?_⟩
    · rw [up2_d (by decide), up2_d (by decide)]; exact hl.2.1 r hr hk
    · rw [up2_d (by decide)]; exact hl.2.2
theorem bitI_f {x : Int32} {j : Nat} (hj : j < 31) (h : ¬ (bitI x (nI j) = 1)) : bt x j = false := by
  cases hb : bt x j with
  | false => rfl
  | true => exact absurd ((bitI_1 hj).mpr hb) h
theorem l_X12_lays1 {N : Nat} {S : Nat → Nat × Nat} {I : Nat → Nat → Int32} {J : Nat → Nat → Int64} {Q : Nat → Nat → Option Nat} {κ : Option Value → HP → Prop} {D : Nat → Nat → Int32} {nr v0 : Nat} {xb xk : Int32} (hv0 : v0 < 10) (hN : ∀ v, v < 10 → I 77 v = nd D nr v) (ho : (bt (I 54 39) v0 = false ∧ ∀ i, i < 32 → bt (nd D nr v0) i = true → bt (I 54 39) i = true)) (hk : ∀ v, v ≤ v0 → (bt (I 54 39) v = false ∧ ∀ i, i < 32 → bt (nd D nr v) i = true → bt (I 54 39) i = true) → SP E1 M_X12_lays κ 62 [.ref 54, .int xb, .int xk, .int (nI v)] [] (N, S, I, J, Q) 0 0) : ∀ d : Nat, ∀ v, v + d = v0 → (∀ i, i < v → (bt (I 54 39) i = true ∨ ¬ ∀ q, q < 32 → bt (nd D nr i) q = true → bt (I 54 39) q = true)) → SP E1 M_X12_lays κ 28 [.ref 54, .int xb, .int xk, .int (nI v)] [] (N, S, I, J, Q) 0 0 := by
  intro d
  induction d with
  | zero =>
    intro v hd hb
    refine s_aload_n (pc' := 29) dX12_lays_28 rfl rfl ?_
    refine t_getI (pc' := 32) dX12_lays_29 rfl sh_54 (by decide) fa_X12_271_12 rfl ?_
    refine s_iload_n (pc' := 33) dX12_lays_32 rfl rfl ?_
    refine s_ishr (pc' := 34) dX12_lays_33 rfl ?_
    refine s_iconst (pc' := 35) (v := 1) dX12_lays_34 rfl (by decide) ?_
    refine s_iand (pc' := 36) dX12_lays_35 rfl ?_
    refine s_iconst (pc' := 37) (v := 1) dX12_lays_36 rfl (by decide) ?_
    refine s_icmpeq (pc' := 40) (tgt := 56) dX12_lays_37 (by decide) rfl (fun c37 => ?_) (fun c37 => ?_)
    · exfalso
      obtain rfl : v = v0 := by omega
      have z := (bitI_1 (by omega)).mp c37
      rw [ho.1] at z; cases z
    · refine s_aload_n (pc' := 41) dX12_lays_40 rfl rfl ?_
      refine s_getS (pc' := 44) (b := 77) dX12_lays_41 rfl (by decide) rfl (by decide) fa_X12_76_12 rfl rfl ?_
      refine s_iload_n (pc' := 45) dX12_lays_44 rfl rfl ?_
      refine t_iald (pc' := 46) dX12_lays_45 rfl sh_77 rfl (by omega) ?_
      refine s_aload_n (pc' := 47) dX12_lays_46 rfl rfl ?_
      refine t_getI (pc' := 50) dX12_lays_47 rfl sh_54 (by decide) fa_X12_271_12 rfl ?_
      refine s_iconst (pc' := 51) (v := -1) dX12_lays_50 rfl (by decide) ?_
      refine s_ixor (pc' := 52) dX12_lays_51 rfl ?_
      refine s_iand (pc' := 53) dX12_lays_52 rfl ?_
      refine s_ifeq (pc' := 56) (tgt := 62) dX12_lays_53 (by decide) rfl (fun c53 => ?_) (fun c53 => ?_)
      · exact hk v (by omega) ⟨(bitI_f (by omega) c37), sub_bits.mp (by rw [hN v (by omega)] at c53; exact c53)⟩
      · exfalso
        obtain rfl : v = v0 := by omega
        rw [hN v (by omega)] at c53
        exact c53 (sub_bits.mpr ho.2)
  | succ d ih =>
    intro v hd hb
    refine s_aload_n (pc' := 29) dX12_lays_28 rfl rfl ?_
    refine t_getI (pc' := 32) dX12_lays_29 rfl sh_54 (by decide) fa_X12_271_12 rfl ?_
    refine s_iload_n (pc' := 33) dX12_lays_32 rfl rfl ?_
    refine s_ishr (pc' := 34) dX12_lays_33 rfl ?_
    refine s_iconst (pc' := 35) (v := 1) dX12_lays_34 rfl (by decide) ?_
    refine s_iand (pc' := 36) dX12_lays_35 rfl ?_
    refine s_iconst (pc' := 37) (v := 1) dX12_lays_36 rfl (by decide) ?_
    refine s_icmpeq (pc' := 40) (tgt := 56) dX12_lays_37 (by decide) rfl (fun c37 => ?_) (fun c37 => ?_)
    · refine t_iinc (pc' := 59) (v := nI (v + 1)) (L' := [.ref 54, .int _, .int _, .int _]) dX12_lays_56 rfl rfl (nI_inc v) rfl ?_
      refine s_goto (tgt := 28) dX12_lays_59 (by decide) ?_
      exact ih (v + 1) (by omega) (fun i hi => by
        by_cases e : i = v
        · subst e; exact Or.inl ((bitI_1 (by omega)).mp c37)
        · exact hb i (by omega))
    · refine s_aload_n (pc' := 41) dX12_lays_40 rfl rfl ?_
      refine s_getS (pc' := 44) (b := 77) dX12_lays_41 rfl (by decide) rfl (by decide) fa_X12_76_12 rfl rfl ?_
      refine s_iload_n (pc' := 45) dX12_lays_44 rfl rfl ?_
      refine t_iald (pc' := 46) dX12_lays_45 rfl sh_77 rfl (by omega) ?_
      refine s_aload_n (pc' := 47) dX12_lays_46 rfl rfl ?_
      refine t_getI (pc' := 50) dX12_lays_47 rfl sh_54 (by decide) fa_X12_271_12 rfl ?_
      refine s_iconst (pc' := 51) (v := -1) dX12_lays_50 rfl (by decide) ?_
      refine s_ixor (pc' := 52) dX12_lays_51 rfl ?_
      refine s_iand (pc' := 53) dX12_lays_52 rfl ?_
      refine s_ifeq (pc' := 56) (tgt := 62) dX12_lays_53 (by decide) rfl (fun c53 => ?_) (fun c53 => ?_)
      · exact hk v (by omega) ⟨(bitI_f (by omega) c37), sub_bits.mp (by rw [hN v (by omega)] at c53; exact c53)⟩
      · refine t_iinc (pc' := 59) (v := nI (v + 1)) (L' := [.ref 54, .int _, .int _, .int _]) dX12_lays_56 rfl rfl (nI_inc v) rfl ?_
        refine s_goto (tgt := 28) dX12_lays_59 (by decide) ?_
        rw [hN v (by omega)] at c53
        exact ih (v + 1) (by omega) (fun i hi => by
          by_cases e : i = v
          · subst e; exact Or.inr (fun z => c53 (sub_bits.mpr z))
          · exact hb i (by omega))
theorem l_X12_lays2 {N : Nat} {S : Nat → Nat × Nat} {I : Nat → Nat → Int32} {J : Nat → Nat → Int64} {Q : Nat → Nat → Option Nat} {κ : Option Value → HP → Prop} {D : Nat → Nat → Int32} {nv nr ns b : Nat} {th : Int32} (C : ST I D nv nr ns b th) (hA : AC D nv nr) (hN : ∀ v, v < 10 → I 77 v = nd D nr v) (hk : ∀ I' J', LI I I' J J' D th nv nr ns b nv → SP E1 M_X12_lays κ 85 [.ref 54, .int (nI b), .retAddr 0, .retAddr 0] [] (N, S, I', J', Q) 0 0) : ∀ d : Nat, ∀ k I' J', k + d = nv → LI I I' J J' D th nv nr ns b k → SP E1 M_X12_lays κ 16 [.ref 54, .int (nI b), .int (nI k), .retAddr 0] [] (N, S, I', J', Q) 0 0 := by
  intro d
  induction d with
  | zero =>
    intro k I' J' hd hP
    have C2 := hP.st C
    have hnv := C.1.2.1.nv
    obtain rfl : k = nv := by omega
    refine s_iload_n (pc' := 17) dX12_lays_16 rfl rfl ?_
    refine s_aload_n (pc' := 18) dX12_lays_17 rfl rfl ?_
    refine s_getS (pc' := 21) (b := 75) dX12_lays_18 rfl (by decide) rfl (by decide) fa_X12_70_12 rfl rfl ?_
    refine s_iconst (pc' := 22) (v := 0) dX12_lays_21 rfl (by decide) ?_
    refine t_iald (pc' := 23) (q := 0) dX12_lays_22 rfl sh_75 rfl (by decide) ?_
    refine s_icmpgeT (tgt := 85) dX12_lays_23 (by decide) (by rw [C2.1.2.1.vn C2.1.1]; exact nI_le (Nat.le_refl _) (by have := C2.1.2.1.nv; omega)) ?_
    exact s_fg [2] rfl (hk I' J' hP)
  | succ d ih =>
    intro k I' J' hd hP
    have C2 := hP.st C
    have hnv := C.1.2.1.nv
    obtain ⟨v0, a1, a2, a3⟩ := next_val (kn := bt (I' 54 39)) hA (cntB_ex nv (by rw [hP.2.2.1]; omega))
    have hN2 : ∀ v, v < 10 → I' 77 v = nd D nr v := fun v hv => by rw [hP.1.1 77 (by decide) (by decide)]; exact hN v hv
    refine s_iload_n (pc' := 17) dX12_lays_16 rfl rfl ?_
    refine s_aload_n (pc' := 18) dX12_lays_17 rfl rfl ?_
    refine s_getS (pc' := 21) (b := 75) dX12_lays_18 rfl (by decide) rfl (by decide) fa_X12_70_12 rfl rfl ?_
    refine s_iconst (pc' := 22) (v := 0) dX12_lays_21 rfl (by decide) ?_
    refine t_iald (pc' := 23) (q := 0) dX12_lays_22 rfl sh_75 rfl (by decide) ?_
    refine s_icmpgeF (pc' := 26) (tgt := 85) dX12_lays_23 (by decide) rfl (by rw [C2.1.2.1.vn C2.1.1]; exact nI_ge (by omega) (by omega)) ?_
    refine s_iconst (pc' := 27) (v := 0) dX12_lays_26 rfl (by decide) ?_
    refine t_istore_n (pc' := 28) (L' := [.ref 54, .int _, .int _, .int _]) dX12_lays_27 rfl (Nat.le_of_ble_eq_true rfl) rfl ?_
    refine l_X12_lays1 (by omega) hN2 ⟨a2, fun i hi hb => a3 i (nd_lt C.1.2.1 hi nr (Nat.le_refl _) hb) hb⟩ (fun v hv hok => ?_) v0 0 (by omega) (fun i hi => by omega)
    refine s_aload_n (pc' := 63) dX12_lays_62 rfl rfl ?_
    refine s_iload_n (pc' := 64) dX12_lays_63 rfl rfl ?_
    refine s_callV (pc' := 67) (As := [.int _]) dX12_lays_64 rfl mk_X12_work ml_X12_274 im_X12_work se_X12_X12_X12_work sh_54 (by decide) rfl rfl rfl ⟨Nat.le_of_ble_eq_true rfl, Nat.le_of_ble_eq_true rfl, Nat.le_of_ble_eq_true rfl, Nat.le_of_ble_eq_true rfl⟩ (Nat.le_of_ble_eq_true rfl) (c_X12_work C2 (vj := v) (by omega) (fun I2 hI2 => ?_))
    refine s_aload_n (pc' := 68) dX12_lays_67 rfl rfl ?_
    refine s_dup (pc' := 69) dX12_lays_68 rfl rfl ?_
    refine t_getI (pc' := 72) dX12_lays_69 rfl sh_54 (by decide) fa_X12_271_12 rfl ?_
    refine s_iconst (pc' := 73) (v := 1) dX12_lays_72 rfl (by decide) ?_
    refine s_iload_n (pc' := 74) dX12_lays_73 rfl rfl ?_
    refine s_ishl (pc' := 75) dX12_lays_74 rfl ?_
    refine s_ior (pc' := 76) dX12_lays_75 rfl ?_
    refine t_putI (pc' := 79) dX12_lays_76 rfl sh_54 (by decide) fa_X12_271_12 (Or.inl rfl) rfl rfl rfl ?_
    refine t_iinc (pc' := 82) (v := nI (k + 1)) (L' := [.ref 54, .int _, .int _, .int _]) dX12_lays_79 rfl rfl (nI_inc k) rfl ?_
    refine s_goto (tgt := 16) dX12_lays_82 (by decide) ?_
    refine s_fg [3] rfl (s_eq rfl rfl ?_ (ih (k + 1) _ _ (by omega) (LI.step C.1.2.1 hP (show v < nv by omega) hok.1 (fun u hu hb => hok.2 u (by omega) hb) hI2)))
    rfl
theorem l_X12_lays3 {N : Nat} {S : Nat → Nat × Nat} {I : Nat → Nat → Int32} {J : Nat → Nat → Int64} {Q : Nat → Nat → Option Nat} {κ : Option Value → HP → Prop} {D : Nat → Nat → Int32} {nv nr ns b : Nat} {th : Int32} (C : ST I D nv nr ns b th) (hk : κ none (N, S, up2 I 82 b (opM D (nI b) (gM J b) th nr 8), J, Q)) : ∀ d : Nat, ∀ k, k + d = 8 → SP E1 M_X12_lays κ 94 [.ref 54, .int (nI b), .int (nI k), .retAddr 0] [] (N, S, up2 I 82 b (opM D (nI b) (gM J b) th nr k), J, Q) 0 0 := by
  intro d
  induction d with
  | zero =>
    intro k hd
    obtain rfl : k = 8 := by omega
    refine s_iload_n (pc' := 95) dX12_lays_94 rfl rfl ?_
    refine s_bipush (pc' := 97) (v := 8) dX12_lays_95 rfl (by decide) ?_
    refine s_icmpgeT (tgt := 130) dX12_lays_97 (by decide) (by decide) ?_
    exact s_vret dX12_lays_130 rfl (by decide) (by decide) hk
  | succ d ih =>
    intro k hd
    refine s_iload_n (pc' := 95) dX12_lays_94 rfl rfl ?_
    refine s_bipush (pc' := 97) (v := 8) dX12_lays_95 rfl (by decide) ?_
    refine s_icmpgeF (pc' := 100) (tgt := 130) dX12_lays_97 (by decide) rfl (nI_ge (b := 8) (by omega) (by decide)) ?_
    refine s_aload_n (pc' := 101) dX12_lays_100 rfl rfl ?_
    refine s_getS (pc' := 104) (b := 82) dX12_lays_101 rfl (by decide) rfl (by decide) fa_X12_92_12 rfl rfl ?_
    refine s_iload_n (pc' := 105) dX12_lays_104 rfl rfl ?_
    refine s_dup2 (pc' := 106) dX12_lays_105 rfl rfl rfl ?_
    refine t_iald (pc' := 107) dX12_lays_106 rfl sh_82 rfl (by have := C.1.2.2.2; omega) ?_
    refine s_aload_n (pc' := 108) dX12_lays_107 rfl rfl ?_
    refine s_iload_n (pc' := 109) dX12_lays_108 rfl rfl ?_
    refine s_callV (pc' := 112) (As := [.int _]) dX12_lays_109 rfl mk_X12_opens ml_X12_278 im_X12_opens se_X12_X12_X12_opens sh_54 (by decide) rfl rfl rfl ⟨Nat.le_of_ble_eq_true rfl, Nat.le_of_ble_eq_true rfl, Nat.le_of_ble_eq_true rfl, Nat.le_of_ble_eq_true rfl⟩ (Nat.le_of_ble_eq_true rfl) (c_X12_opens (th := th) ⟨C.1.up (by decide), (up2_d (by decide)).trans C.2⟩ (fun o109 => ?_) (fun o109 => ?_))
    · refine s_ifeqF (pc' := 115) (tgt := 121) dX12_lays_112 (by decide) rfl (by decide) ?_
      refine s_iconst (pc' := 116) (v := 1) dX12_lays_115 rfl (by decide) ?_
      refine s_iload_n (pc' := 117) dX12_lays_116 rfl rfl ?_
      refine s_ishl (pc' := 118) dX12_lays_117 rfl ?_
      refine s_goto (tgt := 122) dX12_lays_118 (by decide) ?_
      refine s_ior (pc' := 123) dX12_lays_122 rfl ?_
      refine t_iast (pc' := 124) dX12_lays_123 rfl sh_82 rfl (by have := C.1.2.2.2; omega) ?_
      refine t_iinc (pc' := 127) (v := nI (k + 1)) (L' := [.ref 54, .int _, .int _, .retAddr _]) dX12_lays_124 rfl rfl (nI_inc k) rfl ?_
      refine s_goto (tgt := 94) dX12_lays_127 (by decide) ?_
      refine s_eq rfl rfl ?_ (ih (k + 1) (by omega))
      rw [up2_uu, up2_s, opM, if_pos o109]
    · refine s_ifeqT (tgt := 121) dX12_lays_112 (by decide) (by decide) ?_
      refine s_iconst (pc' := 122) (v := 0) dX12_lays_121 rfl (by decide) ?_
      refine s_ior (pc' := 123) dX12_lays_122 rfl ?_
      refine t_iast (pc' := 124) dX12_lays_123 rfl sh_82 rfl (by have := C.1.2.2.2; omega) ?_
      refine t_iinc (pc' := 127) (v := nI (k + 1)) (L' := [.ref 54, .int _, .int _, .retAddr _]) dX12_lays_124 rfl rfl (nI_inc k) rfl ?_
      refine s_goto (tgt := 94) dX12_lays_127 (by decide) ?_
      refine s_eq rfl rfl ?_ (ih (k + 1) (by omega))
      rw [up2_uu, up2_s, opM, if_neg (by rw [o109]; decide)]
theorem c_X12_lays {N : Nat} {S : Nat → Nat × Nat} {I : Nat → Nat → Int32} {J : Nat → Nat → Int64} {Q : Nat → Nat → Option Nat} {κ : Option Value → HP → Prop} {D : Nat → Nat → Int32} {nv nr ns b : Nat} (hD : DA I D) (hW : DW D nv nr ns) (hb : b < 256) (hA : AC D nv nr) (hN : ∀ v, v < 10 → I 77 v = nd D nr v) (hk : ∀ I' J', PL I I' J J' D nv nr ns b → κ none (N, S, I', J', Q)) : CT E1 M_X12_lays [.ref 54, .int (nI b)] (N, S, I, J, Q) κ := by
  refine ofSP mk_X12_lays (Nat.le_of_ble_eq_true rfl) (L := [.ref 54, .int _, .retAddr _, .retAddr _]) rfl ?_
  refine s_aload_n (pc' := 1) dX12_lays_0 rfl rfl ?_
  refine s_iload_n (pc' := 2) dX12_lays_1 rfl rfl ?_
  refine t_putI (pc' := 5) dX12_lays_2 rfl sh_54 (by decide) fa_X12_228_12 (Or.inl rfl) rfl rfl rfl ?_
  refine s_aload_n (pc' := 6) dX12_lays_5 rfl rfl ?_
  refine s_callV (pc' := 9) (As := []) dX12_lays_6 rfl mk_X12_findThere ml_X12_268 im_X12_findThere se_X12_X12_X12_findThere sh_54 (by decide) rfl rfl rfl ⟨Nat.le_of_ble_eq_true rfl, Nat.le_of_ble_eq_true rfl, Nat.le_of_ble_eq_true rfl, Nat.le_of_ble_eq_true rfl⟩ (Nat.le_of_ble_eq_true rfl) (c_X12_findThere (D := D) (nv := nv) (nr := nr) (ns := ns) (b := b) ⟨hD.up (Or.inl (by decide)), hW, up2_s, hb⟩ ?_)
  refine s_aload_n (pc' := 10) dX12_lays_9 rfl rfl ?_
  refine s_iconst (pc' := 11) (v := 0) dX12_lays_10 rfl (by decide) ?_
  refine t_putI (pc' := 14) dX12_lays_11 rfl sh_54 (by decide) fa_X12_271_12 (Or.inl rfl) rfl rfl rfl ?_
  refine s_iconst (pc' := 15) (v := 0) dX12_lays_14 rfl (by decide) ?_
  refine t_istore_n (pc' := 16) (L' := [.ref 54, .int _, .int _, .retAddr _]) dX12_lays_15 rfl (Nat.le_of_ble_eq_true rfl) rfl ?_
  have ht : thr D (nI b) (gM J b) nr nr = thS D (nI b) nr := thr_g hW nr (Nat.le_refl _)
  have C : ST (up2 (up2 (up2 I 54 38 (nI b)) 81 b (thr D (nI b) (gM J b) nr nr)) 54 39 0) D nv nr ns b (thr D (nI b) (gM J b) nr nr) := ⟨⟨((hD.up (Or.inl (by decide))).up (Or.inr (by decide))).up (Or.inl (by decide)), hW, by rw [up2_e (by decide), up2_d (by decide), up2_s], hb⟩, by rw [up2_d (by decide), up2_s]⟩
  exact l_X12_lays2 C hA (fun v hv => by rw [up2_d (by decide), up2_d (by decide), up2_d (by decide)]; exact hN v hv) (fun I' J' hL => by
    have C3 := hL.st C
    refine s_aload_n (pc' := 86) dX12_lays_85 rfl rfl ?_
    refine s_getS (pc' := 89) (b := 82) dX12_lays_86 rfl (by decide) rfl (by decide) fa_X12_92_12 rfl rfl ?_
    refine s_iload_n (pc' := 90) dX12_lays_89 rfl rfl ?_
    refine s_iconst (pc' := 91) (v := 0) dX12_lays_90 rfl (by decide) ?_
    refine t_iast (pc' := 92) dX12_lays_91 rfl sh_82 rfl hb ?_
    refine s_iconst (pc' := 93) (v := 0) dX12_lays_92 rfl (by decide) ?_
    refine t_istore_n (pc' := 94) (L' := [.ref 54, .int _, .int _, .retAddr _]) dX12_lays_93 rfl (Nat.le_of_ble_eq_true rfl) rfl ?_
    exact l_X12_lays3 C3 (hk _ _ (PL_of ht hL)) 8 0 rfl
    ) nv 0 _ _ (by omega) (LI.zero up2_s)
