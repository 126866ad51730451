def ST (I D : Nat → Nat → Int32) (nv nr ns b : Nat) (th : Int32) : Prop := SC I D nv nr ns b ∧ I 81 b = th
/-- rows below 84 and above 86 stay -/
def F3 (I I' : Nat → Nat → Int32) : Prop := ∀ i, (i < 84 ∨ 86 < i) → I' i = I i
theorem F3.rf {I : Nat → Nat → Int32} : F3 I I := fun _ _ => rfl
theorem F3.tr {I I' I'' : Nat → Nat → Int32} (h : F3 I I') (h2 : F3 I' I'') : F3 I I'' := fun i hi => (h2 i hi).trans (h i hi)
theorem F3.up {I I' : Nat → Nat → Int32} (h : F3 I I') {a j : Nat} {x : Int32} (ha : 84 ≤ a ∧ a ≤ 86) : F3 I (up2 I' a j x) := fun i hi => by rw [up2_o (by omega)]; exact h i hi
theorem ST.mv {I I' D : Nat → Nat → Int32} {nv nr ns b : Nat} {th : Int32} (h : ST I D nv nr ns b th) (hf : F3 I I') : ST I' D nv nr ns b th :=
  ⟨⟨fun i h1 h2 => (hf i (by omega)).trans (h.1.1 i h1 h2), h.1.2.1, by rw [hf 54 (by omega)]; exact h.1.2.2.1, h.1.2.2.2⟩, by rw [hf 81 (by omega)]; exact h.2⟩
theorem bsS_lt {D : Nat → Nat → Int32} {x : Int32} {g : Nat → Int64} {th v : Int32} : ∀ (k q : Nat), bsS D x g th v k = some q → q < k
  | 0, q, h => by simp [bsS] at h
  | k + 1, q, h => by
    unfold bsS at h
    split at h
    · cases hb : bsS D x g th v k with
      | none => rw [hb] at h; cases h; omega
      | some z =>
        rw [hb] at h
        have := bsS_lt k z hb
        simp only at h
        split at h <;> cases h <;> omega
    · have := bsS_lt k q h; omega
theorem boS_lt {D : Nat → Nat → Int32} {x : Int32} {g : Nat → Int64} {th v t sg : Int32} : ∀ (k q : Nat), boS D x g th v t sg k = some q → q < k
  | 0, q, h => by simp [boS] at h
  | k + 1, q, h => by
    unfold boS at h
    split at h
    · cases hb : boS D x g th v t sg k with
      | none => rw [hb] at h; cases h; omega
      | some z =>
        rw [hb] at h
        have := boS_lt k z hb
        simp only at h
        split at h <;> cases h <;> omega
    · have := boS_lt k q h; omega
theorem bsS_s0 {D : Nat → Nat → Int32} {x : Int32} {g : Nat → Int64} {th v : Int32} {k : Nat} (h : wk D x g th k 2 v = false) : bsS D x g th v (k + 1) = bsS D x g th v k := by rw [bsS, if_neg (by rw [h]; decide)]
theorem bsS_s1 {D : Nat → Nat → Int32} {x : Int32} {g : Nat → Int64} {th v : Int32} {k : Nat} (h : wk D x g th k 2 v = true) (hn : bsS D x g th v k = none) : bsS D x g th v (k + 1) = some k := by rw [bsS, if_pos h, hn]
theorem bsS_s2 {D : Nat → Nat → Int32} {x : Int32} {g : Nat → Int64} {th v : Int32} {k q : Nat} (h : wk D x g th k 2 v = true) (hn : bsS D x g th v k = some q) (hl : D 62 q < D 62 k) : bsS D x g th v (k + 1) = some k := by rw [bsS, if_pos h, hn]; simp [hl]
theorem bsS_s3 {D : Nat → Nat → Int32} {x : Int32} {g : Nat → Int64} {th v : Int32} {k q : Nat} (h : wk D x g th k 2 v = true) (hn : bsS D x g th v k = some q) (hl : ¬ D 62 q < D 62 k) : bsS D x g th v (k + 1) = some q := by rw [bsS, if_pos h, hn]; simp [hl]
/-- is there a quarrel with the SET q, among the first k -/
def qrB (D : Nat → Nat → Int32) (x : Int32) (g : Nat → Int64) (th v : Int32) (q : Nat) : Nat → Bool
  | 0 => false
  | k + 1 => qrB D x g th v q k || (wk D x g th k 2 v && (decide (D 62 k = D 62 q) && decide (amt D g k ≠ amt D g q)))
def b2 (c : Bool) : Int32 := if c = true then 1 else 0
/-- what a SET is, by whom it is beaten -/
def hwS (q r : Nat) : Int32 := if r = q then 2 else 4
def btS (q r : Nat) : Int32 := if r = q then -1 else nI q
/-- rows 84, 85 behind a loop that has gone through k rules: what P says of those of which W holds -/
def RW2 (I I' : Nat → Nat → Int32) (Wp : Nat → Bool) (hw bt : Nat → Int32) (k : Nat) : Prop := F3 I I' ∧ (∀ r, r < k → Wp r = true → I' 84 r = hw r ∧ I' 85 r = bt r) ∧ (∀ r, (k ≤ r ∨ Wp r = false) → I' 84 r = I 84 r ∧ I' 85 r = I 85 r)
theorem RW2.rf {I : Nat → Nat → Int32} {Wp : Nat → Bool} {hw bt : Nat → Int32} : RW2 I I Wp hw bt 0 := ⟨F3.rf, fun r h => by omega, fun r _ => ⟨rfl, rfl⟩⟩
theorem RW2.sk {I I' : Nat → Nat → Int32} {Wp : Nat → Bool} {hw bt : Nat → Int32} {k : Nat} (h : RW2 I I' Wp hw bt k) (hk : Wp k = false) : RW2 I I' Wp hw bt (k + 1) := by
  refine ⟨h.1, fun r hr hw' => ?_, fun r hr => h.2.2 r ?_⟩
  · by_cases e : r = k
    · subst e; rw [hk] at hw'; cases hw'
    · exact h.2.1 r (by omega) hw'
  · rcases hr with hr | hr
    · exact Or.inl (by omega)
    · exact Or.inr hr
/-- one step: I'' has the new values at k, and is otherwise I' in the rows 84, 85 -/
theorem RW2.st {I I' I'' : Nat → Nat → Int32} {Wp : Nat → Bool} {hw bt : Nat → Int32} {k : Nat} (h : RW2 I I' Wp hw bt k) (hk : Wp k = true) (hf : F3 I' I'') (h1 : I'' 84 k = hw k) (h2 : I'' 85 k = bt k) (ho : ∀ r, r ≠ k → I'' 84 r = I' 84 r ∧ I'' 85 r = I' 85 r) : RW2 I I'' Wp hw bt (k + 1) := by
  refine ⟨h.1.tr hf, fun r hr hw' => ?_, fun r hr => ?_⟩
  · by_cases e : r = k
    · subst e; exact ⟨h1, h2⟩
    · rw [(ho r e).1, (ho r e).2]; exact h.2.1 r (by omega) hw'
  · have e : r ≠ k := fun e => by
      subst e
      rcases hr with hr | hr
      · omega
      · rw [hk] at hr; cases hr
    rw [(ho r e).1, (ho r e).2]
    exact h.2.2 r (hr.elim (fun z => Or.inl (by omega)) Or.inr)
theorem e_works {N : Nat} {S : Nat → Nat × Nat} {I : Nat → Nat → Int32} {J : Nat → Nat → Int64} {Q : Nat → Nat → Option Nat} {κ : Option Value → HP → Prop} {D : Nat → Nat → Int32} {nv nr ns b : Nat} {th : Int32} (C : ST I D nv nr ns b th) {r : Nat} {k v : Int32} (hr : r < nr) (ht : wk D (nI b) (gM J b) th r k v = true → κ (some (.int 1)) (N, S, I, J, Q)) (hf : wk D (nI b) (gM J b) th r k v = false → κ (some (.int 0)) (N, S, I, J, Q)) : CT E1 M_X12_works [.ref 54, .int (nI r), .int k, .int v] (N, S, I, J, Q) κ := by
  obtain ⟨C, rfl⟩ := C
  exact c_X12_works C hr ht hf
theorem e_adds {N : Nat} {S : Nat → Nat × Nat} {I : Nat → Nat → Int32} {J : Nat → Nat → Int64} {Q : Nat → Nat → Option Nat} {κ : Option Value → HP → Prop} {D : Nat → Nat → Int32} {nv nr ns b : Nat} {th : Int32} (C : ST I D nv nr ns b th) {r : Nat} {v : Int32} (hr : r < nr) (ht : adB D (nI b) (gM J b) th r v = true → κ (some (.int 1)) (N, S, I, J, Q)) (hf : adB D (nI b) (gM J b) th r v = false → κ (some (.int 0)) (N, S, I, J, Q)) : CT E1 M_X12_adds_ [.ref 54, .int (nI r), .int v] (N, S, I, J, Q) κ := by
  obtain ⟨C, rfl⟩ := C
  exact c_X12_adds_ C hr ht hf
theorem e_isThere {N : Nat} {S : Nat → Nat × Nat} {I : Nat → Nat → Int32} {J : Nat → Nat → Int64} {Q : Nat → Nat → Option Nat} {κ : Option Value → HP → Prop} {D : Nat → Nat → Int32} {nv nr ns b : Nat} {th : Int32} (C : ST I D nv nr ns b th) {r : Nat} (ht : bitI th (nI r) = 1 → κ (some (.int 1)) (N, S, I, J, Q)) (hf : bitI th (nI r) ≠ 1 → κ (some (.int 0)) (N, S, I, J, Q)) : CT E1 M_X12_isThere [.ref 54, .int (nI r)] (N, S, I, J, Q) κ := by
  obtain ⟨C, rfl⟩ := C
  exact c_X12_isThere C ht hf
theorem l_X12_firstOf {N : Nat} {S : Nat → Nat × Nat} {I : Nat → Nat → Int32} {J : Nat → Nat → Int64} {Q : Nat → Nat → Option Nat} {κ : Option Value → HP → Prop} {D : Nat → Nat → Int32} {nv nr ns b : Nat} {th : Int32} (C : ST I D nv nr ns b th) {r : Nat} {v : Int32} (hr : r < nr) (ha : adB D (nI b) (gM J b) th r v = true) (hz : ¬ D 63 r = 0) (hk : κ (some (.int (nI (foS D (nI b) (gM J b) th r v)))) (N, S, I, J, Q)) : ∀ d : Nat, ∀ k, k + d = r → (∀ i, i < k → (adB D (nI b) (gM J b) th i v && decide (D 63 i = D 63 r)) = false) → SP E1 M_X12_firstOf κ 13 [.ref 54, .int (nI r), .int v, .int (nI k)] [] (N, S, I, J, Q) 0 0 := by
  intro d
  induction d with
  | zero =>
    intro k hd hp
    refine s_aload_n (pc' := 14) dX12_firstOf_13 rfl rfl ?_
    refine s_iload_n (pc' := 15) dX12_firstOf_14 rfl rfl ?_
    refine s_iload_n (pc' := 16) dX12_firstOf_15 rfl rfl ?_
    refine s_callV (pc' := 19) (As := [.int _, .int _]) dX12_firstOf_16 rfl mk_X12_adds_ ml_X12_245 im_X12_adds_ se_X12_X12_X12_adds_ sh_54 (by decide) rfl rfl rfl ⟨Nat.le_of_ble_eq_true rfl, Nat.le_of_ble_eq_true rfl, Nat.le_of_ble_eq_true rfl, Nat.le_of_ble_eq_true rfl⟩ (Nat.le_of_ble_eq_true rfl) (e_adds C (r := _) (by omega) (fun a16 => ?_) (fun a16 => ?_))
    · refine s_ifeqF (pc' := 22) (tgt := 37) dX12_firstOf_19 (by decide) rfl (by decide) ?_
      refine s_aload_n (pc' := 23) dX12_firstOf_22 rfl rfl ?_
      refine s_getS (pc' := 26) (b := 63) dX12_firstOf_23 rfl (by decide) rfl (by decide) fa_X12_34_12 rfl rfl ?_
      refine s_iload_n (pc' := 27) dX12_firstOf_26 rfl rfl ?_
      refine t_iald (pc' := 28) dX12_firstOf_27 rfl sh_63 rfl (by have := C.1.2.1.nr; omega) ?_
      refine s_aload_n (pc' := 29) dX12_firstOf_28 rfl rfl ?_
      refine s_getS (pc' := 32) (b := 63) dX12_firstOf_29 rfl (by decide) rfl (by decide) fa_X12_34_12 rfl rfl ?_
      refine s_iload_n (pc' := 33) dX12_firstOf_32 rfl rfl ?_
      refine t_iald (pc' := 34) dX12_firstOf_33 rfl sh_63 rfl (by have := C.1.2.1.nr; omega) ?_
      refine s_icmpeq (pc' := 37) (tgt := 43) dX12_firstOf_34 (by decide) rfl (fun c34 => ?_) (fun c34 => ?_)
      · refine s_iload_n (pc' := 44) dX12_firstOf_43 rfl rfl ?_
        exact s_iret dX12_firstOf_44 rfl (by decide) (by decide) (by rw [C.1.1 63 (by decide) (by decide)] at c34; rw [foS, if_neg hz, lf_eq (j := k) (by omega) (by simp [a16, c34]) hp] at hk; exact hk)
      · obtain rfl : k = r := by omega
        exact absurd rfl c34
    · refine s_ifeqT (tgt := 37) dX12_firstOf_19 (by decide) (by decide) ?_
      obtain rfl : k = r := by omega
      rw [ha] at a16; cases a16
  | succ d ih =>
    intro k hd hp
    refine s_aload_n (pc' := 14) dX12_firstOf_13 rfl rfl ?_
    refine s_iload_n (pc' := 15) dX12_firstOf_14 rfl rfl ?_
    refine s_iload_n (pc' := 16) dX12_firstOf_15 rfl rfl ?_
    refine s_callV (pc' := 19) (As := [.int _, .int _]) dX12_firstOf_16 rfl mk_X12_adds_ ml_X12_245 im_X12_adds_ se_X12_X12_X12_adds_ sh_54 (by decide) rfl rfl rfl ⟨Nat.le_of_ble_eq_true rfl, Nat.le_of_ble_eq_true rfl, Nat.le_of_ble_eq_true rfl, Nat.le_of_ble_eq_true rfl⟩ (Nat.le_of_ble_eq_true rfl) (e_adds C (r := _) (by omega) (fun a16 => ?_) (fun a16 => ?_))
    · refine s_ifeqF (pc' := 22) (tgt := 37) dX12_firstOf_19 (by decide) rfl (by decide) ?_
      refine s_aload_n (pc' := 23) dX12_firstOf_22 rfl rfl ?_
      refine s_getS (pc' := 26) (b := 63) dX12_firstOf_23 rfl (by decide) rfl (by decide) fa_X12_34_12 rfl rfl ?_
      refine s_iload_n (pc' := 27) dX12_firstOf_26 rfl rfl ?_
      refine t_iald (pc' := 28) dX12_firstOf_27 rfl sh_63 rfl (by have := C.1.2.1.nr; omega) ?_
      refine s_aload_n (pc' := 29) dX12_firstOf_28 rfl rfl ?_
      refine s_getS (pc' := 32) (b := 63) dX12_firstOf_29 rfl (by decide) rfl (by decide) fa_X12_34_12 rfl rfl ?_
      refine s_iload_n (pc' := 33) dX12_firstOf_32 rfl rfl ?_
      refine t_iald (pc' := 34) dX12_firstOf_33 rfl sh_63 rfl (by have := C.1.2.1.nr; omega) ?_
      refine s_icmpeq (pc' := 37) (tgt := 43) dX12_firstOf_34 (by decide) rfl (fun c34 => ?_) (fun c34 => ?_)
      · refine s_iload_n (pc' := 44) dX12_firstOf_43 rfl rfl ?_
        exact s_iret dX12_firstOf_44 rfl (by decide) (by decide) (by rw [C.1.1 63 (by decide) (by decide)] at c34; rw [foS, if_neg hz, lf_eq (j := k) (by omega) (by simp [a16, c34]) hp] at hk; exact hk)
      · refine t_iinc (pc' := 40) (v := nI (k + 1)) (L' := [.ref 54, .int _, .int _, .int _]) dX12_firstOf_37 rfl rfl (nI_inc k) rfl ?_
        refine s_goto (tgt := 13) dX12_firstOf_40 (by decide) ?_
        rw [C.1.1 63 (by decide) (by decide)] at c34
        exact ih (k + 1) (by omega) (fun i hi => by
          by_cases e : i = k
          · subst e; simp [c34]
          · exact hp i (by omega))
    · refine s_ifeqT (tgt := 37) dX12_firstOf_19 (by decide) (by decide) ?_
      refine t_iinc (pc' := 40) (v := nI (k + 1)) (L' := [.ref 54, .int _, .int _, .int _]) dX12_firstOf_37 rfl rfl (nI_inc k) rfl ?_
      refine s_goto (tgt := 13) dX12_firstOf_40 (by decide) ?_
      exact ih (k + 1) (by omega) (fun i hi => by
        by_cases e : i = k
        · subst e; simp [a16]
        · exact hp i (by omega))
theorem c_X12_firstOf {N : Nat} {S : Nat → Nat × Nat} {I : Nat → Nat → Int32} {J : Nat → Nat → Int64} {Q : Nat → Nat → Option Nat} {κ : Option Value → HP → Prop} {D : Nat → Nat → Int32} {nv nr ns b : Nat} {th : Int32} (C : ST I D nv nr ns b th) {r : Nat} {v : Int32} (hr : r < nr) (ha : adB D (nI b) (gM J b) th r v = true) (hk : κ (some (.int (nI (foS D (nI b) (gM J b) th r v)))) (N, S, I, J, Q)) : CT E1 M_X12_firstOf [.ref 54, .int (nI r), .int v] (N, S, I, J, Q) κ := by
  refine ofSP mk_X12_firstOf (Nat.le_of_ble_eq_true rfl) (L := [.ref 54, .int _, .int _, .retAddr _]) rfl ?_
  refine s_aload_n (pc' := 1) dX12_firstOf_0 rfl rfl ?_
  refine s_getS (pc' := 4) (b := 63) dX12_firstOf_1 rfl (by decide) rfl (by decide) fa_X12_34_12 rfl rfl ?_
  refine s_iload_n (pc' := 5) dX12_firstOf_4 rfl rfl ?_
  refine t_iald (pc' := 6) dX12_firstOf_5 rfl sh_63 rfl (by have := C.1.2.1.nr; omega) ?_
  refine s_ifne (pc' := 9) (tgt := 11) dX12_firstOf_6 (by decide) rfl (fun c6 => ?_) (fun c6 => ?_)
  · refine s_iconst (pc' := 12) (v := 0) dX12_firstOf_11 rfl (by decide) ?_
    refine t_istore_n (pc' := 13) (L' := [.ref 54, .int _, .int _, .int _]) dX12_firstOf_12 rfl (Nat.le_of_ble_eq_true rfl) rfl ?_
    rw [C.1.1 63 (by decide) (by decide)] at c6
    exact l_X12_firstOf C hr ha c6 hk r 0 (by omega) (fun i hi => by omega)
  · refine s_iload_n (pc' := 10) dX12_firstOf_9 rfl rfl ?_
    exact s_iret dX12_firstOf_10 rfl (by decide) (by decide) (by rw [C.1.1 63 (by decide) (by decide)] at c6; rw [foS, if_pos c6] at hk; exact hk)
theorem foS_le {D : Nat → Nat → Int32} {x : Int32} {g : Nat → Int64} {th : Int32} {r : Nat} {v : Int32} : foS D x g th r v ≤ r + 1 := by
  unfold foS
  split
  · omega
  · exact lf_le _ _
theorem c_X12_counts {N : Nat} {S : Nat → Nat × Nat} {I : Nat → Nat → Int32} {J : Nat → Nat → Int64} {Q : Nat → Nat → Option Nat} {κ : Option Value → HP → Prop} {D : Nat → Nat → Int32} {nv nr ns b : Nat} {th : Int32} (C : ST I D nv nr ns b th) {r : Nat} {v : Int32} (hr : r < nr) (ht : ctB D (nI b) (gM J b) th r v = true → κ (some (.int 1)) (N, S, I, J, Q)) (hf : ctB D (nI b) (gM J b) th r v = false → κ (some (.int 0)) (N, S, I, J, Q)) : CT E1 M_X12_counts [.ref 54, .int (nI r), .int v] (N, S, I, J, Q) κ := by
  refine ofSP mk_X12_counts (Nat.le_of_ble_eq_true rfl) (L := [.ref 54, .int _, .int _]) rfl ?_
  refine s_aload_n (pc' := 1) dX12_counts_0 rfl rfl ?_
  refine s_iload_n (pc' := 2) dX12_counts_1 rfl rfl ?_
  refine s_iload_n (pc' := 3) dX12_counts_2 rfl rfl ?_
  refine s_callV (pc' := 6) (As := [.int _, .int _]) dX12_counts_3 rfl mk_X12_adds_ ml_X12_245 im_X12_adds_ se_X12_X12_X12_adds_ sh_54 (by decide) rfl rfl rfl ⟨Nat.le_of_ble_eq_true rfl, Nat.le_of_ble_eq_true rfl, Nat.le_of_ble_eq_true rfl, Nat.le_of_ble_eq_true rfl⟩ (Nat.le_of_ble_eq_true rfl) (e_adds C (r := _) (by omega) (fun a3 => ?_) (fun a3 => ?_))
  · refine s_ifeqF (pc' := 9) (tgt := 23) dX12_counts_6 (by decide) rfl (by decide) ?_
    refine s_aload_n (pc' := 10) dX12_counts_9 rfl rfl ?_
    refine s_iload_n (pc' := 11) dX12_counts_10 rfl rfl ?_
    refine s_iload_n (pc' := 12) dX12_counts_11 rfl rfl ?_
    refine s_callV (pc' := 15) (As := [.int _, .int _]) dX12_counts_12 rfl mk_X12_firstOf ml_X12_247 im_X12_firstOf se_X12_X12_X12_firstOf sh_54 (by decide) rfl rfl rfl ⟨Nat.le_of_ble_eq_true rfl, Nat.le_of_ble_eq_true rfl, Nat.le_of_ble_eq_true rfl, Nat.le_of_ble_eq_true rfl⟩ (Nat.le_of_ble_eq_true rfl) (c_X12_firstOf C (by omega) a3 ?_)
    refine s_iload_n (pc' := 16) dX12_counts_15 rfl rfl ?_
    refine s_icmpne (pc' := 19) (tgt := 23) dX12_counts_16 (by decide) rfl (fun c16 => ?_) (fun c16 => ?_)
    · refine s_iconst (pc' := 24) (v := 0) dX12_counts_23 rfl (by decide) ?_
      exact s_zret dX12_counts_24 rfl rfl (by decide) (by decide) (hf (by have h : foS D (nI b) (gM J b) th r v ≠ r := fun z => c16 (by rw [z]); simp [ctB, h]))
    · refine s_iconst (pc' := 20) (v := 1) dX12_counts_19 rfl (by decide) ?_
      refine s_goto (tgt := 24) dX12_counts_20 (by decide) ?_
      exact s_zret dX12_counts_24 rfl rfl (by decide) (by decide) (ht (by have := (nI_eq (by have := foS_le (D := D) (x := nI b) (g := gM J b) (th := th) (r := r) (v := v); have := C.1.2.1.nr; omega) (by have := C.1.2.1.nr; omega)).mp c16; simp [ctB, a3, this]))
  · refine s_ifeqT (tgt := 23) dX12_counts_6 (by decide) (by decide) ?_
    refine s_iconst (pc' := 24) (v := 0) dX12_counts_23 rfl (by decide) ?_
    exact s_zret dX12_counts_24 rfl rfl (by decide) (by decide) (hf (by simp [ctB, a3]))
