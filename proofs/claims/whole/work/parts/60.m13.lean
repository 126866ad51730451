/-! ===== the model's questions ===== -/
/-- what a question may change of the model -/
def MQu (I I' : Nat → Nat → Int32) (J J' : Nat → Nat → Int64) (D : Nat → Nat → Int32) (nv nr ns : Nat) : Prop :=
  (∀ i, i ≠ 54 → i ≠ 77 → (i < 81 ∨ 87 < i) → I' i = I i) ∧ (∀ j, j ≠ 37 → j ≠ 38 → j ≠ 39 → I' 54 j = I 54 j) ∧ (∀ a, a ≠ 80 → a ≠ 88 → a ≠ 89 → J' a = J a) ∧ (I' 54 37 = 0 ∨ LDD I' J' D nv nr ns)
def LDG (I : Nat → Nat → Int32) (J : Nat → Nat → Int64) (D : Nat → Nat → Int32) (nv nr ns : Nat) : Prop := ∀ b, b < 256 → (∀ v, v < nv → J 80 (10 * b + v) = gS D nv nr ns b v) ∧ I 82 b = OS D nv nr ns b ∧ I 83 b = b2 (LW D nv nr ns b)
section MQu
variable {I I' I2 : Nat → Nat → Int32} {J J' J2 : Nat → Nat → Int64} {D : Nat → Nat → Int32} {nv nr ns md : Nat}
theorem MQu.rf (M : MOD I J D nv nr ns) : MQu I I J J D nv nr ns := ⟨fun _ _ _ _ => rfl, fun _ _ _ _ => rfl, fun _ _ _ _ => rfl, M.2.2.2⟩
theorem QP.mq (h : QP I I' J J' D nv nr ns) : MQu I I' J J' D nv nr ns := ⟨fun i a1 a2 a3 => h.1.1 i a1 a2 (by omega) (by omega) (by omega) (by omega), h.1.2, fun a a1 _ _ => by funext j; exact h.2.1 a j a1, Or.inr h.2.2.2⟩
theorem QN.mq (h : QN I I' J J' D nv nr ns md) : MQu I I' J J' D nv nr ns := h.1.mq
theorem LDD.g (hW : DW D nv nr ns) (hA : AC D nv nr) (h : LDD I J D nv nr ns) : LDG I J D nv nr ns := by
  have h1 : ∀ b, b < 256 → (∀ v, v < nv → gM J b v = gS D nv nr ns b v) ∧ I 82 b = OS D nv nr ns b := fun b hb => by
    obtain ⟨⟨-, q2, q3⟩, -⟩ := h b hb
    have hg := gS_eq hW hA q2
    exact ⟨hg, by rw [q3]; exact opM_gg hW hg 8⟩
  intro b hb
  refine ⟨(h1 b hb).1, (h1 b hb).2, ?_⟩
  rw [(h b hb).2]
  unfold LW
  rw [lwB_cg hb (fun c hc => (h1 c hc).2) 8 (Nat.le_refl _)]
end MQu
theorem bc_pc : ∀ b, b < 256 → bc (nI b) 8 = nI (pcn (nI b)) := by decide +kernel
/-- mend(), the first k sets being looked at -/
def MU (D : Nat → Nat → Int32) (nv nr ns a k m : Nat) : Prop := m < 256 ∧ wn a m ∧ LW D nv nr ns m = true ∧ (m = 0 ∨ m < k) ∧ ∀ b, b < k → wn a b → LW D nv nr ns b = true → pcn (nI b) < pcn (nI m) ∨ (pcn (nI b) = pcn (nI m) ∧ b ≤ m)
theorem MU.no {D : Nat → Nat → Int32} {nv nr ns a k m : Nat} (h : MU D nv nr ns a k m) (hn : wn a k → LW D nv nr ns k = true → pcn (nI k) < pcn (nI m)) : MU D nv nr ns a (k + 1) m := by
  obtain ⟨h1, h2, h3, h4, h5⟩ := h
  refine ⟨h1, h2, h3, by omega, fun b hb w l => ?_⟩
  by_cases e : b = k
  · subst e; exact Or.inl (hn w l)
  · exact h5 b (by omega) w l
theorem MU.yes {D : Nat → Nat → Int32} {nv nr ns a k m : Nat} (h : MU D nv nr ns a k m) (hk : k < 256) (w : wn a k) (l : LW D nv nr ns k = true) (hp : pcn (nI m) ≤ pcn (nI k)) : MU D nv nr ns a (k + 1) k := by
  obtain ⟨h1, h2, h3, h4, h5⟩ := h
  refine ⟨hk, w, l, by omega, fun b hb w' l' => ?_⟩
  by_cases e : b = k
  · subst e; omega
  · have := h5 b (by omega) w' l'; omega
/-- paths of at most n + 1 steps -/
def pth (D : Nat → Nat → Int32) (nr w : Nat) : Nat → Nat → Prop
  | 0, u => bt (nd D nr w) u = true
  | n + 1, u => pth D nr w n u ∨ ∃ z, pth D nr w n z ∧ bt (nd D nr z) u = true
theorem pth_mono {D : Nat → Nat → Int32} {nr w n u : Nat} (h : pth D nr w n u) : ∀ m, n ≤ m → pth D nr w m u
  | 0, hm => by obtain rfl : n = 0 := by omega
                exact h
  | m + 1, hm => by
    by_cases e : n = m + 1
    · subst e; exact h
    · exact Or.inl (pth_mono h m (by omega))
theorem pth_RC {D : Nat → Nat → Int32} {nr w : Nat} : ∀ n u, pth D nr w n u → RC D nr w u
  | 0, u, h => RC.one h
  | n + 1, u, h => by
    rcases h with h | ⟨z, h1, h2⟩
    · exact pth_RC n u h
    · exact (pth_RC n z h1).tl h2
/-- a measure that falls with each need -/
def CB (D : Nat → Nat → Int32) (nv nr : Nat) : Prop := ∃ c : Nat → Nat, (∀ v, v < nv → c v < 10) ∧ ∀ v u, v < nv → u < nv → bt (nd D nr v) u = true → c u < c v
theorem RC_pth {D : Nat → Nat → Int32} {nv nr ns w : Nat} (hW : DW D nv nr ns) (hC : CB D nv nr) (hw : w < nv) {u : Nat} (h : RC D nr w u) : pth D nr w 9 u := by
  obtain ⟨c, c1, c2⟩ := hC
  have key : pth D nr w (c w - c u - 1) u ∧ c u < c w ∧ u < nv := by
    induction h with
    | single h =>
      have hu := RC.lt hW (RC.one h)
      have hd := c2 w _ hw hu h
      exact ⟨pth_mono (n := 0) h _ (by omega), hd, hu⟩
    | tail h1 h2 ih =>
      obtain ⟨i1, i2, i3⟩ := ih
      have hu := RC.lt hW (RC.tl h1 h2)
      have hd := c2 _ _ i3 hu h2
      refine ⟨?_, by omega, hu⟩
      exact pth_mono (n := c w - c _ - 1 + 1) (Or.inr ⟨_, i1, h2⟩) _ (by omega)
  have := c1 w hw
  exact pth_mono key.1 9 (by omega)
theorem in02_2 {w : Int32} (h : inR w 0 2) (h0 : w ≠ 0) (h1 : w ≠ 1) : w = 2 := by
  have a0 : w.toInt ≠ 0 := fun z => h0 (Int32.toInt_inj.mp (by rw [z]; decide))
  have a1 : w.toInt ≠ 1 := fun z => h1 (Int32.toInt_inj.mp (by rw [z]; decide))
  have := h.1; have := h.2
  exact Int32.toInt_inj.mp (by rw [show (2 : Int32).toInt = 2 by decide]; omega)
theorem c_X12_choice {N : Nat} {S : Nat → Nat × Nat} {I : Nat → Nat → Int32} {J : Nat → Nat → Int64} {Q : Nat → Nat → Option Nat} {κ : Option Value → HP → Prop} {D : Nat → Nat → Int32} {nv nr ns md : Nat} (M : MOD I J D nv nr ns) (hm : D 75 3 = nI md) (hmd : md < 256) {c w : Int32} (k1 : ((∀ j, j < 8 → c ≠ nI j) ∨ ¬ inR w 0 2) → κ (some (.int (-1))) (N, S, I, J, Q)) (k2 : ∀ j, j < 8 → c = nI j → w = 0 → κ (some (.int (bitI (nI md) (nI j)))) (N, S, I, J, Q)) (k3 : ∀ j, j < 8 → c = nI j → w = 1 → κ (some (.int (bitI (D 75 4) (nI j)))) (N, S, I, J, Q)) (k4 : ∀ j, j < 8 → c = nI j → w = 2 → ∀ I' J', MQu I I' J J' D nv nr ns → κ (some (.int (bitI (OS D nv nr ns (wo md j)) (nI j)))) (N, S, I', J', Q)) : CT E1 M_X12_choice [.ref 54, .int c, .int w] (N, S, I, J, Q) κ := by
  refine ofSP mk_X12_choice (Nat.le_of_ble_eq_true rfl) (L := [.ref 54, .int _, .int _]) rfl ?_
  refine s_iload_n (pc' := 1) dX12_choice_0 rfl rfl ?_
  refine s_callS (pc' := 4) (As := [.int _]) dX12_choice_1 rfl mk_X12_isChoice ml_X12_160 sm_X12_isChoice rfl rfl ⟨Nat.le_of_ble_eq_true rfl, Nat.le_of_ble_eq_true rfl, Nat.le_of_ble_eq_true rfl, Nat.le_of_ble_eq_true rfl⟩ (Nat.le_of_ble_eq_true rfl) (c_X12_isChoice (fun j1 hj1 e1 => ?_) (fun n1 => ?_))
  · subst e1
    refine s_ifeqF (pc' := 7) (tgt := 19) dX12_choice_4 (by decide) rfl (by decide) ?_
    refine s_iload_n (pc' := 8) dX12_choice_7 rfl rfl ?_
    refine s_i2l (pc' := 9) dX12_choice_8 rfl ?_
    refine s_lconst (pc' := 10) (v := 0) dX12_choice_9 rfl (by decide) ?_
    refine s_ldc2 (pc' := 13) dX12_choice_10 rfl kl_X12_145 ?_
    refine s_callS (pc' := 16) (As := [.long _, .long _, .long _]) dX12_choice_13 rfl mk_X12_isIn ml_X12_135 sm_X12_isIn rfl rfl ⟨Nat.le_of_ble_eq_true rfl, Nat.le_of_ble_eq_true rfl, Nat.le_of_ble_eq_true rfl, Nat.le_of_ble_eq_true rfl⟩ (Nat.le_of_ble_eq_true rfl) (c_isInR (a' := 0) (b' := 2) rfl rfl (fun i13 => ?_) (fun i13 => ?_))
    · refine s_ifneT (tgt := 21) dX12_choice_16 (by decide) (by decide) ?_
      refine s_iload_n (pc' := 22) dX12_choice_21 rfl rfl ?_
      refine s_ifne (pc' := 25) (tgt := 36) dX12_choice_22 (by decide) rfl (fun c22 => ?_) (fun c22 => ?_)
      · refine s_iload_n (pc' := 37) dX12_choice_36 rfl rfl ?_
        refine s_iconst (pc' := 38) (v := 1) dX12_choice_37 rfl (by decide) ?_
        refine s_icmpne (pc' := 41) (tgt := 52) dX12_choice_38 (by decide) rfl (fun c38 => ?_) (fun c38 => ?_)
        · refine s_aload_n (pc' := 53) dX12_choice_52 rfl rfl ?_
          refine s_callV (pc' := 56) (As := []) dX12_choice_53 rfl mk_X12_lay ml_X12_208 im_X12_lay se_X12_X12_X12_lay sh_54 (by decide) rfl rfl rfl ⟨Nat.le_of_ble_eq_true rfl, Nat.le_of_ble_eq_true rfl, Nat.le_of_ble_eq_true rfl, Nat.le_of_ble_eq_true rfl⟩ (Nat.le_of_ble_eq_true rfl) (e_lay M (fun I1 J1 h1 => ?_))
          have hD1 := h1.1.da M.1
          have G1 := h1.2.2.2.g M.2.1 M.2.2.1
          have e75 : I1 75 3 = nI md := by rw [hD1 75 (by decide) (by decide)]; exact hm
          refine s_aload_n (pc' := 57) dX12_choice_56 rfl rfl ?_
          refine s_getS (pc' := 60) (b := 82) dX12_choice_57 rfl (by decide) rfl (by decide) fa_X12_92_12 rfl rfl ?_
          refine s_aload_n (pc' := 61) dX12_choice_60 rfl rfl ?_
          refine s_getS (pc' := 64) (b := 75) dX12_choice_61 rfl (by decide) rfl (by decide) fa_X12_70_12 rfl rfl ?_
          refine s_iconst (pc' := 65) (v := 3) dX12_choice_64 rfl (by decide) ?_
          refine t_iald (pc' := 66) (q := 3) dX12_choice_65 rfl sh_75 rfl (by decide) ?_
          refine s_iconst (pc' := 67) (v := 1) dX12_choice_66 rfl (by decide) ?_
          refine s_iload_n (pc' := 68) dX12_choice_67 rfl rfl ?_
          refine s_ishl (pc' := 69) dX12_choice_68 rfl ?_
          refine s_iconst (pc' := 70) (v := -1) dX12_choice_69 rfl (by decide) ?_
          refine s_ixor (pc' := 71) dX12_choice_70 rfl ?_
          refine s_iand (pc' := 72) dX12_choice_71 rfl ?_
          refine t_iald (pc' := 73) (q := wo md j1) dX12_choice_72 rfl sh_82 (by rw [e75]; exact (wo_ix md hmd j1 hj1).1) (wo_ix md hmd j1 hj1).2 ?_
          refine s_iload_n (pc' := 74) dX12_choice_73 rfl rfl ?_
          refine s_ishr (pc' := 75) dX12_choice_74 rfl ?_
          refine s_iconst (pc' := 76) (v := 1) dX12_choice_75 rfl (by decide) ?_
          refine s_iand (pc' := 77) dX12_choice_76 rfl ?_
          exact s_iret dX12_choice_77 rfl (by decide) (by decide) (by rw [(G1 _ (wo_ix md hmd j1 hj1).2).2.1]; exact k4 j1 hj1 rfl (in02_2 i13 c22 c38) I1 J1 h1.mq)
        · refine s_aload_n (pc' := 42) dX12_choice_41 rfl rfl ?_
          refine s_getS (pc' := 45) (b := 75) dX12_choice_42 rfl (by decide) rfl (by decide) fa_X12_70_12 rfl rfl ?_
          refine s_iconst (pc' := 46) (v := 4) dX12_choice_45 rfl (by decide) ?_
          refine t_iald (pc' := 47) (q := 4) dX12_choice_46 rfl sh_75 rfl (by decide) ?_
          refine s_iload_n (pc' := 48) dX12_choice_47 rfl rfl ?_
          refine s_ishr (pc' := 49) dX12_choice_48 rfl ?_
          refine s_iconst (pc' := 50) (v := 1) dX12_choice_49 rfl (by decide) ?_
          refine s_iand (pc' := 51) dX12_choice_50 rfl ?_
          exact s_iret dX12_choice_51 rfl (by decide) (by decide) (by rw [M.1 75 (by decide) (by decide)]; exact k3 j1 hj1 rfl (by simpa using c38))
      · refine s_aload_n (pc' := 26) dX12_choice_25 rfl rfl ?_
        refine s_getS (pc' := 29) (b := 75) dX12_choice_26 rfl (by decide) rfl (by decide) fa_X12_70_12 rfl rfl ?_
        refine s_iconst (pc' := 30) (v := 3) dX12_choice_29 rfl (by decide) ?_
        refine t_iald (pc' := 31) (q := 3) dX12_choice_30 rfl sh_75 rfl (by decide) ?_
        refine s_iload_n (pc' := 32) dX12_choice_31 rfl rfl ?_
        refine s_ishr (pc' := 33) dX12_choice_32 rfl ?_
        refine s_iconst (pc' := 34) (v := 1) dX12_choice_33 rfl (by decide) ?_
        refine s_iand (pc' := 35) dX12_choice_34 rfl ?_
        exact s_iret dX12_choice_35 rfl (by decide) (by decide) (by rw [M.1 75 (by decide) (by decide), hm]; exact k2 j1 hj1 rfl (by simpa using c22))
    · refine s_ifneF (pc' := 19) (tgt := 21) dX12_choice_16 (by decide) rfl (by decide) ?_
      refine s_iconst (pc' := 20) (v := -1) dX12_choice_19 rfl (by decide) ?_
      exact s_iret dX12_choice_20 rfl (by decide) (by decide) (k1 (Or.inr i13))
  · refine s_ifeqT (tgt := 19) dX12_choice_4 (by decide) (by decide) ?_
    refine s_iconst (pc' := 20) (v := -1) dX12_choice_19 rfl (by decide) ?_
    exact s_iret dX12_choice_20 rfl (by decide) (by decide) (k1 (Or.inl n1))
theorem c_X12_lawful {N : Nat} {S : Nat → Nat × Nat} {I : Nat → Nat → Int32} {J : Nat → Nat → Int64} {Q : Nat → Nat → Option Nat} {κ : Option Value → HP → Prop} {D : Nat → Nat → Int32} {nv nr ns md : Nat} (M : MOD I J D nv nr ns) (hm : D 75 3 = nI md) (hmd : md < 256) {x : Int32} (k1 : (x ≠ -1 ∧ ∀ j, j < 256 → x ≠ nI j) → κ (some (.int (-1))) (N, S, I, J, Q)) (k2 : ∀ c, c < 256 → ((x = -1 ∧ c = md) ∨ (x ≠ -1 ∧ x = nI c)) → ∀ I' J', MQu I I' J J' D nv nr ns → κ (some (.int (b2 (LW D nv nr ns c)))) (N, S, I', J', Q)) : CT E1 M_X12_lawful [.ref 54, .int x] (N, S, I, J, Q) κ := by
  refine ofSP mk_X12_lawful (Nat.le_of_ble_eq_true rfl) (L := [.ref 54, .int _]) rfl ?_
  refine s_iload_n (pc' := 1) dX12_lawful_0 rfl rfl ?_
  refine s_iconst (pc' := 2) (v := -1) dX12_lawful_1 rfl (by decide) ?_
  refine s_icmpeq (pc' := 5) (tgt := 15) dX12_lawful_2 (by decide) rfl (fun c2 => ?_) (fun c2 => ?_)
  · refine s_aload_n (pc' := 16) dX12_lawful_15 rfl rfl ?_
    refine s_callV (pc' := 19) (As := []) dX12_lawful_16 rfl mk_X12_lay ml_X12_208 im_X12_lay se_X12_X12_X12_lay sh_54 (by decide) rfl rfl rfl ⟨Nat.le_of_ble_eq_true rfl, Nat.le_of_ble_eq_true rfl, Nat.le_of_ble_eq_true rfl, Nat.le_of_ble_eq_true rfl⟩ (Nat.le_of_ble_eq_true rfl) (e_lay M (fun I1 J1 h1 => ?_))
    have hD1 := h1.1.da M.1
    have G1 := h1.2.2.2.g M.2.1 M.2.2.1
    have e75 : I1 75 3 = nI md := by rw [hD1 75 (by decide) (by decide)]; exact hm
    refine s_aload_n (pc' := 20) dX12_lawful_19 rfl rfl ?_
    refine s_getS (pc' := 23) (b := 83) dX12_lawful_20 rfl (by decide) rfl (by decide) fa_X12_95_12 rfl rfl ?_
    refine s_iload_n (pc' := 24) dX12_lawful_23 rfl rfl ?_
    refine s_iconst (pc' := 25) (v := -1) dX12_lawful_24 rfl (by decide) ?_
    refine s_icmpneF (pc' := 28) (tgt := 37) dX12_lawful_25 (by decide) rfl c2 ?_
    refine s_aload_n (pc' := 29) dX12_lawful_28 rfl rfl ?_
    refine s_getS (pc' := 32) (b := 75) dX12_lawful_29 rfl (by decide) rfl (by decide) fa_X12_70_12 rfl rfl ?_
    refine s_iconst (pc' := 33) (v := 3) dX12_lawful_32 rfl (by decide) ?_
    refine t_iald (pc' := 34) (q := 3) dX12_lawful_33 rfl sh_75 rfl (by decide) ?_
    refine s_goto (tgt := 38) dX12_lawful_34 (by decide) ?_
    refine t_zald (pc' := 39) (q := md) dX12_lawful_38 rfl sh_83 e75 hmd ?_
    refine s_ifeq (pc' := 42) (tgt := 46) dX12_lawful_39 (by decide) rfl (fun c39 => ?_) (fun c39 => ?_)
    · refine s_iconst (pc' := 47) (v := 0) dX12_lawful_46 rfl (by decide) ?_
      exact s_iret dX12_lawful_47 rfl (by decide) (by decide) (by
    have q := k2 md hmd (Or.inl ⟨c2, rfl⟩) I1 J1 h1.mq
    rw [(G1 md hmd).2.2] at c39
    rw [b2_0 c39] at q
    exact q)
    · refine s_iconst (pc' := 43) (v := 1) dX12_lawful_42 rfl (by decide) ?_
      refine s_goto (tgt := 47) dX12_lawful_43 (by decide) ?_
      exact s_iret dX12_lawful_47 rfl (by decide) (by decide) (by
    have q := k2 md hmd (Or.inl ⟨c2, rfl⟩) I1 J1 h1.mq
    rw [(G1 md hmd).2.2] at c39
    rw [b2_1 c39] at q
    exact q)
  · refine s_aload_n (pc' := 6) dX12_lawful_5 rfl rfl ?_
    refine s_iload_n (pc' := 7) dX12_lawful_6 rfl rfl ?_
    refine s_callV (pc' := 10) (As := [.int _]) dX12_lawful_7 rfl mk_X12_isSet ml_X12_287 im_X12_isSet se_X12_X12_X12_isSet sh_54 (by decide) rfl rfl rfl ⟨Nat.le_of_ble_eq_true rfl, Nat.le_of_ble_eq_true rfl, Nat.le_of_ble_eq_true rfl, Nat.le_of_ble_eq_true rfl⟩ (Nat.le_of_ble_eq_true rfl) (c_X12_isSet (fun j7 hj7 e7 => ?_) (fun n7 => ?_))
    · refine s_ifneT (tgt := 15) dX12_lawful_10 (by decide) (by decide) ?_
      refine s_aload_n (pc' := 16) dX12_lawful_15 rfl rfl ?_
      refine s_callV (pc' := 19) (As := []) dX12_lawful_16 rfl mk_X12_lay ml_X12_208 im_X12_lay se_X12_X12_X12_lay sh_54 (by decide) rfl rfl rfl ⟨Nat.le_of_ble_eq_true rfl, Nat.le_of_ble_eq_true rfl, Nat.le_of_ble_eq_true rfl, Nat.le_of_ble_eq_true rfl⟩ (Nat.le_of_ble_eq_true rfl) (e_lay M (fun I1 J1 h1 => ?_))
      have hD1 := h1.1.da M.1
      have G1 := h1.2.2.2.g M.2.1 M.2.2.1
      have e75 : I1 75 3 = nI md := by rw [hD1 75 (by decide) (by decide)]; exact hm
      refine s_aload_n (pc' := 20) dX12_lawful_19 rfl rfl ?_
      refine s_getS (pc' := 23) (b := 83) dX12_lawful_20 rfl (by decide) rfl (by decide) fa_X12_95_12 rfl rfl ?_
      refine s_iload_n (pc' := 24) dX12_lawful_23 rfl rfl ?_
      refine s_iconst (pc' := 25) (v := -1) dX12_lawful_24 rfl (by decide) ?_
      refine s_icmpneT (tgt := 37) dX12_lawful_25 (by decide) c2 ?_
      refine s_iload_n (pc' := 38) dX12_lawful_37 rfl rfl ?_
      refine t_zald (pc' := 39) (q := j7) dX12_lawful_38 rfl sh_83 e7 hj7 ?_
      refine s_ifeq (pc' := 42) (tgt := 46) dX12_lawful_39 (by decide) rfl (fun c39 => ?_) (fun c39 => ?_)
      · refine s_iconst (pc' := 47) (v := 0) dX12_lawful_46 rfl (by decide) ?_
        exact s_iret dX12_lawful_47 rfl (by decide) (by decide) (by
    have q := k2 j7 hj7 (Or.inr ⟨c2, e7⟩) I1 J1 h1.mq
    rw [(G1 j7 hj7).2.2] at c39
    rw [b2_0 c39] at q
    exact q)
      · refine s_iconst (pc' := 43) (v := 1) dX12_lawful_42 rfl (by decide) ?_
        refine s_goto (tgt := 47) dX12_lawful_43 (by decide) ?_
        exact s_iret dX12_lawful_47 rfl (by decide) (by decide) (by
    have q := k2 j7 hj7 (Or.inr ⟨c2, e7⟩) I1 J1 h1.mq
    rw [(G1 j7 hj7).2.2] at c39
    rw [b2_1 c39] at q
    exact q)
    · refine s_ifneF (pc' := 13) (tgt := 15) dX12_lawful_10 (by decide) rfl (by decide) ?_
      refine s_iconst (pc' := 14) (v := -1) dX12_lawful_13 rfl (by decide) ?_
      exact s_iret dX12_lawful_14 rfl (by decide) (by decide) (k1 ⟨c2, n7⟩)
theorem l_X12_mend {N : Nat} {S : Nat → Nat × Nat} {I : Nat → Nat → Int32} {J : Nat → Nat → Int64} {Q : Nat → Nat → Option Nat} {κ : Option Value → HP → Prop}  {md : Nat} (e75 : I 75 3 = nI md) (hmd : md < 256) {D : Nat → Nat → Int32} {nv nr ns : Nat} (G1 : LDG I J D nv nr ns) (hk : ∀ m, MU D nv nr ns md 256 m → κ (some (.int (nI m))) (N, S, I, J, Q)) : ∀ d : Nat, ∀ k m, k + d = 256 → MU D nv nr ns md k m → SP E1 M_X12_mend κ 8 [.ref 54, .int (nI m), .int (nI k)] [] (N, S, I, J, Q) 0 0 := by
  intro d
  induction d with
  | zero =>
    intro k m hd hP
    obtain rfl : k = 256 := by omega
    refine s_iload_n (pc' := 9) dX12_mend_8 rfl rfl ?_
    refine s_sipush (pc' := 12) (v := 256) dX12_mend_9 rfl (by decide) ?_
    refine s_icmpgeT (tgt := 56) dX12_mend_12 (by decide) (by decide) ?_
    refine s_iload_n (pc' := 57) dX12_mend_56 rfl rfl ?_
    exact s_iret dX12_mend_57 rfl (by decide) (by decide) (hk m hP)
  | succ d ih =>
    intro k m hd hP
    refine s_iload_n (pc' := 9) dX12_mend_8 rfl rfl ?_
    refine s_sipush (pc' := 12) (v := 256) dX12_mend_9 rfl (by decide) ?_
    refine s_icmpgeF (pc' := 15) (tgt := 56) dX12_mend_12 (by decide) rfl (nI_ge (b := 256) (by omega) (by decide)) ?_
    refine s_iload_n (pc' := 16) dX12_mend_15 rfl rfl ?_
    refine s_aload_n (pc' := 17) dX12_mend_16 rfl rfl ?_
    refine s_getS (pc' := 20) (b := 75) dX12_mend_17 rfl (by decide) rfl (by decide) fa_X12_70_12 rfl rfl ?_
    refine s_iconst (pc' := 21) (v := 3) dX12_mend_20 rfl (by decide) ?_
    refine t_iald (pc' := 22) (q := 3) dX12_mend_21 rfl sh_75 rfl (by decide) ?_
    refine s_iconst (pc' := 23) (v := -1) dX12_mend_22 rfl (by decide) ?_
    refine s_ixor (pc' := 24) dX12_mend_23 rfl ?_
    refine s_iand (pc' := 25) dX12_mend_24 rfl ?_
    refine s_ifne (pc' := 28) (tgt := 50) dX12_mend_25 (by decide) rfl (fun c25 => ?_) (fun c25 => ?_)
    · refine t_iinc (pc' := 53) (v := nI (k + 1)) (L' := [.ref 54, .int _, .int _]) dX12_mend_50 rfl rfl (nI_inc k) rfl ?_
      refine s_goto (tgt := 8) dX12_mend_53 (by decide) ?_
      rw [e75] at c25
      exact ih (k + 1) m (by omega) (hP.no (fun z _ => absurd z c25))
    · refine s_aload_n (pc' := 29) dX12_mend_28 rfl rfl ?_
      refine s_getS (pc' := 32) (b := 83) dX12_mend_29 rfl (by decide) rfl (by decide) fa_X12_95_12 rfl rfl ?_
      refine s_iload_n (pc' := 33) dX12_mend_32 rfl rfl ?_
      refine t_zald (pc' := 34) dX12_mend_33 rfl sh_83 rfl (by omega) ?_
      refine s_ifeq (pc' := 37) (tgt := 50) dX12_mend_34 (by decide) rfl (fun c34 => ?_) (fun c34 => ?_)
      · refine t_iinc (pc' := 53) (v := nI (k + 1)) (L' := [.ref 54, .int _, .int _]) dX12_mend_50 rfl rfl (nI_inc k) rfl ?_
        refine s_goto (tgt := 8) dX12_mend_53 (by decide) ?_
        rw [(G1 k (by omega)).2.2] at c34
        exact ih (k + 1) m (by omega) (hP.no (fun _ z => by rw [b2_0 c34] at z; cases z))
      · refine s_iload_n (pc' := 38) dX12_mend_37 rfl rfl ?_
        refine s_callS (pc' := 41) (As := [.int _]) dX12_mend_38 rfl mk_X12_bits ml_X12_203 sm_X12_bits rfl rfl ⟨Nat.le_of_ble_eq_true rfl, Nat.le_of_ble_eq_true rfl, Nat.le_of_ble_eq_true rfl, Nat.le_of_ble_eq_true rfl⟩ (Nat.le_of_ble_eq_true rfl) (c_X12_bits ?_)
        refine s_iload_n (pc' := 42) dX12_mend_41 rfl rfl ?_
        refine s_callS (pc' := 45) (As := [.int _]) dX12_mend_42 rfl mk_X12_bits ml_X12_203 sm_X12_bits rfl rfl ⟨Nat.le_of_ble_eq_true rfl, Nat.le_of_ble_eq_true rfl, Nat.le_of_ble_eq_true rfl, Nat.le_of_ble_eq_true rfl⟩ (Nat.le_of_ble_eq_true rfl) (c_X12_bits ?_)
        refine s_icmplt (pc' := 48) (tgt := 50) dX12_mend_45 (by decide) rfl (fun c45 => ?_) (fun c45 => ?_)
        · refine t_iinc (pc' := 53) (v := nI (k + 1)) (L' := [.ref 54, .int _, .int _]) dX12_mend_50 rfl rfl (nI_inc k) rfl ?_
          refine s_goto (tgt := 8) dX12_mend_53 (by decide) ?_
          have hp1 : pcn (nI k) ≤ 10 := cntB_le _ _
          have hp2 : pcn (nI m) ≤ 10 := cntB_le _ _
          rw [bc_pc k (by omega), bc_pc m hP.1] at c45
          exact ih (k + 1) m (by omega) (hP.no (fun _ _ => (nI_ltI (by omega) (by omega)).mp c45))
        · refine s_iload_n (pc' := 49) dX12_mend_48 rfl rfl ?_
          refine t_istore_n (pc' := 50) (L' := [.ref 54, .int _, .int _]) dX12_mend_49 rfl (Nat.le_of_ble_eq_true rfl) rfl ?_
          refine t_iinc (pc' := 53) (v := nI (k + 1)) (L' := [.ref 54, .int _, .int _]) dX12_mend_50 rfl rfl (nI_inc k) rfl ?_
          refine s_goto (tgt := 8) dX12_mend_53 (by decide) ?_
          have hp1 : pcn (nI k) ≤ 10 := cntB_le _ _
          have hp2 : pcn (nI m) ≤ 10 := cntB_le _ _
          rw [bc_pc k (by omega), bc_pc m hP.1] at c45
          rw [e75] at c25
          rw [(G1 k (by omega)).2.2] at c34
          exact ih (k + 1) k (by omega) (hP.yes (by omega) (by simpa [wn] using c25) (b2_1 c34) (Nat.not_lt.mp (fun z => c45 ((nI_ltI (by omega) (by omega)).mpr z))))
theorem MU.fin {D : Nat → Nat → Int32} {nv nr ns a m : Nat} (h : MU D nv nr ns a 256 m) : MdP D nv nr ns a m := ⟨h.1, h.2.1, h.2.2.1, h.2.2.2.2⟩
theorem c_X12_mend {N : Nat} {S : Nat → Nat × Nat} {I : Nat → Nat → Int32} {J : Nat → Nat → Int64} {Q : Nat → Nat → Option Nat} {κ : Option Value → HP → Prop} {D : Nat → Nat → Int32} {nv nr ns md : Nat} (M : MOD I J D nv nr ns) (hm : D 75 3 = nI md) (hmd : md < 256) (hk : ∀ m, MdP D nv nr ns md m → ∀ I' J', MQu I I' J J' D nv nr ns → κ (some (.int (nI m))) (N, S, I', J', Q)) : CT E1 M_X12_mend [.ref 54] (N, S, I, J, Q) κ := by
  refine ofSP mk_X12_mend (Nat.le_of_ble_eq_true rfl) (L := [.ref 54, .retAddr _, .retAddr _]) rfl ?_
  refine s_aload_n (pc' := 1) dX12_mend_0 rfl rfl ?_
  refine s_callV (pc' := 4) (As := []) dX12_mend_1 rfl mk_X12_lay ml_X12_208 im_X12_lay se_X12_X12_X12_lay sh_54 (by decide) rfl rfl rfl ⟨Nat.le_of_ble_eq_true rfl, Nat.le_of_ble_eq_true rfl, Nat.le_of_ble_eq_true rfl, Nat.le_of_ble_eq_true rfl⟩ (Nat.le_of_ble_eq_true rfl) (e_lay M (fun I1 J1 h1 => ?_))
  have hD1 := h1.1.da M.1
  have G1 := h1.2.2.2.g M.2.1 M.2.2.1
  have e75 : I1 75 3 = nI md := by rw [hD1 75 (by decide) (by decide)]; exact hm
  refine s_iconst (pc' := 5) (v := 0) dX12_mend_4 rfl (by decide) ?_
  refine t_istore_n (pc' := 6) (L' := [.ref 54, .int _, .retAddr _]) dX12_mend_5 rfl (Nat.le_of_ble_eq_true rfl) rfl ?_
  refine s_iconst (pc' := 7) (v := 0) dX12_mend_6 rfl (by decide) ?_
  refine t_istore_n (pc' := 8) (L' := [.ref 54, .int _, .int _]) dX12_mend_7 rfl (Nat.le_of_ble_eq_true rfl) rfl ?_
  exact l_X12_mend e75 hmd G1 (fun m h => hk m h.fin I1 J1 h1.mq) 256 0 0 rfl ⟨by decide, wn_0, LW_0, Or.inl rfl, fun b hb => by omega⟩
theorem ixo_neg {o : Option Nat} (h : ∀ q, o = some q → q < 1000) (e : ixo o < 0) : o = none := by
  cases o with
  | none => rfl
  | some q => exact absurd e (nI_pos (by have := h q rfl; omega))
theorem ixo_nn {o : Option Nat} (e : ¬ ixo o < 0) : ∃ q, o = some q := by
  cases o with
  | none => exact absurd (by decide) e
  | some q => exact ⟨q, rfl⟩
theorem l_X12_best {N : Nat} {S : Nat → Nat × Nat} {I : Nat → Nat → Int32} {J : Nat → Nat → Int64} {Q : Nat → Nat → Option Nat} {κ : Option Value → HP → Prop}  {D : Nat → Nat → Int32} {nv nr ns : Nat} (G1 : LDG I J D nv nr ns) {v mu wi : Nat} {ls : Int32} (hv : v < nv) (hn10 : nv ≤ 10) (hk : κ (some (.int (ixo (bsh D nv nr ns v mu wi ls 256)))) (N, S, I, J, Q)) : ∀ d : Nat, ∀ k, k + d = 256 → SP E1 M_X12_best κ 36 [.ref 54, .int (nI v), .int (nI mu), .int (nI wi), .int ls, .int (ixo (bsh D nv nr ns v mu wi ls k)), .int (nI k), .retAddr 0, .retAddr 0] [] (N, S, I, J, Q) 0 0 := by
  intro d
  induction d with
  | zero =>
    intro k hd
    obtain rfl : k = 256 := by omega
    refine s_iload (pc' := 38) dX12_best_36 rfl rfl ?_
    refine s_sipush (pc' := 41) (v := 256) dX12_best_38 rfl (by decide) ?_
    refine s_icmpgeT (tgt := 145) dX12_best_41 (by decide) (by decide) ?_
    refine s_iload (pc' := 147) dX12_best_145 rfl rfl ?_
    exact s_iret dX12_best_147 rfl (by decide) (by decide) hk
  | succ d ih =>
    intro k hd
    refine s_iload (pc' := 38) dX12_best_36 rfl rfl ?_
    refine s_sipush (pc' := 41) (v := 256) dX12_best_38 rfl (by decide) ?_
    refine s_icmpgeF (pc' := 44) (tgt := 145) dX12_best_41 (by decide) rfl (nI_ge (b := 256) (by omega) (by decide)) ?_
    refine s_aload_n (pc' := 45) dX12_best_44 rfl rfl ?_
    refine s_getS (pc' := 48) (b := 83) dX12_best_45 rfl (by decide) rfl (by decide) fa_X12_95_12 rfl rfl ?_
    refine s_iload (pc' := 50) dX12_best_48 rfl rfl ?_
    refine t_zald (pc' := 51) dX12_best_50 rfl sh_83 rfl (by omega) ?_
    refine s_ifeq (pc' := 54) (tgt := 139) dX12_best_51 (by decide) rfl (fun c51 => ?_) (fun c51 => ?_)
    · refine t_iinc (pc' := 142) (v := nI (k + 1)) (L' := [.ref 54, .int _, .int _, .int _, .int _, .int _, .int _, .retAddr _, .retAddr _]) dX12_best_139 rfl rfl (nI_inc k) rfl ?_
      refine s_goto (tgt := 36) dX12_best_142 (by decide) ?_
      rw [(G1 k (by omega)).2.2] at c51
      refine s_fg [7] ?_ (ih (k + 1) (by omega))
      rw [bsh_0 (fun z => by have z2 := z.2.2; rw [b2_0 c51] at z2; cases z2)]; rfl
    · refine s_iload (pc' := 56) dX12_best_54 rfl rfl ?_
      refine s_iload_n (pc' := 57) dX12_best_56 rfl rfl ?_
      refine s_iand (pc' := 58) dX12_best_57 rfl ?_
      refine s_iload_n (pc' := 59) dX12_best_58 rfl rfl ?_
      refine s_icmpne (pc' := 62) (tgt := 139) dX12_best_59 (by decide) rfl (fun c59 => ?_) (fun c59 => ?_)
      · refine t_iinc (pc' := 142) (v := nI (k + 1)) (L' := [.ref 54, .int _, .int _, .int _, .int _, .int _, .int _, .retAddr _, .retAddr _]) dX12_best_139 rfl rfl (nI_inc k) rfl ?_
        refine s_goto (tgt := 36) dX12_best_142 (by decide) ?_
        refine s_fg [7] ?_ (ih (k + 1) (by omega))
        rw [bsh_0 (fun z => c59 z.1)]; rfl
      · refine s_iload (pc' := 64) dX12_best_62 rfl rfl ?_
        refine s_iload_n (pc' := 65) dX12_best_64 rfl rfl ?_
        refine s_iand (pc' := 66) dX12_best_65 rfl ?_
        refine s_ifeq (pc' := 69) (tgt := 72) dX12_best_66 (by decide) rfl (fun c66 => ?_) (fun c66 => ?_)
        · refine s_aload_n (pc' := 73) dX12_best_72 rfl rfl ?_
          refine s_getS (pc' := 76) (b := 80) dX12_best_73 rfl (by decide) rfl (by decide) fa_X12_85_12 rfl rfl ?_
          refine s_bipush (pc' := 78) (v := 10) dX12_best_76 rfl (by decide) ?_
          refine s_iload (pc' := 80) dX12_best_78 rfl rfl ?_
          refine s_imul (pc' := 81) dX12_best_80 rfl ?_
          refine s_iload_n (pc' := 82) dX12_best_81 rfl rfl ?_
          refine s_iadd (pc' := 83) dX12_best_82 rfl ?_
          refine t_lald (pc' := 84) (q := 10 * k + v) dX12_best_83 rfl sh_80 (ix10 (by omega) (by omega)) (by omega) ?_
          refine t_lstore (pc' := 86) (L' := [.ref 54, .int _, .int _, .int _, .int _, .int _, .int _, .long _, .retAddr _]) dX12_best_84 rfl (Nat.le_of_ble_eq_true rfl) rfl ?_
          refine s_iload (pc' := 88) dX12_best_86 rfl rfl ?_
          refine s_iflt (pc' := 91) (tgt := 135) dX12_best_88 (by decide) rfl (fun c88 => ?_) (fun c88 => ?_)
          · refine s_iload (pc' := 137) dX12_best_135 rfl rfl ?_
            refine t_istore (pc' := 139) (L' := [.ref 54, .int _, .int _, .int _, .int _, .int _, .int _, .long _, .retAddr _]) dX12_best_137 rfl (Nat.le_of_ble_eq_true rfl) rfl ?_
            refine t_iinc (pc' := 142) (v := nI (k + 1)) (L' := [.ref 54, .int _, .int _, .int _, .int _, .int _, .int _, .long _, .retAddr _]) dX12_best_139 rfl rfl (nI_inc k) rfl ?_
            refine s_goto (tgt := 36) dX12_best_142 (by decide) ?_
            rw [(G1 k (by omega)).2.2] at c51
            have fi : fit1 D nv nr ns mu wi k := ⟨by simpa using c59, by simpa using c66, b2_1 c51⟩
            have hn : bsh D nv nr ns v mu wi ls k = none := ixo_neg (fun q hq => by have := bsh_lt _ _ hq; omega) c88
            refine s_fg [7] ?_ (ih (k + 1) (by omega))
            rw [bsh_1 fi hn]; rfl
          · obtain ⟨q, hq⟩ := ixo_nn c88
            have hql := bsh_lt _ _ hq
            have hix : nI q = ixo (bsh D nv nr ns v mu wi ls k) := by rw [hq]; rfl
            refine s_iload (pc' := 93) dX12_best_91 rfl rfl ?_
            refine s_ifeq (pc' := 96) (tgt := 117) dX12_best_93 (by decide) rfl (fun c93 => ?_) (fun c93 => ?_)
            · refine s_lload (pc' := 119) dX12_best_117 rfl rfl ?_
              refine s_aload_n (pc' := 120) dX12_best_119 rfl rfl ?_
              refine s_getS (pc' := 123) (b := 80) dX12_best_120 rfl (by decide) rfl (by decide) fa_X12_85_12 rfl rfl ?_
              refine s_bipush (pc' := 125) (v := 10) dX12_best_123 rfl (by decide) ?_
              refine s_iload (pc' := 127) dX12_best_125 rfl rfl ?_
              refine s_imul (pc' := 128) dX12_best_127 rfl ?_
              refine s_iload_n (pc' := 129) dX12_best_128 rfl rfl ?_
              refine s_iadd (pc' := 130) dX12_best_129 rfl ?_
              refine t_lald (pc' := 131) (q := 10 * q + v) dX12_best_130 rfl sh_80 (by rw [← hix]; exact ix10 (by omega) (by omega)) (by omega) ?_
              refine s_lcmp (pc' := 132) dX12_best_131 rfl ?_
              refine s_ifle (pc' := 135) (tgt := 139) dX12_best_132 (by decide) rfl (fun c132 => ?_) (fun c132 => ?_)
              · refine t_iinc (pc' := 142) (v := nI (k + 1)) (L' := [.ref 54, .int _, .int _, .int _, .int _, .int _, .int _, .long _, .retAddr _]) dX12_best_139 rfl rfl (nI_inc k) rfl ?_
                refine s_goto (tgt := 36) dX12_best_142 (by decide) ?_
                rw [(G1 k (by omega)).2.2] at c51
                have fi : fit1 D nv nr ns mu wi k := ⟨by simpa using c59, by simpa using c66, b2_1 c51⟩
                rw [(G1 k (by omega)).1 v hv, (G1 q (by omega)).1 v hv] at c132
                rw [lg_cmp_le] at c132
                rw [← hix]
                refine s_fg [7] ?_ (ih (k + 1) (by omega))
                rw [bsh_3 fi hq (by unfold btr; rw [if_pos c93]; exact Int64.not_lt.mpr c132)]; rfl
              · refine s_iload (pc' := 137) dX12_best_135 rfl rfl ?_
                refine t_istore (pc' := 139) (L' := [.ref 54, .int _, .int _, .int _, .int _, .int _, .int _, .long _, .retAddr _]) dX12_best_137 rfl (Nat.le_of_ble_eq_true rfl) rfl ?_
                refine t_iinc (pc' := 142) (v := nI (k + 1)) (L' := [.ref 54, .int _, .int _, .int _, .int _, .int _, .int _, .long _, .retAddr _]) dX12_best_139 rfl rfl (nI_inc k) rfl ?_
                refine s_goto (tgt := 36) dX12_best_142 (by decide) ?_
                rw [(G1 k (by omega)).2.2] at c51
                have fi : fit1 D nv nr ns mu wi k := ⟨by simpa using c59, by simpa using c66, b2_1 c51⟩
                rw [(G1 k (by omega)).1 v hv, (G1 q (by omega)).1 v hv] at c132
                rw [lg_cmp_le] at c132
                refine s_fg [7] ?_ (ih (k + 1) (by omega))
                rw [bsh_2 fi hq (by unfold btr; rw [if_pos c93]; exact Int64.not_le.mp c132)]; rfl
            · refine s_lload (pc' := 98) dX12_best_96 rfl rfl ?_
              refine s_aload_n (pc' := 99) dX12_best_98 rfl rfl ?_
              refine s_getS (pc' := 102) (b := 80) dX12_best_99 rfl (by decide) rfl (by decide) fa_X12_85_12 rfl rfl ?_
              refine s_bipush (pc' := 104) (v := 10) dX12_best_102 rfl (by decide) ?_
              refine s_iload (pc' := 106) dX12_best_104 rfl rfl ?_
              refine s_imul (pc' := 107) dX12_best_106 rfl ?_
              refine s_iload_n (pc' := 108) dX12_best_107 rfl rfl ?_
              refine s_iadd (pc' := 109) dX12_best_108 rfl ?_
              refine t_lald (pc' := 110) (q := 10 * q + v) dX12_best_109 rfl sh_80 (by rw [← hix]; exact ix10 (by omega) (by omega)) (by omega) ?_
              refine s_lcmp (pc' := 111) dX12_best_110 rfl ?_
              refine s_ifge (pc' := 114) (tgt := 139) dX12_best_111 (by decide) rfl (fun c111 => ?_) (fun c111 => ?_)
              · refine t_iinc (pc' := 142) (v := nI (k + 1)) (L' := [.ref 54, .int _, .int _, .int _, .int _, .int _, .int _, .long _, .retAddr _]) dX12_best_139 rfl rfl (nI_inc k) rfl ?_
                refine s_goto (tgt := 36) dX12_best_142 (by decide) ?_
                rw [(G1 k (by omega)).2.2] at c51
                have fi : fit1 D nv nr ns mu wi k := ⟨by simpa using c59, by simpa using c66, b2_1 c51⟩
                rw [(G1 k (by omega)).1 v hv, (G1 q (by omega)).1 v hv] at c111
                rw [lg_cmp_ge] at c111
                rw [← hix]
                refine s_fg [7] ?_ (ih (k + 1) (by omega))
                rw [bsh_3 fi hq (by unfold btr; rw [if_neg c93]; exact Int64.not_lt.mpr c111)]; rfl
              · refine s_goto (tgt := 135) dX12_best_114 (by decide) ?_
                refine s_iload (pc' := 137) dX12_best_135 rfl rfl ?_
                refine t_istore (pc' := 139) (L' := [.ref 54, .int _, .int _, .int _, .int _, .int _, .int _, .long _, .retAddr _]) dX12_best_137 rfl (Nat.le_of_ble_eq_true rfl) rfl ?_
                refine t_iinc (pc' := 142) (v := nI (k + 1)) (L' := [.ref 54, .int _, .int _, .int _, .int _, .int _, .int _, .long _, .retAddr _]) dX12_best_139 rfl rfl (nI_inc k) rfl ?_
                refine s_goto (tgt := 36) dX12_best_142 (by decide) ?_
                rw [(G1 k (by omega)).2.2] at c51
                have fi : fit1 D nv nr ns mu wi k := ⟨by simpa using c59, by simpa using c66, b2_1 c51⟩
                rw [(G1 k (by omega)).1 v hv, (G1 q (by omega)).1 v hv] at c111
                rw [lg_cmp_ge] at c111
                refine s_fg [7] ?_ (ih (k + 1) (by omega))
                rw [bsh_2 fi hq (by unfold btr; rw [if_neg c93]; exact Int64.not_le.mp c111)]; rfl
        · refine s_goto (tgt := 139) dX12_best_69 (by decide) ?_
          refine t_iinc (pc' := 142) (v := nI (k + 1)) (L' := [.ref 54, .int _, .int _, .int _, .int _, .int _, .int _, .retAddr _, .retAddr _]) dX12_best_139 rfl rfl (nI_inc k) rfl ?_
          refine s_goto (tgt := 36) dX12_best_142 (by decide) ?_
          refine s_fg [7] ?_ (ih (k + 1) (by omega))
          rw [bsh_0 (fun z => c66 z.2.1)]; rfl
theorem c_X12_best {N : Nat} {S : Nat → Nat × Nat} {I : Nat → Nat → Int32} {J : Nat → Nat → Int64} {Q : Nat → Nat → Option Nat} {κ : Option Value → HP → Prop} {D : Nat → Nat → Int32} {nv nr ns md : Nat} (M : MOD I J D nv nr ns) (hm : D 75 3 = nI md) {x m w0 ls : Int32} (k1 : ((∀ j, j < nv → x ≠ nI j) ∨ (∀ j, j < 256 → m ≠ nI j) ∨ (∀ j, j < 256 → w0 ≠ nI j)) → κ (some (.int (-1))) (N, S, I, J, Q)) (k2 : ∀ v mu wi, v < nv → mu < 256 → wi < 256 → x = nI v → m = nI mu → w0 = nI wi → ∀ I' J', QP I I' J J' D nv nr ns → κ (some (.int (ixo (bsh D nv nr ns v mu wi ls 256)))) (N, S, I', J', Q)) : CT E1 M_X12_best [.ref 54, .int x, .int m, .int w0, .int ls] (N, S, I, J, Q) κ := by
  refine ofSP mk_X12_best (Nat.le_of_ble_eq_true rfl) (L := [.ref 54, .int _, .int _, .int _, .int _, .retAddr _, .retAddr _, .retAddr _, .retAddr _]) rfl ?_
  refine s_aload_n (pc' := 1) dX12_best_0 rfl rfl ?_
  refine s_iload_n (pc' := 2) dX12_best_1 rfl rfl ?_
  refine s_callV (pc' := 5) (As := [.int _]) dX12_best_2 rfl mk_X12_isValue ml_X12_170 im_X12_isValue se_X12_X12_X12_isValue sh_54 (by decide) rfl rfl rfl ⟨Nat.le_of_ble_eq_true rfl, Nat.le_of_ble_eq_true rfl, Nat.le_of_ble_eq_true rfl, Nat.le_of_ble_eq_true rfl⟩ (Nat.le_of_ble_eq_true rfl) (c_X12_isValue (M.2.1.vn M.1) (by have := M.2.1.nv; omega) (fun j2 hj2 e2 => ?_) (fun n2 => ?_))
  · subst e2
    refine s_ifeqF (pc' := 8) (tgt := 24) dX12_best_5 (by decide) rfl (by decide) ?_
    refine s_aload_n (pc' := 9) dX12_best_8 rfl rfl ?_
    refine s_iload_n (pc' := 10) dX12_best_9 rfl rfl ?_
    refine s_callV (pc' := 13) (As := [.int _]) dX12_best_10 rfl mk_X12_isSet ml_X12_287 im_X12_isSet se_X12_X12_X12_isSet sh_54 (by decide) rfl rfl rfl ⟨Nat.le_of_ble_eq_true rfl, Nat.le_of_ble_eq_true rfl, Nat.le_of_ble_eq_true rfl, Nat.le_of_ble_eq_true rfl⟩ (Nat.le_of_ble_eq_true rfl) (c_X12_isSet (fun j10 hj10 e10 => ?_) (fun n10 => ?_))
    · refine s_ifeqF (pc' := 16) (tgt := 24) dX12_best_13 (by decide) rfl (by decide) ?_
      refine s_aload_n (pc' := 17) dX12_best_16 rfl rfl ?_
      refine s_iload_n (pc' := 18) dX12_best_17 rfl rfl ?_
      refine s_callV (pc' := 21) (As := [.int _]) dX12_best_18 rfl mk_X12_isSet ml_X12_287 im_X12_isSet se_X12_X12_X12_isSet sh_54 (by decide) rfl rfl rfl ⟨Nat.le_of_ble_eq_true rfl, Nat.le_of_ble_eq_true rfl, Nat.le_of_ble_eq_true rfl, Nat.le_of_ble_eq_true rfl⟩ (Nat.le_of_ble_eq_true rfl) (c_X12_isSet (fun j18 hj18 e18 => ?_) (fun n18 => ?_))
      · refine s_ifneT (tgt := 26) dX12_best_21 (by decide) (by decide) ?_
        refine s_aload_n (pc' := 27) dX12_best_26 rfl rfl ?_
        refine s_callV (pc' := 30) (As := []) dX12_best_27 rfl mk_X12_lay ml_X12_208 im_X12_lay se_X12_X12_X12_lay sh_54 (by decide) rfl rfl rfl ⟨Nat.le_of_ble_eq_true rfl, Nat.le_of_ble_eq_true rfl, Nat.le_of_ble_eq_true rfl, Nat.le_of_ble_eq_true rfl⟩ (Nat.le_of_ble_eq_true rfl) (e_lay M (fun I1 J1 h1 => ?_))
        have hD1 := h1.1.da M.1
        have G1 := h1.2.2.2.g M.2.1 M.2.2.1
        have e75 : I1 75 3 = nI md := by rw [hD1 75 (by decide) (by decide)]; exact hm
        refine s_iconst (pc' := 31) (v := -1) dX12_best_30 rfl (by decide) ?_
        refine t_istore (pc' := 33) (L' := [.ref 54, .int _, .int _, .int _, .int _, .int _, .retAddr _, .retAddr _, .retAddr _]) dX12_best_31 rfl (Nat.le_of_ble_eq_true rfl) rfl ?_
        refine s_iconst (pc' := 34) (v := 0) dX12_best_33 rfl (by decide) ?_
        refine t_istore (pc' := 36) (L' := [.ref 54, .int _, .int _, .int _, .int _, .int _, .int _, .retAddr _, .retAddr _]) dX12_best_34 rfl (Nat.le_of_ble_eq_true rfl) rfl ?_
        subst e10
        subst e18
        exact l_X12_best G1 hj2 M.2.1.nv (k2 j2 j10 j18 hj2 hj10 hj18 rfl rfl rfl I1 J1 h1) 256 0 rfl
      · refine s_ifneF (pc' := 24) (tgt := 26) dX12_best_21 (by decide) rfl (by decide) ?_
        refine s_iconst (pc' := 25) (v := -1) dX12_best_24 rfl (by decide) ?_
        exact s_iret dX12_best_25 rfl (by decide) (by decide) (k1 (Or.inr (Or.inr n18)))
    · refine s_ifeqT (tgt := 24) dX12_best_13 (by decide) (by decide) ?_
      refine s_iconst (pc' := 25) (v := -1) dX12_best_24 rfl (by decide) ?_
      exact s_iret dX12_best_25 rfl (by decide) (by decide) (k1 (Or.inr (Or.inl n10)))
  · refine s_ifeqT (tgt := 24) dX12_best_5 (by decide) (by decide) ?_
    refine s_iconst (pc' := 25) (v := -1) dX12_best_24 rfl (by decide) ?_
    exact s_iret dX12_best_25 rfl (by decide) (by decide) (k1 (Or.inl n2))
theorem c_X12_seek {N : Nat} {S : Nat → Nat × Nat} {I : Nat → Nat → Int32} {J : Nat → Nat → Int64} {Q : Nat → Nat → Option Nat} {κ : Option Value → HP → Prop} {D : Nat → Nat → Int32} {nv nr ns md : Nat} (M : MOD I J D nv nr ns) (hm : D 75 3 = nI md) (hmd : md < 256) {x m w0 ls : Int32} (k1 : ((∀ j, j < nv → x ≠ nI j) ∨ (∀ j, j < 256 → m ≠ nI j) ∨ (∀ j, j < 256 → w0 ≠ nI j)) → κ (some (.int (-1))) (N, S, I, J, Q)) (k2 : ∀ v mu wi, v < nv → mu < 256 → wi < 256 → x = nI v → m = nI mu → w0 = nI wi → ∀ I' J', MQu I I' J J' D nv nr ns → κ (some (.int (ixo (bsh D nv nr ns v mu wi ls 256)))) (N, S, I', J', Q)) : CT E1 M_X12_seek [.ref 54, .int x, .int m, .int w0, .int ls] (N, S, I, J, Q) κ := by
  refine ofSP mk_X12_seek (Nat.le_of_ble_eq_true rfl) (L := [.ref 54, .int _, .int _, .int _, .int _]) rfl ?_
  refine s_aload_n (pc' := 1) dX12_seek_0 rfl rfl ?_
  refine s_iload_n (pc' := 2) dX12_seek_1 rfl rfl ?_
  refine s_iload_n (pc' := 3) dX12_seek_2 rfl rfl ?_
  refine s_iload_n (pc' := 4) dX12_seek_3 rfl rfl ?_
  refine s_iload (pc' := 6) dX12_seek_4 rfl rfl ?_
  refine s_callV (pc' := 9) (As := [.int _, .int _, .int _, .int _]) dX12_seek_6 rfl mk_X12_best ml_X12_294 im_X12_best se_X12_X12_X12_best sh_54 (by decide) rfl rfl rfl ⟨Nat.le_of_ble_eq_true rfl, Nat.le_of_ble_eq_true rfl, Nat.le_of_ble_eq_true rfl, Nat.le_of_ble_eq_true rfl⟩ (Nat.le_of_ble_eq_true rfl) (c_X12_best M hm (fun z6 => ?_) (fun v mu wi hv hmu hwi ev emu ewi I1 J1 h1 => ?_))
  · exact s_iret dX12_seek_9 rfl (by decide) (by decide) (k1 z6)
  · exact s_iret dX12_seek_9 rfl (by decide) (by decide) (k2 v mu wi hv hmu hwi ev emu ewi I1 J1 h1.mq)
theorem c_X12_most {N : Nat} {S : Nat → Nat × Nat} {I : Nat → Nat → Int32} {J : Nat → Nat → Int64} {Q : Nat → Nat → Option Nat} {κ : Option Value → HP → Prop} {D : Nat → Nat → Int32} {nv nr ns md : Nat} (M : MOD I J D nv nr ns) (hm : D 75 3 = nI md) (hmd : md < 256) {x m w0 ls : Int32} (k1 : ((∀ j, j < nv → x ≠ nI j) ∨ (∀ j, j < 256 → m ≠ nI j) ∨ (∀ j, j < 256 → w0 ≠ nI j)) → κ (some (.long (-1000000000000))) (N, S, I, J, Q)) (k2 : ∀ v mu wi, v < nv → mu < 256 → wi < 256 → x = nI v → m = nI mu → w0 = nI wi → bsh D nv nr ns v mu wi ls 256 = none → ∀ I' J', MQu I I' J J' D nv nr ns → κ (some (.long (-1000000000000))) (N, S, I', J', Q)) (k3 : ∀ v mu wi, v < nv → mu < 256 → wi < 256 → x = nI v → m = nI mu → w0 = nI wi →  ∀ q, bsh D nv nr ns v mu wi ls 256 = some q → ∀ I' J', MQu I I' J J' D nv nr ns → κ (some (.long (gS D nv nr ns q v))) (N, S, I', J', Q)) : CT E1 M_X12_most [.ref 54, .int x, .int m, .int w0, .int ls] (N, S, I, J, Q) κ := by
  refine ofSP mk_X12_most (Nat.le_of_ble_eq_true rfl) (L := [.ref 54, .int _, .int _, .int _, .int _, .retAddr _]) rfl ?_
  refine s_aload_n (pc' := 1) dX12_most_0 rfl rfl ?_
  refine s_iload_n (pc' := 2) dX12_most_1 rfl rfl ?_
  refine s_iload_n (pc' := 3) dX12_most_2 rfl rfl ?_
  refine s_iload_n (pc' := 4) dX12_most_3 rfl rfl ?_
  refine s_iload (pc' := 6) dX12_most_4 rfl rfl ?_
  refine s_callV (pc' := 9) (As := [.int _, .int _, .int _, .int _]) dX12_most_6 rfl mk_X12_best ml_X12_294 im_X12_best se_X12_X12_X12_best sh_54 (by decide) rfl rfl rfl ⟨Nat.le_of_ble_eq_true rfl, Nat.le_of_ble_eq_true rfl, Nat.le_of_ble_eq_true rfl, Nat.le_of_ble_eq_true rfl⟩ (Nat.le_of_ble_eq_true rfl) (c_X12_best M hm (fun z6 => ?_) (fun v mu wi hv hmu hwi ev emu ewi I1 J1 h1 => ?_))
  · refine t_istore (pc' := 11) (L' := [.ref 54, .int _, .int _, .int _, .int _, .int _]) dX12_most_9 rfl (Nat.le_of_ble_eq_true rfl) rfl ?_
    refine s_iload (pc' := 13) dX12_most_11 rfl rfl ?_
    refine s_ifgeF (pc' := 16) (tgt := 22) dX12_most_13 (by decide) rfl (by decide) ?_
    refine s_ldc2 (pc' := 19) dX12_most_16 rfl kl_X12_290 ?_
    refine s_goto (tgt := 34) dX12_most_19 (by decide) ?_
    exact s_lret dX12_most_34 rfl (by decide) (by decide) (k1 z6)
  · refine t_istore (pc' := 11) (L' := [.ref 54, .int _, .int _, .int _, .int _, .int _]) dX12_most_9 rfl (Nat.le_of_ble_eq_true rfl) rfl ?_
    refine s_iload (pc' := 13) dX12_most_11 rfl rfl ?_
    refine s_ifge (pc' := 16) (tgt := 22) dX12_most_13 (by decide) rfl (fun c13 => ?_) (fun c13 => ?_)
    · obtain ⟨q, hq⟩ := ixo_nn (Int32.not_lt.mpr c13)
      have hql := bsh_lt _ _ hq
      have hn10 := M.2.1.nv
      refine s_aload_n (pc' := 23) dX12_most_22 rfl rfl ?_
      refine s_getS (pc' := 26) (b := 80) dX12_most_23 rfl (by decide) rfl (by decide) fa_X12_85_12 rfl rfl ?_
      refine s_bipush (pc' := 28) (v := 10) dX12_most_26 rfl (by decide) ?_
      refine s_iload (pc' := 30) dX12_most_28 rfl rfl ?_
      refine s_imul (pc' := 31) dX12_most_30 rfl ?_
      refine s_iload_n (pc' := 32) dX12_most_31 rfl rfl ?_
      refine s_iadd (pc' := 33) dX12_most_32 rfl ?_
      refine t_lald (pc' := 34) (q := 10 * q + v) dX12_most_33 rfl sh_80 (by rw [hq, ev]; exact ix10 (by omega) (by omega)) (by omega) ?_
      exact s_lret dX12_most_34 rfl (by decide) (by decide) (by rw [(h1.2.2.2.g M.2.1 M.2.2.1 q (by omega)).1 v hv]; exact k3 v mu wi hv hmu hwi ev emu ewi q hq I1 J1 h1.mq)
    · refine s_ldc2 (pc' := 19) dX12_most_16 rfl kl_X12_290 ?_
      refine s_goto (tgt := 34) dX12_most_19 (by decide) ?_
      exact s_lret dX12_most_34 rfl (by decide) (by decide) (k2 v mu wi hv hmu hwi ev emu ewi (ixo_neg (fun q hq => by have := bsh_lt _ _ hq; omega) (Int32.not_le.mp c13)) I1 J1 h1.mq)
