/-- what a question may change among the model's ints -/
def FQ (I I' : Nat → Nat → Int32) : Prop := (∀ i, i ≠ 54 → i ≠ 77 → i ≠ 81 → i ≠ 82 → i ≠ 83 → (i < 84 ∨ 86 < i) → I' i = I i) ∧ ∀ j, j ≠ 37 → j ≠ 38 → j ≠ 39 → I' 54 j = I 54 j
theorem FQ.rf {I : Nat → Nat → Int32} : FQ I I := ⟨fun _ _ _ _ _ _ _ => rfl, fun _ _ _ _ => rfl⟩
theorem FQ.da {I I' D : Nat → Nat → Int32} (h : FQ I I') (hD : DA I D) : DA I' D := fun i h1 h2 => (h.1 i (by omega) (by omega) (by omega) (by omega) (by omega) (by omega)).trans (hD i h1 h2)
/-- the model between calls: its rows, and the sheets where they are laid -/
def MOD (I : Nat → Nat → Int32) (J : Nat → Nat → Int64) (D : Nat → Nat → Int32) (nv nr ns : Nat) : Prop := DA I D ∧ DW D nv nr ns ∧ AC D nv nr ∧ (I 54 37 = 0 ∨ LDD I J D nv nr ns)
def QP (I I' : Nat → Nat → Int32) (J J' : Nat → Nat → Int64) (D : Nat → Nat → Int32) (nv nr ns : Nat) : Prop := FQ I I' ∧ (∀ a i, a ≠ 80 → J' a i = J a i) ∧ I' 54 37 ≠ 0 ∧ LDD I' J' D nv nr ns
theorem e_lay {N : Nat} {S : Nat → Nat × Nat} {I : Nat → Nat → Int32} {J : Nat → Nat → Int64} {Q : Nat → Nat → Option Nat} {κ : Option Value → HP → Prop} {D : Nat → Nat → Int32} {nv nr ns : Nat} (M : MOD I J D nv nr ns) (hk : ∀ I' J', QP I I' J J' D nv nr ns → κ none (N, S, I', J', Q)) : CT E1 M_X12_lay [.ref 54] (N, S, I, J, Q) κ := by
  obtain ⟨hD, hW, hA, hL⟩ := M
  exact c_X12_lay hD hW hA (fun c => hk I J ⟨FQ.rf, fun _ _ _ => rfl, c, hL.resolve_left c⟩) (fun _ I' J' h => hk I' J' ⟨⟨h.1, h.2.1⟩, h.2.2.2.1, by rw [h.2.2.1]; decide, h.2.2.2.2⟩)
theorem lwB_cg {op op' : Nat → Int32} {b : Nat} (hb : b < 256) (h : ∀ c, c < 256 → op c = op' c) : ∀ k, k ≤ 8 → lwB op b k = lwB op' b k
  | 0, _ => rfl
  | k + 1, hk => by
    unfold lwB
    rw [lwB_cg hb h k (by omega), h _ (wo_ix b hb k (by omega)).2]
theorem LDD.lays {I I1 I2 D : Nat → Nat → Int32} {J J2 : Nat → Nat → Int64} {nv nr ns b : Nat} (hW : DW D nv nr ns) (hA : AC D nv nr) (hb : b < 256) (h : LDD I J D nv nr ns) (hn : F77 I I1) (hP : PL I1 I2 J J2 D nv nr ns b) : LDD I2 J2 D nv nr ns := by
  have hnv := hW.nv
  obtain ⟨p1, p2, p3, p4, p5, p6, p7, p8⟩ := hP
  have fx : FX D (nI b) (thS D (nI b) nr) nv nr ns (gM J2 b) := fun v hv => (p7 v hv).1
  have h82 : ∀ c, c < 256 → I2 82 c = I 82 c := by
    intro c hc
    by_cases e : c = b
    · subst e
      obtain ⟨⟨-, q2, q3⟩, -⟩ := h c hc
      rw [p8, q3]
      exact opM_gg hW (fun u hu => FX.uniq hW hA fx q2 u hu) 8
    · rw [(p4 c e).2, hn 82 (by decide)]
  intro c hc
  obtain ⟨⟨q1, q2, q3⟩, q4⟩ := h c hc
  refine ⟨?_, ?_⟩
  · by_cases e : c = b
    · subst e; exact ⟨p6, fx, p8⟩
    · have hg : ∀ u, u < nv → gM J c u = gM J2 c u := fun u hu => by
        unfold gM; rw [p5 80 (10 * c + u) (fun z => by omega)]
      exact ⟨by rw [(p4 c e).1, hn 81 (by decide)]; exact q1, q2.cg hW hg, by rw [h82 c hc, q3]; exact opM_gg hW hg 8⟩
  · rw [p1 83 (by decide) (by decide) (by decide) (by decide), hn 83 (by decide), q4, lwB_cg hc (fun d hd => (h82 d hd).symm) 8 (Nat.le_refl _)]
/-- behind layNow() -/
def QN (I I' : Nat → Nat → Int32) (J J' : Nat → Nat → Int64) (D : Nat → Nat → Int32) (nv nr ns md : Nat) : Prop := QP I I' J J' D nv nr ns ∧ ST I' D nv nr ns md (thS D (nI md) nr) ∧ ∀ v, v < nv → LV I' J' D (thS D (nI md) nr) md nr ns v
theorem QN_of {I I1 I2 I3 D : Nat → Nat → Int32} {J J1 J3 : Nat → Nat → Int64} {nv nr ns md : Nat} (M : MOD I J D nv nr ns) (hb : md < 256) (h1 : QP I I1 J J1 D nv nr ns) (h2 : F77 I1 I2) (h3 : PL I2 I3 J1 J3 D nv nr ns md) : QN I I3 J J3 D nv nr ns md := by
  have hl := LDD.lays M.2.1 M.2.2.1 hb h1.2.2.2 h2 h3
  obtain ⟨p1, p2, p3, p4, p5, p6, p7, p8⟩ := h3
  have fq : FQ I I3 := ⟨fun i a1 a2 a3 a4 a5 a6 => by rw [p1 i a1 a3 a4 a6, h2 i a2]; exact h1.1.1 i a1 a2 a3 a4 a5 a6, fun j a1 a2 a3 => by rw [p2 j a2 a3, h2 54 (by decide)]; exact h1.1.2 j a1 a2 a3⟩
  refine ⟨⟨fq, fun a i ha => (p5 a i (fun z => ha z.1)).trans (h1.2.1 a i ha), by rw [p2 37 (by decide) (by decide), h2 54 (by decide)]; exact h1.2.2.1, hl⟩, ⟨⟨fq.da M.1, M.2.1, p3, hb⟩, p6⟩, p7⟩
theorem c_X12_layNow {N : Nat} {S : Nat → Nat × Nat} {I : Nat → Nat → Int32} {J : Nat → Nat → Int64} {Q : Nat → Nat → Option Nat} {κ : Option Value → HP → Prop} {D : Nat → Nat → Int32} {nv nr ns md : Nat} (M : MOD I J D nv nr ns) (hm : D 75 3 = nI md) (hmd : md < 256) (hk : ∀ I' J', QN I I' J J' D nv nr ns md → κ none (N, S, I', J', Q)) : CT E1 M_X12_layNow [.ref 54] (N, S, I, J, Q) κ := by
  refine ofSP mk_X12_layNow (Nat.le_of_ble_eq_true rfl) (L := [.ref 54]) rfl ?_
  refine s_aload_n (pc' := 1) dX12_layNow_0 rfl rfl ?_
  refine s_callV (pc' := 4) (As := []) dX12_layNow_1 rfl mk_X12_lay ml_X12_208 im_X12_lay se_X12_X12_X12_lay sh_54 (by decide) rfl rfl rfl ⟨Nat.le_of_ble_eq_true rfl, Nat.le_of_ble_eq_true rfl, Nat.le_of_ble_eq_true rfl, Nat.le_of_ble_eq_true rfl⟩ (Nat.le_of_ble_eq_true rfl) (e_lay M (fun I1 J1 h1 => ?_))
  have hD1 := h1.1.da M.1
  refine s_aload_n (pc' := 5) dX12_layNow_4 rfl rfl ?_
  refine s_callV (pc' := 8) (As := []) dX12_layNow_5 rfl mk_X12_findNeeds ml_X12_197 im_X12_findNeeds se_X12_X12_X12_findNeeds sh_54 (by decide) rfl rfl rfl ⟨Nat.le_of_ble_eq_true rfl, Nat.le_of_ble_eq_true rfl, Nat.le_of_ble_eq_true rfl, Nat.le_of_ble_eq_true rfl⟩ (Nat.le_of_ble_eq_true rfl) (c_X12_findNeeds (h1.1.da M.1) M.2.1 (fun I2 h2 => ?_))
  have hD2 := h2.1.da (h1.1.da M.1)
  have e75 : I2 75 3 = nI md := by rw [hD2 75 (by decide) (by decide)]; exact hm
  refine s_aload_n (pc' := 9) dX12_layNow_8 rfl rfl ?_
  refine s_aload_n (pc' := 10) dX12_layNow_9 rfl rfl ?_
  refine s_getS (pc' := 13) (b := 75) dX12_layNow_10 rfl (by decide) rfl (by decide) fa_X12_70_12 rfl rfl ?_
  refine s_iconst (pc' := 14) (v := 3) dX12_layNow_13 rfl (by decide) ?_
  refine t_iald (pc' := 15) (q := 3) dX12_layNow_14 rfl sh_75 rfl (by decide) ?_
  rw [e75]
  refine s_callV (pc' := 18) (As := [.int _]) dX12_layNow_15 rfl mk_X12_lays ml_X12_281 im_X12_lays se_X12_X12_X12_lays sh_54 (by decide) rfl rfl rfl ⟨Nat.le_of_ble_eq_true rfl, Nat.le_of_ble_eq_true rfl, Nat.le_of_ble_eq_true rfl, Nat.le_of_ble_eq_true rfl⟩ (Nat.le_of_ble_eq_true rfl) (c_X12_lays hD2 M.2.1 hmd M.2.2.1 h2.2 (fun I3 J3 h3 => ?_))
  exact s_vret dX12_layNow_18 rfl (by decide) (by decide) (hk _ _ (QN_of M hmd h1 h2.1 h3))
theorem c_X12_isSet {N : Nat} {S : Nat → Nat × Nat} {I : Nat → Nat → Int32} {J : Nat → Nat → Int64} {Q : Nat → Nat → Option Nat} {κ : Option Value → HP → Prop} {v : Int32} (ht : ∀ j, j < 256 → v = nI j → κ (some (.int 1)) (N, S, I, J, Q)) (hf : (∀ j, j < 256 → v ≠ nI j) → κ (some (.int 0)) (N, S, I, J, Q)) : CT E1 M_X12_isSet [.ref 54, .int v] (N, S, I, J, Q) κ := by
  refine ofSP mk_X12_isSet (Nat.le_of_ble_eq_true rfl) (L := [.ref 54, .int _]) rfl ?_
  refine s_iload_n (pc' := 1) dX12_isSet_0 rfl rfl ?_
  refine s_iflt (pc' := 4) (tgt := 15) dX12_isSet_1 (by decide) rfl (fun c1 => ?_) (fun c1 => ?_)
  · refine s_iconst (pc' := 16) (v := 0) dX12_isSet_15 rfl (by decide) ?_
    exact s_zret dX12_isSet_16 rfl rfl (by decide) (by decide) (hf (fun j hj e => nI_pos (n := j) (by omega) (e ▸ c1)))
  · refine s_iload_n (pc' := 5) dX12_isSet_4 rfl rfl ?_
    refine s_sipush (pc' := 8) (v := 256) dX12_isSet_5 rfl (by decide) ?_
    refine s_icmpge (pc' := 11) (tgt := 15) dX12_isSet_8 (by decide) rfl (fun c8 => ?_) (fun c8 => ?_)
    · refine s_iconst (pc' := 16) (v := 0) dX12_isSet_15 rfl (by decide) ?_
      exact s_zret dX12_isSet_16 rfl rfl (by decide) (by decide) (hf (fun j hj e => nI_ge hj (by decide) (by rw [e] at c8; exact c8)))
    · refine s_iconst (pc' := 12) (v := 1) dX12_isSet_11 rfl (by decide) ?_
      refine s_goto (tgt := 16) dX12_isSet_12 (by decide) ?_
      exact s_zret dX12_isSet_16 rfl rfl (by decide) (by decide) (by obtain ⟨j, hj, e⟩ := ix_in c1 (show ¬ nI 256 ≤ v from c8) (by decide); exact ht j hj e)
theorem c_X12_number {N : Nat} {S : Nat → Nat × Nat} {I : Nat → Nat → Int32} {J : Nat → Nat → Int64} {Q : Nat → Nat → Option Nat} {κ : Option Value → HP → Prop} {D : Nat → Nat → Int32} {nv nr ns md : Nat} (M : MOD I J D nv nr ns) (hm : D 75 3 = nI md) (hmd : md < 256) {v x : Int32} (k1 : ((∀ j, j < nv → v ≠ nI j) ∨ (x ≠ -1 ∧ ∀ j, j < 256 → x ≠ nI j)) → κ (some (.long (-1000000000000))) (N, S, I, J, Q)) (k2 : ∀ vj c, vj < nv → v = nI vj → c < 256 → ((x = -1 ∧ c = md) ∨ (x ≠ -1 ∧ x = nI c)) → ∀ I' J', QP I I' J J' D nv nr ns → κ (some (.long (gM J' c vj))) (N, S, I', J', Q)) : CT E1 M_X12_number [.ref 54, .int v, .int x] (N, S, I, J, Q) κ := by
  refine ofSP mk_X12_number (Nat.le_of_ble_eq_true rfl) (L := [.ref 54, .int _, .int _]) rfl ?_
  refine s_aload_n (pc' := 1) dX12_number_0 rfl rfl ?_
  refine s_iload_n (pc' := 2) dX12_number_1 rfl rfl ?_
  refine s_callV (pc' := 5) (As := [.int _]) dX12_number_2 rfl mk_X12_isValue ml_X12_170 im_X12_isValue se_X12_X12_X12_isValue sh_54 (by decide) rfl rfl rfl ⟨Nat.le_of_ble_eq_true rfl, Nat.le_of_ble_eq_true rfl, Nat.le_of_ble_eq_true rfl, Nat.le_of_ble_eq_true rfl⟩ (Nat.le_of_ble_eq_true rfl) (c_X12_isValue (M.2.1.vn M.1) (by have := M.2.1.nv; omega) (fun j2 hj2 e2 => ?_) (fun n2 => ?_))
  · subst e2
    refine s_ifeqF (pc' := 8) (tgt := 21) dX12_number_5 (by decide) rfl (by decide) ?_
    refine s_iload_n (pc' := 9) dX12_number_8 rfl rfl ?_
    refine s_iconst (pc' := 10) (v := -1) dX12_number_9 rfl (by decide) ?_
    refine s_icmpeq (pc' := 13) (tgt := 25) dX12_number_10 (by decide) rfl (fun c10 => ?_) (fun c10 => ?_)
    · refine s_aload_n (pc' := 26) dX12_number_25 rfl rfl ?_
      refine s_callV (pc' := 29) (As := []) dX12_number_26 rfl mk_X12_lay ml_X12_208 im_X12_lay se_X12_X12_X12_lay sh_54 (by decide) rfl rfl rfl ⟨Nat.le_of_ble_eq_true rfl, Nat.le_of_ble_eq_true rfl, Nat.le_of_ble_eq_true rfl, Nat.le_of_ble_eq_true rfl⟩ (Nat.le_of_ble_eq_true rfl) (e_lay M (fun I1 J1 h1 => ?_))
      have hD1 := h1.1.da M.1
      refine s_aload_n (pc' := 30) dX12_number_29 rfl rfl ?_
      refine s_getS (pc' := 33) (b := 80) dX12_number_30 rfl (by decide) rfl (by decide) fa_X12_85_12 rfl rfl ?_
      refine s_bipush (pc' := 35) (v := 10) dX12_number_33 rfl (by decide) ?_
      refine s_iload_n (pc' := 36) dX12_number_35 rfl rfl ?_
      refine s_iconst (pc' := 37) (v := -1) dX12_number_36 rfl (by decide) ?_
      refine s_icmpneF (pc' := 40) (tgt := 49) dX12_number_37 (by decide) rfl c10 ?_
      refine s_aload_n (pc' := 41) dX12_number_40 rfl rfl ?_
      refine s_getS (pc' := 44) (b := 75) dX12_number_41 rfl (by decide) rfl (by decide) fa_X12_70_12 rfl rfl ?_
      refine s_iconst (pc' := 45) (v := 3) dX12_number_44 rfl (by decide) ?_
      refine t_iald (pc' := 46) (q := 3) dX12_number_45 rfl sh_75 rfl (by decide) ?_
      refine s_goto (tgt := 50) dX12_number_46 (by decide) ?_
      refine s_imul (pc' := 51) dX12_number_50 rfl ?_
      refine s_iload_n (pc' := 52) dX12_number_51 rfl rfl ?_
      refine s_iadd (pc' := 53) dX12_number_52 rfl ?_
      refine t_lald (pc' := 54) (q := 10 * md + j2) dX12_number_53 rfl sh_80 (by rw [hD1 75 (by decide) (by decide), hm, ix10 (by omega) (by have := M.2.1.nv; omega)]) (by have := M.2.1.nv; omega) ?_
      exact s_lret dX12_number_54 rfl (by decide) (by decide) (k2 j2 md hj2 rfl hmd (Or.inl ⟨c10, rfl⟩) I1 J1 h1)
    · refine s_aload_n (pc' := 14) dX12_number_13 rfl rfl ?_
      refine s_iload_n (pc' := 15) dX12_number_14 rfl rfl ?_
      refine s_callV (pc' := 18) (As := [.int _]) dX12_number_15 rfl mk_X12_isSet ml_X12_287 im_X12_isSet se_X12_X12_X12_isSet sh_54 (by decide) rfl rfl rfl ⟨Nat.le_of_ble_eq_true rfl, Nat.le_of_ble_eq_true rfl, Nat.le_of_ble_eq_true rfl, Nat.le_of_ble_eq_true rfl⟩ (Nat.le_of_ble_eq_true rfl) (c_X12_isSet (fun j15 hj15 e15 => ?_) (fun n15 => ?_))
      · refine s_ifneT (tgt := 25) dX12_number_18 (by decide) (by decide) ?_
        refine s_aload_n (pc' := 26) dX12_number_25 rfl rfl ?_
        refine s_callV (pc' := 29) (As := []) dX12_number_26 rfl mk_X12_lay ml_X12_208 im_X12_lay se_X12_X12_X12_lay sh_54 (by decide) rfl rfl rfl ⟨Nat.le_of_ble_eq_true rfl, Nat.le_of_ble_eq_true rfl, Nat.le_of_ble_eq_true rfl, Nat.le_of_ble_eq_true rfl⟩ (Nat.le_of_ble_eq_true rfl) (e_lay M (fun I1 J1 h1 => ?_))
        have hD1 := h1.1.da M.1
        refine s_aload_n (pc' := 30) dX12_number_29 rfl rfl ?_
        refine s_getS (pc' := 33) (b := 80) dX12_number_30 rfl (by decide) rfl (by decide) fa_X12_85_12 rfl rfl ?_
        refine s_bipush (pc' := 35) (v := 10) dX12_number_33 rfl (by decide) ?_
        refine s_iload_n (pc' := 36) dX12_number_35 rfl rfl ?_
        refine s_iconst (pc' := 37) (v := -1) dX12_number_36 rfl (by decide) ?_
        refine s_icmpneT (tgt := 49) dX12_number_37 (by decide) c10 ?_
        refine s_iload_n (pc' := 50) dX12_number_49 rfl rfl ?_
        refine s_imul (pc' := 51) dX12_number_50 rfl ?_
        refine s_iload_n (pc' := 52) dX12_number_51 rfl rfl ?_
        refine s_iadd (pc' := 53) dX12_number_52 rfl ?_
        refine t_lald (pc' := 54) (q := 10 * j15 + j2) dX12_number_53 rfl sh_80 (by rw [e15, ix10 (by omega) (by have := M.2.1.nv; omega)]) (by have := M.2.1.nv; omega) ?_
        exact s_lret dX12_number_54 rfl (by decide) (by decide) (k2 j2 j15 hj2 rfl hj15 (Or.inr ⟨c10, e15⟩) I1 J1 h1)
      · refine s_ifneF (pc' := 21) (tgt := 25) dX12_number_18 (by decide) rfl (by decide) ?_
        refine s_ldc2 (pc' := 24) dX12_number_21 rfl kl_X12_290 ?_
        exact s_lret dX12_number_24 rfl (by decide) (by decide) (k1 (Or.inr ⟨c10, n15⟩))
  · refine s_ifeqT (tgt := 21) dX12_number_5 (by decide) (by decide) ?_
    refine s_ldc2 (pc' := 24) dX12_number_21 rfl kl_X12_290 ?_
    exact s_lret dX12_number_24 rfl (by decide) (by decide) (k1 (Or.inl n2))
theorem c_X12_amount {N : Nat} {S : Nat → Nat × Nat} {I : Nat → Nat → Int32} {J : Nat → Nat → Int64} {Q : Nat → Nat → Option Nat} {κ : Option Value → HP → Prop} {D : Nat → Nat → Int32} {nv nr ns md : Nat} (M : MOD I J D nv nr ns) (hm : D 75 3 = nI md) (hmd : md < 256) {v : Int32} (k1 : ((∀ j, j < nr → v ≠ nI j) ∨ ∃ r, r < nr ∧ v = nI r ∧ ¬ D 60 r ≤ 3) → κ (some (.long (-1000000000000))) (N, S, I, J, Q)) (k2 : ∀ r, r < nr → v = nI r → D 60 r ≤ 3 → ∀ I' J', QN I I' J J' D nv nr ns md → κ (some (.long (amt D (gM J' md) r))) (N, S, I', J', Q)) : CT E1 M_X12_amount [.ref 54, .int v] (N, S, I, J, Q) κ := by
  refine ofSP mk_X12_amount (Nat.le_of_ble_eq_true rfl) (L := [.ref 54, .int _]) rfl ?_
  refine s_aload_n (pc' := 1) dX12_amount_0 rfl rfl ?_
  refine s_iload_n (pc' := 2) dX12_amount_1 rfl rfl ?_
  refine s_callV (pc' := 5) (As := [.int _]) dX12_amount_2 rfl mk_X12_isRule ml_X12_190 im_X12_isRule se_X12_X12_X12_isRule sh_54 (by decide) rfl rfl rfl ⟨Nat.le_of_ble_eq_true rfl, Nat.le_of_ble_eq_true rfl, Nat.le_of_ble_eq_true rfl, Nat.le_of_ble_eq_true rfl⟩ (Nat.le_of_ble_eq_true rfl) (c_X12_isRule (M.2.1.rn M.1) (by have := M.2.1.nr; omega) (fun j2 hj2 e2 => ?_) (fun n2 => ?_))
  · subst e2
    refine s_ifeqF (pc' := 8) (tgt := 18) dX12_amount_5 (by decide) rfl (by decide) ?_
    refine s_aload_n (pc' := 9) dX12_amount_8 rfl rfl ?_
    refine s_getS (pc' := 12) (b := 60) dX12_amount_9 rfl (by decide) rfl (by decide) fa_X12_25_12 rfl rfl ?_
    refine s_iload_n (pc' := 13) dX12_amount_12 rfl rfl ?_
    refine t_iald (pc' := 14) dX12_amount_13 rfl sh_60 rfl (by have := M.2.1.nr; omega) ?_
    refine s_iconst (pc' := 15) (v := 3) dX12_amount_14 rfl (by decide) ?_
    refine s_icmple (pc' := 18) (tgt := 22) dX12_amount_15 (by decide) rfl (fun c15 => ?_) (fun c15 => ?_)
    · refine s_aload_n (pc' := 23) dX12_amount_22 rfl rfl ?_
      refine s_callV (pc' := 26) (As := []) dX12_amount_23 rfl mk_X12_layNow ml_X12_284 im_X12_layNow se_X12_X12_X12_layNow sh_54 (by decide) rfl rfl rfl ⟨Nat.le_of_ble_eq_true rfl, Nat.le_of_ble_eq_true rfl, Nat.le_of_ble_eq_true rfl, Nat.le_of_ble_eq_true rfl⟩ (Nat.le_of_ble_eq_true rfl) (c_X12_layNow M hm hmd (fun I1 J1 h1 => ?_))
      refine s_aload_n (pc' := 27) dX12_amount_26 rfl rfl ?_
      refine s_iload_n (pc' := 28) dX12_amount_27 rfl rfl ?_
      refine s_callV (pc' := 31) (As := [.int _]) dX12_amount_28 rfl mk_X12_amountOf ml_X12_241 im_X12_amountOf se_X12_X12_X12_amountOf sh_54 (by decide) rfl rfl rfl ⟨Nat.le_of_ble_eq_true rfl, Nat.le_of_ble_eq_true rfl, Nat.le_of_ble_eq_true rfl, Nat.le_of_ble_eq_true rfl⟩ (Nat.le_of_ble_eq_true rfl) (c_X12_amountOf h1.2.1.1 (r := _) (by omega) ?_)
      exact s_lret dX12_amount_31 rfl (by decide) (by decide) (k2 j2 hj2 rfl (by rw [← M.1 60 (by decide) (by decide)]; exact c15) I1 J1 h1)
    · refine s_ldc2 (pc' := 21) dX12_amount_18 rfl kl_X12_290 ?_
      exact s_lret dX12_amount_21 rfl (by decide) (by decide) (k1 (Or.inr ⟨j2, hj2, rfl, by rw [← M.1 60 (by decide) (by decide)]; exact c15⟩))
  · refine s_ifeqT (tgt := 18) dX12_amount_5 (by decide) (by decide) ?_
    refine s_ldc2 (pc' := 21) dX12_amount_18 rfl kl_X12_290 ?_
    exact s_lret dX12_amount_21 rfl (by decide) (by decide) (k1 (Or.inl n2))
