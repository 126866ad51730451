theorem wn_iff {a m : Nat} : wn a m ↔ ∀ i, i < 32 → bt (nI m) i = true → bt (nI a) i = true := sub_bits
theorem lf_8 {P : Nat → Bool} (h : ∀ i, i < 8 → P i = false) : lf P 8 = 8 := by
  rcases Nat.lt_or_ge (lf P 8) 8 with z | z
  · have := (lf_spec P 8).2 z
    rw [h _ z] at this; cases this
  · have := lf_le P 8; omega
theorem nx_bit {go b c : Nat} (hc : c < 32) : bt (nI go &&& (nI b ^^^ (-1))) c = (bt (nI go) c && !bt (nI b) c) := by rw [b_and, bt_not hc]
theorem wib_bt : ∀ b, b < 256 → ∀ c, c < 8 → ∀ i, i < 32 → bt (nI (wib b c)) i = (bt (nI b) i || decide (i = c)) := fun b hb c hc i hi => by
  rw [← (wib_ix b hb c hc).1, b_or, bt_one (by omega) hi]
theorem wib_pc : ∀ b, b < 256 → ∀ c, c < 8 → bt (nI b) c = false → pcn (nI (wib b c)) = pcn (nI b) + 1 := by decide +kernel
theorem nx_true {go b c : Nat} {f : Nat → Bool} (hc : c < 32) (h : nxB go b f c = true) : bt (nI go) c = true ∧ bt (nI b) c = false ∧ f (wib b c) = true := by
  unfold nxB at h
  rw [Bool.and_eq_true, nx_bit hc, Bool.and_eq_true] at h
  refine ⟨h.1.1, ?_, h.2⟩
  cases hx : bt (nI b) c with
  | false => rfl
  | true => rw [hx] at h; exact absurd h.1.2 (by decide)
section WY
variable {D : Nat → Nat → Int32} {nv nr ns go b k : Nat}
theorem ldF_st : ∀ n, k ≤ n → n ≤ 256 → 256 - k ≤ b → b < 256 → ldF D nv nr ns go n b = ldF D nv nr ns go k b
  | 0, h, _, _, _ => by rw [show k = 0 by omega]
  | n + 1, h, h2, h3, h4 => by
    by_cases e : k = n + 1
    · rw [e]
    · rw [ldF_o (by omega)]; exact ldF_st n (by omega) (by omega) h3 h4
theorem nx_cg {f g : Nat → Bool} (hb : b < 256) (h : ∀ c, c < 8 → bt (nI b) c = false → f (wib b c) = g (wib b c)) : ∀ c, c < 8 → nxB go b f c = nxB go b g c := fun c hc => by
  unfold nxB
  rw [nx_bit (by omega)]
  cases hx : bt (nI b) c with
  | true => simp
  | false => rw [h c hc hx]
/-- the marks when all is done -/
noncomputable def LQ (D : Nat → Nat → Int32) (nv nr ns go b : Nat) : Bool := ldF D nv nr ns go 256 b
theorem LQ_val (hb : b < 256) : LQ D nv nr ns go b = (decide (nI b &&& (nI go ^^^ (-1)) = 0) && ((decide (b = go) || decide (lf (nxB go b (LQ D nv nr ns go)) 8 < 8)) && LW D nv nr ns b)) := by
  have e1 : LQ D nv nr ns go b = ldF D nv nr ns go (255 - b + 1) b := ldF_st 256 (by omega) (Nat.le_refl _) (by omega) hb
  have e2 := ldF_s (D := D) (nv := nv) (nr := nr) (ns := ns) (go := go) (k := 255 - b) (by omega)
  rw [show 255 - (255 - b) = b by omega] at e2
  have e3 : lf (nxB go b (ldF D nv nr ns go (255 - b))) 8 = lf (nxB go b (LQ D nv nr ns go)) 8 := lf_congr 8 (nx_cg hb (fun c hc hx => by
    have h1 := wib_ix b hb c hc
    have h2 := h1.2.2 hx
    exact (ldF_st (k := 255 - b) 256 (by omega) (Nat.le_refl _) (by omega) (by omega)).symm))
  rw [e1, e2, e3]
/-- the sets on the way -/
noncomputable def atq (D : Nat → Nat → Int32) (nv nr ns go : Nat) : Nat → Nat
  | 0 => 0
  | k + 1 => wib (atq D nv nr ns go k) (lf (nxB go (atq D nv nr ns go k) (LQ D nv nr ns go)) 8)
theorem atq_s : atq D nv nr ns go (k + 1) = wib (atq D nv nr ns go k) (lf (nxB go (atq D nv nr ns go k) (LQ D nv nr ns go)) 8) := rfl
theorem way_st (hb : b < 256) (hq : LQ D nv nr ns go b = true) (hp : pcn (nI b) < pcn (nI go)) : lf (nxB go b (LQ D nv nr ns go)) 8 < 8 := by
  rw [LQ_val hb] at hq
  simp only [Bool.and_eq_true, Bool.or_eq_true, decide_eq_true_eq] at hq
  rcases hq.2.1 with z | z
  · rw [z] at hp; omega
  · exact z
theorem way_nx (hb : b < 256) (h : lf (nxB go b (LQ D nv nr ns go)) 8 < 8) : wib b (lf (nxB go b (LQ D nv nr ns go)) 8) < 256 ∧ pcn (nI (wib b (lf (nxB go b (LQ D nv nr ns go)) 8))) = pcn (nI b) + 1 ∧ LQ D nv nr ns go (wib b (lf (nxB go b (LQ D nv nr ns go)) 8)) = true := by
  have hp := (lf_spec (nxB go b (LQ D nv nr ns go)) 8).2 h
  generalize lf (nxB go b (LQ D nv nr ns go)) 8 = c at *
  obtain ⟨-, h2, h3⟩ := nx_true (by omega) hp
  exact ⟨(wib_ix b hb c h).2.1, wib_pc b hb c h h2, h3⟩
theorem way_ex (h0 : LQ D nv nr ns go 0 = true) {n : Nat} (hn : n < pcn (nI go)) : ∀ k, k ≤ n → (atq D nv nr ns go k < 256 ∧ pcn (nI (atq D nv nr ns go k)) = k ∧ LQ D nv nr ns go (atq D nv nr ns go k) = true) ∧ lf (nxB go (atq D nv nr ns go k) (LQ D nv nr ns go)) 8 < 8
  | 0, _ => by
    have e : pcn (nI 0) = 0 := by decide
    have a0 : atq D nv nr ns go 0 = 0 := rfl
    rw [a0]
    exact ⟨⟨by decide, e, h0⟩, way_st (by decide) h0 (by rw [e]; omega)⟩
  | k + 1, hk => by
    obtain ⟨⟨a1, a2, a3⟩, a4⟩ := way_ex h0 hn k (by omega)
    obtain ⟨b1, b2, b3⟩ := way_nx a1 a4
    rw [atq_s]
    rw [a2] at b2
    exact ⟨⟨b1, b2, b3⟩, way_st b1 b3 (by rw [b2]; omega)⟩
end WY
theorem XB.s41 {N : Nat} {S : Nat → Nat × Nat} {I : Nat → Nat → Int32} {J : Nat → Nat → Int64} {Q : Nat → Nat → Option Nat} {D : Nat → Nat → Int32} {nv nr ns e j : Nat} {y : Int32} {ad td : Nat → Nat} (h : XB N S I J Q D nv nr ns ad td e) : XB N S (up2 I 41 j y) J Q D nv nr ns ad td e ∧ WQ I (up2 I 41 j y) J J Q Q :=
  h.side (fun a _ h2 => up2_o h2) (fun _ _ => up2_d (by decide)) (fun _ _ _ => rfl)
theorem wbi_wi {b c : Nat} (hb : b < 256) (hc : c < 8) : wbi (nI b) (nI c) 1 = nI (wib b c) := by rw [wbi_1 (by decide)]; exact (wib_ix b hb c hc).1
theorem l_X1_leastStep {N : Nat} {S : Nat → Nat × Nat} {I : Nat → Nat → Int32} {J : Nat → Nat → Int64} {Q : Nat → Nat → Option Nat} {κ : Option Value → HP → Prop} {go b : Nat} {ld : Nat → Bool} (hb : b < 256) (hR : ∀ c, c < 8 → bt (nI go &&& (nI b ^^^ (-1))) c = true → I 41 (wib b c) = b2 (ld (wib b c))) (hk : κ (some (.int (lso (lf (nxB go b ld) 8)))) (N, S, I, J, Q)) : ∀ d : Nat, ∀ k, k + d = 8 → (∀ i, i < k → nxB go b ld i = false) → SP E1 M_X1_leastStep κ 2 [.ref 23, .int (nI b), .int (nI go), .int (nI k)] [] (N, S, I, J, Q) 0 0 := by
  intro d
  induction d with
  | zero =>
    intro k hd hn
    obtain rfl : k = 8 := by omega
    refine s_iload_n (pc' := 3) dX1_leastStep_2 rfl rfl ?_
    refine s_bipush (pc' := 5) (v := 8) dX1_leastStep_3 rfl (by decide) ?_
    refine s_icmpgeT (tgt := 42) dX1_leastStep_5 (by decide) (by decide) ?_
    refine s_iconst (pc' := 43) (v := -1) dX1_leastStep_42 rfl (by decide) ?_
    exact s_iret dX1_leastStep_43 rfl (by decide) (by decide) (by rw [lf_8 hn] at hk; exact hk)
  | succ d ih =>
    intro k hd hn
    refine s_iload_n (pc' := 3) dX1_leastStep_2 rfl rfl ?_
    refine s_bipush (pc' := 5) (v := 8) dX1_leastStep_3 rfl (by decide) ?_
    refine s_icmpgeF (pc' := 8) (tgt := 42) dX1_leastStep_5 (by decide) rfl (nI_ge (b := 8) (by omega) (by decide)) ?_
    refine s_iload_n (pc' := 9) dX1_leastStep_8 rfl rfl ?_
    refine s_iload_n (pc' := 10) dX1_leastStep_9 rfl rfl ?_
    refine s_iconst (pc' := 11) (v := -1) dX1_leastStep_10 rfl (by decide) ?_
    refine s_ixor (pc' := 12) dX1_leastStep_11 rfl ?_
    refine s_iand (pc' := 13) dX1_leastStep_12 rfl ?_
    refine s_iload_n (pc' := 14) dX1_leastStep_13 rfl rfl ?_
    refine s_callSN (pc' := 17) (As := [.int _, .int _]) dX1_leastStep_14 rfl mk_X11_hasBit mn_X1_75 sm_X11_hasBit rfl rfl ⟨Nat.le_of_ble_eq_true rfl, Nat.le_of_ble_eq_true rfl, Nat.le_of_ble_eq_true rfl, Nat.le_of_ble_eq_true rfl⟩ (Nat.le_of_ble_eq_true rfl) (e_hasBit (j := _) rfl (by omega) (fun b14 => ?_) (fun b14 => ?_))
    · refine s_ifeqF (pc' := 20) (tgt := 36) dX1_leastStep_17 (by decide) rfl (by decide) ?_
      refine s_aload_n (pc' := 21) dX1_leastStep_20 rfl rfl ?_
      refine s_getS (pc' := 24) (b := 41) dX1_leastStep_21 rfl (by decide) rfl (by decide) fa_X1_42_1 rfl rfl ?_
      refine s_iload_n (pc' := 25) dX1_leastStep_24 rfl rfl ?_
      refine s_iload_n (pc' := 26) dX1_leastStep_25 rfl rfl ?_
      refine s_iconst (pc' := 27) (v := 1) dX1_leastStep_26 rfl (by decide) ?_
      refine s_callSN (pc' := 30) (As := [.int _, .int _, .int _]) dX1_leastStep_27 rfl mk_X11_withBit mn_X1_71 sm_X11_withBit rfl rfl ⟨Nat.le_of_ble_eq_true rfl, Nat.le_of_ble_eq_true rfl, Nat.le_of_ble_eq_true rfl, Nat.le_of_ble_eq_true rfl⟩ (Nat.le_of_ble_eq_true rfl) (c_X11_withBit ?_)
      rw [wbi_wi hb (by omega)]
      have hw := (wib_ix b hb k (by omega)).2.1
      refine t_zald (pc' := 31) dX1_leastStep_30 rfl sh_41 rfl hw ?_
      refine s_ifeq (pc' := 34) (tgt := 36) dX1_leastStep_31 (by decide) rfl (fun c31 => ?_) (fun c31 => ?_)
      · refine t_iinc (pc' := 39) (v := nI (k + 1)) (L' := [.ref 23, .int _, .int _, .int _]) dX1_leastStep_36 rfl rfl (nI_inc k) rfl ?_
        refine s_goto (tgt := 2) dX1_leastStep_39 (by decide) ?_
        exact ih (k + 1) (by omega) (fun i hi => by
          by_cases e : i = k
          · subst e; unfold nxB; rw [hR i (by omega) b14] at c31; rw [b2_0 c31, Bool.and_false]
          · exact hn i (by omega))
      · refine s_iload_n (pc' := 35) dX1_leastStep_34 rfl rfl ?_
        exact s_iret dX1_leastStep_35 rfl (by decide) (by decide) (by rw [hR k (by omega) b14] at c31; have e := lf_eq (P := nxB go b ld) (n := 8) (j := k) (by omega) (by unfold nxB; rw [b14, b2_1 c31]; rfl) hn; rw [e] at hk; unfold lso at hk; rw [if_pos (by omega)] at hk; exact hk)
    · refine s_ifeqT (tgt := 36) dX1_leastStep_17 (by decide) (by decide) ?_
      refine t_iinc (pc' := 39) (v := nI (k + 1)) (L' := [.ref 23, .int _, .int _, .int _]) dX1_leastStep_36 rfl rfl (nI_inc k) rfl ?_
      refine s_goto (tgt := 2) dX1_leastStep_39 (by decide) ?_
      exact ih (k + 1) (by omega) (fun i hi => by
        by_cases e : i = k
        · subst e; unfold nxB; rw [b14]; rfl
        · exact hn i (by omega))
theorem c_X1_leastStep {N : Nat} {S : Nat → Nat × Nat} {I : Nat → Nat → Int32} {J : Nat → Nat → Int64} {Q : Nat → Nat → Option Nat} {κ : Option Value → HP → Prop} {go b : Nat} {ld : Nat → Bool} (hb : b < 256) (hR : ∀ c, c < 8 → bt (nI go &&& (nI b ^^^ (-1))) c = true → I 41 (wib b c) = b2 (ld (wib b c))) (hk : κ (some (.int (lso (lf (nxB go b ld) 8)))) (N, S, I, J, Q)) : CT E1 M_X1_leastStep [.ref 23, .int (nI b), .int (nI go)] (N, S, I, J, Q) κ := by
  refine ofSP mk_X1_leastStep (Nat.le_of_ble_eq_true rfl) (L := [.ref 23, .int _, .int _, .retAddr _]) rfl ?_
  refine s_iconst (pc' := 1) (v := 0) dX1_leastStep_0 rfl (by decide) ?_
  refine t_istore_n (pc' := 2) (L' := [.ref 23, .int _, .int _, .int _]) dX1_leastStep_1 rfl (Nat.le_of_ble_eq_true rfl) rfl ?_
  exact l_X1_leastStep hb hR hk 8 0 rfl (fun i hi => by omega)
theorem lso_n {n : Nat} (h : lso n = -1) : ¬ n < 8 := fun z => by unfold lso at h; rw [if_pos z] at h; exact absurd h.symm (m1_ne (by omega))
theorem lso_s {n : Nat} (h : lso n ≠ -1) : n < 8 := by
  by_cases z : n < 8
  · exact z
  · unfold lso at h; rw [if_neg z] at h; exact absurd rfl h
theorem l_X1_markLeading {N : Nat} {S : Nat → Nat × Nat} {I : Nat → Nat → Int32} {J : Nat → Nat → Int64} {Q : Nat → Nat → Option Nat} {κ : Option Value → HP → Prop} {D : Nat → Nat → Int32} {nv nr ns : Nat} {ad td : Nat → Nat} {e : Nat} (X : XB N S I J Q D nv nr ns ad td e){go : Nat} (hgo : go < 256) (hk : ∀ I' J' Q', WQ I I' J J' Q Q' → XB N S I' J' Q' D nv nr ns ad td e → (∀ b, b < 256 → I' 41 b = b2 (LQ D nv nr ns go b)) → κ none (N, S, I', J', Q')) : ∀ d : Nat, ∀ k I' J' Q', k + d = 256 → WQ I I' J J' Q Q' → XB N S I' J' Q' D nv nr ns ad td e → LDR I' D nv nr ns go k → SP E1 M_X1_markLeading κ 4 [.ref 23, .int (nI go), .int (nI (256 - k) - 1), .retAddr 0] [] (N, S, I', J', Q') 0 0 := by
  intro d
  induction d with
  | zero =>
    intro k I' J' Q' hd q X2 F
    obtain rfl : k = 256 := by omega
    refine s_iload_n (pc' := 5) dX1_markLeading_4 rfl rfl ?_
    refine s_ifltT (tgt := 66) dX1_markLeading_5 (by decide) (by decide) ?_
    exact s_vret dX1_markLeading_66 rfl (by decide) (by decide) (hk I' J' Q' q X2 (fun b hb => F b (by omega) hb))
  | succ d ih =>
    intro k I' J' Q' hd q X2 F
    rw [show 256 - k = (255 - k) + 1 by omega, nI_pred]
    refine s_iload_n (pc' := 5) dX1_markLeading_4 rfl rfl ?_
    refine s_ifltF (pc' := 8) (tgt := 66) dX1_markLeading_5 (by decide) rfl (nI_pos (by omega)) ?_
    refine s_iload_n (pc' := 9) dX1_markLeading_8 rfl rfl ?_
    refine s_iload_n (pc' := 10) dX1_markLeading_9 rfl rfl ?_
    refine s_iconst (pc' := 11) (v := -1) dX1_markLeading_10 rfl (by decide) ?_
    refine s_ixor (pc' := 12) dX1_markLeading_11 rfl ?_
    refine s_iand (pc' := 13) dX1_markLeading_12 rfl ?_
    refine s_ifne (pc' := 16) (tgt := 20) dX1_markLeading_13 (by decide) rfl (fun c13 => ?_) (fun c13 => ?_)
    · refine s_iconst (pc' := 21) (v := 0) dX1_markLeading_20 rfl (by decide) ?_
      refine t_istore_n (pc' := 22) (L' := [.ref 23, .int _, .int _, .int _]) dX1_markLeading_21 rfl (Nat.le_of_ble_eq_true rfl) rfl ?_
      refine s_aload_n (pc' := 23) dX1_markLeading_22 rfl rfl ?_
      refine s_getS (pc' := 26) (b := 41) dX1_markLeading_23 rfl (by decide) rfl (by decide) fa_X1_42_1 rfl rfl ?_
      refine s_iload_n (pc' := 27) dX1_markLeading_26 rfl rfl ?_
      refine s_iload_n (pc' := 28) dX1_markLeading_27 rfl rfl ?_
      refine s_ifeqT (tgt := 58) dX1_markLeading_28 (by decide) (by decide) ?_
      refine s_iconst (pc' := 59) (v := 0) dX1_markLeading_58 rfl (by decide) ?_
      refine t_zast (pc' := 60) dX1_markLeading_59 rfl sh_41 rfl (by omega) rfl ?_
      refine t_iinc (pc' := 63) (v := nI (255 - k) - 1) (L' := [.ref 23, .int _, .int _, .int _]) dX1_markLeading_60 rfl rfl (dec1 _) rfl ?_
      refine s_goto (tgt := 4) dX1_markLeading_63 (by decide) ?_
      refine s_fg [3] (by rw [show 256 - (k + 1) = 255 - k by omega]; rfl) (ih (k + 1) _ _ _ (by omega) (q.tr X2.s41.2) X2.s41.1 (F.st (by omega) rfl ?_))
      rw [ldF_s (by omega)]
      rw [decide_eq_false c13]; rfl
    · refine s_iconst (pc' := 17) (v := 1) dX1_markLeading_16 rfl (by decide) ?_
      refine s_goto (tgt := 21) dX1_markLeading_17 (by decide) ?_
      refine t_istore_n (pc' := 22) (L' := [.ref 23, .int _, .int _, .int _]) dX1_markLeading_21 rfl (Nat.le_of_ble_eq_true rfl) rfl ?_
      refine s_aload_n (pc' := 23) dX1_markLeading_22 rfl rfl ?_
      refine s_getS (pc' := 26) (b := 41) dX1_markLeading_23 rfl (by decide) rfl (by decide) fa_X1_42_1 rfl rfl ?_
      refine s_iload_n (pc' := 27) dX1_markLeading_26 rfl rfl ?_
      refine s_iload_n (pc' := 28) dX1_markLeading_27 rfl rfl ?_
      refine s_ifeqF (pc' := 31) (tgt := 58) dX1_markLeading_28 (by decide) rfl (by decide) ?_
      refine s_iload_n (pc' := 32) dX1_markLeading_31 rfl rfl ?_
      refine s_iload_n (pc' := 33) dX1_markLeading_32 rfl rfl ?_
      refine s_icmpeq (pc' := 36) (tgt := 46) dX1_markLeading_33 (by decide) rfl (fun c33 => ?_) (fun c33 => ?_)
      · refine s_aload_n (pc' := 47) dX1_markLeading_46 rfl rfl ?_
        refine s_iload_n (pc' := 48) dX1_markLeading_47 rfl rfl ?_
        refine s_callV (pc' := 51) (As := [.int _]) dX1_markLeading_48 rfl mk_X1_isLawful ml_X1_79 im_X1_isLawful se_X1_X1_X1_isLawful sh_23 (by decide) rfl rfl rfl ⟨Nat.le_of_ble_eq_true rfl, Nat.le_of_ble_eq_true rfl, Nat.le_of_ble_eq_true rfl, Nat.le_of_ble_eq_true rfl⟩ (Nat.le_of_ble_eq_true rfl) (c_X1_isLawful X2 (b := 255 - k) (by omega) (fun l48 I1 J1 Q1 w1 X1 => ?_) (fun l48 I1 J1 Q1 w1 X1 => ?_))
        · refine s_ifeqF (pc' := 54) (tgt := 58) dX1_markLeading_51 (by decide) rfl (by decide) ?_
          refine s_iconst (pc' := 55) (v := 1) dX1_markLeading_54 rfl (by decide) ?_
          refine s_goto (tgt := 59) dX1_markLeading_55 (by decide) ?_
          refine t_zast (pc' := 60) dX1_markLeading_59 rfl sh_41 rfl (by omega) rfl ?_
          refine t_iinc (pc' := 63) (v := nI (255 - k) - 1) (L' := [.ref 23, .int _, .int _, .int _]) dX1_markLeading_60 rfl rfl (dec1 _) rfl ?_
          refine s_goto (tgt := 4) dX1_markLeading_63 (by decide) ?_
          refine s_fg [3] (by rw [show 256 - (k + 1) = 255 - k by omega]; rfl) (ih (k + 1) _ _ _ (by omega) ((q.tr w1.q).tr X1.s41.2) X1.s41.1 (F.st (by omega) (w1.1 41 (by decide)) ?_))
          rw [ldF_s (by omega)]
          rw [decide_eq_true (show nI (255 - k) &&& (nI go ^^^ (-1)) = 0 by simpa using c13), Bool.true_and]
          rw [decide_eq_true ((nI_eq (by omega) (by omega)).mp c33), l48]; rfl
        · refine s_ifeqT (tgt := 58) dX1_markLeading_51 (by decide) (by decide) ?_
          refine s_iconst (pc' := 59) (v := 0) dX1_markLeading_58 rfl (by decide) ?_
          refine t_zast (pc' := 60) dX1_markLeading_59 rfl sh_41 rfl (by omega) rfl ?_
          refine t_iinc (pc' := 63) (v := nI (255 - k) - 1) (L' := [.ref 23, .int _, .int _, .int _]) dX1_markLeading_60 rfl rfl (dec1 _) rfl ?_
          refine s_goto (tgt := 4) dX1_markLeading_63 (by decide) ?_
          refine s_fg [3] (by rw [show 256 - (k + 1) = 255 - k by omega]; rfl) (ih (k + 1) _ _ _ (by omega) ((q.tr w1.q).tr X1.s41.2) X1.s41.1 (F.st (by omega) (w1.1 41 (by decide)) ?_))
          rw [ldF_s (by omega)]
          rw [decide_eq_true (show nI (255 - k) &&& (nI go ^^^ (-1)) = 0 by simpa using c13), Bool.true_and]
          rw [decide_eq_true ((nI_eq (by omega) (by omega)).mp c33), l48]; rfl
      · refine s_aload_n (pc' := 37) dX1_markLeading_36 rfl rfl ?_
        refine s_iload_n (pc' := 38) dX1_markLeading_37 rfl rfl ?_
        refine s_iload_n (pc' := 39) dX1_markLeading_38 rfl rfl ?_
        refine s_callV (pc' := 42) (As := [.int _, .int _]) dX1_markLeading_39 rfl mk_X1_leastStep ml_X1_104 im_X1_leastStep se_X1_X1_X1_leastStep sh_23 (by decide) rfl rfl rfl ⟨Nat.le_of_ble_eq_true rfl, Nat.le_of_ble_eq_true rfl, Nat.le_of_ble_eq_true rfl, Nat.le_of_ble_eq_true rfl⟩ (Nat.le_of_ble_eq_true rfl) (c_X1_leastStep (go := go) (b := 255 - k) (ld := ldF D nv nr ns go k) (by omega) (fun c hc hx => by
  rw [nx_bit (by omega), Bool.and_eq_true] at hx
  have hw := wib_ix (255 - k) (by omega) c hc
  have := hw.2.2 (by simpa using hx.2)
  exact F _ (by omega) hw.2.1) ?_)
        refine s_iconst (pc' := 43) (v := -1) dX1_markLeading_42 rfl (by decide) ?_
        refine s_icmpeq (pc' := 46) (tgt := 58) dX1_markLeading_43 (by decide) rfl (fun c43 => ?_) (fun c43 => ?_)
        · refine s_iconst (pc' := 59) (v := 0) dX1_markLeading_58 rfl (by decide) ?_
          refine t_zast (pc' := 60) dX1_markLeading_59 rfl sh_41 rfl (by omega) rfl ?_
          refine t_iinc (pc' := 63) (v := nI (255 - k) - 1) (L' := [.ref 23, .int _, .int _, .int _]) dX1_markLeading_60 rfl rfl (dec1 _) rfl ?_
          refine s_goto (tgt := 4) dX1_markLeading_63 (by decide) ?_
          refine s_fg [3] (by rw [show 256 - (k + 1) = 255 - k by omega]; rfl) (ih (k + 1) _ _ _ (by omega) (q.tr X2.s41.2) X2.s41.1 (F.st (by omega) rfl ?_))
          rw [ldF_s (by omega)]
          rw [decide_eq_true (show nI (255 - k) &&& (nI go ^^^ (-1)) = 0 by simpa using c13), Bool.true_and]
          rw [decide_eq_false (fun z => c33 (by rw [z])), Bool.false_or]
          rw [decide_eq_false (lso_n c43)]; rfl
        · refine s_aload_n (pc' := 47) dX1_markLeading_46 rfl rfl ?_
          refine s_iload_n (pc' := 48) dX1_markLeading_47 rfl rfl ?_
          refine s_callV (pc' := 51) (As := [.int _]) dX1_markLeading_48 rfl mk_X1_isLawful ml_X1_79 im_X1_isLawful se_X1_X1_X1_isLawful sh_23 (by decide) rfl rfl rfl ⟨Nat.le_of_ble_eq_true rfl, Nat.le_of_ble_eq_true rfl, Nat.le_of_ble_eq_true rfl, Nat.le_of_ble_eq_true rfl⟩ (Nat.le_of_ble_eq_true rfl) (c_X1_isLawful X2 (b := 255 - k) (by omega) (fun l48 I1 J1 Q1 w1 X1 => ?_) (fun l48 I1 J1 Q1 w1 X1 => ?_))
          · refine s_ifeqF (pc' := 54) (tgt := 58) dX1_markLeading_51 (by decide) rfl (by decide) ?_
            refine s_iconst (pc' := 55) (v := 1) dX1_markLeading_54 rfl (by decide) ?_
            refine s_goto (tgt := 59) dX1_markLeading_55 (by decide) ?_
            refine t_zast (pc' := 60) dX1_markLeading_59 rfl sh_41 rfl (by omega) rfl ?_
            refine t_iinc (pc' := 63) (v := nI (255 - k) - 1) (L' := [.ref 23, .int _, .int _, .int _]) dX1_markLeading_60 rfl rfl (dec1 _) rfl ?_
            refine s_goto (tgt := 4) dX1_markLeading_63 (by decide) ?_
            refine s_fg [3] (by rw [show 256 - (k + 1) = 255 - k by omega]; rfl) (ih (k + 1) _ _ _ (by omega) ((q.tr w1.q).tr X1.s41.2) X1.s41.1 (F.st (by omega) (w1.1 41 (by decide)) ?_))
            rw [ldF_s (by omega)]
            rw [decide_eq_true (show nI (255 - k) &&& (nI go ^^^ (-1)) = 0 by simpa using c13), Bool.true_and]
            rw [decide_eq_false (fun z => c33 (by rw [z])), Bool.false_or]
            rw [decide_eq_true (lso_s c43), l48]; rfl
          · refine s_ifeqT (tgt := 58) dX1_markLeading_51 (by decide) (by decide) ?_
            refine s_iconst (pc' := 59) (v := 0) dX1_markLeading_58 rfl (by decide) ?_
            refine t_zast (pc' := 60) dX1_markLeading_59 rfl sh_41 rfl (by omega) rfl ?_
            refine t_iinc (pc' := 63) (v := nI (255 - k) - 1) (L' := [.ref 23, .int _, .int _, .int _]) dX1_markLeading_60 rfl rfl (dec1 _) rfl ?_
            refine s_goto (tgt := 4) dX1_markLeading_63 (by decide) ?_
            refine s_fg [3] (by rw [show 256 - (k + 1) = 255 - k by omega]; rfl) (ih (k + 1) _ _ _ (by omega) ((q.tr w1.q).tr X1.s41.2) X1.s41.1 (F.st (by omega) (w1.1 41 (by decide)) ?_))
            rw [ldF_s (by omega)]
            rw [decide_eq_true (show nI (255 - k) &&& (nI go ^^^ (-1)) = 0 by simpa using c13), Bool.true_and]
            rw [decide_eq_false (fun z => c33 (by rw [z])), Bool.false_or]
            rw [decide_eq_true (lso_s c43), l48]; rfl
theorem c_X1_markLeading {N : Nat} {S : Nat → Nat × Nat} {I : Nat → Nat → Int32} {J : Nat → Nat → Int64} {Q : Nat → Nat → Option Nat} {κ : Option Value → HP → Prop} {D : Nat → Nat → Int32} {nv nr ns : Nat} {ad td : Nat → Nat} {e : Nat} (X : XB N S I J Q D nv nr ns ad td e){go : Nat} (hgo : go < 256) (hk : ∀ I' J' Q', WQ I I' J J' Q Q' → XB N S I' J' Q' D nv nr ns ad td e → (∀ b, b < 256 → I' 41 b = b2 (LQ D nv nr ns go b)) → κ none (N, S, I', J', Q')) : CT E1 M_X1_markLeading [.ref 23, .int (nI go)] (N, S, I, J, Q) κ := by
  refine ofSP mk_X1_markLeading (Nat.le_of_ble_eq_true rfl) (L := [.ref 23, .int _, .retAddr _, .retAddr _]) rfl ?_
  refine s_sipush (pc' := 3) (v := 255) dX1_markLeading_0 rfl (by decide) ?_
  refine t_istore_n (pc' := 4) (L' := [.ref 23, .int _, .int _, .retAddr _]) dX1_markLeading_3 rfl (Nat.le_of_ble_eq_true rfl) rfl ?_
  exact l_X1_markLeading X hgo hk 256 0 I J Q rfl (WW.rf.q) X (fun b h1 h2 => by omega)
theorem l_X1_stepOfWay {N : Nat} {S : Nat → Nat × Nat} {I : Nat → Nat → Int32} {J : Nat → Nat → Int64} {Q : Nat → Nat → Option Nat} {κ : Option Value → HP → Prop} {D : Nat → Nat → Int32} {nv nr ns go n : Nat} (hgo : go < 256) (hn : n < pcn (nI go)) (F : ∀ b, b < 256 → I 41 b = b2 (LQ D nv nr ns go b)) (h0 : LQ D nv nr ns go 0 = true) (hk : κ (some (.int (nI (lf (nxB go (atq D nv nr ns go n) (LQ D nv nr ns go)) 8)))) (N, S, I, J, Q)) : ∀ d : Nat, ∀ k, k + d = n → SP E1 M_X1_stepOfWay κ 26 [.ref 23, .int (nI go), .int (nI n), .int (nI (atq D nv nr ns go k)), .int (nI (lf (nxB go (atq D nv nr ns go k) (LQ D nv nr ns go)) 8)), .int (nI k)] [] (N, S, I, J, Q) 0 0 := by
  intro d
  induction d with
  | zero =>
    intro k hd
    obtain rfl : k = n := by omega
    have hp : pcn (nI go) ≤ 10 := cntB_le _ _
    refine s_iload (pc' := 28) dX1_stepOfWay_26 rfl rfl ?_
    refine s_iload_n (pc' := 29) dX1_stepOfWay_28 rfl rfl ?_
    refine s_icmpgeT (tgt := 60) dX1_stepOfWay_29 (by decide) (nI_le (Nat.le_refl _) (by omega)) ?_
    refine s_iload (pc' := 62) dX1_stepOfWay_60 rfl rfl ?_
    exact s_iret dX1_stepOfWay_62 rfl (by decide) (by decide) hk
  | succ d ih =>
    intro k hd
    have hw := way_ex h0 hn k (by omega)
    have hw1 := way_ex h0 hn (k + 1) (by omega)
    refine s_iload (pc' := 28) dX1_stepOfWay_26 rfl rfl ?_
    refine s_iload_n (pc' := 29) dX1_stepOfWay_28 rfl rfl ?_
    refine s_icmpgeF (pc' := 32) (tgt := 60) dX1_stepOfWay_29 (by decide) rfl (nI_ge (by omega) (by have : pcn (nI go) ≤ 10 := cntB_le _ _; omega)) ?_
    refine s_iload (pc' := 34) dX1_stepOfWay_32 rfl rfl ?_
    refine s_iconst (pc' := 35) (v := -1) dX1_stepOfWay_34 rfl (by decide) ?_
    refine s_icmpeqF (pc' := 38) (tgt := 60) dX1_stepOfWay_35 (by decide) rfl (fun z => m1_ne (k := (lf (nxB go (atq D nv nr ns go k) (LQ D nv nr ns go)) 8)) (by omega) z.symm) ?_
    refine s_iload_n (pc' := 39) dX1_stepOfWay_38 rfl rfl ?_
    refine s_iload (pc' := 41) dX1_stepOfWay_39 rfl rfl ?_
    refine s_iconst (pc' := 42) (v := 1) dX1_stepOfWay_41 rfl (by decide) ?_
    refine s_callSN (pc' := 45) (As := [.int _, .int _, .int _]) dX1_stepOfWay_42 rfl mk_X11_withBit mn_X1_71 sm_X11_withBit rfl rfl ⟨Nat.le_of_ble_eq_true rfl, Nat.le_of_ble_eq_true rfl, Nat.le_of_ble_eq_true rfl, Nat.le_of_ble_eq_true rfl⟩ (Nat.le_of_ble_eq_true rfl) (c_X11_withBit ?_)
    rw [show wbi (nI (atq D nv nr ns go k)) (nI (lf (nxB go (atq D nv nr ns go k) (LQ D nv nr ns go)) 8)) 1 = nI (atq D nv nr ns go (k + 1)) from wbi_wi hw.1.1 hw.2]
    refine t_istore_n (pc' := 46) (L' := [.ref 23, .int _, .int _, .int _, .int _, .int _]) dX1_stepOfWay_45 rfl (Nat.le_of_ble_eq_true rfl) rfl ?_
    refine s_aload_n (pc' := 47) dX1_stepOfWay_46 rfl rfl ?_
    refine s_iload_n (pc' := 48) dX1_stepOfWay_47 rfl rfl ?_
    refine s_iload_n (pc' := 49) dX1_stepOfWay_48 rfl rfl ?_
    refine s_callV (pc' := 52) (As := [.int _, .int _]) dX1_stepOfWay_49 rfl mk_X1_leastStep ml_X1_104 im_X1_leastStep se_X1_X1_X1_leastStep sh_23 (by decide) rfl rfl rfl ⟨Nat.le_of_ble_eq_true rfl, Nat.le_of_ble_eq_true rfl, Nat.le_of_ble_eq_true rfl, Nat.le_of_ble_eq_true rfl⟩ (Nat.le_of_ble_eq_true rfl) (c_X1_leastStep (go := go) (b := atq D nv nr ns go (k + 1)) (ld := LQ D nv nr ns go) hw1.1.1 (fun c hc hx => F _ (wib_ix _ hw1.1.1 c hc).2.1) ?_)
    refine t_istore (pc' := 54) (L' := [.ref 23, .int _, .int _, .int _, .int _, .int _]) dX1_stepOfWay_52 rfl (Nat.le_of_ble_eq_true rfl) rfl ?_
    refine t_iinc (pc' := 57) (v := nI (k + 1)) (L' := [.ref 23, .int _, .int _, .int _, .int _, .int _]) dX1_stepOfWay_54 rfl rfl (nI_inc k) rfl ?_
    refine s_goto (tgt := 26) dX1_stepOfWay_57 (by decide) ?_
    refine s_eq ?_ rfl rfl (ih (k + 1) (by omega))
    unfold lso
    rw [if_pos hw1.2]
theorem c_X1_stepOfWay {N : Nat} {S : Nat → Nat × Nat} {I : Nat → Nat → Int32} {J : Nat → Nat → Int64} {Q : Nat → Nat → Option Nat} {κ : Option Value → HP → Prop} {D : Nat → Nat → Int32} {nv nr ns go n : Nat} (hgo : go < 256) (hn : n < pcn (nI go)) (F : ∀ b, b < 256 → I 41 b = b2 (LQ D nv nr ns go b)) (k0 : LQ D nv nr ns go 0 = false → κ (some (.int (-1))) (N, S, I, J, Q)) (k1 : LQ D nv nr ns go 0 = true → κ (some (.int (nI (lf (nxB go (atq D nv nr ns go n) (LQ D nv nr ns go)) 8)))) (N, S, I, J, Q)) : CT E1 M_X1_stepOfWay [.ref 23, .int (nI go), .int (nI n)] (N, S, I, J, Q) κ := by
  refine ofSP mk_X1_stepOfWay (Nat.le_of_ble_eq_true rfl) (L := [.ref 23, .int _, .int _, .retAddr _, .retAddr _, .retAddr _]) rfl ?_
  refine s_iconst (pc' := 1) (v := 0) dX1_stepOfWay_0 rfl (by decide) ?_
  refine t_istore_n (pc' := 2) (L' := [.ref 23, .int _, .int _, .int _, .retAddr _, .retAddr _]) dX1_stepOfWay_1 rfl (Nat.le_of_ble_eq_true rfl) rfl ?_
  refine s_aload_n (pc' := 3) dX1_stepOfWay_2 rfl rfl ?_
  refine s_getS (pc' := 6) (b := 41) dX1_stepOfWay_3 rfl (by decide) rfl (by decide) fa_X1_42_1 rfl rfl ?_
  refine s_iconst (pc' := 7) (v := 0) dX1_stepOfWay_6 rfl (by decide) ?_
  refine t_zald (pc' := 8) (q := 0) dX1_stepOfWay_7 rfl sh_41 rfl (by decide) ?_
  refine s_ifeq (pc' := 11) (tgt := 20) dX1_stepOfWay_8 (by decide) rfl (fun c8 => ?_) (fun c8 => ?_)
  · refine s_iconst (pc' := 21) (v := -1) dX1_stepOfWay_20 rfl (by decide) ?_
    refine t_istore (pc' := 23) (L' := [.ref 23, .int _, .int _, .int _, .int _, .retAddr _]) dX1_stepOfWay_21 rfl (Nat.le_of_ble_eq_true rfl) rfl ?_
    refine s_iconst (pc' := 24) (v := 0) dX1_stepOfWay_23 rfl (by decide) ?_
    refine t_istore (pc' := 26) (L' := [.ref 23, .int _, .int _, .int _, .int _, .int _]) dX1_stepOfWay_24 rfl (Nat.le_of_ble_eq_true rfl) rfl ?_
    refine s_iload (pc' := 28) dX1_stepOfWay_26 rfl rfl ?_
    refine s_iload_n (pc' := 29) dX1_stepOfWay_28 rfl rfl ?_
    refine s_icmpge (pc' := 32) (tgt := 60) dX1_stepOfWay_29 (by decide) rfl (fun c29 => ?_) (fun c29 => ?_)
    · refine s_iload (pc' := 62) dX1_stepOfWay_60 rfl rfl ?_
      exact s_iret dX1_stepOfWay_62 rfl (by decide) (by decide) (by rw [F 0 (by decide)] at c8; exact k0 (b2_0 c8))
    · refine s_iload (pc' := 34) dX1_stepOfWay_32 rfl rfl ?_
      refine s_iconst (pc' := 35) (v := -1) dX1_stepOfWay_34 rfl (by decide) ?_
      refine s_icmpeqT (tgt := 60) dX1_stepOfWay_35 (by decide) rfl ?_
      refine s_iload (pc' := 62) dX1_stepOfWay_60 rfl rfl ?_
      exact s_iret dX1_stepOfWay_62 rfl (by decide) (by decide) (by rw [F 0 (by decide)] at c8; exact k0 (b2_0 c8))
  · refine s_aload_n (pc' := 12) dX1_stepOfWay_11 rfl rfl ?_
    refine s_iconst (pc' := 13) (v := 0) dX1_stepOfWay_12 rfl (by decide) ?_
    refine s_iload_n (pc' := 14) dX1_stepOfWay_13 rfl rfl ?_
    refine s_callV (pc' := 17) (As := [.int _, .int _]) dX1_stepOfWay_14 rfl mk_X1_leastStep ml_X1_104 im_X1_leastStep se_X1_X1_X1_leastStep sh_23 (by decide) rfl rfl rfl ⟨Nat.le_of_ble_eq_true rfl, Nat.le_of_ble_eq_true rfl, Nat.le_of_ble_eq_true rfl, Nat.le_of_ble_eq_true rfl⟩ (Nat.le_of_ble_eq_true rfl) (c_X1_leastStep (go := go) (b := 0) (ld := LQ D nv nr ns go) (by decide) (fun c hc hx => F _ (wib_ix 0 (by decide) c hc).2.1) ?_)
    refine s_goto (tgt := 21) dX1_stepOfWay_17 (by decide) ?_
    refine t_istore (pc' := 23) (L' := [.ref 23, .int _, .int _, .int _, .int _, .retAddr _]) dX1_stepOfWay_21 rfl (Nat.le_of_ble_eq_true rfl) rfl ?_
    refine s_iconst (pc' := 24) (v := 0) dX1_stepOfWay_23 rfl (by decide) ?_
    refine t_istore (pc' := 26) (L' := [.ref 23, .int _, .int _, .int _, .int _, .int _]) dX1_stepOfWay_24 rfl (Nat.le_of_ble_eq_true rfl) rfl ?_
    rw [F 0 (by decide)] at c8
    have h0 := b2_1 c8
    have hw := way_ex h0 hn 0 (Nat.zero_le _)
    refine s_eq ?_ rfl rfl (l_X1_stepOfWay hgo hn F h0 (k1 h0) n 0 (by omega))
    have e : lso (lf (nxB go 0 (LQ D nv nr ns go)) 8) = nI (lf (nxB go (atq D nv nr ns go 0) (LQ D nv nr ns go)) 8) := if_pos hw.2
    rw [e]; rfl
