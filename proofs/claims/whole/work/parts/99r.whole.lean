/-! ===== the law: its start, its loop, its end ===== -/
theorem INV.up {n : Nat} {h : HP} (H : INV n h) : INV (n + 1) h := by
  obtain ⟨D, nv, nr, ns, ad, td, e, h1, h2, h3, h4, h5, h6, h7, h8, h9, h10, h11⟩ := H
  exact ⟨D, nv, nr, ns, ad, td, e, h1, h2, h3, by omega, h5, h6.up, h7, h8, h9.up, h10, h11⟩
theorem law_gt {Ln n : Nat} (hL : Ln ≤ 3072) (hn : 6 * n ≤ Ln) : (nI Ln - 6 < nI (6 * n)) ↔ Ln < 6 * n + 6 := by
  rw [int_lt, Int32.toInt_sub, nI_toInt (by omega), nI_toInt (by omega), show (6 : Int32).toInt = 6 by decide, Int.bmod_eq_of_le (by omega) (by omega)]
  omega
theorem law_inc (n : Nat) : nI (6 * n) + Int32.ofInt 6 = nI (6 * (n + 1)) := by
  show nI (6 * n) + nI 6 = _
  rw [nI_add]; congr 1
set_option maxHeartbeats 1000000 in
theorem law_loop {b Ln : Nat} {xs : Nat → Int32} (hL : Ln ≤ 3072) : ∀ d n h, Ln < 6 * (n + d) + 6 → 6 * n ≤ Ln → INV n h → LWP E1 b Ln xs 18 [.ref 0, .ref 54, .int (nI (6 * n))] [] h (94 + n) (9654 + 11 * n) := by
  intro d
  induction d with
  | zero =>
    intro n h hd hn H
    refine lp_iload3 (pc' := 19) dL_18 rfl rfl ?_
    refine lp_len (pc' := 21) dL_19 dL_20 rfl ?_
    refine lp_bipush (v := 6) (pc' := 23) dL_21 rfl (by decide) ?_
    refine lp_isub (pc' := 24) dL_23 rfl ?_
    refine lp_icmpgt (pc' := 27) (tgt := 1570) dL_24 (by decide) rfl (fun _ => ?_) (fun z => absurd ((law_gt hL hn).mpr (by omega)) z)
    exact lp_end dL_1570 dL_1571 (by omega) (by omega)
  | succ d ih =>
    intro n h hd hn H
    refine lp_iload3 (pc' := 19) dL_18 rfl rfl ?_
    refine lp_len (pc' := 21) dL_19 dL_20 rfl ?_
    refine lp_bipush (v := 6) (pc' := 23) dL_21 rfl (by decide) ?_
    refine lp_isub (pc' := 24) dL_23 rfl ?_
    refine lp_icmpgt (pc' := 27) (tgt := 1570) dL_24 (by decide) rfl (fun _ => ?_) (fun z => ?_)
    · exact lp_end dL_1570 dL_1571 (by omega) (by omega)
    · have hb : 6 * n + 6 ≤ Ln := Nat.le_of_not_lt (fun q => z ((law_gt hL hn).mpr q))
      have nxt : ∀ h', INV (n + 1) h' → LWP E1 b Ln xs 1564 [.ref 0, .ref 54, .int (nI (6 * n))] [] h' (94 + n + 1) (9654 + 11 * n + 11) := fun h' H' => by
        refine lp_inc (pc' := 1567) dL_1564 rfl (law_inc n) ?_
        refine lp_goto (tgt := 18) dL_1567 (by decide) ?_
        exact ih (n + 1) h' (by omega) (by omega) H'
      refine lp_rd0 (i := 6 * n) (pc' := 30) dL_27 dL_28 dL_29 rfl (by omega) hL rfl ?_
      refine lp_bipush (v := 63) (pc' := 32) dL_30 rfl (by decide) ?_
      refine lp_iand (pc' := 33) dL_32 rfl ?_
      obtain ⟨kk, hk64, ek⟩ := pk_andE (xs (6 * n)) (m := 63) 6 (by decide)
      rw [ek]
      by_cases hk : kk < 37
      · rcases (show kk = 0 ∨ kk = 1 ∨ kk = 2 ∨ kk = 3 ∨ kk = 4 ∨ kk = 5 ∨ kk = 6 ∨ kk = 7 ∨ kk = 8 ∨ kk = 9 ∨ kk = 10 ∨ kk = 11 ∨ kk = 12 ∨ kk = 13 ∨ kk = 14 ∨ kk = 15 ∨ kk = 16 ∨ kk = 17 ∨ kk = 18 ∨ kk = 19 ∨ kk = 20 ∨ kk = 21 ∨ kk = 22 ∨ kk = 23 ∨ kk = 24 ∨ kk = 25 ∨ kk = 26 ∨ kk = 27 ∨ kk = 28 ∨ kk = 29 ∨ kk = 30 ∨ kk = 31 ∨ kk = 32 ∨ kk = 33 ∨ kk = 34 ∨ kk = 35 ∨ kk = 36 by omega) with rfl | rfl | rfl | rfl | rfl | rfl | rfl | rfl | rfl | rfl | rfl | rfl | rfl | rfl | rfl | rfl | rfl | rfl | rfl | rfl | rfl | rfl | rfl | rfl | rfl | rfl | rfl | rfl | rfl | rfl | rfl | rfl | rfl | rfl | rfl | rfl | rfl
        · refine lp_tabIn (tgt := 196) (off := 163) dL_33 (by decide) (by decide) rfl (by decide) ?_
          exact lc_0 hL hb (by omega) H (by omega) (by omega) nxt
        · refine lp_tabIn (tgt := 239) (off := 206) dL_33 (by decide) (by decide) rfl (by decide) ?_
          exact lc_1 hL hb (by omega) H (by omega) (by omega) nxt
        · refine lp_tabIn (tgt := 288) (off := 255) dL_33 (by decide) (by decide) rfl (by decide) ?_
          exact lc_2 hL hb (by omega) H (by omega) (by omega) nxt
        · refine lp_tabIn (tgt := 321) (off := 288) dL_33 (by decide) (by decide) rfl (by decide) ?_
          exact lc_3 hL hb (by omega) H (by omega) (by omega) nxt
        · refine lp_tabIn (tgt := 380) (off := 347) dL_33 (by decide) (by decide) rfl (by decide) ?_
          exact lc_4 hL hb (by omega) H (by omega) (by omega) nxt
        · refine lp_tabIn (tgt := 443) (off := 410) dL_33 (by decide) (by decide) rfl (by decide) ?_
          exact lc_5 hL hb (by omega) H (by omega) (by omega) nxt
        · refine lp_tabIn (tgt := 506) (off := 473) dL_33 (by decide) (by decide) rfl (by decide) ?_
          exact lc_6 hL hb (by omega) H (by omega) (by omega) nxt
        · refine lp_tabIn (tgt := 555) (off := 522) dL_33 (by decide) (by decide) rfl (by decide) ?_
          exact lc_7 hL hb (by omega) H (by omega) (by omega) nxt
        · refine lp_tabIn (tgt := 604) (off := 571) dL_33 (by decide) (by decide) rfl (by decide) ?_
          exact lc_8 hL hb (by omega) H (by omega) (by omega) nxt
        · refine lp_tabIn (tgt := 647) (off := 614) dL_33 (by decide) (by decide) rfl (by decide) ?_
          exact lc_9 hL hb (by omega) H (by omega) (by omega) nxt
        · refine lp_tabIn (tgt := 660) (off := 627) dL_33 (by decide) (by decide) rfl (by decide) ?_
          exact lc_10 hL hb (by omega) H (by omega) (by omega) nxt
        · refine lp_tabIn (tgt := 693) (off := 660) dL_33 (by decide) (by decide) rfl (by decide) ?_
          exact lc_11 hL hb (by omega) H (by omega) (by omega) nxt
        · refine lp_tabIn (tgt := 706) (off := 673) dL_33 (by decide) (by decide) rfl (by decide) ?_
          exact lc_12 hL hb (by omega) H (by omega) (by omega) nxt
        · refine lp_tabIn (tgt := 719) (off := 686) dL_33 (by decide) (by decide) rfl (by decide) ?_
          exact lc_13 hL hb (by omega) H (by omega) (by omega) nxt
        · refine lp_tabIn (tgt := 732) (off := 699) dL_33 (by decide) (by decide) rfl (by decide) ?_
          exact lc_14 hL hb (by omega) H (by omega) (by omega) nxt
        · refine lp_tabIn (tgt := 765) (off := 732) dL_33 (by decide) (by decide) rfl (by decide) ?_
          exact lc_15 hL hb (by omega) H (by omega) (by omega) nxt
        · refine lp_tabIn (tgt := 799) (off := 766) dL_33 (by decide) (by decide) rfl (by decide) ?_
          exact lc_16 hL hb (by omega) H (by omega) (by omega) nxt
        · refine lp_tabIn (tgt := 832) (off := 799) dL_33 (by decide) (by decide) rfl (by decide) ?_
          exact lc_17 hL hb (by omega) H (by omega) (by omega) nxt
        · refine lp_tabIn (tgt := 856) (off := 823) dL_33 (by decide) (by decide) rfl (by decide) ?_
          exact lc_18 hL hb (by omega) H (by omega) (by omega) nxt
        · refine lp_tabIn (tgt := 879) (off := 846) dL_33 (by decide) (by decide) rfl (by decide) ?_
          exact lc_19 hL hb (by omega) H (by omega) (by omega) nxt
        · refine lp_tabIn (tgt := 912) (off := 879) dL_33 (by decide) (by decide) rfl (by decide) ?_
          exact lc_20 hL hb (by omega) H (by omega) (by omega) nxt
        · refine lp_tabIn (tgt := 945) (off := 912) dL_33 (by decide) (by decide) rfl (by decide) ?_
          exact lc_21 hL hb (by omega) H (by omega) (by omega) nxt
        · refine lp_tabIn (tgt := 968) (off := 935) dL_33 (by decide) (by decide) rfl (by decide) ?_
          exact lc_22 hL hb (by omega) H (by omega) (by omega) nxt
        · refine lp_tabIn (tgt := 981) (off := 948) dL_33 (by decide) (by decide) rfl (by decide) ?_
          exact lc_23 hL hb (by omega) H (by omega) (by omega) nxt
        · refine lp_tabIn (tgt := 1051) (off := 1018) dL_33 (by decide) (by decide) rfl (by decide) ?_
          exact lc_24 hL hb (by omega) H (by omega) (by omega) nxt
        · refine lp_tabIn (tgt := 1120) (off := 1087) dL_33 (by decide) (by decide) rfl (by decide) ?_
          exact lc_25 hL hb (by omega) H (by omega) (by omega) nxt
        · refine lp_tabIn (tgt := 1153) (off := 1120) dL_33 (by decide) (by decide) rfl (by decide) ?_
          exact lc_26 hL hb (by omega) H (by omega) (by omega) nxt
        · refine lp_tabIn (tgt := 1186) (off := 1153) dL_33 (by decide) (by decide) rfl (by decide) ?_
          exact lc_27 hL hb (by omega) H (by omega) (by omega) nxt
        · refine lp_tabIn (tgt := 1220) (off := 1187) dL_33 (by decide) (by decide) rfl (by decide) ?_
          exact lc_28 hL hb (by omega) H (by omega) (by omega) nxt
        · refine lp_tabIn (tgt := 1290) (off := 1257) dL_33 (by decide) (by decide) rfl (by decide) ?_
          exact lc_29 hL hb (by omega) H (by omega) (by omega) nxt
        · refine lp_tabIn (tgt := 1313) (off := 1280) dL_33 (by decide) (by decide) rfl (by decide) ?_
          exact lc_30 hL hb (by omega) H (by omega) (by omega) nxt
        · refine lp_tabIn (tgt := 1356) (off := 1323) dL_33 (by decide) (by decide) rfl (by decide) ?_
          exact lc_31 hL hb (by omega) H (by omega) (by omega) nxt
        · refine lp_tabIn (tgt := 1379) (off := 1346) dL_33 (by decide) (by decide) rfl (by decide) ?_
          exact lc_32 hL hb (by omega) H (by omega) (by omega) nxt
        · refine lp_tabIn (tgt := 1422) (off := 1389) dL_33 (by decide) (by decide) rfl (by decide) ?_
          exact lc_33 hL hb (by omega) H (by omega) (by omega) nxt
        · refine lp_tabIn (tgt := 1465) (off := 1432) dL_33 (by decide) (by decide) rfl (by decide) ?_
          exact lc_34 hL hb (by omega) H (by omega) (by omega) nxt
        · refine lp_tabIn (tgt := 1508) (off := 1475) dL_33 (by decide) (by decide) rfl (by decide) ?_
          exact lc_35 hL hb (by omega) H (by omega) (by omega) nxt
        · refine lp_tabIn (tgt := 1551) (off := 1518) dL_33 (by decide) (by decide) rfl (by decide) ?_
          exact lc_36 hL hb (by omega) H (by omega) (by omega) nxt
      · refine lp_tabOut (tgt := 1564) dL_33 (Or.inr (by rw [nI_toInt (by omega)]; omega)) (by decide) ?_
        exact lp_wid (by omega) (by omega) (nxt h H.up)
theorem eI_0 {t a j : Nat} (h1 : a ≠ 23) (h2 : a ≠ 51) : eI t a j = 0 := by unfold eI; rw [if_neg (fun z => h1 z.2.1), if_neg (fun z => h2 z.1)]
theorem q46 : ∀ s, s < 4 → qE 94 46 s = some (47 + s) := by decide +kernel
theorem q07 : qE 94 0 7 = some 42 := by decide +kernel
theorem q8n : ∀ r, r < 30 → qE 94 8 r = none := by decide +kernel
theorem q19n : ∀ r, r < 30 → qE 94 19 r = none := by decide +kernel
theorem e51 : ∀ s, s < 4 → eI 5 51 s = nI 0 - 1 := by decide +kernel
theorem inv0 : INV 0 (94, eS 94, eI 5, j0, qE 94) := by
  suffices key : INVd 0 94 (eS 94) (eI 5) j0 (qE 94) (eI 5) 0 0 0 (fun _ => 0) (fun _ => 0) 1 from ⟨_, _, _, _, _, _, _, key⟩
  have no : ∀ {q : Nat} {P : Prop}, q < 0 → P := fun h => absurd h (Nat.not_lt_zero _)
  refine ⟨Nat.le_refl _, DA.rf, ⟨⟨⟨rfl, rfl, rfl, rfl, rfl, rfl, rfl⟩, fun v hv => no hv, fun r hr => no hr, fun k hk => no hk⟩, ⟨⟨by decide, by decide, by decide, rfl, rfl, rfl⟩, fun r hr => no hr, fun v hv => no hv, fun k hk => no hk, ⟨0, 0, 0, 0, by decide, by decide, by decide, by decide, rfl, rfl, rfl, rfl⟩⟩, ⟨fun _ => 0, fun v hv => no hv⟩, fun v hv => no hv, ⟨fun _ => 0, fun _ => 0, rfl, fun p hp => no hp, fun v hv => no hv⟩, rfl, rfl, by decide, fun b hb => ?_⟩, by decide, Or.inl rfl, fun v hv => no hv, fun r hr => no hr, ?_, fun z => absurd rfl z, fun r hr => Or.inl (q8n r hr), fun r hr => Or.inl (q19n r hr)⟩
  · have e36 : eI 5 36 b = nI 0 := eI_0 (by decide) (by decide)
    exact ⟨⟨0, by decide, e36⟩, fun z => absurd (e36.symm.trans z) (by decide)⟩
  · refine ⟨rfl, ⟨rfl, 0, by decide, rfl⟩, ⟨rfl, Or.inl rfl⟩, ⟨42, q07, Or.inl rfl, by decide, rfl, rfl, fun z => absurd rfl z, fun z => absurd z (by decide)⟩, ⟨Or.inl rfl, fun z => absurd z (by decide), fun z => absurd z (by decide)⟩, ⟨by decide, rfl, rfl⟩, ⟨rfl, 0, by decide, rfl, fun i hi => no hi⟩, ⟨rfl, 0, by decide, rfl, fun i hi => no hi⟩, fun s hs => ⟨q46 s hs, ⟨0, by decide, eI_0 (by decide) (by decide), e51 s hs⟩, ⟨0, by decide, eI_0 (by decide) (by decide), eI_0 (by decide) (by decide)⟩, fun i hi => ?_⟩⟩
    rw [eI_0 (a := 47 + s) (by omega) (by omega), eI_0 (a := 93) (by decide) (by decide)]
    exact ⟨rfl, by unfold inR; decide⟩
def rsB (a j : Nat) : Bool := match (RSl.getD a []).getD j none with
  | none => true
  | some v => decide (qE 94 a j = v)
theorem rs_ok : ∀ a, a < 94 → ∀ j, j < 60 → rsB a j = true := by decide +kernel
theorem rs_len : ∀ a, a < 94 → (RSl.getD a []).length ≤ 60 := by decide +kernel
theorem wf1 : WF E1 (94, eS 94, eI 5, j0, qE 94) := by
  refine ⟨Nat.le_refl _, fun a ha => ?_, fun a ha j v hv => ?_⟩
  · show eS 94 a = SHl.getD a (0, 0)
    unfold eS; exact if_pos ha
  · have hv2 : (RSl.getD a []).getD j none = some v := hv
    rcases Nat.lt_or_ge j 60 with z | z
    · have q := rs_ok a ha j z
      unfold rsB at q
      rw [hv2] at q
      exact of_decide_eq_true q
    · have l60 := rs_len a ha
      rw [List.getD_eq_getElem?_getD, List.getElem?_eq_none (by omega)] at hv2
      cases hv2
theorem law_start {b Ln : Nat} {xs : Nat → Int32} (hL : Ln ≤ 3072) : LWP E0 b Ln xs 0 [.retAddr 0, .retAddr 0, .retAddr 0] [] (0, eS 0, eI 0, j0, qE 0) 0 0 := by
  refine lp_new (ci := 11) (pc' := 3) dL_0 rfl (by decide) cl_L_7 ib_X11 in_X11 (by decide) (by decide) ?_
  refine lp_eq (h' := (1, eS 1, eI 0, j0, qE 0)) (p_new (N := 0) rfl (Or.inl (by decide)) (Or.inl (by decide)) (by decide)) ?_
  refine lp_dup (pc' := 4) dL_3 rfl rfl ?_
  refine lp_callI (pc' := 7) (As := []) dL_4 rfl mk_X11_init ml_L_9 im_X11_init rfl rfl rfl rfl ⟨by decide, by decide, by decide, by decide⟩ (by decide) (n_X11_init ?_)
  refine lp_st1 (pc' := 8) dL_7 rfl ?_
  refine lp_new (ci := 12) (pc' := 11) dL_8 rfl (by decide) cl_L_10 ib_X12 in_X12 (by decide) (by decide) ?_
  refine lp_eq (h' := (55, eS 55, eI 5, j0, qE 55)) (p_new (N := 54) rfl (Or.inl (by decide)) (Or.inl (by decide)) (by decide)) ?_
  refine lp_dup (pc' := 12) dL_11 rfl rfl ?_
  refine lp_callI (pc' := 15) (As := []) dL_12 rfl mk_X12_init ml_L_12 im_X12_init rfl rfl rfl rfl ⟨by decide, by decide, by decide, by decide⟩ (by decide) (n_X12_init ?_)
  refine lp_st2 (pc' := 16) dL_15 rfl ?_
  refine lp_iconst (v := 0) (pc' := 17) dL_16 rfl (by decide) ?_
  refine lp_st3 (pc' := 18) dL_17 rfl ?_
  refine lp_env wf1 (lp_wid (c2 := 94 + 0) (s2 := 9654 + 11 * 0) (by decide) (by decide) ?_)
  exact law_loop hL Ln 0 _ (by omega) (by omega) inv0
theorem ibF (ci : Nat) (hc : ci < 13) : Cond.instantiable (cQ ci).1 (nf ci) ∈ lw_u := by
  match ci, hc with
  | 0, _ => exact ib_X0
  | 1, _ => exact ib_X1
  | 2, _ => exact ib_X2
  | 3, _ => exact ib_X3
  | 4, _ => exact ib_X4
  | 5, _ => exact ib_X5
  | 6, _ => exact ib_X6
  | 7, _ => exact ib_X7
  | 8, _ => exact ib_X8
  | 9, _ => exact ib_X9
  | 10, _ => exact ib_X10
  | 11, _ => exact ib_X11
  | 12, _ => exact ib_X12
  | n + 13, hc => exact absurd hc (by omega)
theorem arrT {s : State} {cA comp : ClassId} {k : Class} {ty : FieldType} (h1 : s.vm.classes[cA]? = some k) (h2 : k.kind = .array comp ty) : ArrOfT s cA ty := fun n z => ⟨fun _ h => (by cases h), k, h1, comp, h2⟩
set_option maxHeartbeats 1000000 in
theorem kw0 {p : Program} {s : State} {m : MethodId} {meth : Method} {c : Code} {b Ln : Nat} {xs : Nat → Int32} (C : lw_At p s m meth c b Ln xs) : ∃ (D : va_G) (ca : Nat → ClassId), KW D ca s := by
  have tb := C.tb
  have key : ∀ ci, ci < 13 → ∃ q : ClassId × (Nat → Nat), u_Kn s (cQ ci).1 (cQ ci).2.1 (cQ ci).2.2 q.1 q.2 := fun ci hc => by
    obtain ⟨cC, iS, hq⟩ := u_known (C := (cQ ci).1) (T := (cQ ci).2.1) (N := (cQ ci).2.2) tb (clsF ci hc).2.1 (tb _ (ibF ci hc))
    exact ⟨(cC, iS), hq⟩
  obtain ⟨f, hf⟩ : ∃ f : Nat → ClassId × (Nat → Nat), ∀ ci, ci < 13 → u_Kn s (cQ ci).1 (cQ ci).2.1 (cQ ci).2.2 (f ci).1 (f ci).2 := by
    refine ⟨fun ci => if hc : ci < 13 then (key ci hc).choose else (0, fun _ => 0), fun ci hc => ?_⟩
    show u_Kn s _ _ _ (dite _ _ _ : ClassId × (Nat → Nat)).1 (dite _ _ _ : ClassId × (Nat → Nat)).2
    rw [dif_pos hc]
    exact (key ci hc).choose_spec
  obtain ⟨c13, k13, m13, a1, a2, a3⟩ := Cond.arrayClass_spec (tb _ ac_int)
  obtain ⟨c14, k14, m14, b1, b2, b3⟩ := Cond.arrayClass_spec (tb _ ac_long)
  obtain ⟨c15, k15, m15, d1, d2, d3⟩ := Cond.arrayClass_spec (tb _ ac_boolean)
  obtain ⟨m16, c16, k16, e1, -, e2, e3, e4⟩ := Cond.arrayOver_spec (tb _ ao_Rule)
  obtain ⟨m17, c17, k17, f1, f2, f3, f4⟩ := q4_over (tb _ ao_I)
  refine ⟨(fun ci => (f ci).1, fun ci => (f ci).2), fun k => if k = 13 then c13 else if k = 14 then c14 else if k = 15 then c15 else if k = 16 then c16 else c17, ⟨fun ci q hq => ?_, fun k q hq => ?_⟩, fun q hq => ?_, fun w hw hg => ?_⟩
  · have hl : ci < 13 := (List.getElem?_eq_some_iff.mp hq).1
    have hq2 := (clsF ci hl).1
    cases Option.some.inj (hq.symm.trans hq2)
    exact hf ci hl
  · match k, hq with
    | 0, hq => cases hq; exact ⟨arrT a2 a3, a1⟩
    | 1, hq => cases hq; exact ⟨arrT b2 b3, b1⟩
    | 2, hq => cases hq; exact ⟨arrT d2 d3, d1⟩
    | 3, hq => cases hq; exact ⟨arrT e2 e3, k16, m16, e2, e3, e1, e4⟩
    | 4, hq => cases hq; exact ⟨arrT f2 f3, f4⟩
    | k + 5, hq => simp [tyl] at hq
  · have hs := flat_of_before _ C.2.2.2.2.2.2.2.2.2
    simp only [ncl, List.mem_cons, List.not_mem_nil, or_false] at hq
    rcases hq with rfl | rfl | rfl | rfl | rfl | rfl | rfl | rfl | rfl | rfl | rfl | rfl | rfl | rfl | rfl | rfl | rfl
    · exact va_Nc.of (hs (.not (.castable RX6 RX10)) (by decide +kernel))
    · exact va_Nc.of (hs (.not (.castable RX7 RX10)) (by decide +kernel))
    · exact va_Nc.of (hs (.not (.castable RX2 RX10)) (by decide +kernel))
    · exact va_Nc.of (hs (.not (.castable RX3 RX10)) (by decide +kernel))
    · exact va_Nc.of (hs (.not (.castable RX4 RX10)) (by decide +kernel))
    · exact va_Nc.of (hs (.not (.castable RX0 RX10)) (by decide +kernel))
    · exact va_Nc.of (hs (.not (.castable RX6 RX2)) (by decide +kernel))
    · exact va_Nc.of (hs (.not (.castable RX7 RX2)) (by decide +kernel))
    · exact va_Nc.of (hs (.not (.castable RX10 RX2)) (by decide +kernel))
    · exact va_Nc.of (hs (.not (.castable RX3 RX2)) (by decide +kernel))
    · exact va_Nc.of (hs (.not (.castable RX4 RX2)) (by decide +kernel))
    · exact va_Nc.of (hs (.not (.castable RX0 RX2)) (by decide +kernel))
    · exact va_Nc.of (hs (.not (.castable RX6 RX4)) (by decide +kernel))
    · exact va_Nc.of (hs (.not (.castable RX7 RX4)) (by decide +kernel))
    · exact va_Nc.of (hs (.not (.castable RX10 RX4)) (by decide +kernel))
    · exact va_Nc.of (hs (.not (.castable RX2 RX4)) (by decide +kernel))
    · exact va_Nc.of (hs (.not (.castable RX3 RX4)) (by decide +kernel))
  · have h1 := tb w hw
    have h2 := lw_kinds w hw
    rw [hg] at h2
    cases w with
    | methodLinkNest a i x y => exact va_Nw.of rfl h1
    | castable a b => exact va_Nw.of rfl h1
    | declares a => exact va_Nw.of rfl h1
    | arrayOver ty => exact h1
    | _ => simp [lw_nest, lw_cast, lw_decl, lw_over] at h2
theorem whole_start {p : Program} {e : Env} {s : State} {m : MethodId} {below : List Frame} {meth : Method} {c : Code} (l : Launch) {b L : Nat} {xs : Nat → Int32} (hL : L ≤ 3072) (C0 : lw_At p s m meth c b L xs) : W p l e room_1 s m #[Value.ref b] below meth c s.heap [] 0 0 (lw_Z below #[Value.ref b] s) (entryFrame m ([Value.ref b] : List Value).toArray 4) := by
  obtain ⟨D, ca, hK⟩ := kw0 C0
  have hl := lv_entry ([.ref b]) (n := 4) (Nat.le_of_ble_eq_true rfl)
  rw [lg_entry_eq]
  generalize (lg_sl ([.ref b]) ++ List.replicate (4 - (lg_sl ([.ref b])).length) Slot.unset).toArray = ls at hl ⊢
  have hl : lv_has ls 4 [(0, .ref b)] := hl
  exact law_start hL p l e s m below meth c D ca s.heap [] ls C0 hK ⟨rfl, fun k q hq => absurd (ws_of hq).1 (Nat.not_lt_zero _)⟩ ⟨Nat.zero_le _, fun a ha => absurd ha (Nat.not_lt_zero _), fun a ha => absurd ha (Nat.not_lt_zero _)⟩ va_S.rf hl
set_option maxHeartbeats 4000000 in
theorem lw_walk (l : Launch) (b : Addr) (xs : List Int32) : MetFree l x (headSpec (Jvm.Cond.code x code maxLocals ret :: tables_1) room_1) (lw_P b xs) (fun _ _ _ _ _ => True) lw_Q := by
  refine MetFree.of_bodyS (code := code) (maxLocals := maxLocals) (ret := ret) (by decide) ?_ ?_
  · intro args s m h hn
    obtain ⟨meth, c, h1, h2, h3, h4, h5, h6, -, -⟩ := Cond.code_spec hn (atoms_spec (ws := Jvm.Cond.code x code maxLocals ret :: tables_1) h _ List.mem_cons_self)
    exact ⟨meth, c, h1, h2, h3, h4, h5, h6⟩
  · intro p e s m args below meth c s₁ B hml0 hP _
    obtain ⟨rfl, hx, hbd, hgv⟩ := hP
    obtain ⟨scr, harrAt, hlist, hof, hsmall⟩ := hx
    obtain ⟨hcb, hkn, -, -⟩ := State.arrayAt?_spec harrAt
    have hown : s.vm.findClass R_law = some m.cls := findClass_of_methodNamed B.named
    have hts0 : ∀ c ∈ (Jvm.Cond.code x code maxLocals ret :: tables_1), c.before #[Value.ref b] s = true := atoms_spec (ws := Jvm.Cond.code x code maxLocals ret :: tables_1) B.pre
    have hts : ∀ w ∈ lw_tbl, w.before #[Value.ref b] s = true := k2_hts_sels lw_privs (fun w hw => hts0 w (List.mem_cons_of_mem _ hw)) lw_privs_ok
    have hml : c.maxLocals = 4 := B.maxLocals_eq (hts0 _ List.mem_cons_self)
    have X₀ : Stand p l e room_1 s m #[Value.ref b] below meth c s₁ [] 0 0 := Stand.of_body B
    have hh0 : s₁.heap = s.heap := by rw [B.state]; rfl
    have hsz : scr.slots.size = xs.length := by rw [← Array.length_toList, hlist, List.length_map]
    have hval : ∀ j : Nat, j < xs.length → scr.slots[j]? = some (.int (xs.getD j 0)) := fun j hj => by
      rw [← Array.getElem?_toList, hlist]
      simp [hj]
    have hbl : b < s.heap.size := (Array.getElem?_eq_some_iff.mp hcb).1
    have hX : va_X b xs.length (fun j => xs.getD j 0) s s.heap := ⟨scr, hcb, hof, hkn, hsz, hval⟩
    have K : W p l e room_1 s m #[Value.ref b] below meth c s₁.heap [] 0 0 (lw_Z below #[Value.ref b] s) (entryFrame m ([Value.ref b] : List Value).toArray 4) := by
      rw [hh0]
      exact whole_start l hbd ⟨B.exec, B.bytes, B.returns, hml, hown, hts, hX, hbl, B.notSynchronized, hgv⟩
    obtain ⟨t, a1, o, b1, b2, b3⟩ := K s₁ rfl X₀
    exact ⟨t, o, a1, b1, b2, b3⟩
theorem lw_pre_spec {args : Array Value} {s : State} (h : (Jvm.Cond.and given_1 narrow_1).before args s = true) (hr : rest_1_c.before args s = true) : ∃ (b : Addr) (xs : List Int32), lw_P b xs args s := by
  have hs := flat_of_before _ h
  have hq := flat_of_before _ hr
  have hc : (Cond.count 1).before args s = true := hs _ (by decide +kernel)
  have harr : (Cond.arrayOf (.arg 0) .int).before args s = true := hs _ (by decide +kernel)
  have hle : (Cond.le (.length (.arg 0)) (.int 3072)).before args s = true := hs _ (by decide +kernel)
  have hlen : (Cond.isInt (.length (.arg 0))).before args s = true := hq _ (by decide +kernel)
  have hall : (Cond.all (.arg 0) (.isInt (.elem (.arg 0) (.index 0)))).before args s = true := hq _ (by decide +kernel)
  obtain ⟨b, xs, hb, hx⟩ := State.ints_of_pre rfl harr hlen hall
  have hsm : xs.length < 2 ^ 31 := hx.choose_spec.2.2.2
  have hev : (Term.length (.arg 0)).eval args s none [] s = some (.int xs.length.toInt32) := hx.length_eval hb
  have hv := Cond.le_ints hev (show (Term.int 3072).eval args s none [] s = some (.int 3072) from rfl)
  have hd : xs.length.toInt32 ≤ 3072 := by
    simpa [Cond.before, Cond.holds, hv] using hle
  have hN : xs.length ≤ 3072 := (Int32.ofNat_le_ofNat hsm (by decide)).mp (show Int32.ofNat xs.length ≤ Int32.ofNat 3072 from hd)
  exact ⟨b, xs, Cond.one_arg hc (show args[0]? = some (.ref b) from hb), hx, hN, h⟩
theorem lw_comes (l : Launch) : Comes l x (Jvm.Cond.code x code maxLocals ret :: tables_1) room_1 (fun tb e args s => Calls_1 tb e args s ∧ rest_1 tb e args s ∧ Pre_1 tb e args s)
    (fun _ _ args s o t => lw_Q args s o t) := by
  intro p e ha hc hk s m args below hf hfit hheap happ hpre
  obtain ⟨b, xs, hP⟩ := lw_pre_spec hpre.2.2 hpre.2.1
  obtain ⟨k, o, h1, h2, h3, hQ⟩ := lw_walk l b xs p e ha hc hk s m args below hf ((Spec.applies_iff_loose hf).mp happ).1 hP trivial
  exact ⟨k, o, h1, h2, h3, hQ⟩
theorem lw_frame {s t : State} {o : Outcome} {args : Array Value} (h : Framed s o t [] 600000 7302250) :
    Framed s o t (fieldLocs frame_1_writes args s ++ arrayLocs frame_1_arrays args s ++ staticLocs frame_1_statics s) 600000 7302250 := h
theorem lw_limb (L : Cond) (hL : ∀ (args : Array Value) (s t : State), L.after args s (.returned (some (.int 1))) t = true) :
    ArmFor flags0 classFile x code maxLocals ret World_1 tables_1 room_1 Calls_1 rest_1 Pre_1
      (fun tb e a s o t => postC L tb e a s o t ∧ Framed s o t (fieldLocs frame_1_writes a s ++ arrayLocs frame_1_arrays a s ++ staticLocs frame_1_statics s) 600000 7302250) := by
  intro l _ _ _ p e ha hc hk s m args below hf hfit hheap happ hpre
  obtain ⟨k, o, h1, h2, h3, rfl, hF⟩ := lw_comes l p e ha hc hk s m args below hf hfit hheap happ hpre
  exact ⟨k, _, h1, h2, h3, hL args s _, lw_frame hF⟩
theorem i_vc : Claimed_1_1 ∧ Claimed_1_2 := ⟨lw_limb limb_1_1 (fun args s t => by simp [limb_1_1, Cond.after, Cond.holds, Cond.value]), lw_limb limb_1_2 (fun args s t => Cond.after_iff.mpr (by
  first | (rw [show limb_1_2 = Cond.eq .result (.int 1) from rfl, Cond.eq_ints (x := 1) (y := 1) rfl rfl]; simp; done) | (simp [limb_1_2, Cond.value, Term.eval]; done)))⟩
