/-! ===== the class's questions ===== -/
section XQ
variable {N : Nat} {S : Nat → Nat × Nat} {I I' : Nat → Nat → Int32} {J J' : Nat → Nat → Int64} {Q Q' : Nat → Nat → Option Nat} {D : Nat → Nat → Int32} {nv nr ns e md v r : Nat} {ad td : Nat → Nat}
theorem RD.ww (h : RD I I' J J' Q Q' D (nI md) nv nr ns) : WW I I' J J' Q Q' := ⟨fun a ha => h.1.1 a (by omega), h.1.2.1, h.1.2.2.1, h.1.2.2.2.1, fun a ha => h.2.2.1 a (by omega) (by omega), h.1.2.2.2.2⟩
theorem RD.xb (X : XB N S I J Q D nv nr ns ad td e) (h : RD I I' J J' Q Q' D (nI md) nv nr ns) : XB N S I' J' Q' D nv nr ns ad td e := by
  refine X.ww h.ww ⟨by rw [h.1.1 23 (by decide)]; exact X.2.2.2.2.2.2.1, X.2.2.2.2.2.2.2.1, fun b hb => ?_⟩
  obtain ⟨q1, q2⟩ := X.2.2.2.2.2.2.2.2 b hb
  rw [h.1.1 36 (by decide)]
  refine ⟨q1, fun z => ?_⟩
  obtain ⟨p1, p2⟩ := q2 z
  exact ⟨fun v hv => by unfold gX; rw [h.2.2.1 38 (by decide) (by decide)]; exact p1 v hv, fun c hc => by rw [h.1.1 37 (by decide)]; exact p2 c hc⟩
theorem RD.gs (hW : DW D nv nr ns) (hA : AC D nv nr) (h : RD I I' J J' Q Q' D (nI md) nv nr ns) : ∀ u, u < nv → J' 25 u = gS D nv nr ns md u := gS_eq hW hA (fun v hv => (h.2.2.2.1 v hv).1)
theorem LX.gs (hW : DW D nv nr ns) (hg : ∀ u, u < nv → J' 25 u = gS D nv nr ns md u) (h : LX I' J' D (nI md) (thS D (nI md) nr) nr ns v) :
    (∀ r, r < nr → kvB D (nI v) r = true → I' 27 r = hwF D (nI md) (gS D nv nr ns md) (thS D (nI md) nr) v nr ns r ∧ I' 28 r = btF D (nI md) (gS D nv nr ns md) (thS D (nI md) nr) v nr r ∧ J' 26 r = amt D (gS D nv nr ns md) r) ∧ bt (I' 24 5) v = qrS D (nI md) (gS D nv nr ns md) (thS D (nI md) nr) (nI v) nr := by
  have ag : AG D (nI md) (nI v) nr (J' 25) (gS D nv nr ns md) := AG_of hW (fun u hu _ => hg u hu)
  refine ⟨fun r hr hk => ?_, by rw [h.2.2, ag.qrS]⟩
  obtain ⟨h1, h2, h3⟩ := h.2.1 r hr hk
  exact ⟨by rw [h1, ag.hwF hr], by rw [h2, ag.btF hr], by rw [h3, ag.am hr hk]⟩
theorem amt_gg {g g' : Nat → Int64} (hW : DW D nv nr ns) (h : ∀ u, u < nv → g u = g' u) (hr : r < nr) : amt D g r = amt D g' r := by
  have hn := hW.nv
  by_cases c : D 67 r < 0
  · rw [amt_0 c, amt_0 c]
  · obtain ⟨o, h1, h2, -⟩ := hW.byv hr (DA.rf (I := D)) c
    rw [amt_1 c, amt_1 c, h2, nI_clamp (by omega), h o h1]
/-- the measure of needs -/
theorem XB.cb (X : XB N S I J Q D nv nr ns ad td e) : CB D nv nr := by
  obtain ⟨-, hW, hA, hN, -⟩ := X
  have hn := hW.nv
  exact ⟨fun v => pcn (I 7 v), fun v hv => by have := hN.lt hW hA hv; show pcn (I 7 v) < 10; omega, fun v u hv hu hb => hN.dec hW hA hv hu hb⟩
theorem wr_m1 (hW : DW D nv nr ns) (hr : r < nr) : (if D 60 r ≤ 3 then D 61 r else -1) = -1 ↔ ¬ D 60 r ≤ 3 := by
  by_cases h : D 60 r ≤ 3
  · obtain ⟨a, a1, a2⟩ := hW.aim hr (DA.rf (I := D)) h
    have hn := hW.nv
    rw [if_pos h, a2]
    exact ⟨fun z => absurd z.symm (m1_ne (by omega)), fun z => absurd h z⟩
  · rw [if_neg h]; exact ⟨fun _ => h, fun _ => rfl⟩
end XQ
set_option maxHeartbeats 200000 in
theorem c_X11_numberNow {N : Nat} {S : Nat → Nat × Nat} {I : Nat → Nat → Int32} {J : Nat → Nat → Int64} {Q : Nat → Nat → Option Nat} {κ : Option Value → HP → Prop} {D : Nat → Nat → Int32} {nv nr ns : Nat} {ad td : Nat → Nat} {e : Nat} (X : XB N S I J Q D nv nr ns ad td e) {md : Nat} (hm : D 75 3 = nI md) (hmd : md < 256) {v : Nat} (hv : v < nv) (hk : ∀ I' J' Q', WW I I' J J' Q Q' → XB N S I' J' Q' D nv nr ns ad td e → κ (some (.long (gS D nv nr ns md v))) (N, S, I', J', Q')) : CT E1 M_X11_numberNow [.ref 0, .int (nI v)] (N, S, I, J, Q) κ := by
  refine ofSP mk_X11_numberNow (Nat.le_of_ble_eq_true rfl) (L := [.ref 0, .int _]) rfl ?_
  refine s_aload_n (pc' := 1) dX11_numberNow_0 rfl rfl ?_
  refine s_getS (pc' := 4) (b := 23) dX11_numberNow_1 rfl (by decide) rfl (by decide) fa_X11_24_11 rfl rfl ?_
  refine s_iload_n (pc' := 5) dX11_numberNow_4 rfl rfl ?_
  refine s_aload_n (pc' := 6) dX11_numberNow_5 rfl rfl ?_
  refine s_getS (pc' := 9) (b := 1) dX11_numberNow_6 rfl (by decide) rfl (by decide) fa_X11_10_11 rfl rfl ?_
  refine t_getI (pc' := 12) dX11_numberNow_9 rfl sh_1 (by decide) fa_X11_142_8 rfl ?_
  rw [X.1.md, hm]
  refine s_callV (pc' := 15) (As := [.int _, .int _]) dX11_numberNow_12 rfl mk_X1_numberOn ml_X11_212 im_X1_numberOn se_X1_X1_X1_numberOn sh_23 (by decide) rfl rfl rfl ⟨Nat.le_of_ble_eq_true rfl, Nat.le_of_ble_eq_true rfl, Nat.le_of_ble_eq_true rfl, Nat.le_of_ble_eq_true rfl⟩ (Nat.le_of_ble_eq_true rfl) (c_X1_numberOn X hmd hv (fun I1 J1 Q1 w1 X1 => ?_))
  exact s_lret dX11_numberNow_15 rfl (by decide) (by decide) (hk I1 J1 Q1 w1 X1)
set_option maxHeartbeats 200000 in
theorem c_X11_reckonedNow {N : Nat} {S : Nat → Nat × Nat} {I : Nat → Nat → Int32} {J : Nat → Nat → Int64} {Q : Nat → Nat → Option Nat} {κ : Option Value → HP → Prop} {D : Nat → Nat → Int32} {nv nr ns : Nat} {ad td : Nat → Nat} {e : Nat} (X : XB N S I J Q D nv nr ns ad td e) {md : Nat} (hm : D 75 3 = nI md) (hmd : md < 256) (hk : ∀ I' J' Q', WW I I' J J' Q Q' → XB N S I' J' Q' D nv nr ns ad td e → RD I I' J J' Q Q' D (nI md) nv nr ns → κ (some (.ref 24)) (N, S, I', J', Q')) : CT E1 M_X11_reckonedNow [.ref 0] (N, S, I, J, Q) κ := by
  refine ofSP mk_X11_reckonedNow (Nat.le_of_ble_eq_true rfl) (L := [.ref 0]) rfl ?_
  obtain ⟨ord, st, hAR⟩ := X.2.2.2.2.1
  refine s_aload_n (pc' := 1) dX11_reckonedNow_0 rfl rfl ?_
  refine s_getS (pc' := 4) (b := 23) dX11_reckonedNow_1 rfl (by decide) rfl (by decide) fa_X11_24_11 rfl rfl ?_
  refine s_getS (pc' := 7) (b := 24) dX11_reckonedNow_4 rfl (by decide) rfl (by decide) fa_X11_410_1 rfl rfl ?_
  refine s_aload_n (pc' := 8) dX11_reckonedNow_7 rfl rfl ?_
  refine s_getS (pc' := 11) (b := 1) dX11_reckonedNow_8 rfl (by decide) rfl (by decide) fa_X11_10_11 rfl rfl ?_
  refine s_aload_n (pc' := 12) dX11_reckonedNow_11 rfl rfl ?_
  refine s_getS (pc' := 15) (b := 1) dX11_reckonedNow_12 rfl (by decide) rfl (by decide) fa_X11_10_11 rfl rfl ?_
  refine t_getI (pc' := 18) dX11_reckonedNow_15 rfl sh_1 (by decide) fa_X11_142_8 rfl ?_
  rw [X.1.md, hm]
  refine s_callV (pc' := 21) (As := [.ref 1, .int _]) dX11_reckonedNow_18 rfl mk_X5_reckon ml_X11_414 im_X5_reckon se_X5_X5_X5_reckon sh_24 (by decide) rfl rfl rfl ⟨Nat.le_of_ble_eq_true rfl, Nat.le_of_ble_eq_true rfl, Nat.le_of_ble_eq_true rfl, Nat.le_of_ble_eq_true rfl⟩ (Nat.le_of_ble_eq_true rfl) (c_X5_reckon X.1 X.2.1 hAR (fun I1 J1 Q1 r1 => ?_))
  refine s_aload_n (pc' := 22) dX11_reckonedNow_21 rfl rfl ?_
  refine s_getS (pc' := 25) (b := 23) dX11_reckonedNow_22 rfl (by decide) rfl (by decide) fa_X11_24_11 rfl rfl ?_
  refine s_getS (pc' := 28) (b := 24) dX11_reckonedNow_25 rfl (by decide) rfl (by decide) fa_X11_410_1 rfl rfl ?_
  exact s_aret dX11_reckonedNow_28 rfl (by decide) (by decide) (hk I1 J1 Q1 r1.ww (r1.xb X) r1)
set_option maxHeartbeats 200000 in
theorem c_X11_number {N : Nat} {S : Nat → Nat × Nat} {I : Nat → Nat → Int32} {J : Nat → Nat → Int64} {Q : Nat → Nat → Option Nat} {κ : Option Value → HP → Prop} {D : Nat → Nat → Int32} {nv nr ns : Nat} {ad td : Nat → Nat} {e : Nat} (X : XB N S I J Q D nv nr ns ad td e) {md : Nat} (hm : D 75 3 = nI md) (hmd : md < 256) {v x : Int32} (k1 : ((∀ j, j < nv → v ≠ nI j) ∨ (x ≠ -1 ∧ ∀ j, j < 256 → x ≠ nI j)) → κ (some (.long (-1000000000000))) (N, S, I, J, Q)) (k2 : ∀ vj c, vj < nv → v = nI vj → c < 256 → ((x = -1 ∧ c = md) ∨ (x ≠ -1 ∧ x = nI c)) → ∀ I' J' Q', WQ I I' J J' Q Q' → XB N S I' J' Q' D nv nr ns ad td e → κ (some (.long (gS D nv nr ns c vj))) (N, S, I', J', Q')) : CT E1 M_X11_number [.ref 0, .int v, .int x] (N, S, I, J, Q) κ := by
  refine ofSP mk_X11_number (Nat.le_of_ble_eq_true rfl) (L := [.ref 0, .int _, .int _]) rfl ?_
  refine s_aload_n (pc' := 1) dX11_number_0 rfl rfl ?_
  refine s_iload_n (pc' := 2) dX11_number_1 rfl rfl ?_
  refine s_callV (pc' := 5) (As := [.int _]) dX11_number_2 rfl mk_X11_isValue ml_X11_113 im_X11_isValue se_X11_X11_X11_isValue sh_0 (by decide) rfl rfl rfl ⟨Nat.le_of_ble_eq_true rfl, Nat.le_of_ble_eq_true rfl, Nat.le_of_ble_eq_true rfl, Nat.le_of_ble_eq_true rfl⟩ (Nat.le_of_ble_eq_true rfl) (c_X11_isValue X.1.xv (by have := X.2.1.nv; omega) (fun j2 hj2 e2 => ?_) (fun n2 => ?_))
  · subst e2
    refine s_ifeqF (pc' := 8) (tgt := 15) dX11_number_5 (by decide) rfl (by decide) ?_
    refine s_iload_n (pc' := 9) dX11_number_8 rfl rfl ?_
    refine s_callS (pc' := 12) (As := [.int _]) dX11_number_9 rfl mk_X11_isSetOrMade ml_X11_204 sm_X11_isSetOrMade rfl rfl ⟨Nat.le_of_ble_eq_true rfl, Nat.le_of_ble_eq_true rfl, Nat.le_of_ble_eq_true rfl, Nat.le_of_ble_eq_true rfl⟩ (Nat.le_of_ble_eq_true rfl) (c_X11_isSetOrMade (fun q9 => ?_) (fun q9 j9 hj9 e9 => ?_) (fun q9 n9 => ?_))
    · refine s_ifneT (tgt := 19) dX11_number_12 (by decide) (by decide) ?_
      refine s_aload_n (pc' := 20) dX11_number_19 rfl rfl ?_
      refine s_getS (pc' := 23) (b := 23) dX11_number_20 rfl (by decide) rfl (by decide) fa_X11_24_11 rfl rfl ?_
      refine s_iload_n (pc' := 24) dX11_number_23 rfl rfl ?_
      refine s_aload_n (pc' := 25) dX11_number_24 rfl rfl ?_
      refine s_iload_n (pc' := 26) dX11_number_25 rfl rfl ?_
      refine s_callV (pc' := 29) (As := [.int _]) dX11_number_26 rfl mk_X11_madeOr ml_X11_209 im_X11_madeOr se_X11_X11_X11_madeOr sh_0 (by decide) rfl rfl rfl ⟨Nat.le_of_ble_eq_true rfl, Nat.le_of_ble_eq_true rfl, Nat.le_of_ble_eq_true rfl, Nat.le_of_ble_eq_true rfl⟩ (Nat.le_of_ble_eq_true rfl) (c_X11_madeOr (fun q26 => ?_) (fun q26 => absurd (by assumption) q26))
      rw [X.1.md, hm]
      skip
      refine s_callV (pc' := 32) (As := [.int _, .int _]) dX11_number_29 rfl mk_X1_numberOn ml_X11_212 im_X1_numberOn se_X1_X1_X1_numberOn sh_23 (by decide) rfl rfl rfl ⟨Nat.le_of_ble_eq_true rfl, Nat.le_of_ble_eq_true rfl, Nat.le_of_ble_eq_true rfl, Nat.le_of_ble_eq_true rfl⟩ (Nat.le_of_ble_eq_true rfl) (c_X1_numberOn X (b := md) hmd hj2 (fun I1 J1 Q1 w1 X1 => ?_))
      exact s_lret dX11_number_32 rfl (by decide) (by decide) (k2 j2 md hj2 rfl hmd (Or.inl ⟨q9, rfl⟩) I1 J1 Q1 w1.q X1)
    · refine s_ifneT (tgt := 19) dX11_number_12 (by decide) (by decide) ?_
      refine s_aload_n (pc' := 20) dX11_number_19 rfl rfl ?_
      refine s_getS (pc' := 23) (b := 23) dX11_number_20 rfl (by decide) rfl (by decide) fa_X11_24_11 rfl rfl ?_
      refine s_iload_n (pc' := 24) dX11_number_23 rfl rfl ?_
      refine s_aload_n (pc' := 25) dX11_number_24 rfl rfl ?_
      refine s_iload_n (pc' := 26) dX11_number_25 rfl rfl ?_
      refine s_callV (pc' := 29) (As := [.int _]) dX11_number_26 rfl mk_X11_madeOr ml_X11_209 im_X11_madeOr se_X11_X11_X11_madeOr sh_0 (by decide) rfl rfl rfl ⟨Nat.le_of_ble_eq_true rfl, Nat.le_of_ble_eq_true rfl, Nat.le_of_ble_eq_true rfl, Nat.le_of_ble_eq_true rfl⟩ (Nat.le_of_ble_eq_true rfl) (c_X11_madeOr (fun q26 => absurd q26 (by assumption)) (fun q26 => ?_))
      rw [e9]
      refine s_callV (pc' := 32) (As := [.int _, .int _]) dX11_number_29 rfl mk_X1_numberOn ml_X11_212 im_X1_numberOn se_X1_X1_X1_numberOn sh_23 (by decide) rfl rfl rfl ⟨Nat.le_of_ble_eq_true rfl, Nat.le_of_ble_eq_true rfl, Nat.le_of_ble_eq_true rfl, Nat.le_of_ble_eq_true rfl⟩ (Nat.le_of_ble_eq_true rfl) (c_X1_numberOn X (b := j9) hj9 hj2 (fun I1 J1 Q1 w1 X1 => ?_))
      exact s_lret dX11_number_32 rfl (by decide) (by decide) (k2 j2 j9 hj2 rfl hj9 (Or.inr ⟨q9, e9⟩) I1 J1 Q1 w1.q X1)
    · refine s_ifneF (pc' := 15) (tgt := 19) dX11_number_12 (by decide) rfl (by decide) ?_
      refine s_ldc2 (pc' := 18) dX11_number_15 rfl kl_X11_207 ?_
      exact s_lret dX11_number_18 rfl (by decide) (by decide) (k1 (Or.inr ⟨q9, n9⟩))
  · refine s_ifeqT (tgt := 15) dX11_number_5 (by decide) (by decide) ?_
    refine s_ldc2 (pc' := 18) dX11_number_15 rfl kl_X11_207 ?_
    exact s_lret dX11_number_18 rfl (by decide) (by decide) (k1 (Or.inl n2))
set_option maxHeartbeats 200000 in
theorem c_X11_lawful {N : Nat} {S : Nat → Nat × Nat} {I : Nat → Nat → Int32} {J : Nat → Nat → Int64} {Q : Nat → Nat → Option Nat} {κ : Option Value → HP → Prop} {D : Nat → Nat → Int32} {nv nr ns : Nat} {ad td : Nat → Nat} {e : Nat} (X : XB N S I J Q D nv nr ns ad td e) {md : Nat} (hm : D 75 3 = nI md) (hmd : md < 256) {x : Int32} (k1 : (x ≠ -1 ∧ ∀ j, j < 256 → x ≠ nI j) → κ (some (.int (-1))) (N, S, I, J, Q)) (k2 : ∀ c, c < 256 → ((x = -1 ∧ c = md) ∨ (x ≠ -1 ∧ x = nI c)) → ∀ I' J' Q', WQ I I' J J' Q Q' → XB N S I' J' Q' D nv nr ns ad td e → κ (some (.int (b2 (LW D nv nr ns c)))) (N, S, I', J', Q')) : CT E1 M_X11_lawful [.ref 0, .int x] (N, S, I, J, Q) κ := by
  refine ofSP mk_X11_lawful (Nat.le_of_ble_eq_true rfl) (L := [.ref 0, .int _]) rfl ?_
  refine s_iload_n (pc' := 1) dX11_lawful_0 rfl rfl ?_
  refine s_callS (pc' := 4) (As := [.int _]) dX11_lawful_1 rfl mk_X11_isSetOrMade ml_X11_204 sm_X11_isSetOrMade rfl rfl ⟨Nat.le_of_ble_eq_true rfl, Nat.le_of_ble_eq_true rfl, Nat.le_of_ble_eq_true rfl, Nat.le_of_ble_eq_true rfl⟩ (Nat.le_of_ble_eq_true rfl) (c_X11_isSetOrMade (fun q1 => ?_) (fun q1 j1 hj1 e1 => ?_) (fun q1 n1 => ?_))
  · refine s_ifeqF (pc' := 7) (tgt := 25) dX11_lawful_4 (by decide) rfl (by decide) ?_
    refine s_aload_n (pc' := 8) dX11_lawful_7 rfl rfl ?_
    refine s_getS (pc' := 11) (b := 23) dX11_lawful_8 rfl (by decide) rfl (by decide) fa_X11_24_11 rfl rfl ?_
    refine s_aload_n (pc' := 12) dX11_lawful_11 rfl rfl ?_
    refine s_iload_n (pc' := 13) dX11_lawful_12 rfl rfl ?_
    refine s_callV (pc' := 16) (As := [.int _]) dX11_lawful_13 rfl mk_X11_madeOr ml_X11_209 im_X11_madeOr se_X11_X11_X11_madeOr sh_0 (by decide) rfl rfl rfl ⟨Nat.le_of_ble_eq_true rfl, Nat.le_of_ble_eq_true rfl, Nat.le_of_ble_eq_true rfl, Nat.le_of_ble_eq_true rfl⟩ (Nat.le_of_ble_eq_true rfl) (c_X11_madeOr (fun q13 => ?_) (fun q13 => absurd (by assumption) q13))
    rw [X.1.md, hm]
    skip
    refine s_callV (pc' := 19) (As := [.int _]) dX11_lawful_16 rfl mk_X1_isLawful ml_X11_268 im_X1_isLawful se_X1_X1_X1_isLawful sh_23 (by decide) rfl rfl rfl ⟨Nat.le_of_ble_eq_true rfl, Nat.le_of_ble_eq_true rfl, Nat.le_of_ble_eq_true rfl, Nat.le_of_ble_eq_true rfl⟩ (Nat.le_of_ble_eq_true rfl) (c_X1_isLawful X (b := md) hmd (fun l16 I1 J1 Q1 w1 X1 => ?_) (fun l16 I1 J1 Q1 w1 X1 => ?_))
    · refine s_callS (pc' := 22) (As := [.int _]) dX11_lawful_19 rfl mk_X11_bit ml_X11_200 sm_X11_bit rfl rfl ⟨Nat.le_of_ble_eq_true rfl, Nat.le_of_ble_eq_true rfl, Nat.le_of_ble_eq_true rfl, Nat.le_of_ble_eq_true rfl⟩ (Nat.le_of_ble_eq_true rfl) (c_X11_bit (fun _ => ?_) (fun z => absurd z (by decide)))
      refine s_goto (tgt := 26) dX11_lawful_22 (by decide) ?_
      exact s_iret dX11_lawful_26 rfl (by decide) (by decide) (by have q := k2 md hmd (Or.inl ⟨q1, rfl⟩) I1 J1 Q1 w1.q X1; rw [l16] at q; exact q)
    · refine s_callS (pc' := 22) (As := [.int _]) dX11_lawful_19 rfl mk_X11_bit ml_X11_200 sm_X11_bit rfl rfl ⟨Nat.le_of_ble_eq_true rfl, Nat.le_of_ble_eq_true rfl, Nat.le_of_ble_eq_true rfl, Nat.le_of_ble_eq_true rfl⟩ (Nat.le_of_ble_eq_true rfl) (c_X11_bit (fun z => absurd rfl z) (fun _ => ?_))
      refine s_goto (tgt := 26) dX11_lawful_22 (by decide) ?_
      exact s_iret dX11_lawful_26 rfl (by decide) (by decide) (by have q := k2 md hmd (Or.inl ⟨q1, rfl⟩) I1 J1 Q1 w1.q X1; rw [l16] at q; exact q)
  · refine s_ifeqF (pc' := 7) (tgt := 25) dX11_lawful_4 (by decide) rfl (by decide) ?_
    refine s_aload_n (pc' := 8) dX11_lawful_7 rfl rfl ?_
    refine s_getS (pc' := 11) (b := 23) dX11_lawful_8 rfl (by decide) rfl (by decide) fa_X11_24_11 rfl rfl ?_
    refine s_aload_n (pc' := 12) dX11_lawful_11 rfl rfl ?_
    refine s_iload_n (pc' := 13) dX11_lawful_12 rfl rfl ?_
    refine s_callV (pc' := 16) (As := [.int _]) dX11_lawful_13 rfl mk_X11_madeOr ml_X11_209 im_X11_madeOr se_X11_X11_X11_madeOr sh_0 (by decide) rfl rfl rfl ⟨Nat.le_of_ble_eq_true rfl, Nat.le_of_ble_eq_true rfl, Nat.le_of_ble_eq_true rfl, Nat.le_of_ble_eq_true rfl⟩ (Nat.le_of_ble_eq_true rfl) (c_X11_madeOr (fun q13 => absurd q13 (by assumption)) (fun q13 => ?_))
    rw [e1]
    refine s_callV (pc' := 19) (As := [.int _]) dX11_lawful_16 rfl mk_X1_isLawful ml_X11_268 im_X1_isLawful se_X1_X1_X1_isLawful sh_23 (by decide) rfl rfl rfl ⟨Nat.le_of_ble_eq_true rfl, Nat.le_of_ble_eq_true rfl, Nat.le_of_ble_eq_true rfl, Nat.le_of_ble_eq_true rfl⟩ (Nat.le_of_ble_eq_true rfl) (c_X1_isLawful X (b := j1) hj1 (fun l16 I1 J1 Q1 w1 X1 => ?_) (fun l16 I1 J1 Q1 w1 X1 => ?_))
    · refine s_callS (pc' := 22) (As := [.int _]) dX11_lawful_19 rfl mk_X11_bit ml_X11_200 sm_X11_bit rfl rfl ⟨Nat.le_of_ble_eq_true rfl, Nat.le_of_ble_eq_true rfl, Nat.le_of_ble_eq_true rfl, Nat.le_of_ble_eq_true rfl⟩ (Nat.le_of_ble_eq_true rfl) (c_X11_bit (fun _ => ?_) (fun z => absurd z (by decide)))
      refine s_goto (tgt := 26) dX11_lawful_22 (by decide) ?_
      exact s_iret dX11_lawful_26 rfl (by decide) (by decide) (by have q := k2 j1 hj1 (Or.inr ⟨q1, e1⟩) I1 J1 Q1 w1.q X1; rw [l16] at q; exact q)
    · refine s_callS (pc' := 22) (As := [.int _]) dX11_lawful_19 rfl mk_X11_bit ml_X11_200 sm_X11_bit rfl rfl ⟨Nat.le_of_ble_eq_true rfl, Nat.le_of_ble_eq_true rfl, Nat.le_of_ble_eq_true rfl, Nat.le_of_ble_eq_true rfl⟩ (Nat.le_of_ble_eq_true rfl) (c_X11_bit (fun z => absurd rfl z) (fun _ => ?_))
      refine s_goto (tgt := 26) dX11_lawful_22 (by decide) ?_
      exact s_iret dX11_lawful_26 rfl (by decide) (by decide) (by have q := k2 j1 hj1 (Or.inr ⟨q1, e1⟩) I1 J1 Q1 w1.q X1; rw [l16] at q; exact q)
  · refine s_ifeqT (tgt := 25) dX11_lawful_4 (by decide) (by decide) ?_
    refine s_iconst (pc' := 26) (v := -1) dX11_lawful_25 rfl (by decide) ?_
    exact s_iret dX11_lawful_26 rfl (by decide) (by decide) (k1 ⟨q1, n1⟩)
set_option maxHeartbeats 200000 in
theorem c_X11_mend {N : Nat} {S : Nat → Nat × Nat} {I : Nat → Nat → Int32} {J : Nat → Nat → Int64} {Q : Nat → Nat → Option Nat} {κ : Option Value → HP → Prop} {D : Nat → Nat → Int32} {nv nr ns : Nat} {ad td : Nat → Nat} {e : Nat} (X : XB N S I J Q D nv nr ns ad td e) {md : Nat} (hm : D 75 3 = nI md) (hmd : md < 256) (hk : ∀ m, MdP D nv nr ns md m → ∀ I' J' Q', WQ I I' J J' Q Q' → XB N S I' J' Q' D nv nr ns ad td e → κ (some (.int (nI m))) (N, S, I', J', Q')) : CT E1 M_X11_mend [.ref 0] (N, S, I, J, Q) κ := by
  refine ofSP mk_X11_mend (Nat.le_of_ble_eq_true rfl) (L := [.ref 0]) rfl ?_
  refine s_aload_n (pc' := 1) dX11_mend_0 rfl rfl ?_
  refine s_getS (pc' := 4) (b := 23) dX11_mend_1 rfl (by decide) rfl (by decide) fa_X11_24_11 rfl rfl ?_
  refine s_aload_n (pc' := 5) dX11_mend_4 rfl rfl ?_
  refine s_getS (pc' := 8) (b := 1) dX11_mend_5 rfl (by decide) rfl (by decide) fa_X11_10_11 rfl rfl ?_
  refine t_getI (pc' := 11) dX11_mend_8 rfl sh_1 (by decide) fa_X11_142_8 rfl ?_
  rw [X.1.md, hm]
  refine s_callV (pc' := 14) (As := [.int _]) dX11_mend_11 rfl mk_X1_mended ml_X11_271 im_X1_mended se_X1_X1_X1_mended sh_23 (by decide) rfl rfl rfl ⟨Nat.le_of_ble_eq_true rfl, Nat.le_of_ble_eq_true rfl, Nat.le_of_ble_eq_true rfl, Nat.le_of_ble_eq_true rfl⟩ (Nat.le_of_ble_eq_true rfl) (c_X1_mended X (fun m hM I1 J1 Q1 w1 X1 => ?_))
  exact s_iret dX11_mend_14 rfl (by decide) (by decide) (hk m hM I1 J1 Q1 w1.q X1)
set_option maxHeartbeats 200000 in
theorem c_X11_seek {N : Nat} {S : Nat → Nat × Nat} {I : Nat → Nat → Int32} {J : Nat → Nat → Int64} {Q : Nat → Nat → Option Nat} {κ : Option Value → HP → Prop} {D : Nat → Nat → Int32} {nv nr ns : Nat} {ad td : Nat → Nat} {e : Nat} (X : XB N S I J Q D nv nr ns ad td e) {md : Nat} (hm : D 75 3 = nI md) (hmd : md < 256) {x m w0 ls : Int32} (k1 : ((∀ j, j < nv → x ≠ nI j) ∨ (∀ j, j < 256 → m ≠ nI j) ∨ (∀ j, j < 256 → w0 ≠ nI j)) → κ (some (.int (-1))) (N, S, I, J, Q)) (k2 : ∀ v mu wi, v < nv → mu < 256 → wi < 256 → x = nI v → m = nI mu → w0 = nI wi → ∀ I' J' Q', WQ I I' J J' Q Q' → XB N S I' J' Q' D nv nr ns ad td e → κ (some (.int (ixo (bsh D nv nr ns v mu wi ls 256)))) (N, S, I', J', Q')) : CT E1 M_X11_seek [.ref 0, .int x, .int m, .int w0, .int ls] (N, S, I, J, Q) κ := by
  refine ofSP mk_X11_seek (Nat.le_of_ble_eq_true rfl) (L := [.ref 0, .int _, .int _, .int _, .int _]) rfl ?_
  refine s_aload_n (pc' := 1) dX11_seek_0 rfl rfl ?_
  refine s_iload_n (pc' := 2) dX11_seek_1 rfl rfl ?_
  refine s_callV (pc' := 5) (As := [.int _]) dX11_seek_2 rfl mk_X11_isValue ml_X11_113 im_X11_isValue se_X11_X11_X11_isValue sh_0 (by decide) rfl rfl rfl ⟨Nat.le_of_ble_eq_true rfl, Nat.le_of_ble_eq_true rfl, Nat.le_of_ble_eq_true rfl, Nat.le_of_ble_eq_true rfl⟩ (Nat.le_of_ble_eq_true rfl) (c_X11_isValue X.1.xv (by have := X.2.1.nv; omega) (fun j2 hj2 e2 => ?_) (fun n2 => ?_))
  · subst e2
    refine s_ifeqF (pc' := 8) (tgt := 23) dX11_seek_5 (by decide) rfl (by decide) ?_
    refine s_aload_n (pc' := 9) dX11_seek_8 rfl rfl ?_
    refine s_getS (pc' := 12) (b := 23) dX11_seek_9 rfl (by decide) rfl (by decide) fa_X11_24_11 rfl rfl ?_
    refine s_iload_n (pc' := 13) dX11_seek_12 rfl rfl ?_
    refine s_iload_n (pc' := 14) dX11_seek_13 rfl rfl ?_
    refine s_iload_n (pc' := 15) dX11_seek_14 rfl rfl ?_
    refine s_iload (pc' := 17) dX11_seek_15 rfl rfl ?_
    refine s_callV (pc' := 20) (As := [.int _, .int _, .int _, .int _]) dX11_seek_17 rfl mk_X1_bestSheet ml_X11_274 im_X1_bestSheet se_X1_X1_X1_bestSheet sh_23 (by decide) rfl rfl rfl ⟨Nat.le_of_ble_eq_true rfl, Nat.le_of_ble_eq_true rfl, Nat.le_of_ble_eq_true rfl, Nat.le_of_ble_eq_true rfl⟩ (Nat.le_of_ble_eq_true rfl) (c_X1_bestSheet X hj2 (fun z17 => ?_) (fun mu wi hmu hwi emu ewi I1 J1 Q1 w1 X1 => ?_))
    · refine s_goto (tgt := 24) dX11_seek_20 (by decide) ?_
      exact s_iret dX11_seek_24 rfl (by decide) (by decide) (k1 (Or.inr z17))
    · refine s_goto (tgt := 24) dX11_seek_20 (by decide) ?_
      exact s_iret dX11_seek_24 rfl (by decide) (by decide) (k2 j2 mu wi hj2 hmu hwi rfl emu ewi I1 J1 Q1 w1.q X1)
  · refine s_ifeqT (tgt := 23) dX11_seek_5 (by decide) (by decide) ?_
    refine s_iconst (pc' := 24) (v := -1) dX11_seek_23 rfl (by decide) ?_
    exact s_iret dX11_seek_24 rfl (by decide) (by decide) (k1 (Or.inl n2))
set_option maxHeartbeats 200000 in
theorem c_X11_most {N : Nat} {S : Nat → Nat × Nat} {I : Nat → Nat → Int32} {J : Nat → Nat → Int64} {Q : Nat → Nat → Option Nat} {κ : Option Value → HP → Prop} {D : Nat → Nat → Int32} {nv nr ns : Nat} {ad td : Nat → Nat} {e : Nat} (X : XB N S I J Q D nv nr ns ad td e) {md : Nat} (hm : D 75 3 = nI md) (hmd : md < 256) {x m w0 ls : Int32} (k1 : ((∀ j, j < nv → x ≠ nI j) ∨ (∀ j, j < 256 → m ≠ nI j) ∨ (∀ j, j < 256 → w0 ≠ nI j)) → κ (some (.long (-1000000000000))) (N, S, I, J, Q)) (k2 : ∀ v mu wi, v < nv → mu < 256 → wi < 256 → x = nI v → m = nI mu → w0 = nI wi → bsh D nv nr ns v mu wi ls 256 = none → ∀ I' J' Q', WQ I I' J J' Q Q' → XB N S I' J' Q' D nv nr ns ad td e → κ (some (.long (-1000000000000))) (N, S, I', J', Q')) (k3 : ∀ v mu wi, v < nv → mu < 256 → wi < 256 → x = nI v → m = nI mu → w0 = nI wi →  ∀ q, bsh D nv nr ns v mu wi ls 256 = some q → ∀ I' J' Q', WQ I I' J J' Q Q' → XB N S I' J' Q' D nv nr ns ad td e → κ (some (.long (gS D nv nr ns q v))) (N, S, I', J', Q')) : CT E1 M_X11_most [.ref 0, .int x, .int m, .int w0, .int ls] (N, S, I, J, Q) κ := by
  refine ofSP mk_X11_most (Nat.le_of_ble_eq_true rfl) (L := [.ref 0, .int _, .int _, .int _, .int _, .retAddr _]) rfl ?_
  refine s_aload_n (pc' := 1) dX11_most_0 rfl rfl ?_
  refine s_iload_n (pc' := 2) dX11_most_1 rfl rfl ?_
  refine s_callV (pc' := 5) (As := [.int _]) dX11_most_2 rfl mk_X11_isValue ml_X11_113 im_X11_isValue se_X11_X11_X11_isValue sh_0 (by decide) rfl rfl rfl ⟨Nat.le_of_ble_eq_true rfl, Nat.le_of_ble_eq_true rfl, Nat.le_of_ble_eq_true rfl, Nat.le_of_ble_eq_true rfl⟩ (Nat.le_of_ble_eq_true rfl) (c_X11_isValue X.1.xv (by have := X.2.1.nv; omega) (fun j2 hj2 e2 => ?_) (fun n2 => ?_))
  · subst e2
    refine s_ifeqF (pc' := 8) (tgt := 23) dX11_most_5 (by decide) rfl (by decide) ?_
    refine s_aload_n (pc' := 9) dX11_most_8 rfl rfl ?_
    refine s_getS (pc' := 12) (b := 23) dX11_most_9 rfl (by decide) rfl (by decide) fa_X11_24_11 rfl rfl ?_
    refine s_iload_n (pc' := 13) dX11_most_12 rfl rfl ?_
    refine s_iload_n (pc' := 14) dX11_most_13 rfl rfl ?_
    refine s_iload_n (pc' := 15) dX11_most_14 rfl rfl ?_
    refine s_iload (pc' := 17) dX11_most_15 rfl rfl ?_
    refine s_callV (pc' := 20) (As := [.int _, .int _, .int _, .int _]) dX11_most_17 rfl mk_X1_bestSheet ml_X11_274 im_X1_bestSheet se_X1_X1_X1_bestSheet sh_23 (by decide) rfl rfl rfl ⟨Nat.le_of_ble_eq_true rfl, Nat.le_of_ble_eq_true rfl, Nat.le_of_ble_eq_true rfl, Nat.le_of_ble_eq_true rfl⟩ (Nat.le_of_ble_eq_true rfl) (c_X1_bestSheet X hj2 (fun z17 => ?_) (fun mu wi hmu hwi emu ewi I1 J1 Q1 w1 X1 => ?_))
    · refine s_goto (tgt := 24) dX11_most_20 (by decide) ?_
      refine t_istore (pc' := 26) (L' := [.ref 0, .int _, .int _, .int _, .int _, .int _]) dX11_most_24 rfl (Nat.le_of_ble_eq_true rfl) rfl ?_
      refine s_iload (pc' := 28) dX11_most_26 rfl rfl ?_
      refine s_iconst (pc' := 29) (v := -1) dX11_most_28 rfl (by decide) ?_
      refine s_icmpneF (pc' := 32) (tgt := 38) dX11_most_29 (by decide) rfl rfl ?_
      refine s_ldc2 (pc' := 35) dX11_most_32 rfl kl_X11_207 ?_
      refine s_goto (tgt := 48) dX11_most_35 (by decide) ?_
      exact s_lret dX11_most_48 rfl (by decide) (by decide) (k1 (Or.inr z17))
    · refine s_goto (tgt := 24) dX11_most_20 (by decide) ?_
      refine t_istore (pc' := 26) (L' := [.ref 0, .int _, .int _, .int _, .int _, .int _]) dX11_most_24 rfl (Nat.le_of_ble_eq_true rfl) rfl ?_
      refine s_iload (pc' := 28) dX11_most_26 rfl rfl ?_
      refine s_iconst (pc' := 29) (v := -1) dX11_most_28 rfl (by decide) ?_
      refine s_icmpne (pc' := 32) (tgt := 38) dX11_most_29 (by decide) rfl (fun c29 => ?_) (fun c29 => ?_)
      · obtain ⟨q, hq⟩ := ixo_some c29
        have hql := bsh_lt _ _ hq
        refine s_aload_n (pc' := 39) dX11_most_38 rfl rfl ?_
        refine s_getS (pc' := 42) (b := 23) dX11_most_39 rfl (by decide) rfl (by decide) fa_X11_24_11 rfl rfl ?_
        refine s_iload_n (pc' := 43) dX11_most_42 rfl rfl ?_
        refine s_iload (pc' := 45) dX11_most_43 rfl rfl ?_
        rw [hq]
        refine s_callV (pc' := 48) (As := [.int _, .int _]) dX11_most_45 rfl mk_X1_numberOn ml_X11_212 im_X1_numberOn se_X1_X1_X1_numberOn sh_23 (by decide) rfl rfl rfl ⟨Nat.le_of_ble_eq_true rfl, Nat.le_of_ble_eq_true rfl, Nat.le_of_ble_eq_true rfl, Nat.le_of_ble_eq_true rfl⟩ (Nat.le_of_ble_eq_true rfl) (c_X1_numberOn X1 (b := q) (by omega) hj2 (fun I2 J2 Q2 w2 X2 => ?_))
        exact s_lret dX11_most_48 rfl (by decide) (by decide) (k3 j2 mu wi hj2 hmu hwi rfl emu ewi q hq I2 J2 Q2 (w1.tr w2).q X2)
      · refine s_ldc2 (pc' := 35) dX11_most_32 rfl kl_X11_207 ?_
        refine s_goto (tgt := 48) dX11_most_35 (by decide) ?_
        exact s_lret dX11_most_48 rfl (by decide) (by decide) (k2 j2 mu wi hj2 hmu hwi rfl emu ewi (ixo_none (fun q hq => by have := bsh_lt _ _ hq; omega) (by simpa using c29)) I1 J1 Q1 w1.q X1)
  · refine s_ifeqT (tgt := 23) dX11_most_5 (by decide) (by decide) ?_
    refine s_iconst (pc' := 24) (v := -1) dX11_most_23 rfl (by decide) ?_
    refine t_istore (pc' := 26) (L' := [.ref 0, .int _, .int _, .int _, .int _, .int _]) dX11_most_24 rfl (Nat.le_of_ble_eq_true rfl) rfl ?_
    refine s_iload (pc' := 28) dX11_most_26 rfl rfl ?_
    refine s_iconst (pc' := 29) (v := -1) dX11_most_28 rfl (by decide) ?_
    refine s_icmpneF (pc' := 32) (tgt := 38) dX11_most_29 (by decide) rfl rfl ?_
    refine s_ldc2 (pc' := 35) dX11_most_32 rfl kl_X11_207 ?_
    refine s_goto (tgt := 48) dX11_most_35 (by decide) ?_
    exact s_lret dX11_most_48 rfl (by decide) (by decide) (k1 (Or.inl n2))
set_option maxHeartbeats 200000 in
theorem c_X11_both {N : Nat} {S : Nat → Nat × Nat} {I : Nat → Nat → Int32} {J : Nat → Nat → Int64} {Q : Nat → Nat → Option Nat} {κ : Option Value → HP → Prop} {D : Nat → Nat → Int32} {nv nr ns : Nat} {ad td : Nat → Nat} {e : Nat} (X : XB N S I J Q D nv nr ns ad td e) {md : Nat} (hm : D 75 3 = nI md) (hmd : md < 256) {x y : Int32} (k1 : ((∀ j, j < nv → x ≠ nI j) ∨ (∀ j, j < nv → y ≠ nI j)) → κ (some (.int (-1))) (N, S, I, J, Q)) (k2 : ∀ v w, v < nv → w < nv → x = nI v → y = nI w → ∀ I' J' Q', WQ I I' J J' Q Q' → XB N S I' J' Q' D nv nr ns ad td e → κ (some (.int (nI (cntB (gd D nv nr ns v w 256) 256)))) (N, S, I', J', Q')) : CT E1 M_X11_both [.ref 0, .int x, .int y] (N, S, I, J, Q) κ := by
  refine ofSP mk_X11_both (Nat.le_of_ble_eq_true rfl) (L := [.ref 0, .int _, .int _]) rfl ?_
  refine s_aload_n (pc' := 1) dX11_both_0 rfl rfl ?_
  refine s_iload_n (pc' := 2) dX11_both_1 rfl rfl ?_
  refine s_callV (pc' := 5) (As := [.int _]) dX11_both_2 rfl mk_X11_isValue ml_X11_113 im_X11_isValue se_X11_X11_X11_isValue sh_0 (by decide) rfl rfl rfl ⟨Nat.le_of_ble_eq_true rfl, Nat.le_of_ble_eq_true rfl, Nat.le_of_ble_eq_true rfl, Nat.le_of_ble_eq_true rfl⟩ (Nat.le_of_ble_eq_true rfl) (c_X11_isValue X.1.xv (by have := X.2.1.nv; omega) (fun j2 hj2 e2 => ?_) (fun n2 => ?_))
  · subst e2
    refine s_ifeqF (pc' := 8) (tgt := 28) dX11_both_5 (by decide) rfl (by decide) ?_
    refine s_aload_n (pc' := 9) dX11_both_8 rfl rfl ?_
    refine s_iload_n (pc' := 10) dX11_both_9 rfl rfl ?_
    refine s_callV (pc' := 13) (As := [.int _]) dX11_both_10 rfl mk_X11_isValue ml_X11_113 im_X11_isValue se_X11_X11_X11_isValue sh_0 (by decide) rfl rfl rfl ⟨Nat.le_of_ble_eq_true rfl, Nat.le_of_ble_eq_true rfl, Nat.le_of_ble_eq_true rfl, Nat.le_of_ble_eq_true rfl⟩ (Nat.le_of_ble_eq_true rfl) (c_X11_isValue X.1.xv (by have := X.2.1.nv; omega) (fun j10 hj10 e10 => ?_) (fun n10 => ?_))
    · subst e10
      refine s_ifeqF (pc' := 16) (tgt := 28) dX11_both_13 (by decide) rfl (by decide) ?_
      refine s_aload_n (pc' := 17) dX11_both_16 rfl rfl ?_
      refine s_getS (pc' := 20) (b := 23) dX11_both_17 rfl (by decide) rfl (by decide) fa_X11_24_11 rfl rfl ?_
      refine s_iload_n (pc' := 21) dX11_both_20 rfl rfl ?_
      refine s_iload_n (pc' := 22) dX11_both_21 rfl rfl ?_
      refine s_callV (pc' := 25) (As := [.int _, .int _]) dX11_both_22 rfl mk_X1_unbettered ml_X11_278 im_X1_unbettered se_X1_X1_X1_unbettered sh_23 (by decide) rfl rfl rfl ⟨Nat.le_of_ble_eq_true rfl, Nat.le_of_ble_eq_true rfl, Nat.le_of_ble_eq_true rfl, Nat.le_of_ble_eq_true rfl⟩ (Nat.le_of_ble_eq_true rfl) (c_X1_unbettered X hj2 hj10 (fun I1 J1 Q1 w1 X1 => ?_))
      refine s_goto (tgt := 29) dX11_both_25 (by decide) ?_
      exact s_iret dX11_both_29 rfl (by decide) (by decide) (k2 j2 j10 hj2 hj10 rfl rfl I1 J1 Q1 w1 X1)
    · refine s_ifeqT (tgt := 28) dX11_both_13 (by decide) (by decide) ?_
      refine s_iconst (pc' := 29) (v := -1) dX11_both_28 rfl (by decide) ?_
      exact s_iret dX11_both_29 rfl (by decide) (by decide) (k1 (Or.inr n10))
  · refine s_ifeqT (tgt := 28) dX11_both_5 (by decide) (by decide) ?_
    refine s_iconst (pc' := 29) (v := -1) dX11_both_28 rfl (by decide) ?_
    exact s_iret dX11_both_29 rfl (by decide) (by decide) (k1 (Or.inl n2))
set_option maxHeartbeats 200000 in
theorem c_X11_way {N : Nat} {S : Nat → Nat × Nat} {I : Nat → Nat → Int32} {J : Nat → Nat → Int64} {Q : Nat → Nat → Option Nat} {κ : Option Value → HP → Prop} {D : Nat → Nat → Int32} {nv nr ns : Nat} {ad td : Nat → Nat} {e : Nat} (X : XB N S I J Q D nv nr ns ad td e) {md : Nat} (hm : D 75 3 = nI md) (hmd : md < 256) {x y : Int32} (k1 : ((∀ j, j < 256 → x ≠ nI j) ∨ (∃ go, go < 256 ∧ x = nI go ∧ ∀ n, n < pcn (nI go) → y ≠ nI n)) → κ (some (.int (-1))) (N, S, I, J, Q)) (k2 : ∀ go n, go < 256 → n < pcn (nI go) → x = nI go → y = nI n → LQ D nv nr ns go 0 = false → ∀ I' J' Q', WQ I I' J J' Q Q' → XB N S I' J' Q' D nv nr ns ad td e → κ (some (.int (-1))) (N, S, I', J', Q')) (k3 : ∀ go n, go < 256 → n < pcn (nI go) → x = nI go → y = nI n → LQ D nv nr ns go 0 = true → ∀ I' J' Q', WQ I I' J J' Q Q' → XB N S I' J' Q' D nv nr ns ad td e → κ (some (.int (nI (lf (nxB go (atq D nv nr ns go n) (LQ D nv nr ns go)) 8)))) (N, S, I', J', Q')) : CT E1 M_X11_way [.ref 0, .int x, .int y] (N, S, I, J, Q) κ := by
  refine ofSP mk_X11_way (Nat.le_of_ble_eq_true rfl) (L := [.ref 0, .int _, .int _]) rfl ?_
  refine s_iload_n (pc' := 1) dX11_way_0 rfl rfl ?_
  refine s_callS (pc' := 4) (As := [.int _]) dX11_way_1 rfl mk_X11_isSet ml_X11_282 sm_X11_isSet rfl rfl ⟨Nat.le_of_ble_eq_true rfl, Nat.le_of_ble_eq_true rfl, Nat.le_of_ble_eq_true rfl, Nat.le_of_ble_eq_true rfl⟩ (Nat.le_of_ble_eq_true rfl) (c_X11_isSet (fun j1 hj1 e1 => ?_) (fun n1 => ?_))
  · refine s_ifeqF (pc' := 7) (tgt := 19) dX11_way_4 (by decide) rfl (by decide) ?_
    subst e1
    have hp10 : pcn (nI j1) ≤ 10 := cntB_le _ _
    refine s_iload_n (pc' := 8) dX11_way_7 rfl rfl ?_
    refine s_iflt (pc' := 11) (tgt := 19) dX11_way_8 (by decide) rfl (fun c8 => ?_) (fun c8 => ?_)
    · refine s_iconst (pc' := 20) (v := -1) dX11_way_19 rfl (by decide) ?_
      exact s_iret dX11_way_20 rfl (by decide) (by decide) (k1 (Or.inr ⟨j1, hj1, rfl, fun n hn e => nI_pos (n := n) (by omega) (e ▸ c8)⟩))
    · refine s_iload_n (pc' := 12) dX11_way_11 rfl rfl ?_
      refine s_iload_n (pc' := 13) dX11_way_12 rfl rfl ?_
      refine s_callS (pc' := 16) (As := [.int _]) dX11_way_13 rfl mk_J6_bitCount_0f7a4 ml_X11_148 sm_J6_bitCount_0f7a4 rfl rfl ⟨Nat.le_of_ble_eq_true rfl, Nat.le_of_ble_eq_true rfl, Nat.le_of_ble_eq_true rfl, Nat.le_of_ble_eq_true rfl⟩ (Nat.le_of_ble_eq_true rfl) (c_J6_bitCount_0f7a4 (m := j1) (by omega) ?_)
      refine s_icmplt (pc' := 19) (tgt := 21) dX11_way_16 (by decide) rfl (fun c16 => ?_) (fun c16 => ?_)
      · obtain ⟨n, hn, en⟩ := ix_in c8 (show ¬ nI (pcn (nI j1)) ≤ y from Int32.not_le.mpr (by simpa using c16)) (by omega)
        subst en
        refine s_aload_n (pc' := 22) dX11_way_21 rfl rfl ?_
        refine s_getS (pc' := 25) (b := 23) dX11_way_22 rfl (by decide) rfl (by decide) fa_X11_24_11 rfl rfl ?_
        refine s_iload_n (pc' := 26) dX11_way_25 rfl rfl ?_
        refine s_callV (pc' := 29) (As := [.int _]) dX11_way_26 rfl mk_X1_markLeading ml_X11_285 im_X1_markLeading se_X1_X1_X1_markLeading sh_23 (by decide) rfl rfl rfl ⟨Nat.le_of_ble_eq_true rfl, Nat.le_of_ble_eq_true rfl, Nat.le_of_ble_eq_true rfl, Nat.le_of_ble_eq_true rfl⟩ (Nat.le_of_ble_eq_true rfl) (c_X1_markLeading X hj1 (fun I1 J1 Q1 w1 X1 F1 => ?_))
        refine s_aload_n (pc' := 30) dX11_way_29 rfl rfl ?_
        refine s_getS (pc' := 33) (b := 23) dX11_way_30 rfl (by decide) rfl (by decide) fa_X11_24_11 rfl rfl ?_
        refine s_iload_n (pc' := 34) dX11_way_33 rfl rfl ?_
        refine s_iload_n (pc' := 35) dX11_way_34 rfl rfl ?_
        refine s_callV (pc' := 38) (As := [.int _, .int _]) dX11_way_35 rfl mk_X1_stepOfWay ml_X11_289 im_X1_stepOfWay se_X1_X1_X1_stepOfWay sh_23 (by decide) rfl rfl rfl ⟨Nat.le_of_ble_eq_true rfl, Nat.le_of_ble_eq_true rfl, Nat.le_of_ble_eq_true rfl, Nat.le_of_ble_eq_true rfl⟩ (Nat.le_of_ble_eq_true rfl) (c_X1_stepOfWay hj1 hn F1 (fun d35 => ?_) (fun d35 => ?_))
        · exact s_iret dX11_way_38 rfl (by decide) (by decide) (k2 j1 n hj1 hn rfl rfl d35 I1 J1 Q1 w1 X1)
        · exact s_iret dX11_way_38 rfl (by decide) (by decide) (k3 j1 n hj1 hn rfl rfl d35 I1 J1 Q1 w1 X1)
      · refine s_iconst (pc' := 20) (v := -1) dX11_way_19 rfl (by decide) ?_
        exact s_iret dX11_way_20 rfl (by decide) (by decide) (k1 (Or.inr ⟨j1, hj1, rfl, fun n hn e => c16 (by rw [e]; exact nI_lt hn (by omega))⟩))
  · refine s_ifeqT (tgt := 19) dX11_way_4 (by decide) (by decide) ?_
    refine s_iconst (pc' := 20) (v := -1) dX11_way_19 rfl (by decide) ?_
    exact s_iret dX11_way_20 rfl (by decide) (by decide) (k1 (Or.inl n1))
set_option maxHeartbeats 200000 in
theorem c_X11_needs {N : Nat} {S : Nat → Nat × Nat} {I : Nat → Nat → Int32} {J : Nat → Nat → Int64} {Q : Nat → Nat → Option Nat} {κ : Option Value → HP → Prop} {D : Nat → Nat → Int32} {nv nr ns : Nat} {ad td : Nat → Nat} {e : Nat} (X : XB N S I J Q D nv nr ns ad td e) {md : Nat} (hm : D 75 3 = nI md) (hmd : md < 256) {x y : Int32} (k1 : ((∀ j, j < nv → x ≠ nI j) ∨ (∀ j, j < nv → y ≠ nI j)) → κ (some (.int (-1))) (N, S, I, J, Q)) (k2 : ∀ w v, w < nv → v < nv → x = nI w → y = nI v → κ (some (.int (b2 (bt (I 7 w) v)))) (N, S, I, J, Q)) : CT E1 M_X11_needs [.ref 0, .int x, .int y] (N, S, I, J, Q) κ := by
  refine ofSP mk_X11_needs (Nat.le_of_ble_eq_true rfl) (L := [.ref 0, .int _, .int _]) rfl ?_
  refine s_aload_n (pc' := 1) dX11_needs_0 rfl rfl ?_
  refine s_iload_n (pc' := 2) dX11_needs_1 rfl rfl ?_
  refine s_callV (pc' := 5) (As := [.int _]) dX11_needs_2 rfl mk_X11_isValue ml_X11_113 im_X11_isValue se_X11_X11_X11_isValue sh_0 (by decide) rfl rfl rfl ⟨Nat.le_of_ble_eq_true rfl, Nat.le_of_ble_eq_true rfl, Nat.le_of_ble_eq_true rfl, Nat.le_of_ble_eq_true rfl⟩ (Nat.le_of_ble_eq_true rfl) (c_X11_isValue X.1.xv (by have := X.2.1.nv; omega) (fun j2 hj2 e2 => ?_) (fun n2 => ?_))
  · subst e2
    refine s_ifeqF (pc' := 8) (tgt := 16) dX11_needs_5 (by decide) rfl (by decide) ?_
    refine s_aload_n (pc' := 9) dX11_needs_8 rfl rfl ?_
    refine s_iload_n (pc' := 10) dX11_needs_9 rfl rfl ?_
    refine s_callV (pc' := 13) (As := [.int _]) dX11_needs_10 rfl mk_X11_isValue ml_X11_113 im_X11_isValue se_X11_X11_X11_isValue sh_0 (by decide) rfl rfl rfl ⟨Nat.le_of_ble_eq_true rfl, Nat.le_of_ble_eq_true rfl, Nat.le_of_ble_eq_true rfl, Nat.le_of_ble_eq_true rfl⟩ (Nat.le_of_ble_eq_true rfl) (c_X11_isValue X.1.xv (by have := X.2.1.nv; omega) (fun j10 hj10 e10 => ?_) (fun n10 => ?_))
    · subst e10
      refine s_ifneT (tgt := 18) dX11_needs_13 (by decide) (by decide) ?_
      refine s_aload_n (pc' := 19) dX11_needs_18 rfl rfl ?_
      refine s_getS (pc' := 22) (b := 1) dX11_needs_19 rfl (by decide) rfl (by decide) fa_X11_10_11 rfl rfl ?_
      refine s_getS (pc' := 25) (b := 7) dX11_needs_22 rfl (by decide) rfl (by decide) fa_X11_262_8 rfl rfl ?_
      refine s_iload_n (pc' := 26) dX11_needs_25 rfl rfl ?_
      refine t_iald (pc' := 27) dX11_needs_26 rfl sh_7 rfl (by have := X.2.1.nv; omega) ?_
      refine s_iload_n (pc' := 28) dX11_needs_27 rfl rfl ?_
      refine s_callS (pc' := 31) (As := [.int _, .int _]) dX11_needs_28 rfl mk_X11_hasBit ml_X11_145 sm_X11_hasBit rfl rfl ⟨Nat.le_of_ble_eq_true rfl, Nat.le_of_ble_eq_true rfl, Nat.le_of_ble_eq_true rfl, Nat.le_of_ble_eq_true rfl⟩ (Nat.le_of_ble_eq_true rfl) (e_hasBit (j := j10) rfl (by have := X.2.1.nv; omega) (fun b28 => ?_) (fun b28 => ?_))
      · refine s_callS (pc' := 34) (As := [.int _]) dX11_needs_31 rfl mk_X11_bit ml_X11_200 sm_X11_bit rfl rfl ⟨Nat.le_of_ble_eq_true rfl, Nat.le_of_ble_eq_true rfl, Nat.le_of_ble_eq_true rfl, Nat.le_of_ble_eq_true rfl⟩ (Nat.le_of_ble_eq_true rfl) (c_X11_bit (fun _ => ?_) (fun z => absurd z (by decide)))
        exact s_iret dX11_needs_34 rfl (by decide) (by decide) (by have q := k2 j2 j10 hj2 hj10 rfl rfl; rw [b28] at q; exact q)
      · refine s_callS (pc' := 34) (As := [.int _]) dX11_needs_31 rfl mk_X11_bit ml_X11_200 sm_X11_bit rfl rfl ⟨Nat.le_of_ble_eq_true rfl, Nat.le_of_ble_eq_true rfl, Nat.le_of_ble_eq_true rfl, Nat.le_of_ble_eq_true rfl⟩ (Nat.le_of_ble_eq_true rfl) (c_X11_bit (fun z => absurd rfl z) (fun _ => ?_))
        exact s_iret dX11_needs_34 rfl (by decide) (by decide) (by have q := k2 j2 j10 hj2 hj10 rfl rfl; rw [b28] at q; exact q)
    · refine s_ifneF (pc' := 16) (tgt := 18) dX11_needs_13 (by decide) rfl (by decide) ?_
      refine s_iconst (pc' := 17) (v := -1) dX11_needs_16 rfl (by decide) ?_
      exact s_iret dX11_needs_17 rfl (by decide) (by decide) (k1 (Or.inr n10))
  · refine s_ifeqT (tgt := 16) dX11_needs_5 (by decide) (by decide) ?_
    refine s_iconst (pc' := 17) (v := -1) dX11_needs_16 rfl (by decide) ?_
    exact s_iret dX11_needs_17 rfl (by decide) (by decide) (k1 (Or.inl n2))
set_option maxHeartbeats 200000 in
theorem c_X11_choice {N : Nat} {S : Nat → Nat × Nat} {I : Nat → Nat → Int32} {J : Nat → Nat → Int64} {Q : Nat → Nat → Option Nat} {κ : Option Value → HP → Prop} {D : Nat → Nat → Int32} {nv nr ns : Nat} {ad td : Nat → Nat} {e : Nat} (X : XB N S I J Q D nv nr ns ad td e) {md : Nat} (hm : D 75 3 = nI md) (hmd : md < 256) {c w : Int32} (k1 : ((∀ j, j < 8 → c ≠ nI j) ∨ ¬ inR w 0 2) → κ (some (.int (-1))) (N, S, I, J, Q)) (k2 : ∀ j, j < 8 → c = nI j → w = 0 → κ (some (.int (bitI (nI md) (nI j)))) (N, S, I, J, Q)) (k3 : ∀ j, j < 8 → c = nI j → w = 1 → κ (some (.int (bitI (D 75 4) (nI j)))) (N, S, I, J, Q)) (k4 : ∀ j, j < 8 → c = nI j → w = 2 → ∀ I' J' Q', WQ I I' J J' Q Q' → XB N S I' J' Q' D nv nr ns ad td e → κ (some (.int (bitI (OS D nv nr ns (wo md j)) (nI j)))) (N, S, I', J', Q')) : CT E1 M_X11_choice [.ref 0, .int c, .int w] (N, S, I, J, Q) κ := by
  refine ofSP mk_X11_choice (Nat.le_of_ble_eq_true rfl) (L := [.ref 0, .int _, .int _]) rfl ?_
  refine s_iload_n (pc' := 1) dX11_choice_0 rfl rfl ?_
  refine s_callS (pc' := 4) (As := [.int _]) dX11_choice_1 rfl mk_X11_isChoice ml_X11_103 sm_X11_isChoice rfl rfl ⟨Nat.le_of_ble_eq_true rfl, Nat.le_of_ble_eq_true rfl, Nat.le_of_ble_eq_true rfl, Nat.le_of_ble_eq_true rfl⟩ (Nat.le_of_ble_eq_true rfl) (c_X11_isChoice (fun j1 hj1 e1 => ?_) (fun n1 => ?_))
  · subst e1
    refine s_ifneT (tgt := 9) dX11_choice_4 (by decide) (by decide) ?_
    refine s_iload_n (pc' := 10) dX11_choice_9 rfl rfl ?_
    by_cases hin : inR w 0 (2 : Nat)
    · obtain ⟨kw, hkw, ekw⟩ := in_n hin
      rcases (show kw = 0 ∨ kw = 1 ∨ kw = 2 by omega) with e6 | e6 | e6
      · rw [e6] at ekw
        refine s_tabIn (tgt := 36) (off := 26) dX11_choice_10 (by rw [ekw]; decide) (by rw [ekw]; decide) (by rw [ekw]; rfl) (by decide) ?_
        refine s_aload_n (pc' := 37) dX11_choice_36 rfl rfl ?_
        refine s_getS (pc' := 40) (b := 1) dX11_choice_37 rfl (by decide) rfl (by decide) fa_X11_10_11 rfl rfl ?_
        refine t_getI (pc' := 43) dX11_choice_40 rfl sh_1 (by decide) fa_X11_142_8 rfl ?_
        refine s_iload_n (pc' := 44) dX11_choice_43 rfl rfl ?_
        refine s_callS (pc' := 47) (As := [.int _, .int _]) dX11_choice_44 rfl mk_X11_hasBit ml_X11_145 sm_X11_hasBit rfl rfl ⟨Nat.le_of_ble_eq_true rfl, Nat.le_of_ble_eq_true rfl, Nat.le_of_ble_eq_true rfl, Nat.le_of_ble_eq_true rfl⟩ (Nat.le_of_ble_eq_true rfl) (e_hasBit (j := j1) rfl (by omega) (fun b44 => ?_) (fun b44 => ?_))
        · refine s_callS (pc' := 50) (As := [.int _]) dX11_choice_47 rfl mk_X11_bit ml_X11_200 sm_X11_bit rfl rfl ⟨Nat.le_of_ble_eq_true rfl, Nat.le_of_ble_eq_true rfl, Nat.le_of_ble_eq_true rfl, Nat.le_of_ble_eq_true rfl⟩ (Nat.le_of_ble_eq_true rfl) (c_X11_bit (fun _ => ?_) (fun z => absurd z (by decide)))
          exact s_iret dX11_choice_50 rfl (by decide) (by decide) (by have q := k2 j1 hj1 rfl ekw; rw [X.1.md, hm] at b44; rw [bitI_bt (by omega), b44] at q; exact q)
        · refine s_callS (pc' := 50) (As := [.int _]) dX11_choice_47 rfl mk_X11_bit ml_X11_200 sm_X11_bit rfl rfl ⟨Nat.le_of_ble_eq_true rfl, Nat.le_of_ble_eq_true rfl, Nat.le_of_ble_eq_true rfl, Nat.le_of_ble_eq_true rfl⟩ (Nat.le_of_ble_eq_true rfl) (c_X11_bit (fun z => absurd rfl z) (fun _ => ?_))
          exact s_iret dX11_choice_50 rfl (by decide) (by decide) (by have q := k2 j1 hj1 rfl ekw; rw [X.1.md, hm] at b44; rw [bitI_bt (by omega), b44] at q; exact q)
      · rw [e6] at ekw
        refine s_tabIn (tgt := 51) (off := 41) dX11_choice_10 (by rw [ekw]; decide) (by rw [ekw]; decide) (by rw [ekw]; rfl) (by decide) ?_
        refine s_aload_n (pc' := 52) dX11_choice_51 rfl rfl ?_
        refine s_getS (pc' := 55) (b := 1) dX11_choice_52 rfl (by decide) rfl (by decide) fa_X11_10_11 rfl rfl ?_
        refine t_getI (pc' := 58) dX11_choice_55 rfl sh_1 (by decide) fa_X11_106_8 rfl ?_
        refine s_iload_n (pc' := 59) dX11_choice_58 rfl rfl ?_
        refine s_callS (pc' := 62) (As := [.int _, .int _]) dX11_choice_59 rfl mk_X11_hasBit ml_X11_145 sm_X11_hasBit rfl rfl ⟨Nat.le_of_ble_eq_true rfl, Nat.le_of_ble_eq_true rfl, Nat.le_of_ble_eq_true rfl, Nat.le_of_ble_eq_true rfl⟩ (Nat.le_of_ble_eq_true rfl) (e_hasBit (j := j1) rfl (by omega) (fun b59 => ?_) (fun b59 => ?_))
        · refine s_callS (pc' := 65) (As := [.int _]) dX11_choice_62 rfl mk_X11_bit ml_X11_200 sm_X11_bit rfl rfl ⟨Nat.le_of_ble_eq_true rfl, Nat.le_of_ble_eq_true rfl, Nat.le_of_ble_eq_true rfl, Nat.le_of_ble_eq_true rfl⟩ (Nat.le_of_ble_eq_true rfl) (c_X11_bit (fun _ => ?_) (fun z => absurd z (by decide)))
          exact s_iret dX11_choice_65 rfl (by decide) (by decide) (by have q := k3 j1 hj1 rfl ekw; rw [X.1.fe] at b59; rw [bitI_bt (by omega), b59] at q; exact q)
        · refine s_callS (pc' := 65) (As := [.int _]) dX11_choice_62 rfl mk_X11_bit ml_X11_200 sm_X11_bit rfl rfl ⟨Nat.le_of_ble_eq_true rfl, Nat.le_of_ble_eq_true rfl, Nat.le_of_ble_eq_true rfl, Nat.le_of_ble_eq_true rfl⟩ (Nat.le_of_ble_eq_true rfl) (c_X11_bit (fun z => absurd rfl z) (fun _ => ?_))
          exact s_iret dX11_choice_65 rfl (by decide) (by decide) (by have q := k3 j1 hj1 rfl ekw; rw [X.1.fe] at b59; rw [bitI_bt (by omega), b59] at q; exact q)
      · rw [e6] at ekw
        refine s_tabIn (tgt := 66) (off := 56) dX11_choice_10 (by rw [ekw]; decide) (by rw [ekw]; decide) (by rw [ekw]; rfl) (by decide) ?_
        refine s_aload_n (pc' := 67) dX11_choice_66 rfl rfl ?_
        refine s_getS (pc' := 70) (b := 23) dX11_choice_67 rfl (by decide) rfl (by decide) fa_X11_24_11 rfl rfl ?_
        refine s_iload_n (pc' := 71) dX11_choice_70 rfl rfl ?_
        refine s_aload_n (pc' := 72) dX11_choice_71 rfl rfl ?_
        refine s_getS (pc' := 75) (b := 1) dX11_choice_72 rfl (by decide) rfl (by decide) fa_X11_10_11 rfl rfl ?_
        refine t_getI (pc' := 78) dX11_choice_75 rfl sh_1 (by decide) fa_X11_142_8 rfl ?_
        rw [X.1.md, hm]
        refine s_callV (pc' := 81) (As := [.int _, .int _]) dX11_choice_78 rfl mk_X1_isOpen ml_X11_265 im_X1_isOpen se_X1_X1_X1_isOpen sh_23 (by decide) rfl rfl rfl ⟨Nat.le_of_ble_eq_true rfl, Nat.le_of_ble_eq_true rfl, Nat.le_of_ble_eq_true rfl, Nat.le_of_ble_eq_true rfl⟩ (Nat.le_of_ble_eq_true rfl) (c_X1_isOpen X (b := md) hmd hj1 (fun o78 I1 J1 Q1 w1 X1 => ?_) (fun o78 I1 J1 Q1 w1 X1 => ?_))
        · refine s_callS (pc' := 84) (As := [.int _]) dX11_choice_81 rfl mk_X11_bit ml_X11_200 sm_X11_bit rfl rfl ⟨Nat.le_of_ble_eq_true rfl, Nat.le_of_ble_eq_true rfl, Nat.le_of_ble_eq_true rfl, Nat.le_of_ble_eq_true rfl⟩ (Nat.le_of_ble_eq_true rfl) (c_X11_bit (fun _ => ?_) (fun z => absurd z (by decide)))
          exact s_iret dX11_choice_84 rfl (by decide) (by decide) (by have q := k4 j1 hj1 rfl ekw I1 J1 Q1 w1.q X1; rw [bitI_bt (by omega), o78] at q; exact q)
        · refine s_callS (pc' := 84) (As := [.int _]) dX11_choice_81 rfl mk_X11_bit ml_X11_200 sm_X11_bit rfl rfl ⟨Nat.le_of_ble_eq_true rfl, Nat.le_of_ble_eq_true rfl, Nat.le_of_ble_eq_true rfl, Nat.le_of_ble_eq_true rfl⟩ (Nat.le_of_ble_eq_true rfl) (c_X11_bit (fun z => absurd rfl z) (fun _ => ?_))
          exact s_iret dX11_choice_84 rfl (by decide) (by decide) (by have q := k4 j1 hj1 rfl ekw I1 J1 Q1 w1.q X1; rw [bitI_bt (by omega), o78] at q; exact q)
    · refine s_tabOut (tgt := 85) dX11_choice_10 (by (try decide); exact out8 hin) (by decide) ?_
      refine s_iconst (pc' := 86) (v := -1) dX11_choice_85 rfl (by decide) ?_
      exact s_iret dX11_choice_86 rfl (by decide) (by decide) (k1 (Or.inr hin))
  · refine s_ifneF (pc' := 7) (tgt := 9) dX11_choice_4 (by decide) rfl (by decide) ?_
    refine s_iconst (pc' := 8) (v := -1) dX11_choice_7 rfl (by decide) ?_
    exact s_iret dX11_choice_8 rfl (by decide) (by decide) (k1 (Or.inl n1))
