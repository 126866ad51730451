section TC
variable {E : EV} {M : MD} {κ : Option Value → HP → Prop} {pc pc' : Nat} {L st : List Value} {N : Nat} {S : Nat → Nat × Nat} {I : Nat → Nat → Int32} {J : Nat → Nat → Int64} {Q : Nat → Nat → Option Nat} {cs ss idx : Nat}
theorem t_copyI {a0 a n0 n1 sp dp n : Nat} {x0 x1 x2 : Int32} (hd : decode M.2.1 pc = .ok (.invokestatic idx, 3)) (hp : pc + 3 = pc') (hl : Cond.methodLink M.1.cls idx arraycopyName ∈ lw_u) (h0 : Sh E (N, S, I, J, Q) a0 13 n0) (h1 : Sh E (N, S, I, J, Q) a 13 n1) (e0 : x0 = nI sp) (e1 : x1 = nI dp) (e2 : x2 = nI n) (b0 : sp + n ≤ n0) (b1 : dp + n ≤ n1) (hdp : 1 ≤ M.2.2.2.2.1) (hst : (st.map fun v => v.category).sum ≤ 8)
    (k : SP E M κ pc' L st (N, S, row I a (va_cpy (I a0) (I a) sp dp n), J, Q) cs ss) : SP E M κ pc L (.int x2 :: .int x1 :: .ref a :: .int x0 :: .ref a0 :: st) (N, S, I, J, Q) cs ss := s_copyI hd hp hl h0 h1 e0 e1 e2 b0 b1 hdp hst k
theorem t_copyJ {a0 a n0 n1 sp dp n : Nat} {x0 x1 x2 : Int32} (hd : decode M.2.1 pc = .ok (.invokestatic idx, 3)) (hp : pc + 3 = pc') (hl : Cond.methodLink M.1.cls idx arraycopyName ∈ lw_u) (h0 : Sh E (N, S, I, J, Q) a0 14 n0) (h1 : Sh E (N, S, I, J, Q) a 14 n1) (e0 : x0 = nI sp) (e1 : x1 = nI dp) (e2 : x2 = nI n) (b0 : sp + n ≤ n0) (b1 : dp + n ≤ n1) (hdp : 1 ≤ M.2.2.2.2.1) (hst : (st.map fun v => v.category).sum ≤ 8)
    (k : SP E M κ pc' L st (N, S, I, row J a (va_cpy (J a0) (J a) sp dp n), Q) cs ss) : SP E M κ pc L (.int x2 :: .int x1 :: .ref a :: .int x0 :: .ref a0 :: st) (N, S, I, J, Q) cs ss := s_copyJ hd hp hl h0 h1 e0 e1 e2 b0 b1 hdp hst k
theorem t_aastN {a n : Nat} {i : Int32} {q : Nat} (hd : decode M.2.1 pc = .ok (.aastore, 1)) (hp : pc + 1 = pc') (hs : Sh E (N, S, I, J, Q) a 16 n) (hi : i = nI q) (hq : q < n) (hx : a < E.1 → ∀ j, E.2.2 a j = none) (k : SP E M κ pc' L st (N, S, I, J, up2 Q a q none) cs ss) : SP E M κ pc L (.null :: .int i :: .ref a :: st) (N, S, I, J, Q) cs ss := s_aastN hd hp hs hi hq hx k
end TC
/-! ===== the book ===== -/
def gX (J : Nat → Nat → Int64) (b : Nat) : Nat → Int64 := fun v => J 38 (10 * b + v)
/-- the numbers of the sheet b -/
noncomputable def gS (D : Nat → Nat → Int32) (nv nr ns b : Nat) : Nat → Int64 := @dite _ (∃ g, FX D (nI b) (thS D (nI b) nr) nv nr ns g) (Classical.propDecidable _) (fun h => Classical.choose h) (fun _ _ => 0)
theorem gS_eq {D : Nat → Nat → Int32} {nv nr ns b : Nat} {g : Nat → Int64} (hW : DW D nv nr ns) (hA : AC D nv nr) (h : FX D (nI b) (thS D (nI b) nr) nv nr ns g) : ∀ v, v < nv → g v = gS D nv nr ns b v := by
  have hex : ∃ g, FX D (nI b) (thS D (nI b) nr) nv nr ns g := ⟨g, h⟩
  unfold gS
  rw [dif_pos hex]
  exact FX.uniq hW hA h (Classical.choose_spec hex)
/-- the open choices of the sheet b, as bits -/
noncomputable def OS (D : Nat → Nat → Int32) (nv nr ns b : Nat) : Int32 := opM D (nI b) (gS D nv nr ns b) (thS D (nI b) nr) nr 8
/-- is the sheet b lawful -/
noncomputable def LW (D : Nat → Nat → Int32) (nv nr ns b : Nat) : Bool := lwB (OS D nv nr ns) b 8
theorem opM_bt {D : Nat → Nat → Int32} {x : Int32} {g : Nat → Int64} {th : Int32} {nr c : Nat} (hc : c < 32) : ∀ k, k ≤ 8 → bt (opM D x g th nr k) c = (decide (c < k) && opn D x g th (nI c) nr)
  | 0, _ => by rw [opM, b_0]; simp
  | k + 1, hk => by
    have ih := opM_bt (D := D) (x := x) (g := g) (th := th) (nr := nr) hc k (by omega)
    rw [opM, b_or, ih]
    by_cases e : c = k
    · subst e
      cases ho : opn D x g th (nI c) nr with
      | true => simp [bt_one (show c < 32 by omega) hc]
      | false => simp [b_0]
    · have e2 : decide (c < k + 1) = decide (c < k) := by
        by_cases z : c < k
        · rw [decide_eq_true z, decide_eq_true (by omega)]
        · rw [decide_eq_false z, decide_eq_false (by omega)]
      rw [e2]
      cases ho : opn D x g th (nI k) nr with
      | true => simp [bt_one (show k < 32 by omega) hc, e]
      | false => simp [b_0]
theorem opn_gg {D : Nat → Nat → Int32} {nv nr ns : Nat} {x th c : Int32} {g g' : Nat → Int64} (hW : DW D nv nr ns) (h : ∀ u, u < nv → g u = g' u) : opn D x g th c nr = opn D x g' th c nr := by
  unfold opn; rw [(opA_gg hW h nr (Nat.le_refl _)).1, (opA_gg hW h nr (Nat.le_refl _)).2]
theorem OS_bt {D : Nat → Nat → Int32} {nv nr ns b c : Nat} (hc : c < 8) : bt (OS D nv nr ns b) c = opn D (nI b) (gS D nv nr ns b) (thS D (nI b) nr) (nI c) nr := by
  unfold OS; rw [opM_bt (by omega) 8 (Nat.le_refl _), decide_eq_true hc, Bool.true_and]
def BG (I : Nat → Nat → Int32) (J : Nat → Nat → Int64) (D : Nat → Nat → Int32) (nv nr ns b : Nat) : Prop :=
  (∀ v, v < nv → gX J b v = gS D nv nr ns b v ∧ nb (gS D nv nr ns b v) (2 ^ 60)) ∧ ∀ c, c < 8 → bt (I 37 b) c = bt (OS D nv nr ns b) c
def BK (I : Nat → Nat → Int32) (J : Nat → Nat → Int64) (D : Nat → Nat → Int32) (nv nr ns e : Nat) : Prop :=
  I 23 2 = nI e ∧ e < 2 ^ 30 ∧ ∀ b, b < 256 → (∃ e', e' ≤ e ∧ I 36 b = nI e') ∧ (I 36 b = nI e → BG I J D nv nr ns b)
def XB (N : Nat) (S : Nat → Nat × Nat) (I : Nat → Nat → Int32) (J : Nat → Nat → Int64) (Q : Nat → Nat → Option Nat) (D : Nat → Nat → Int32) (nv nr ns : Nat) (ad td : Nat → Nat) (e : Nat) : Prop :=
  XS N S I Q D nv nr ns ad td 0 ∧ DW D nv nr ns ∧ AC D nv nr ∧ NT I D nv nr 0 ∧ (∃ ord st, AR I D nv nr ord st) ∧ I 31 0 = 0 ∧ BK I J D nv nr ns e
/-- what writing pages may change -/
def WW (I I' : Nat → Nat → Int32) (J J' : Nat → Nat → Int64) (Q Q' : Nat → Nat → Option Nat) : Prop := (∀ a, (a < 24 ∨ 37 < a) → I' a = I a) ∧ I' 29 = I 29 ∧ I' 30 = I 30 ∧ I' 31 = I 31 ∧ (∀ a, (a < 25 ∨ 38 < a) → J' a = J a) ∧ (∀ a, a ≠ 32 → Q' a = Q a)
section WW
variable {N : Nat} {S : Nat → Nat × Nat} {I I' I2 : Nat → Nat → Int32} {J J' J2 : Nat → Nat → Int64} {Q Q' Q2 : Nat → Nat → Option Nat} {D : Nat → Nat → Int32} {nv nr ns e b : Nat} {ad td : Nat → Nat}
theorem WW.rf : WW I I J J Q Q := ⟨fun _ _ => rfl, rfl, rfl, rfl, fun _ _ => rfl, fun _ _ => rfl⟩
theorem WW.tr (h : WW I I' J J' Q Q') (h2 : WW I' I2 J' J2 Q' Q2) : WW I I2 J J2 Q Q2 :=
  ⟨fun a ha => (h2.1 a ha).trans (h.1 a ha), h2.2.1.trans h.2.1, h2.2.2.1.trans h.2.2.1, h2.2.2.2.1.trans h.2.2.2.1, fun a ha => (h2.2.2.2.2.1 a ha).trans (h.2.2.2.2.1 a ha), fun a ha => (h2.2.2.2.2.2 a ha).trans (h.2.2.2.2.2 a ha)⟩
theorem XS.ww (h : XS N S I Q D nv nr ns ad td 0) (w : WW I I' J J' Q Q') : XS N S I' Q' D nv nr ns ad td 0 :=
  h.mv (fun a h1 h2 _ => w.1 a (by omega)) (w.2.2.2.2.2 8 (by decide)) (fun a ha => w.1 a (by omega)) (fun a ha => w.2.2.2.2.2 a (by omega))
theorem XB.ww (h : XB N S I J Q D nv nr ns ad td e) (w : WW I I' J J' Q Q') (hk : BK I' J' D nv nr ns e) : XB N S I' J' Q' D nv nr ns ad td e := by
  obtain ⟨h1, h2, h3, h4, ⟨ord, st, h5⟩, h6, h7⟩ := h
  exact ⟨h1.ww w, h2, h3, fun v hv u => by rw [w.1 (0 + 7) (by omega)]; exact h4 v hv u, ⟨ord, st, h5.mv w.2.1 w.2.2.1 w.2.2.2.1⟩, by rw [w.2.2.2.1]; exact h6, hk⟩
theorem FX_of (h : ∀ v, v < nv → LX I' J' D (nI b) (thS D (nI b) nr) nr ns v) : FX D (nI b) (thS D (nI b) nr) nv nr ns (J' 25) := fun v hv => (h v hv).1
theorem wr_page (hX : XB N S I J Q D nv nr ns ad td e) (hb : b < 256) (h : RD I I' J J' Q Q' D (nI b) nv nr ns) :
    WW I (up2 (up2 I' 37 b (I' 24 6)) 36 b (nI e)) J (row J' 38 (va_cpy (J' 25) (J' 38) 0 (10 * b) 10)) Q Q' ∧ BK (up2 (up2 I' 37 b (I' 24 6)) 36 b (nI e)) (row J' 38 (va_cpy (J' 25) (J' 38) 0 (10 * b) 10)) D nv nr ns e := by
  obtain ⟨-, hW, hA, -, -, -, hK⟩ := hX
  obtain ⟨r1, r2, r3, r4, r5, r6⟩ := h
  have hn := hW.nv
  have hfx := FX_of r4
  have hg : ∀ v, v < nv → J' 25 v = gS D nv nr ns b v := gS_eq hW hA hfx
  have cin : ∀ v, v < nv → gX (row J' 38 (va_cpy (J' 25) (J' 38) 0 (10 * b) 10)) b v = J' 25 v := fun v hv => by
    unfold gX; rw [row_s, pk_cpy_in (by omega) (by omega)]; congr 1; omega
  refine ⟨⟨fun a ha => ?_, ?_, ?_, ?_, fun a ha => ?_, r1.2.2.2.2⟩, ?_, hK.2.1, fun c hc => ?_⟩
  · rw [up2_o (by omega), up2_o (by omega)]; exact r1.1 a (by omega)
  · rw [up2_o (by decide), up2_o (by decide)]; exact r1.2.1
  · rw [up2_o (by decide), up2_o (by decide)]; exact r1.2.2.1
  · rw [up2_o (by decide), up2_o (by decide)]; exact r1.2.2.2.1
  · rw [row_o (by omega)]; exact r3 a (by omega) (by omega)
  · rw [up2_d (by decide), up2_d (by decide), r1.1 23 (by decide)]; exact hK.1
  · by_cases ec : c = b
    · subst ec
      refine ⟨⟨e, Nat.le_refl _, up2_s⟩, fun _ => ⟨fun v hv => ?_, fun u hu => ?_⟩⟩
      · rw [cin v hv, ← hg v hv]; exact ⟨rfl, r6 v hv⟩
      · rw [up2_d (by decide), up2_s, r5 u hu, OS_bt hu]
        exact opn_gg hW hg
    · have h36 : (up2 (up2 I' 37 b (I' 24 6)) 36 b (nI e)) 36 c = I 36 c := by rw [up2_e ec, up2_d (by decide), r1.1 36 (by decide)]
      rw [h36]
      refine ⟨(hK.2.2 c hc).1, fun z => ?_⟩
      obtain ⟨p1, p2⟩ := (hK.2.2 c hc).2 z
      refine ⟨fun v hv => ?_, fun u hu => ?_⟩
      · have : gX (row J' 38 (va_cpy (J' 25) (J' 38) 0 (10 * b) 10)) c v = gX J c v := by
          unfold gX; rw [row_s, pk_cpy_out (by omega), r3 38 (by decide) (by decide)]
        rw [this]; exact p1 v hv
      · rw [up2_d (by decide), up2_e ec, r1.1 37 (by decide)]; exact p2 u hu
theorem XB.page (hX : XB N S I J Q D nv nr ns ad td e) (hb : b < 256) (h : I 36 b = nI e) : BG I J D nv nr ns b := (hX.2.2.2.2.2.2.2.2 b hb).2 h
theorem lwB_s1 {op : Nat → Int32} {k : Nat} (h : lwB op b k = true) (hb : bt (nI b) k = false) (hk : k < 31) : lwB op b (k + 1) = true := by
  rw [lwB, h, decide_eq_false (fun z => by rw [(bitI_1 hk).mp z] at hb; cases hb)]; rfl
theorem lwB_s2 {op : Nat → Int32} {k : Nat} (h : lwB op b k = true) (hb : bt (op (wo b k)) k = true) (hk : k < 31) : lwB op b (k + 1) = true := by
  rw [lwB, h, decide_eq_true ((bitI_1 hk).mpr hb), Bool.or_true]; rfl
theorem lwB_f {op : Nat → Int32} {k : Nat} (hb : bt (nI b) k = true) (ho : bt (op (wo b k)) k = false) (hk : k < 31) : ∀ n, k < n → lwB op b n = false
  | 0, h => by omega
  | n + 1, h => by
    by_cases e : k = n
    · subst e
      rw [lwB, decide_eq_true ((bitI_1 hk).mpr hb), decide_eq_false (fun z => by rw [(bitI_1 hk).mp z] at ho; cases ho)]; simp
    · rw [lwB, lwB_f hb ho hk n (by omega)]; rfl
theorem wbi_wo {c : Nat} (hb : b < 256) (hc : c < 8) : wbi (nI b) (nI c) 0 = nI (wo b c) := by rw [wbi_0 rfl]; exact (wo_ix b hb c hc).1
end WW
/-- a new edition: no page is written -/
theorem BK.new {I I' : Nat → Nat → Int32} {J J' : Nat → Nat → Int64} {D D' : Nat → Nat → Int32} {nv nr ns nv' nr' ns' e : Nat} (h : BK I J D nv nr ns e) (h2 : I' 23 2 = nI (e + 1)) (h36 : I' 36 = I 36) (he : e + 1 < 2 ^ 30) : BK I' J' D' nv' nr' ns' (e + 1) := by
  refine ⟨h2, he, fun b hb => ?_⟩
  obtain ⟨⟨e', h1, h3⟩, -⟩ := h.2.2 b hb
  rw [h36]
  refine ⟨⟨e', by omega, h3⟩, fun z => ?_⟩
  rw [h3] at z
  have := (nI_eq (by omega) (by omega)).mp z
  omega
theorem c_X1_write {N : Nat} {S : Nat → Nat × Nat} {I : Nat → Nat → Int32} {J : Nat → Nat → Int64} {Q : Nat → Nat → Option Nat} {κ : Option Value → HP → Prop} {D : Nat → Nat → Int32} {nv nr ns : Nat} {ad td : Nat → Nat} {e : Nat} (X : XB N S I J Q D nv nr ns ad td e) {b : Nat} (hb : b < 256) (hk : ∀ I' J' Q', WW I I' J J' Q Q' → XB N S I' J' Q' D nv nr ns ad td e → I' 36 b = nI e → κ none (N, S, I', J', Q')) : CT E1 M_X1_write [.ref 23, .int (nI b)] (N, S, I, J, Q) κ := by
  refine ofSP mk_X1_write (Nat.le_of_ble_eq_true rfl) (L := [.ref 23, .int _]) rfl ?_
  refine s_aload_n (pc' := 1) dX1_write_0 rfl rfl ?_
  refine s_getS (pc' := 4) (b := 36) dX1_write_1 rfl (by decide) rfl (by decide) fa_X1_22_1 rfl rfl ?_
  refine s_iload_n (pc' := 5) dX1_write_4 rfl rfl ?_
  refine t_iald (pc' := 6) dX1_write_5 rfl sh_36 rfl hb ?_
  refine s_aload_n (pc' := 7) dX1_write_6 rfl rfl ?_
  refine t_getI (pc' := 10) dX1_write_7 rfl sh_23 (by decide) fa_X1_18_1 rfl ?_
  refine s_icmpne (pc' := 13) (tgt := 14) dX1_write_10 (by decide) rfl (fun c10 => ?_) (fun c10 => ?_)
  · obtain ⟨ord, st, hAR⟩ := X.2.2.2.2.1
    refine s_aload_n (pc' := 15) dX1_write_14 rfl rfl ?_
    refine s_getS (pc' := 18) (b := 24) dX1_write_15 rfl (by decide) rfl (by decide) fa_X1_12_1 rfl rfl ?_
    refine s_aload_n (pc' := 19) dX1_write_18 rfl rfl ?_
    refine s_getS (pc' := 22) (b := 1) dX1_write_19 rfl (by decide) rfl (by decide) fa_X1_46_1 rfl rfl ?_
    refine s_iload_n (pc' := 23) dX1_write_22 rfl rfl ?_
    refine s_callV (pc' := 26) (As := [.ref 1, .int _]) dX1_write_23 rfl mk_X5_reckon ml_X1_54 im_X5_reckon se_X5_X5_X5_reckon sh_24 (by decide) rfl rfl rfl ⟨Nat.le_of_ble_eq_true rfl, Nat.le_of_ble_eq_true rfl, Nat.le_of_ble_eq_true rfl, Nat.le_of_ble_eq_true rfl⟩ (Nat.le_of_ble_eq_true rfl) (c_X5_reckon X.1 X.2.1 hAR (fun I1 J1 Q1 r1 => ?_))
    have e23 : I1 23 2 = nI e := by rw [r1.1.1 23 (by decide)]; exact X.2.2.2.2.2.2.1
    refine s_aload_n (pc' := 27) dX1_write_26 rfl rfl ?_
    refine s_getS (pc' := 30) (b := 37) dX1_write_27 rfl (by decide) rfl (by decide) fa_X1_26_1 rfl rfl ?_
    refine s_iload_n (pc' := 31) dX1_write_30 rfl rfl ?_
    refine s_aload_n (pc' := 32) dX1_write_31 rfl rfl ?_
    refine s_getS (pc' := 35) (b := 24) dX1_write_32 rfl (by decide) rfl (by decide) fa_X1_12_1 rfl rfl ?_
    refine t_getI (pc' := 38) dX1_write_35 rfl sh_24 (by decide) fa_X1_58_5 rfl ?_
    refine t_iast (pc' := 39) dX1_write_38 rfl sh_37 rfl hb ?_
    refine s_aload_n (pc' := 40) dX1_write_39 rfl rfl ?_
    refine s_getS (pc' := 43) (b := 24) dX1_write_40 rfl (by decide) rfl (by decide) fa_X1_12_1 rfl rfl ?_
    refine s_getS (pc' := 46) (b := 25) dX1_write_43 rfl (by decide) rfl (by decide) fa_X1_60_5 rfl rfl ?_
    refine s_iconst (pc' := 47) (v := 0) dX1_write_46 rfl (by decide) ?_
    refine s_aload_n (pc' := 48) dX1_write_47 rfl rfl ?_
    refine s_getS (pc' := 51) (b := 38) dX1_write_48 rfl (by decide) rfl (by decide) fa_X1_29_1 rfl rfl ?_
    refine s_iload_n (pc' := 52) dX1_write_51 rfl rfl ?_
    refine s_bipush (pc' := 54) (v := 10) dX1_write_52 rfl (by decide) ?_
    refine s_imul (pc' := 55) dX1_write_54 rfl ?_
    refine s_bipush (pc' := 57) (v := 10) dX1_write_55 rfl (by decide) ?_
    refine t_copyJ (pc' := 60) dX1_write_57 rfl ml_X1_61 sh_25 sh_38 (sp := 0) (dp := 10 * b) (n := 10) rfl (by show nI b * nI 10 = _; rw [pk_mul, Nat.mul_comm]) rfl (by decide) (by omega) (by decide) (Nat.le_of_ble_eq_true rfl) ?_
    refine s_aload_n (pc' := 61) dX1_write_60 rfl rfl ?_
    refine s_getS (pc' := 64) (b := 36) dX1_write_61 rfl (by decide) rfl (by decide) fa_X1_22_1 rfl rfl ?_
    refine s_iload_n (pc' := 65) dX1_write_64 rfl rfl ?_
    refine s_aload_n (pc' := 66) dX1_write_65 rfl rfl ?_
    refine t_getI (pc' := 69) dX1_write_66 rfl sh_23 (by decide) fa_X1_18_1 rfl ?_
    rw [show up2 I1 37 b (I1 24 6) 23 2 = nI e by rw [up2_d (by decide)]; exact e23]
    refine t_iast (pc' := 70) dX1_write_69 rfl sh_36 rfl hb ?_
    exact s_vret dX1_write_70 rfl (by decide) (by decide) (by
    have z := wr_page X hb r1
    refine hk _ _ _ z.1 (X.ww z.1 z.2) ?_
    rw [up2_s])
  · exact s_vret dX1_write_13 rfl (by decide) (by decide) (hk I J Q WW.rf X (by rw [← X.2.2.2.2.2.2.1]; simpa using c10))
theorem c_X1_numberOn {N : Nat} {S : Nat → Nat × Nat} {I : Nat → Nat → Int32} {J : Nat → Nat → Int64} {Q : Nat → Nat → Option Nat} {κ : Option Value → HP → Prop} {D : Nat → Nat → Int32} {nv nr ns : Nat} {ad td : Nat → Nat} {e : Nat} (X : XB N S I J Q D nv nr ns ad td e) {b v : Nat} (hb : b < 256) (hv : v < nv) (hk : ∀ I' J' Q', WW I I' J J' Q Q' → XB N S I' J' Q' D nv nr ns ad td e → κ (some (.long (gS D nv nr ns b v))) (N, S, I', J', Q')) : CT E1 M_X1_numberOn [.ref 23, .int (nI v), .int (nI b)] (N, S, I, J, Q) κ := by
  refine ofSP mk_X1_numberOn (Nat.le_of_ble_eq_true rfl) (L := [.ref 23, .int _, .int _]) rfl ?_
  refine s_aload_n (pc' := 1) dX1_numberOn_0 rfl rfl ?_
  refine s_iload_n (pc' := 2) dX1_numberOn_1 rfl rfl ?_
  refine s_callV (pc' := 5) (As := [.int _]) dX1_numberOn_2 rfl mk_X1_write ml_X1_67 im_X1_write se_X1_X1_X1_write sh_23 (by decide) rfl rfl rfl ⟨Nat.le_of_ble_eq_true rfl, Nat.le_of_ble_eq_true rfl, Nat.le_of_ble_eq_true rfl, Nat.le_of_ble_eq_true rfl⟩ (Nat.le_of_ble_eq_true rfl) (c_X1_write X (b := b) hb (fun I1 J1 Q1 w1 X1 p1 => ?_))
  refine s_aload_n (pc' := 6) dX1_numberOn_5 rfl rfl ?_
  refine s_getS (pc' := 9) (b := 38) dX1_numberOn_6 rfl (by decide) rfl (by decide) fa_X1_29_1 rfl rfl ?_
  refine s_iload_n (pc' := 10) dX1_numberOn_9 rfl rfl ?_
  refine s_bipush (pc' := 12) (v := 10) dX1_numberOn_10 rfl (by decide) ?_
  refine s_imul (pc' := 13) dX1_numberOn_12 rfl ?_
  refine s_iload_n (pc' := 14) dX1_numberOn_13 rfl rfl ?_
  refine s_iadd (pc' := 15) dX1_numberOn_14 rfl ?_
  refine t_lald (pc' := 16) (q := 10 * b + v) dX1_numberOn_15 rfl sh_38 (by show nI b * nI 10 + nI v = _; rw [pk_mul, nI_add, Nat.mul_comm]) (by have := X.2.1.nv; omega) ?_
  exact s_lret dX1_numberOn_16 rfl (by decide) (by decide) (by have z := ((X1.page hb p1).1 v hv).1; unfold gX at z; rw [z]; exact hk I1 J1 Q1 w1 X1)
theorem c_X1_isOpen {N : Nat} {S : Nat → Nat × Nat} {I : Nat → Nat → Int32} {J : Nat → Nat → Int64} {Q : Nat → Nat → Option Nat} {κ : Option Value → HP → Prop} {D : Nat → Nat → Int32} {nv nr ns : Nat} {ad td : Nat → Nat} {e : Nat} (X : XB N S I J Q D nv nr ns ad td e) {b c : Nat} (hb : b < 256) (hc : c < 8) (ht : bt (OS D nv nr ns (wo b c)) c = true → ∀ I' J' Q', WW I I' J J' Q Q' → XB N S I' J' Q' D nv nr ns ad td e → κ (some (.int 1)) (N, S, I', J', Q')) (hf : bt (OS D nv nr ns (wo b c)) c = false → ∀ I' J' Q', WW I I' J J' Q Q' → XB N S I' J' Q' D nv nr ns ad td e → κ (some (.int 0)) (N, S, I', J', Q')) : CT E1 M_X1_isOpen [.ref 23, .int (nI c), .int (nI b)] (N, S, I, J, Q) κ := by
  refine ofSP mk_X1_isOpen (Nat.le_of_ble_eq_true rfl) (L := [.ref 23, .int _, .int _, .retAddr _]) rfl ?_
  refine s_iload_n (pc' := 1) dX1_isOpen_0 rfl rfl ?_
  refine s_iload_n (pc' := 2) dX1_isOpen_1 rfl rfl ?_
  refine s_iconst (pc' := 3) (v := 0) dX1_isOpen_2 rfl (by decide) ?_
  refine s_callSN (pc' := 6) (As := [.int _, .int _, .int _]) dX1_isOpen_3 rfl mk_X11_withBit mn_X1_71 sm_X11_withBit rfl rfl ⟨Nat.le_of_ble_eq_true rfl, Nat.le_of_ble_eq_true rfl, Nat.le_of_ble_eq_true rfl, Nat.le_of_ble_eq_true rfl⟩ (Nat.le_of_ble_eq_true rfl) (c_X11_withBit ?_)
  rw [wbi_wo hb hc]
  have hw := (wo_ix b hb c hc).2
  refine t_istore_n (pc' := 7) (L' := [.ref 23, .int _, .int _, .int _]) dX1_isOpen_6 rfl (Nat.le_of_ble_eq_true rfl) rfl ?_
  refine s_aload_n (pc' := 8) dX1_isOpen_7 rfl rfl ?_
  refine s_iload_n (pc' := 9) dX1_isOpen_8 rfl rfl ?_
  refine s_callV (pc' := 12) (As := [.int _]) dX1_isOpen_9 rfl mk_X1_write ml_X1_67 im_X1_write se_X1_X1_X1_write sh_23 (by decide) rfl rfl rfl ⟨Nat.le_of_ble_eq_true rfl, Nat.le_of_ble_eq_true rfl, Nat.le_of_ble_eq_true rfl, Nat.le_of_ble_eq_true rfl⟩ (Nat.le_of_ble_eq_true rfl) (c_X1_write X (b := wo b c) hw (fun I1 J1 Q1 w1 X1 p1 => ?_))
  have pg := (X1.page hw p1).2 c hc
  refine s_aload_n (pc' := 13) dX1_isOpen_12 rfl rfl ?_
  refine s_getS (pc' := 16) (b := 37) dX1_isOpen_13 rfl (by decide) rfl (by decide) fa_X1_26_1 rfl rfl ?_
  refine s_iload_n (pc' := 17) dX1_isOpen_16 rfl rfl ?_
  refine t_iald (pc' := 18) dX1_isOpen_17 rfl sh_37 rfl hw ?_
  refine s_iload_n (pc' := 19) dX1_isOpen_18 rfl rfl ?_
  refine s_callSN (pc' := 22) (As := [.int _, .int _]) dX1_isOpen_19 rfl mk_X11_hasBit mn_X1_75 sm_X11_hasBit rfl rfl ⟨Nat.le_of_ble_eq_true rfl, Nat.le_of_ble_eq_true rfl, Nat.le_of_ble_eq_true rfl, Nat.le_of_ble_eq_true rfl⟩ (Nat.le_of_ble_eq_true rfl) (e_hasBit (j := _) rfl (by omega) (fun b19 => ?_) (fun b19 => ?_))
  · exact s_zret dX1_isOpen_22 rfl rfl (by decide) (by decide) (ht (by rw [← pg]; exact b19) I1 J1 Q1 w1 X1)
  · exact s_zret dX1_isOpen_22 rfl rfl (by decide) (by decide) (hf (by rw [← pg]; exact b19) I1 J1 Q1 w1 X1)
theorem l_X1_isLawful {N : Nat} {S : Nat → Nat × Nat} {I : Nat → Nat → Int32} {J : Nat → Nat → Int64} {Q : Nat → Nat → Option Nat} {κ : Option Value → HP → Prop} {D : Nat → Nat → Int32} {nv nr ns : Nat} {ad td : Nat → Nat} {e : Nat} (X : XB N S I J Q D nv nr ns ad td e) {b : Nat} (hb : b < 256) (ht : LW D nv nr ns b = true → ∀ I' J' Q', WW I I' J J' Q Q' → XB N S I' J' Q' D nv nr ns ad td e → κ (some (.int 1)) (N, S, I', J', Q')) (hf : LW D nv nr ns b = false → ∀ I' J' Q', WW I I' J J' Q Q' → XB N S I' J' Q' D nv nr ns ad td e → κ (some (.int 0)) (N, S, I', J', Q')) : ∀ d : Nat, ∀ k I' J' Q', k + d = 8 → WW I I' J J' Q Q' → XB N S I' J' Q' D nv nr ns ad td e → lwB (OS D nv nr ns) b k = true → SP E1 M_X1_isLawful κ 2 [.ref 23, .int (nI b), .int (nI k), .retAddr 0] [] (N, S, I', J', Q') 0 0 := by
  intro d
  induction d with
  | zero =>
    intro k I' J' Q' hd w X2 hP
    obtain rfl : k = 8 := by omega
    refine s_iload_n (pc' := 3) dX1_isLawful_2 rfl rfl ?_
    refine s_bipush (pc' := 5) (v := 8) dX1_isLawful_3 rfl (by decide) ?_
    refine s_icmpgeT (tgt := 49) dX1_isLawful_5 (by decide) (by decide) ?_
    refine s_iconst (pc' := 50) (v := 1) dX1_isLawful_49 rfl (by decide) ?_
    exact s_zret dX1_isLawful_50 rfl rfl (by decide) (by decide) (ht hP I' J' Q' w X2)
  | succ d ih =>
    intro k I' J' Q' hd w X2 hP
    refine s_iload_n (pc' := 3) dX1_isLawful_2 rfl rfl ?_
    refine s_bipush (pc' := 5) (v := 8) dX1_isLawful_3 rfl (by decide) ?_
    refine s_icmpgeF (pc' := 8) (tgt := 49) dX1_isLawful_5 (by decide) rfl (nI_ge (b := 8) (by omega) (by decide)) ?_
    refine s_iload_n (pc' := 9) dX1_isLawful_8 rfl rfl ?_
    refine s_iload_n (pc' := 10) dX1_isLawful_9 rfl rfl ?_
    refine s_callSN (pc' := 13) (As := [.int _, .int _]) dX1_isLawful_10 rfl mk_X11_hasBit mn_X1_75 sm_X11_hasBit rfl rfl ⟨Nat.le_of_ble_eq_true rfl, Nat.le_of_ble_eq_true rfl, Nat.le_of_ble_eq_true rfl, Nat.le_of_ble_eq_true rfl⟩ (Nat.le_of_ble_eq_true rfl) (e_hasBit (j := _) rfl (by omega) (fun b10 => ?_) (fun b10 => ?_))
    · refine s_ifeqF (pc' := 16) (tgt := 43) dX1_isLawful_13 (by decide) rfl (by decide) ?_
      refine s_iload_n (pc' := 17) dX1_isLawful_16 rfl rfl ?_
      refine s_iload_n (pc' := 18) dX1_isLawful_17 rfl rfl ?_
      refine s_iconst (pc' := 19) (v := 0) dX1_isLawful_18 rfl (by decide) ?_
      refine s_callSN (pc' := 22) (As := [.int _, .int _, .int _]) dX1_isLawful_19 rfl mk_X11_withBit mn_X1_71 sm_X11_withBit rfl rfl ⟨Nat.le_of_ble_eq_true rfl, Nat.le_of_ble_eq_true rfl, Nat.le_of_ble_eq_true rfl, Nat.le_of_ble_eq_true rfl⟩ (Nat.le_of_ble_eq_true rfl) (c_X11_withBit ?_)
      rw [wbi_wo hb (by omega)]
      have hw := (wo_ix b hb k (by omega)).2
      refine t_istore_n (pc' := 23) (L' := [.ref 23, .int _, .int _, .int _]) dX1_isLawful_22 rfl (Nat.le_of_ble_eq_true rfl) rfl ?_
      refine s_aload_n (pc' := 24) dX1_isLawful_23 rfl rfl ?_
      refine s_iload_n (pc' := 25) dX1_isLawful_24 rfl rfl ?_
      refine s_callV (pc' := 28) (As := [.int _]) dX1_isLawful_25 rfl mk_X1_write ml_X1_67 im_X1_write se_X1_X1_X1_write sh_23 (by decide) rfl rfl rfl ⟨Nat.le_of_ble_eq_true rfl, Nat.le_of_ble_eq_true rfl, Nat.le_of_ble_eq_true rfl, Nat.le_of_ble_eq_true rfl⟩ (Nat.le_of_ble_eq_true rfl) (c_X1_write X2 (b := wo b k) hw (fun I1 J1 Q1 w1 X1 p1 => ?_))
      have pg := (X1.page hw p1).2 k (by omega)
      refine s_aload_n (pc' := 29) dX1_isLawful_28 rfl rfl ?_
      refine s_getS (pc' := 32) (b := 37) dX1_isLawful_29 rfl (by decide) rfl (by decide) fa_X1_26_1 rfl rfl ?_
      refine s_iload_n (pc' := 33) dX1_isLawful_32 rfl rfl ?_
      refine t_iald (pc' := 34) dX1_isLawful_33 rfl sh_37 rfl hw ?_
      refine s_iload_n (pc' := 35) dX1_isLawful_34 rfl rfl ?_
      refine s_callSN (pc' := 38) (As := [.int _, .int _]) dX1_isLawful_35 rfl mk_X11_hasBit mn_X1_75 sm_X11_hasBit rfl rfl ⟨Nat.le_of_ble_eq_true rfl, Nat.le_of_ble_eq_true rfl, Nat.le_of_ble_eq_true rfl, Nat.le_of_ble_eq_true rfl⟩ (Nat.le_of_ble_eq_true rfl) (e_hasBit (j := _) rfl (by omega) (fun b35 => ?_) (fun b35 => ?_))
      · refine s_ifneT (tgt := 43) dX1_isLawful_38 (by decide) (by decide) ?_
        refine t_iinc (pc' := 46) (v := nI (k + 1)) (L' := [.ref 23, .int _, .int _, .int _]) dX1_isLawful_43 rfl rfl (nI_inc k) rfl ?_
        refine s_goto (tgt := 2) dX1_isLawful_46 (by decide) ?_
        exact s_fg [3] rfl (ih (k + 1) I1 J1 Q1 (by omega) (w.tr w1) X1 (lwB_s2 hP (by rw [← pg]; exact b35) (by omega)))
      · refine s_ifneF (pc' := 41) (tgt := 43) dX1_isLawful_38 (by decide) rfl (by decide) ?_
        refine s_iconst (pc' := 42) (v := 0) dX1_isLawful_41 rfl (by decide) ?_
        exact s_zret dX1_isLawful_42 rfl rfl (by decide) (by decide) (hf (by unfold LW; exact lwB_f b10 (by rw [← pg]; exact b35) (by omega) 8 (by omega)) I1 J1 Q1 (w.tr w1) X1)
    · refine s_ifeqT (tgt := 43) dX1_isLawful_13 (by decide) (by decide) ?_
      refine t_iinc (pc' := 46) (v := nI (k + 1)) (L' := [.ref 23, .int _, .int _, .retAddr _]) dX1_isLawful_43 rfl rfl (nI_inc k) rfl ?_
      refine s_goto (tgt := 2) dX1_isLawful_46 (by decide) ?_
      exact ih (k + 1) I' J' Q' (by omega) w X2 (lwB_s1 hP b10 (by omega))
theorem c_X1_isLawful {N : Nat} {S : Nat → Nat × Nat} {I : Nat → Nat → Int32} {J : Nat → Nat → Int64} {Q : Nat → Nat → Option Nat} {κ : Option Value → HP → Prop} {D : Nat → Nat → Int32} {nv nr ns : Nat} {ad td : Nat → Nat} {e : Nat} (X : XB N S I J Q D nv nr ns ad td e) {b : Nat} (hb : b < 256) (ht : LW D nv nr ns b = true → ∀ I' J' Q', WW I I' J J' Q Q' → XB N S I' J' Q' D nv nr ns ad td e → κ (some (.int 1)) (N, S, I', J', Q')) (hf : LW D nv nr ns b = false → ∀ I' J' Q', WW I I' J J' Q Q' → XB N S I' J' Q' D nv nr ns ad td e → κ (some (.int 0)) (N, S, I', J', Q')) : CT E1 M_X1_isLawful [.ref 23, .int (nI b)] (N, S, I, J, Q) κ := by
  refine ofSP mk_X1_isLawful (Nat.le_of_ble_eq_true rfl) (L := [.ref 23, .int _, .retAddr _, .retAddr _]) rfl ?_
  refine s_iconst (pc' := 1) (v := 0) dX1_isLawful_0 rfl (by decide) ?_
  refine t_istore_n (pc' := 2) (L' := [.ref 23, .int _, .int _, .retAddr _]) dX1_isLawful_1 rfl (Nat.le_of_ble_eq_true rfl) rfl ?_
  exact l_X1_isLawful X hb ht hf 8 0 I J Q rfl WW.rf X rfl
theorem l_X1_lawfulSheets {N : Nat} {S : Nat → Nat × Nat} {I : Nat → Nat → Int32} {J : Nat → Nat → Int64} {Q : Nat → Nat → Option Nat} {κ : Option Value → HP → Prop} {D : Nat → Nat → Int32} {nv nr ns : Nat} {ad td : Nat → Nat} {e : Nat} (X : XB N S I J Q D nv nr ns ad td e) (hk : ∀ I' J' Q', WW I I' J J' Q Q' → XB N S I' J' Q' D nv nr ns ad td e → κ (some (.int (nI (cntB (LW D nv nr ns) 256)))) (N, S, I', J', Q')) : ∀ d : Nat, ∀ k I' J' Q', k + d = 256 → WW I I' J J' Q Q' → XB N S I' J' Q' D nv nr ns ad td e → SP E1 M_X1_lawfulSheets κ 4 [.ref 23, .int (nI (cntB (LW D nv nr ns) k)), .int (nI k)] [] (N, S, I', J', Q') 0 0 := by
  intro d
  induction d with
  | zero =>
    intro k I' J' Q' hd w X2
    obtain rfl : k = 256 := by omega
    refine s_iload_n (pc' := 5) dX1_lawfulSheets_4 rfl rfl ?_
    refine s_sipush (pc' := 8) (v := 256) dX1_lawfulSheets_5 rfl (by decide) ?_
    refine s_icmpgeT (tgt := 28) dX1_lawfulSheets_8 (by decide) (by decide) ?_
    refine s_iload_n (pc' := 29) dX1_lawfulSheets_28 rfl rfl ?_
    exact s_iret dX1_lawfulSheets_29 rfl (by decide) (by decide) (hk I' J' Q' w X2)
  | succ d ih =>
    intro k I' J' Q' hd w X2
    refine s_iload_n (pc' := 5) dX1_lawfulSheets_4 rfl rfl ?_
    refine s_sipush (pc' := 8) (v := 256) dX1_lawfulSheets_5 rfl (by decide) ?_
    refine s_icmpgeF (pc' := 11) (tgt := 28) dX1_lawfulSheets_8 (by decide) rfl (nI_ge (b := 256) (by omega) (by decide)) ?_
    refine s_aload_n (pc' := 12) dX1_lawfulSheets_11 rfl rfl ?_
    refine s_iload_n (pc' := 13) dX1_lawfulSheets_12 rfl rfl ?_
    refine s_callV (pc' := 16) (As := [.int _]) dX1_lawfulSheets_13 rfl mk_X1_isLawful ml_X1_79 im_X1_isLawful se_X1_X1_X1_isLawful sh_23 (by decide) rfl rfl rfl ⟨Nat.le_of_ble_eq_true rfl, Nat.le_of_ble_eq_true rfl, Nat.le_of_ble_eq_true rfl, Nat.le_of_ble_eq_true rfl⟩ (Nat.le_of_ble_eq_true rfl) (c_X1_isLawful X2 (b := k) (by omega) (fun l13 I1 J1 Q1 w1 X1 => ?_) (fun l13 I1 J1 Q1 w1 X1 => ?_))
    · refine s_ifeqF (pc' := 19) (tgt := 22) dX1_lawfulSheets_16 (by decide) rfl (by decide) ?_
      refine t_iinc (pc' := 22) (v := nI ((cntB (LW D nv nr ns) k) + 1)) (L' := [.ref 23, .int _, .int _]) dX1_lawfulSheets_19 rfl rfl (nI_inc _) rfl ?_
      refine t_iinc (pc' := 25) (v := nI (k + 1)) (L' := [.ref 23, .int _, .int _]) dX1_lawfulSheets_22 rfl rfl (nI_inc k) rfl ?_
      refine s_goto (tgt := 4) dX1_lawfulSheets_25 (by decide) ?_
      exact s_eq (by rw [cnt_s1 l13]) rfl rfl (ih (k + 1) I1 J1 Q1 (by omega) (w.tr w1) X1)
    · refine s_ifeqT (tgt := 22) dX1_lawfulSheets_16 (by decide) (by decide) ?_
      refine t_iinc (pc' := 25) (v := nI (k + 1)) (L' := [.ref 23, .int _, .int _]) dX1_lawfulSheets_22 rfl rfl (nI_inc k) rfl ?_
      refine s_goto (tgt := 4) dX1_lawfulSheets_25 (by decide) ?_
      exact s_eq (by rw [cnt_s0 l13]) rfl rfl (ih (k + 1) I1 J1 Q1 (by omega) (w.tr w1) X1)
theorem c_X1_lawfulSheets {N : Nat} {S : Nat → Nat × Nat} {I : Nat → Nat → Int32} {J : Nat → Nat → Int64} {Q : Nat → Nat → Option Nat} {κ : Option Value → HP → Prop} {D : Nat → Nat → Int32} {nv nr ns : Nat} {ad td : Nat → Nat} {e : Nat} (X : XB N S I J Q D nv nr ns ad td e) (hk : ∀ I' J' Q', WW I I' J J' Q Q' → XB N S I' J' Q' D nv nr ns ad td e → κ (some (.int (nI (cntB (LW D nv nr ns) 256)))) (N, S, I', J', Q')) : CT E1 M_X1_lawfulSheets [.ref 23] (N, S, I, J, Q) κ := by
  refine ofSP mk_X1_lawfulSheets (Nat.le_of_ble_eq_true rfl) (L := [.ref 23, .retAddr _, .retAddr _]) rfl ?_
  refine s_iconst (pc' := 1) (v := 0) dX1_lawfulSheets_0 rfl (by decide) ?_
  refine t_istore_n (pc' := 2) (L' := [.ref 23, .int _, .retAddr _]) dX1_lawfulSheets_1 rfl (Nat.le_of_ble_eq_true rfl) rfl ?_
  refine s_iconst (pc' := 3) (v := 0) dX1_lawfulSheets_2 rfl (by decide) ?_
  refine t_istore_n (pc' := 4) (L' := [.ref 23, .int _, .int _]) dX1_lawfulSheets_3 rfl (Nat.le_of_ble_eq_true rfl) rfl ?_
  exact l_X1_lawfulSheets X hk 256 0 I J Q rfl WW.rf X
def btr (ls : Int32) (a b : Int64) : Prop := if ls = 0 then b < a else a < b
theorem c_X1_isBetter {N : Nat} {S : Nat → Nat × Nat} {I : Nat → Nat → Int32} {J : Nat → Nat → Int64} {Q : Nat → Nat → Option Nat} {κ : Option Value → HP → Prop} {a b : Int64} {ls : Int32} (ht : btr ls a b → κ (some (.int 1)) (N, S, I, J, Q)) (hf : ¬ btr ls a b → κ (some (.int 0)) (N, S, I, J, Q)) : CT E1 M_X1_isBetter [.long a, .long b, .int ls] (N, S, I, J, Q) κ := by
  refine ofSP mk_X1_isBetter (Nat.le_of_ble_eq_true rfl) (L := [.long _, .retAddr _, .long _, .retAddr _, .int _]) rfl ?_
  refine s_iload (pc' := 2) dX1_isBetter_0 rfl rfl ?_
  refine s_ifeq (pc' := 5) (tgt := 19) dX1_isBetter_2 (by decide) rfl (fun c2 => ?_) (fun c2 => ?_)
  · refine s_lload_n (pc' := 20) dX1_isBetter_19 rfl rfl ?_
    refine s_lload_n (pc' := 21) dX1_isBetter_20 rfl rfl ?_
    refine s_lcmp (pc' := 22) dX1_isBetter_21 rfl ?_
    refine s_ifle (pc' := 25) (tgt := 29) dX1_isBetter_22 (by decide) rfl (fun c22 => ?_) (fun c22 => ?_)
    · refine s_iconst (pc' := 30) (v := 0) dX1_isBetter_29 rfl (by decide) ?_
      exact s_zret dX1_isBetter_30 rfl rfl (by decide) (by decide) (hf (fun z => by unfold btr at z; rw [if_pos c2] at z; rw [lg_cmp_le] at c22; exact Int64.not_lt.mpr c22 z))
    · refine s_iconst (pc' := 26) (v := 1) dX1_isBetter_25 rfl (by decide) ?_
      refine s_goto (tgt := 30) dX1_isBetter_26 (by decide) ?_
      exact s_zret dX1_isBetter_30 rfl rfl (by decide) (by decide) (ht (by unfold btr; rw [if_pos c2]; rw [lg_cmp_le] at c22; exact Int64.not_le.mp c22))
  · refine s_lload_n (pc' := 6) dX1_isBetter_5 rfl rfl ?_
    refine s_lload_n (pc' := 7) dX1_isBetter_6 rfl rfl ?_
    refine s_lcmp (pc' := 8) dX1_isBetter_7 rfl ?_
    refine s_ifge (pc' := 11) (tgt := 15) dX1_isBetter_8 (by decide) rfl (fun c8 => ?_) (fun c8 => ?_)
    · refine s_iconst (pc' := 16) (v := 0) dX1_isBetter_15 rfl (by decide) ?_
      refine s_goto (tgt := 30) dX1_isBetter_16 (by decide) ?_
      exact s_zret dX1_isBetter_30 rfl rfl (by decide) (by decide) (hf (fun z => by unfold btr at z; rw [if_neg c2] at z; rw [lg_cmp_ge] at c8; exact Int64.not_lt.mpr c8 z))
    · refine s_iconst (pc' := 12) (v := 1) dX1_isBetter_11 rfl (by decide) ?_
      refine s_goto (tgt := 30) dX1_isBetter_12 (by decide) ?_
      exact s_zret dX1_isBetter_30 rfl rfl (by decide) (by decide) (ht (by unfold btr; rw [if_neg c2]; rw [lg_cmp_ge] at c8; exact Int64.not_le.mp c8))
/-- has the set b all of must, none of without, and is it lawful -/
def fit1 (D : Nat → Nat → Int32) (nv nr ns mu wi b : Nat) : Prop := nI b &&& nI mu = nI mu ∧ nI b &&& nI wi = 0 ∧ LW D nv nr ns b = true
/-- the best sheet of the first k -/
noncomputable def bsh (D : Nat → Nat → Int32) (nv nr ns v mu wi : Nat) (ls : Int32) : Nat → Option Nat
  | 0 => none
  | k + 1 => @ite _ (fit1 D nv nr ns mu wi k) (Classical.propDecidable _) (match bsh D nv nr ns v mu wi ls k with
    | none => some k
    | some q => @ite _ (btr ls (gS D nv nr ns k v) (gS D nv nr ns q v)) (Classical.propDecidable _) (some k) (some q)) (bsh D nv nr ns v mu wi ls k)
section BSH
variable {D : Nat → Nat → Int32} {nv nr ns v mu wi k q : Nat} {ls : Int32}
theorem bsh_0 (h : ¬ fit1 D nv nr ns mu wi k) : bsh D nv nr ns v mu wi ls (k + 1) = bsh D nv nr ns v mu wi ls k := by rw [bsh, if_neg h]
theorem bsh_1 (h : fit1 D nv nr ns mu wi k) (hn : bsh D nv nr ns v mu wi ls k = none) : bsh D nv nr ns v mu wi ls (k + 1) = some k := by rw [bsh, if_pos h, hn]
theorem bsh_2 (h : fit1 D nv nr ns mu wi k) (hn : bsh D nv nr ns v mu wi ls k = some q) (hb : btr ls (gS D nv nr ns k v) (gS D nv nr ns q v)) : bsh D nv nr ns v mu wi ls (k + 1) = some k := by rw [bsh, if_pos h, hn]; simp only [if_pos hb]
theorem bsh_3 (h : fit1 D nv nr ns mu wi k) (hn : bsh D nv nr ns v mu wi ls k = some q) (hb : ¬ btr ls (gS D nv nr ns k v) (gS D nv nr ns q v)) : bsh D nv nr ns v mu wi ls (k + 1) = some q := by rw [bsh, if_pos h, hn]; simp only [if_neg hb]
theorem bsh_lt : ∀ k q, bsh D nv nr ns v mu wi ls k = some q → q < k
  | 0, q, h => by simp [bsh] at h
  | k + 1, q, h => by
    by_cases hf : fit1 D nv nr ns mu wi k
    · cases hb : bsh D nv nr ns v mu wi ls k with
      | none => rw [bsh_1 hf hb] at h; have := Option.some.inj h; omega
      | some z =>
        have := bsh_lt k z hb
        by_cases hl : btr ls (gS D nv nr ns k v) (gS D nv nr ns z v)
        · rw [bsh_2 hf hb hl] at h; have := Option.some.inj h; omega
        · rw [bsh_3 hf hb hl] at h; have := Option.some.inj h; omega
    · rw [bsh_0 hf] at h; have := bsh_lt k q h; omega
end BSH
theorem l_X1_bestSheet {N : Nat} {S : Nat → Nat × Nat} {I : Nat → Nat → Int32} {J : Nat → Nat → Int64} {Q : Nat → Nat → Option Nat} {κ : Option Value → HP → Prop} {D : Nat → Nat → Int32} {nv nr ns : Nat} {ad td : Nat → Nat} {e : Nat} (X : XB N S I J Q D nv nr ns ad td e) {v mu wi : Nat} {ls : Int32} (hv : v < nv) (hk : ∀ I' J' Q', WW I I' J J' Q Q' → XB N S I' J' Q' D nv nr ns ad td e → κ (some (.int (ixo (bsh D nv nr ns v mu wi ls 256)))) (N, S, I', J', Q')) : ∀ d : Nat, ∀ k I' J' Q', k + d = 256 → WW I I' J J' Q Q' → XB N S I' J' Q' D nv nr ns ad td e → SP E1 M_X1_bestSheet κ 23 [.ref 23, .int (nI v), .int (nI mu), .int (nI wi), .int ls, .int (ixo (bsh D nv nr ns v mu wi ls k)), .int (nI k)] [] (N, S, I', J', Q') 0 0 := by
  intro d
  induction d with
  | zero =>
    intro k I' J' Q' hd w X2
    obtain rfl : k = 256 := by omega
    refine s_iload (pc' := 25) dX1_bestSheet_23 rfl rfl ?_
    refine s_sipush (pc' := 28) (v := 256) dX1_bestSheet_25 rfl (by decide) ?_
    refine s_icmpgeT (tgt := 96) dX1_bestSheet_28 (by decide) (by decide) ?_
    refine s_iload (pc' := 98) dX1_bestSheet_96 rfl rfl ?_
    exact s_iret dX1_bestSheet_98 rfl (by decide) (by decide) (hk I' J' Q' w X2)
  | succ d ih =>
    intro k I' J' Q' hd w X2
    refine s_iload (pc' := 25) dX1_bestSheet_23 rfl rfl ?_
    refine s_sipush (pc' := 28) (v := 256) dX1_bestSheet_25 rfl (by decide) ?_
    refine s_icmpgeF (pc' := 31) (tgt := 96) dX1_bestSheet_28 (by decide) rfl (nI_ge (b := 256) (by omega) (by decide)) ?_
    refine s_iload (pc' := 33) dX1_bestSheet_31 rfl rfl ?_
    refine s_iload_n (pc' := 34) dX1_bestSheet_33 rfl rfl ?_
    refine s_iand (pc' := 35) dX1_bestSheet_34 rfl ?_
    refine s_iload_n (pc' := 36) dX1_bestSheet_35 rfl rfl ?_
    refine s_icmpne (pc' := 39) (tgt := 90) dX1_bestSheet_36 (by decide) rfl (fun c36 => ?_) (fun c36 => ?_)
    · refine t_iinc (pc' := 93) (v := nI (k + 1)) (L' := [.ref 23, .int _, .int _, .int _, .int _, .int _, .int _]) dX1_bestSheet_90 rfl rfl (nI_inc k) rfl ?_
      refine s_goto (tgt := 23) dX1_bestSheet_93 (by decide) ?_
      refine s_eq ?_ rfl rfl (ih (k + 1) I' J' Q' (by omega) w X2)
      rw [bsh_0 (fun z => c36 z.1)]; try rfl
    · refine s_iload (pc' := 41) dX1_bestSheet_39 rfl rfl ?_
      refine s_iload_n (pc' := 42) dX1_bestSheet_41 rfl rfl ?_
      refine s_iand (pc' := 43) dX1_bestSheet_42 rfl ?_
      refine s_ifne (pc' := 46) (tgt := 90) dX1_bestSheet_43 (by decide) rfl (fun c43 => ?_) (fun c43 => ?_)
      · refine t_iinc (pc' := 93) (v := nI (k + 1)) (L' := [.ref 23, .int _, .int _, .int _, .int _, .int _, .int _]) dX1_bestSheet_90 rfl rfl (nI_inc k) rfl ?_
        refine s_goto (tgt := 23) dX1_bestSheet_93 (by decide) ?_
        refine s_eq ?_ rfl rfl (ih (k + 1) I' J' Q' (by omega) w X2)
        rw [bsh_0 (fun z => c43 z.2.1)]; try rfl
      · refine s_aload_n (pc' := 47) dX1_bestSheet_46 rfl rfl ?_
        refine s_iload (pc' := 49) dX1_bestSheet_47 rfl rfl ?_
        refine s_callV (pc' := 52) (As := [.int _]) dX1_bestSheet_49 rfl mk_X1_isLawful ml_X1_79 im_X1_isLawful se_X1_X1_X1_isLawful sh_23 (by decide) rfl rfl rfl ⟨Nat.le_of_ble_eq_true rfl, Nat.le_of_ble_eq_true rfl, Nat.le_of_ble_eq_true rfl, Nat.le_of_ble_eq_true rfl⟩ (Nat.le_of_ble_eq_true rfl) (c_X1_isLawful X2 (b := k) (by omega) (fun l49 I1 J1 Q1 w1 X1 => ?_) (fun l49 I1 J1 Q1 w1 X1 => ?_))
        · refine s_ifneT (tgt := 58) dX1_bestSheet_52 (by decide) (by decide) ?_
          refine s_iload (pc' := 60) dX1_bestSheet_58 rfl rfl ?_
          refine s_iconst (pc' := 61) (v := -1) dX1_bestSheet_60 rfl (by decide) ?_
          refine s_icmpeq (pc' := 64) (tgt := 86) dX1_bestSheet_61 (by decide) rfl (fun c61 => ?_) (fun c61 => ?_)
          · refine s_iload (pc' := 88) dX1_bestSheet_86 rfl rfl ?_
            refine t_istore (pc' := 90) (L' := [.ref 23, .int _, .int _, .int _, .int _, .int _, .int _]) dX1_bestSheet_88 rfl (Nat.le_of_ble_eq_true rfl) rfl ?_
            refine t_iinc (pc' := 93) (v := nI (k + 1)) (L' := [.ref 23, .int _, .int _, .int _, .int _, .int _, .int _]) dX1_bestSheet_90 rfl rfl (nI_inc k) rfl ?_
            refine s_goto (tgt := 23) dX1_bestSheet_93 (by decide) ?_
            have fi : fit1 D nv nr ns mu wi k := ⟨by simpa using c36, by simpa using c43, l49⟩
            have hn := ixo_none (fun q hq => by have := bsh_lt _ _ hq; omega) c61
            refine s_eq ?_ rfl rfl (ih (k + 1) I1 J1 Q1 (by omega) (w.tr w1) X1)
            rw [bsh_1 fi hn]; try rfl
          · obtain ⟨q, hq⟩ := ixo_some c61
            have hql := bsh_lt _ _ hq
            have hix : nI q = ixo (bsh D nv nr ns v mu wi ls k) := by rw [hq]; rfl
            refine s_aload_n (pc' := 65) dX1_bestSheet_64 rfl rfl ?_
            refine s_iload_n (pc' := 66) dX1_bestSheet_65 rfl rfl ?_
            refine s_iload (pc' := 68) dX1_bestSheet_66 rfl rfl ?_
            refine s_callV (pc' := 71) (As := [.int _, .int _]) dX1_bestSheet_68 rfl mk_X1_numberOn ml_X1_92 im_X1_numberOn se_X1_X1_X1_numberOn sh_23 (by decide) rfl rfl rfl ⟨Nat.le_of_ble_eq_true rfl, Nat.le_of_ble_eq_true rfl, Nat.le_of_ble_eq_true rfl, Nat.le_of_ble_eq_true rfl⟩ (Nat.le_of_ble_eq_true rfl) (c_X1_numberOn X1 (b := k) (by omega) hv (fun I2 J2 Q2 w2 X2' => ?_))
            refine s_aload_n (pc' := 72) dX1_bestSheet_71 rfl rfl ?_
            refine s_iload_n (pc' := 73) dX1_bestSheet_72 rfl rfl ?_
            refine s_iload (pc' := 75) dX1_bestSheet_73 rfl rfl ?_
            rw [← hix]
            refine s_callV (pc' := 78) (As := [.int _, .int _]) dX1_bestSheet_75 rfl mk_X1_numberOn ml_X1_92 im_X1_numberOn se_X1_X1_X1_numberOn sh_23 (by decide) rfl rfl rfl ⟨Nat.le_of_ble_eq_true rfl, Nat.le_of_ble_eq_true rfl, Nat.le_of_ble_eq_true rfl, Nat.le_of_ble_eq_true rfl⟩ (Nat.le_of_ble_eq_true rfl) (c_X1_numberOn X2' (b := q) (by omega) hv (fun I3 J3 Q3 w3 X3 => ?_))
            refine s_iload (pc' := 80) dX1_bestSheet_78 rfl rfl ?_
            refine s_callS (pc' := 83) (As := [.long _, .long _, .int _]) dX1_bestSheet_80 rfl mk_X1_isBetter ml_X1_96 sm_X1_isBetter rfl rfl ⟨Nat.le_of_ble_eq_true rfl, Nat.le_of_ble_eq_true rfl, Nat.le_of_ble_eq_true rfl, Nat.le_of_ble_eq_true rfl⟩ (Nat.le_of_ble_eq_true rfl) (c_X1_isBetter (fun b80 => ?_) (fun b80 => ?_))
            · refine s_ifeqF (pc' := 86) (tgt := 90) dX1_bestSheet_83 (by decide) rfl (by decide) ?_
              refine s_iload (pc' := 88) dX1_bestSheet_86 rfl rfl ?_
              refine t_istore (pc' := 90) (L' := [.ref 23, .int _, .int _, .int _, .int _, .int _, .int _]) dX1_bestSheet_88 rfl (Nat.le_of_ble_eq_true rfl) rfl ?_
              refine t_iinc (pc' := 93) (v := nI (k + 1)) (L' := [.ref 23, .int _, .int _, .int _, .int _, .int _, .int _]) dX1_bestSheet_90 rfl rfl (nI_inc k) rfl ?_
              refine s_goto (tgt := 23) dX1_bestSheet_93 (by decide) ?_
              have fi : fit1 D nv nr ns mu wi k := ⟨by simpa using c36, by simpa using c43, l49⟩
              refine s_eq ?_ rfl rfl (ih (k + 1) I3 J3 Q3 (by omega) (((w.tr w1).tr w2).tr w3) X3)
              rw [bsh_2 fi hq b80]; try rfl
            · refine s_ifeqT (tgt := 90) dX1_bestSheet_83 (by decide) (by decide) ?_
              refine t_iinc (pc' := 93) (v := nI (k + 1)) (L' := [.ref 23, .int _, .int _, .int _, .int _, .int _, .int _]) dX1_bestSheet_90 rfl rfl (nI_inc k) rfl ?_
              refine s_goto (tgt := 23) dX1_bestSheet_93 (by decide) ?_
              have fi : fit1 D nv nr ns mu wi k := ⟨by simpa using c36, by simpa using c43, l49⟩
              refine s_eq ?_ rfl rfl (ih (k + 1) I3 J3 Q3 (by omega) (((w.tr w1).tr w2).tr w3) X3)
              rw [bsh_3 fi hq b80]; try rfl
        · refine s_ifneF (pc' := 55) (tgt := 58) dX1_bestSheet_52 (by decide) rfl (by decide) ?_
          refine s_goto (tgt := 90) dX1_bestSheet_55 (by decide) ?_
          refine t_iinc (pc' := 93) (v := nI (k + 1)) (L' := [.ref 23, .int _, .int _, .int _, .int _, .int _, .int _]) dX1_bestSheet_90 rfl rfl (nI_inc k) rfl ?_
          refine s_goto (tgt := 23) dX1_bestSheet_93 (by decide) ?_
          refine s_eq ?_ rfl rfl (ih (k + 1) I1 J1 Q1 (by omega) (w.tr w1) X1)
          rw [bsh_0 (fun z => by have z2 := z.2.2; rw [l49] at z2; cases z2)]; try rfl
theorem c_X1_bestSheet {N : Nat} {S : Nat → Nat × Nat} {I : Nat → Nat → Int32} {J : Nat → Nat → Int64} {Q : Nat → Nat → Option Nat} {κ : Option Value → HP → Prop} {D : Nat → Nat → Int32} {nv nr ns : Nat} {ad td : Nat → Nat} {e : Nat} (X : XB N S I J Q D nv nr ns ad td e) {v : Nat} {m w0 ls : Int32} (hv : v < nv) (kb : ((∀ j, j < 256 → m ≠ nI j) ∨ (∀ j, j < 256 → w0 ≠ nI j)) → κ (some (.int (-1))) (N, S, I, J, Q)) (hk : ∀ mu wi, mu < 256 → wi < 256 → m = nI mu → w0 = nI wi → ∀ I' J' Q', WW I I' J J' Q Q' → XB N S I' J' Q' D nv nr ns ad td e → κ (some (.int (ixo (bsh D nv nr ns v mu wi ls 256)))) (N, S, I', J', Q')) : CT E1 M_X1_bestSheet [.ref 23, .int (nI v), .int m, .int w0, .int ls] (N, S, I, J, Q) κ := by
  refine ofSP mk_X1_bestSheet (Nat.le_of_ble_eq_true rfl) (L := [.ref 23, .int _, .int _, .int _, .int _, .retAddr _, .retAddr _]) rfl ?_
  refine s_iconst (pc' := 1) (v := -1) dX1_bestSheet_0 rfl (by decide) ?_
  refine t_istore (pc' := 3) (L' := [.ref 23, .int _, .int _, .int _, .int _, .int _, .retAddr _]) dX1_bestSheet_1 rfl (Nat.le_of_ble_eq_true rfl) rfl ?_
  refine s_iload_n (pc' := 4) dX1_bestSheet_3 rfl rfl ?_
  refine s_callSN (pc' := 7) (As := [.int _]) dX1_bestSheet_4 rfl mk_X11_isSet mn_X1_89 sm_X11_isSet rfl rfl ⟨Nat.le_of_ble_eq_true rfl, Nat.le_of_ble_eq_true rfl, Nat.le_of_ble_eq_true rfl, Nat.le_of_ble_eq_true rfl⟩ (Nat.le_of_ble_eq_true rfl) (c_X11_isSet (fun j4 hj4 e4 => ?_) (fun n4 => ?_))
  · refine s_ifeqF (pc' := 10) (tgt := 17) dX1_bestSheet_7 (by decide) rfl (by decide) ?_
    refine s_iload_n (pc' := 11) dX1_bestSheet_10 rfl rfl ?_
    refine s_callSN (pc' := 14) (As := [.int _]) dX1_bestSheet_11 rfl mk_X11_isSet mn_X1_89 sm_X11_isSet rfl rfl ⟨Nat.le_of_ble_eq_true rfl, Nat.le_of_ble_eq_true rfl, Nat.le_of_ble_eq_true rfl, Nat.le_of_ble_eq_true rfl⟩ (Nat.le_of_ble_eq_true rfl) (c_X11_isSet (fun j11 hj11 e11 => ?_) (fun n11 => ?_))
    · refine s_ifneT (tgt := 20) dX1_bestSheet_14 (by decide) (by decide) ?_
      refine s_iconst (pc' := 21) (v := 0) dX1_bestSheet_20 rfl (by decide) ?_
      refine t_istore (pc' := 23) (L' := [.ref 23, .int _, .int _, .int _, .int _, .int _, .int _]) dX1_bestSheet_21 rfl (Nat.le_of_ble_eq_true rfl) rfl ?_
      subst e4
      subst e11
      exact l_X1_bestSheet X hv (hk j4 j11 hj4 hj11 rfl rfl) 256 0 I J Q rfl WW.rf X
    · refine s_ifneF (pc' := 17) (tgt := 20) dX1_bestSheet_14 (by decide) rfl (by decide) ?_
      refine s_iload (pc' := 19) dX1_bestSheet_17 rfl rfl ?_
      exact s_iret dX1_bestSheet_19 rfl (by decide) (by decide) (kb (Or.inr n11))
  · refine s_ifeqT (tgt := 17) dX1_bestSheet_7 (by decide) (by decide) ?_
    refine s_iload (pc' := 19) dX1_bestSheet_17 rfl rfl ?_
    exact s_iret dX1_bestSheet_19 rfl (by decide) (by decide) (kb (Or.inl n4))
