/-! ===== the reckoning of one value ===== -/
/-- the rule r writes v, is there, and holds -/
def Pv (D : Nat → Nat → Int32) (x : Int32) (g : Nat → Int64) (th v : Int32) (r : Nat) : Bool := kvB D v r && (decide (bitI th (nI r) = 1) && hB D x g r)
section PV
variable {D : Nat → Nat → Int32} {x : Int32} {g : Nat → Int64} {th v : Int32} {r k : Nat}
theorem Pv_kv (h : Pv D x g th v r = true) : kvB D v r = true := by simp only [Pv, Bool.and_eq_true] at h; exact h.1
theorem Pv_no (h : kvB D v r = false) : Pv D x g th v r = false := by simp [Pv, h]
theorem Pv_of (h : kvB D v r = true) (h1 : bitI th (nI r) = 1) (h2 : hB D x g r = true) : Pv D x g th v r = true := by simp [Pv, h, h1, h2]
theorem Pv_n1 (h1 : bitI th (nI r) ≠ 1) : Pv D x g th v r = false := by simp [Pv, h1]
theorem Pv_n2 (h1 : hB D x g r = false) : Pv D x g th v r = false := by simp [Pv, h1]
theorem kv_inv (h : kvB D v r = true) : D 60 r ≤ 3 ∧ D 61 r = v := by simpa only [kvB, Bool.and_eq_true, decide_eq_true_eq] using h
theorem Pv_wk {c : Int32} (h : Pv D x g th v r = true) (hc : D 60 r = c) : wk D x g th r c v = true := by
  have h2 := h
  simp only [Pv, Bool.and_eq_true, decide_eq_true_eq] at h2
  exact wk_of hc (kv_inv (Pv_kv h)).2 h2.2.1 h2.2.2
theorem wk_Pv {c : Int32} (hc : c ≤ 3) (h : wk D x g th r c v = true) : Pv D x g th v r = true := by
  obtain ⟨-, -, h3, h4⟩ := wk_inv h
  exact Pv_of (wk_kv h hc) h3 h4
theorem wk_nP {c : Int32} (hc : c ≤ 3) (h : Pv D x g th v r = false) : wk D x g th r c v = false := by
  cases hw : wk D x g th r c v with
  | false => rfl
  | true => rw [wk_Pv hc hw] at h; cases h
theorem adB_nP (h : Pv D x g th v r = false) : adB D x g th r v = false := by unfold adB; rw [wk_nP (by decide) h, wk_nP (by decide) h]; rfl
theorem adB_Pv (h : adB D x g th r v = true) : Pv D x g th v r = true := by
  cases hp : Pv D x g th v r with
  | true => rfl
  | false => rw [adB_nP hp] at h; cases h
theorem cnt_skip {P : Nat → Bool} {k r : Nat} (h : k ≤ r) (hs : ∀ j, k ≤ j → j < r → P j = false) : cntB P r = cntB P k := by
  induction r with
  | zero => obtain rfl : k = 0 := by omega
            rfl
  | succ r ih =>
    by_cases e : k = r + 1
    · rw [e]
    · rw [cnt_s0 (hs r (by omega) (by omega))]
      exact ih (by omega) (fun j h1 h2 => hs j h1 (by omega))
theorem cnt_ex {P P' : Nat → Bool} (h : ∀ r, P r = true → P' r = true) : ∀ n, cntB P n ≤ cntB P' n
  | 0 => Nat.le_refl 0
  | n + 1 => by
    have ih := cnt_ex h n
    cases hp : P n with
    | true => rw [cnt_s1 hp, cnt_s1 (h n hp)]; omega
    | false => rw [cnt_s0 hp]; have := cnt_mono (P := P') (show n ≤ n + 1 by omega); omega
end PV
/-- gather(), the first k rules being looked at -/
def GA (I I' : Nat → Nat → Int32) (J J' : Nat → Nat → Int64) (Q Q' : Nat → Nat → Option Nat) (D : Nat → Nat → Int32) (x th v : Int32) (ad : Nat → Nat) (k : Nat) : Prop :=
  FR I I' Q Q' ∧ (∀ j, j ≠ 11 → I' 24 j = I 24 j) ∧ I' 24 11 = nI (cntB (Pv D x (J 25) th v) k) ∧ (∀ r, r < k → Pv D x (J 25) th v r = true → Q' 32 (cntB (Pv D x (J 25) th v) r) = some (ad r)) ∧
  (∀ r, r < k → kvB D v r = true → I' 27 r = (if bitI th (nI r) = 1 then (if hB D x (J 25) r = true then 2 else 1) else 0) ∧ I' 28 r = -1 ∧ J' 26 r = amt D (J 25) r) ∧
  (∀ r, (k ≤ r ∨ kvB D v r = false) → I' 27 r = I 27 r ∧ I' 28 r = I 28 r ∧ J' 26 r = J 26 r) ∧ (∀ a, a ≠ 26 → J' a = J a)
section GA
variable {I I' : Nat → Nat → Int32} {J J' : Nat → Nat → Int64} {Q Q' : Nat → Nat → Option Nat} {D : Nat → Nat → Int32} {x th v : Int32} {ad : Nat → Nat} {k r : Nat}
theorem GA.rf : GA I (up2 I 24 11 0) J J Q Q D x th v ad 0 :=
  ⟨FR.rf.up (by decide), fun j hj => by rw [up2_e hj], by rw [up2_s]; rfl, fun r h => by omega, fun r h => by omega, fun r _ => ⟨up2_d (by decide), up2_d (by decide), rfl⟩, fun _ _ => rfl⟩
theorem GA.skip (h : GA I I' J J' Q Q' D x th v ad k) (hk : k ≤ r) (hs : ∀ j, k ≤ j → j < r → kvB D v j = false) : GA I I' J J' Q Q' D x th v ad r := by
  obtain ⟨h1, h2, h3, h4, h5, h6, h7⟩ := h
  refine ⟨h1, h2, by rw [cnt_skip hk (fun j a b => Pv_no (hs j a b))]; exact h3, fun q hq hp => ?_, fun q hq hp => ?_, fun q hq => ?_, h7⟩
  · rcases Nat.lt_or_ge q k with z | z
    · exact h4 q z hp
    · rw [Pv_no (hs q z hq)] at hp; cases hp
  · rcases Nat.lt_or_ge q k with z | z
    · exact h5 q z hp
    · rw [hs q z hq] at hp; cases hp
  · exact h6 q (hq.elim (fun z => Or.inl (by omega)) Or.inr)
/-- one rule more; it counts, or not -/
theorem GA.step {w : Int32} (h : GA I I' J J' Q Q' D x th v ad r) (hk : kvB D v r = true) (hp : Pv D x (J 25) th v r = false) (hw : w = (if bitI th (nI r) = 1 then (if hB D x (J 25) r = true then 2 else 1) else 0)) : GA I (up2 (up2 I' 28 r (-1)) 27 r w) J (up2 J' 26 r (amt D (J 25) r)) Q Q' D x th v ad (r + 1) := by
  obtain ⟨h1, h2, h3, h4, h5, h6, h7⟩ := h
  refine ⟨(h1.up (by decide)).up (by decide), fun j hj => by rw [up2_d (by decide), up2_d (by decide)]; exact h2 j hj, by rw [up2_d (by decide), up2_d (by decide), cnt_s0 hp]; exact h3, fun q hq z => ?_, fun q hq z => ?_, fun q hq => ?_, fun a ha => by rw [up2_o ha]; exact h7 a ha⟩
  · by_cases e : q = r
    · rw [e, hp] at z; cases z
    · exact h4 q (by omega) z
  · by_cases e : q = r
    · subst e; exact ⟨by rw [up2_s]; exact hw, by rw [up2_d (by decide), up2_s], up2_s⟩
    · have := h5 q (by omega) z
      rw [up2_e e, up2_d (by decide), up2_d (by decide), up2_e e, up2_e e]; exact this
  · have e : q ≠ r := fun e => by
      rcases hq with z | z
      · omega
      · rw [e, hk] at z; cases z
    rw [up2_e e, up2_d (by decide), up2_d (by decide), up2_e e, up2_e e]
    exact h6 q (hq.elim (fun z => Or.inl (by omega)) Or.inr)
theorem GA.stepP {y : Int32} (h : GA I I' J J' Q Q' D x th v ad r) (hk : kvB D v r = true) (h1' : bitI th (nI r) = 1) (h2' : hB D x (J 25) r = true) (hy : y = nI (cntB (Pv D x (J 25) th v) r + 1)) : GA I (up2 (up2 (up2 I' 28 r (-1)) 27 r 2) 24 11 y) J (up2 J' 26 r (amt D (J 25) r)) Q (up2 Q' 32 (cntB (Pv D x (J 25) th v) r) (some (ad r))) D x th v ad (r + 1) := by
  obtain ⟨h1, h2, h3, h4, h5, h6, h7⟩ := h
  have hp := Pv_of hk h1' h2'
  refine ⟨(((h1.up (by decide)).up (by decide)).up (by decide)).uq, fun j hj => by rw [up2_e hj, up2_d (by decide), up2_d (by decide)]; exact h2 j hj, by rw [up2_s, cnt_s1 hp]; exact hy, fun q hq z => ?_, fun q hq z => ?_, fun q hq => ?_, fun a ha => by rw [up2_o ha]; exact h7 a ha⟩
  · by_cases e : q = r
    · rw [e, up2_s]
    · rw [up2_e (fun c => e (cnt_inj z hp c))]; exact h4 q (by omega) z
  · by_cases e : q = r
    · subst e; exact ⟨by rw [up2_d (by decide), up2_s, if_pos h1', if_pos h2'], by rw [up2_d (by decide), up2_d (by decide), up2_s], up2_s⟩
    · have := h5 q (by omega) z
      rw [up2_d (by decide), up2_e e, up2_d (by decide), up2_d (by decide), up2_d (by decide), up2_e e, up2_e e]; exact this
  · have e : q ≠ r := fun e => by
      rcases hq with z | z
      · omega
      · rw [e, hk] at z; cases z
    rw [up2_d (by decide), up2_e e, up2_d (by decide), up2_d (by decide), up2_d (by decide), up2_e e, up2_e e]
    exact h6 q (hq.elim (fun z => Or.inl (by omega)) Or.inr)
end GA
/-- the rules that hold for v, as they stand in the row -/
def GS (I : Nat → Nat → Int32) (Q : Nat → Nat → Option Nat) (D : Nat → Nat → Int32) (x : Int32) (g : Nat → Int64) (th v : Int32) (nr : Nat) (ad : Nat → Nat) : Prop :=
  I 24 11 = nI (cntB (Pv D x g th v) nr) ∧ ∀ r, r < nr → Pv D x g th v r = true → Q 32 (cntB (Pv D x g th v) r) = some (ad r)
/-- a row filled -/
def fl (I : Nat → Nat → Int32) (a n : Nat) (x : Int32) : Nat → Nat → Int32 := fun b i => if b = a ∧ i < n then x else I b i
theorem fl_0 (I : Nat → Nat → Int32) (a : Nat) (x : Int32) : fl I a 0 x = I := by funext b i; simp [fl]
theorem fl_s (I : Nat → Nat → Int32) (a k : Nat) (x : Int32) : up2 (fl I a k x) a k x = fl I a (k + 1) x := by
  funext b i
  by_cases h : b = a
  · subst h
    by_cases h2 : i = k
    · subst h2; simp [up2, fl]
    · by_cases h3 : i < k
      · simp [up2, fl, h2, h3, Nat.lt_succ_of_lt h3]
      · simp [up2, fl, h2, h3, show ¬ i < k + 1 by omega]
  · simp [up2, fl, h]
theorem fl_o {I : Nat → Nat → Int32} {a n b : Nat} {x : Int32} (h : b ≠ a) : fl I a n x b = I b := by funext i; simp [fl, h]
theorem fl_i {I : Nat → Nat → Int32} {a n i : Nat} {x : Int32} (h : i < n) : fl I a n x a i = x := by simp [fl, h]
def flJ (J : Nat → Nat → Int64) (a n : Nat) (x : Int64) : Nat → Nat → Int64 := fun b i => if b = a ∧ i < n then x else J b i
theorem flJ_0 (I : Nat → Nat → Int64) (a : Nat) (x : Int64) : flJ I a 0 x = I := by funext b i; simp [flJ]
theorem flJ_s (I : Nat → Nat → Int64) (a k : Nat) (x : Int64) : up2 (flJ I a k x) a k x = flJ I a (k + 1) x := by
  funext b i
  by_cases h : b = a
  · subst h
    by_cases h2 : i = k
    · subst h2; simp [up2, flJ]
    · by_cases h3 : i < k
      · simp [up2, flJ, h2, h3, Nat.lt_succ_of_lt h3]
      · simp [up2, flJ, h2, h3, show ¬ i < k + 1 by omega]
  · simp [up2, flJ, h]
theorem flJ_o {I : Nat → Nat → Int64} {a n b : Nat} {x : Int64} (h : b ≠ a) : flJ I a n x b = I b := by funext i; simp [flJ, h]
theorem flJ_i {I : Nat → Nat → Int64} {a n i : Nat} {x : Int64} (h : i < n) : flJ I a n x a i = x := by simp [flJ, h]
theorem l_J7_fill_53178 {N : Nat} {S : Nat → Nat × Nat} {I : Nat → Nat → Int32} {J : Nat → Nat → Int64} {Q : Nat → Nat → Option Nat} {κ : Option Value → HP → Prop} {a n : Nat} {x : Int32} (hn : n < 2 ^ 31) (hs : ∀ {I' : Nat → Nat → Int32} {J' : Nat → Nat → Int64} {Q' : Nat → Nat → Option Nat}, Sh E1 (N, S, I', J', Q') a 13 n) (hk : κ none (N, S, fl I a n x, J, Q)) : ∀ d : Nat, ∀ k, k + d = n → SP E1 M_J7_fill_53178 κ 5 [.ref a, .int x, .int (nI k), .int (nI n)] [] (N, S, fl I a k x, J, Q) 0 0 := by
  intro d
  induction d with
  | zero =>
    intro k hd
    obtain rfl : k = n := by omega
    refine s_iload_n (pc' := 6) dJ7_fill_53178_5 rfl rfl ?_
    refine s_iload_n (pc' := 7) dJ7_fill_53178_6 rfl rfl ?_
    refine s_icmpgeT (tgt := 20) dJ7_fill_53178_7 (by decide) (nI_le (Nat.le_refl _) (by omega)) ?_
    exact s_vret dJ7_fill_53178_20 rfl (by decide) (by decide) hk
  | succ d ih =>
    intro k hd
    refine s_iload_n (pc' := 6) dJ7_fill_53178_5 rfl rfl ?_
    refine s_iload_n (pc' := 7) dJ7_fill_53178_6 rfl rfl ?_
    refine s_icmpgeF (pc' := 10) (tgt := 20) dJ7_fill_53178_7 (by decide) rfl (nI_ge (by omega) (by omega)) ?_
    refine s_aload_n (pc' := 11) dJ7_fill_53178_10 rfl rfl ?_
    refine s_iload_n (pc' := 12) dJ7_fill_53178_11 rfl rfl ?_
    refine s_iload_n (pc' := 13) dJ7_fill_53178_12 rfl rfl ?_
    refine t_iast (pc' := 14) dJ7_fill_53178_13 rfl hs rfl (by omega) ?_
    refine t_iinc (pc' := 17) (v := nI (k + 1)) (L' := [.ref _, .int _, .int _, .int _]) dJ7_fill_53178_14 rfl rfl (nI_inc k) rfl ?_
    refine s_goto (tgt := 5) dJ7_fill_53178_17 (by decide) ?_
    exact s_eq rfl rfl (by rw [fl_s]) (ih (k + 1) (by omega))
theorem c_J7_fill_53178 {N : Nat} {S : Nat → Nat × Nat} {I : Nat → Nat → Int32} {J : Nat → Nat → Int64} {Q : Nat → Nat → Option Nat} {κ : Option Value → HP → Prop} {a n : Nat} {x : Int32} (hn : n < 2 ^ 31) (hs : ∀ {I' : Nat → Nat → Int32} {J' : Nat → Nat → Int64} {Q' : Nat → Nat → Option Nat}, Sh E1 (N, S, I', J', Q') a 13 n) (hk : κ none (N, S, fl I a n x, J, Q)) : CT E1 M_J7_fill_53178 [.ref a, .int x] (N, S, I, J, Q) κ := by
  refine ofSP mk_J7_fill_53178 (Nat.le_of_ble_eq_true rfl) (L := [.ref _, .int _, .retAddr _, .retAddr _]) rfl ?_
  refine s_iconst (pc' := 1) (v := 0) dJ7_fill_53178_0 rfl (by decide) ?_
  refine t_istore_n (pc' := 2) (L' := [.ref _, .int _, .int _, .retAddr _]) dJ7_fill_53178_1 rfl (Nat.le_of_ble_eq_true rfl) rfl ?_
  refine s_aload_n (pc' := 3) dJ7_fill_53178_2 rfl rfl ?_
  refine s_alen (pc' := 4) dJ7_fill_53178_3 rfl (Or.inl rfl) hs ?_
  refine t_istore_n (pc' := 5) (L' := [.ref _, .int _, .int _, .int _]) dJ7_fill_53178_4 rfl (Nat.le_of_ble_eq_true rfl) rfl ?_
  exact s_eq rfl rfl (by rw [fl_0]) (l_J7_fill_53178 hn hs hk n 0 (by omega))
theorem l_J7_fill_d0a16 {N : Nat} {S : Nat → Nat × Nat} {I : Nat → Nat → Int32} {J : Nat → Nat → Int64} {Q : Nat → Nat → Option Nat} {κ : Option Value → HP → Prop} {a n : Nat} {x : Int64} (hn : n < 2 ^ 31) (hs : ∀ {I' : Nat → Nat → Int32} {J' : Nat → Nat → Int64} {Q' : Nat → Nat → Option Nat}, Sh E1 (N, S, I', J', Q') a 14 n) (hk : κ none (N, S, I, flJ J a n x, Q)) : ∀ d : Nat, ∀ k, k + d = n → SP E1 M_J7_fill_d0a16 κ 6 [.ref a, .long x, .retAddr 0, .int (nI k), .int (nI n)] [] (N, S, I, flJ J a k x, Q) 0 0 := by
  intro d
  induction d with
  | zero =>
    intro k hd
    obtain rfl : k = n := by omega
    refine s_iload_n (pc' := 7) dJ7_fill_d0a16_6 rfl rfl ?_
    refine s_iload (pc' := 9) dJ7_fill_d0a16_7 rfl rfl ?_
    refine s_icmpgeT (tgt := 22) dJ7_fill_d0a16_9 (by decide) (nI_le (Nat.le_refl _) (by omega)) ?_
    exact s_vret dJ7_fill_d0a16_22 rfl (by decide) (by decide) hk
  | succ d ih =>
    intro k hd
    refine s_iload_n (pc' := 7) dJ7_fill_d0a16_6 rfl rfl ?_
    refine s_iload (pc' := 9) dJ7_fill_d0a16_7 rfl rfl ?_
    refine s_icmpgeF (pc' := 12) (tgt := 22) dJ7_fill_d0a16_9 (by decide) rfl (nI_ge (by omega) (by omega)) ?_
    refine s_aload_n (pc' := 13) dJ7_fill_d0a16_12 rfl rfl ?_
    refine s_iload_n (pc' := 14) dJ7_fill_d0a16_13 rfl rfl ?_
    refine s_lload_n (pc' := 15) dJ7_fill_d0a16_14 rfl rfl ?_
    refine t_last (pc' := 16) dJ7_fill_d0a16_15 rfl hs rfl (by omega) ?_
    refine t_iinc (pc' := 19) (v := nI (k + 1)) (L' := [.ref _, .long _, .retAddr _, .int _, .int _]) dJ7_fill_d0a16_16 rfl rfl (nI_inc k) rfl ?_
    refine s_goto (tgt := 6) dJ7_fill_d0a16_19 (by decide) ?_
    exact s_eq rfl rfl (by rw [flJ_s]) (ih (k + 1) (by omega))
theorem c_J7_fill_d0a16 {N : Nat} {S : Nat → Nat × Nat} {I : Nat → Nat → Int32} {J : Nat → Nat → Int64} {Q : Nat → Nat → Option Nat} {κ : Option Value → HP → Prop} {a n : Nat} {x : Int64} (hn : n < 2 ^ 31) (hs : ∀ {I' : Nat → Nat → Int32} {J' : Nat → Nat → Int64} {Q' : Nat → Nat → Option Nat}, Sh E1 (N, S, I', J', Q') a 14 n) (hk : κ none (N, S, I, flJ J a n x, Q)) : CT E1 M_J7_fill_d0a16 [.ref a, .long x] (N, S, I, J, Q) κ := by
  refine ofSP mk_J7_fill_d0a16 (Nat.le_of_ble_eq_true rfl) (L := [.ref _, .long _, .retAddr _, .retAddr _, .retAddr _]) rfl ?_
  refine s_iconst (pc' := 1) (v := 0) dJ7_fill_d0a16_0 rfl (by decide) ?_
  refine t_istore_n (pc' := 2) (L' := [.ref _, .long _, .retAddr _, .int _, .retAddr _]) dJ7_fill_d0a16_1 rfl (Nat.le_of_ble_eq_true rfl) rfl ?_
  refine s_aload_n (pc' := 3) dJ7_fill_d0a16_2 rfl rfl ?_
  refine s_alen (pc' := 4) dJ7_fill_d0a16_3 rfl (Or.inr rfl) hs ?_
  refine t_istore (pc' := 6) (L' := [.ref _, .long _, .retAddr _, .int _, .int _]) dJ7_fill_d0a16_4 rfl (Nat.le_of_ble_eq_true rfl) rfl ?_
  exact s_eq rfl rfl (by rw [flJ_0]) (l_J7_fill_d0a16 hn hs hk n 0 (by omega))
theorem l_X5_gather {N : Nat} {S : Nat → Nat × Nat} {I : Nat → Nat → Int32} {J : Nat → Nat → Int64} {Q : Nat → Nat → Option Nat} {κ : Option Value → HP → Prop} {D : Nat → Nat → Int32} {nv nr ns : Nat} {ad td : Nat → Nat} (X : XS N S I Q D nv nr ns ad td 0) (hW : DW D nv nr ns) {v s : Nat} {x th : Int32} (hv : v < 10) (hth : I 24 4 = th) (hs : s + cntB (kvB D (nI v)) nr ≤ 30) (hpl : ∀ r, r < nr → kvB D (nI v) r = true → I 30 (s + cntB (kvB D (nI v)) r) = nI r) (hk : ∀ I' J' Q', GA I I' J J' Q Q' D x th (nI v) ad nr → κ none (N, S, I', J', Q')) : ∀ d : Nat, ∀ k I' J' Q', k ≤ nr → cntB (kvB D (nI v)) k + d = cntB (kvB D (nI v)) nr → GA I I' J J' Q Q' D x th (nI v) ad k → SP E1 M_X5_gather κ 8 [.ref 24, .ref 1, .int x, .int (nI s), .int (nI (s + cntB (kvB D (nI v)) nr)), .int (nI (s + cntB (kvB D (nI v)) k)), .retAddr 0, .retAddr 0] [] (N, S, I', J', Q') 0 0 := by
  intro d
  induction d with
  | zero =>
    intro k I' J' Q' hk2 hd hP
    have X2 := X.fr hP.1
    have hn30 := hW.nr
    replace hP := hP.skip hk2 (cnt_end (nr - k) k (by omega) (by omega))
    refine s_iload (pc' := 10) dX5_gather_8 rfl rfl ?_
    refine s_iload (pc' := 12) dX5_gather_10 rfl rfl ?_
    refine s_icmpgeT (tgt := 142) dX5_gather_12 (by decide) (nI_le (by omega) (by omega)) ?_
    exact s_vret dX5_gather_142 rfl (by decide) (by decide) (hk I' J' Q' hP)
  | succ d ih =>
    intro k I' J' Q' hk2 hd hP
    have X2 := X.fr hP.1
    have hn30 := hW.nr
    obtain ⟨r, hr1, hr, hkr, hrc, hsk⟩ := cnt_next (n := nr) (nr - k) k (by omega) (show cntB (kvB D (nI v)) k < cntB (kvB D (nI v)) nr by omega)
    replace hP := hP.skip hr1 hsk
    have hcm := cnt_mono (P := (kvB D (nI v))) (show r + 1 ≤ nr by omega)
    have hc1 := cnt_s1 hkr
    have R := X2.ro hr
    have h94 := R.ge
    have hth3 : I' 24 4 = th := by rw [hP.2.1 4 (by decide)]; exact hth
    have hp30 : I' 30 (s + cntB (kvB D (nI v)) r) = nI r := by rw [hP.1.2.2.1]; exact hpl r hr hkr
    have hby : D 67 r = -1 ∨ ∃ o, o < 10 ∧ D 67 r = nI o := (hW.2.1 r hr).2.2.2.1.imp id (fun ⟨o, a, b⟩ => ⟨o, by have := hW.nv; omega, b⟩)
    have hpc : cntB (Pv D x (J 25) th (nI v)) r < 30 := by have := cntB_le (Pv D x (J 25) th (nI v)) r; omega
    rw [show cntB (kvB D (nI v)) k = cntB (kvB D (nI v)) r from hrc.symm]
    refine s_iload (pc' := 10) dX5_gather_8 rfl rfl ?_
    refine s_iload (pc' := 12) dX5_gather_10 rfl rfl ?_
    refine s_icmpgeF (pc' := 15) (tgt := 142) dX5_gather_12 (by decide) rfl (nI_ge (by omega) (by omega)) ?_
    refine s_aload_n (pc' := 16) dX5_gather_15 rfl rfl ?_
    refine s_getS (pc' := 19) (b := 30) dX5_gather_16 rfl (by decide) rfl (by decide) fa_X5_38_5 rfl rfl ?_
    refine s_iload (pc' := 21) dX5_gather_19 rfl rfl ?_
    refine t_iald (pc' := 22) dX5_gather_21 rfl sh_30 rfl (by omega) ?_
    rw [hp30]
    refine t_istore (pc' := 24) (L' := [.ref 24, .ref 1, .int _, .int _, .int _, .int _, .int _, .retAddr _]) dX5_gather_22 rfl (Nat.le_of_ble_eq_true rfl) rfl ?_
    refine s_aload_n (pc' := 25) dX5_gather_24 rfl rfl ?_
    refine s_getS (pc' := 28) (b := 8) dX5_gather_25 rfl (by decide) rfl (by decide) fa_X5_83_8 rfl rfl ?_
    refine s_iload (pc' := 30) dX5_gather_28 rfl rfl ?_
    refine t_aald (pc' := 31) dX5_gather_30 rfl (Or.inl rfl) sh_8 rfl (by omega) (X2.q hr) ?_
    refine t_astore (pc' := 33) (L' := [.ref 24, .ref 1, .int _, .int _, .int _, .int _, .int _, .ref _]) dX5_gather_31 rfl (Nat.le_of_ble_eq_true rfl) rfl ?_
    refine s_aload_n (pc' := 34) dX5_gather_33 rfl rfl ?_
    refine s_getS (pc' := 37) (b := 26) dX5_gather_34 rfl (by decide) rfl (by decide) fa_X5_15_5 rfl rfl ?_
    refine s_iload (pc' := 39) dX5_gather_37 rfl rfl ?_
    refine s_aload (pc' := 41) dX5_gather_39 rfl rfl ?_
    refine s_aload_n (pc' := 42) dX5_gather_41 rfl rfl ?_
    refine s_getS (pc' := 45) (b := 25) dX5_gather_42 rfl (by decide) rfl (by decide) fa_X5_9_5 rfl rfl ?_
    refine s_callU (pc' := 48) (owner := RX6) (As := [.ref 25]) dX5_gather_45 rfl mk_X6_amountBy ml_X5_149 sw_X6_X6_amountBy im_X6_amountBy mk_X6_amountBy.1 mk_X6_amountBy.2.2.1 (sel_amountBy (kc_rk _)) im_X6_amountBy R.sh (rk_lt (kc_rk _)) rfl rfl ⟨Nat.le_of_ble_eq_true rfl, Nat.le_of_ble_eq_true rfl, Nat.le_of_ble_eq_true rfl, Nat.le_of_ble_eq_true rfl⟩ (Nat.le_of_ble_eq_true rfl) (c_X6_amountBy R hby ?_)
    refine t_last (pc' := 49) dX5_gather_48 rfl sh_26 rfl (by omega) ?_
    refine s_aload_n (pc' := 50) dX5_gather_49 rfl rfl ?_
    refine s_getS (pc' := 53) (b := 28) dX5_gather_50 rfl (by decide) rfl (by decide) fa_X5_22_5 rfl rfl ?_
    refine s_iload (pc' := 55) dX5_gather_53 rfl rfl ?_
    refine s_iconst (pc' := 56) (v := -1) dX5_gather_55 rfl (by decide) ?_
    refine t_iast (pc' := 57) dX5_gather_56 rfl sh_28 rfl (by omega) ?_
    refine s_aload_n (pc' := 58) dX5_gather_57 rfl rfl ?_
    refine t_getI (pc' := 61) dX5_gather_58 rfl sh_24 (by decide) fa_X5_25_5 rfl ?_
    refine s_iload (pc' := 63) dX5_gather_61 rfl rfl ?_
    refine s_callSN (pc' := 66) (As := [.int _, .int _]) dX5_gather_63 rfl mk_X11_hasBit mn_X5_132 sm_X11_hasBit rfl rfl ⟨Nat.le_of_ble_eq_true rfl, Nat.le_of_ble_eq_true rfl, Nat.le_of_ble_eq_true rfl, Nat.le_of_ble_eq_true rfl⟩ (Nat.le_of_ble_eq_true rfl) (e_hasBit (j := _) rfl (by omega) (fun b63 => ?_) (fun b63 => ?_))
    · refine s_ifneT (tgt := 80) dX5_gather_66 (by decide) (by decide) ?_
      refine s_aload (pc' := 82) dX5_gather_80 rfl rfl ?_
      refine t_getR (pc' := 85) dX5_gather_82 rfl R.sh (rk_lt (kc_rk _)) (fr_X5_136 (kc_rk _)) (rk_ft (kc_rk _) (by decide)) R.f2 ?_
      refine s_iload_n (pc' := 86) dX5_gather_85 rfl rfl ?_
      refine s_aload_n (pc' := 87) dX5_gather_86 rfl rfl ?_
      refine s_getS (pc' := 90) (b := 25) dX5_gather_87 rfl (by decide) rfl (by decide) fa_X5_9_5 rfl rfl ?_
      refine s_callV (pc' := 93) (As := [.int _, .ref 25]) dX5_gather_90 rfl mk_X9_holds ml_X5_140 im_X9_holds se_X9_X9_X9_holds R.to.sh (by decide) rfl rfl rfl ⟨Nat.le_of_ble_eq_true rfl, Nat.le_of_ble_eq_true rfl, Nat.le_of_ble_eq_true rfl, Nat.le_of_ble_eq_true rfl⟩ (Nat.le_of_ble_eq_true rfl) (c_X9_holds hW (r := r) hr (R.to.mv (fun a ha => by rw [up2_o (by omega)])) (fun h90 => ?_) (fun h90 => ?_))
      · refine s_ifneT (tgt := 107) dX5_gather_93 (by decide) (by decide) ?_
        refine s_aload_n (pc' := 108) dX5_gather_107 rfl rfl ?_
        refine s_getS (pc' := 111) (b := 27) dX5_gather_108 rfl (by decide) rfl (by decide) fa_X5_18_5 rfl rfl ?_
        refine s_iload (pc' := 113) dX5_gather_111 rfl rfl ?_
        refine s_iconst (pc' := 114) (v := 2) dX5_gather_113 rfl (by decide) ?_
        refine t_iast (pc' := 115) dX5_gather_114 rfl sh_27 rfl (by omega) ?_
        refine s_aload_n (pc' := 116) dX5_gather_115 rfl rfl ?_
        refine s_getS (pc' := 119) (b := 32) dX5_gather_116 rfl (by decide) rfl (by decide) fa_X5_46_5 rfl rfl ?_
        refine s_aload_n (pc' := 120) dX5_gather_119 rfl rfl ?_
        refine t_getI (pc' := 123) dX5_gather_120 rfl sh_24 (by decide) fa_X5_50_5 rfl ?_
        refine s_aload (pc' := 125) dX5_gather_123 rfl rfl ?_
        refine t_aast (pc' := 126) (q := cntB (Pv D x (J 25) th (nI v)) r) dX5_gather_125 rfl sh_32 (by simp (disch := decide) only [up2_d]; rw [hP.2.2.1]) hpc (X2.ro hr).sh (kc_rk _) (fun _ _ => rfl) ?_
        refine s_aload_n (pc' := 127) dX5_gather_126 rfl rfl ?_
        refine s_dup (pc' := 128) dX5_gather_127 rfl rfl ?_
        refine t_getI (pc' := 131) dX5_gather_128 rfl sh_24 (by decide) fa_X5_50_5 rfl ?_
        refine s_iconst (pc' := 132) (v := 1) dX5_gather_131 rfl (by decide) ?_
        refine s_iadd (pc' := 133) dX5_gather_132 rfl ?_
        refine t_putI (pc' := 136) dX5_gather_133 rfl sh_24 (by decide) fa_X5_50_5 (Or.inl rfl) rfl rfl rfl ?_
        refine t_iinc (pc' := 139) (v := nI (s + cntB (kvB D (nI v)) r + 1)) (L' := [.ref 24, .ref 1, .int _, .int _, .int _, .int _, .int _, .ref _]) dX5_gather_136 rfl rfl (nI_inc _) rfl ?_
        refine s_goto (tgt := 8) dX5_gather_139 (by decide) ?_
        have e25 : J' 25 = J 25 := hP.2.2.2.2.2.2 25 (by decide)
        have q1 : bitI th (nI r) = 1 := by rw [← hth3]; simp (disch := decide) only [up2_d] at b63; exact (bitI_1 (by omega)).mpr b63
        rw [up2_o (show (25 : Nat) ≠ 26 by decide), e25] at h90
        rw [e25]
        refine s_fg [6, 7] (by rw [show s + cntB (kvB D (nI v)) r + 1 = s + cntB (kvB D (nI v)) (r + 1) by rw [cnt_s1 hkr]; rfl]; rfl) (ih (r + 1) _ _ _ (by omega) (by rw [cnt_s1 hkr]; omega) (hP.stepP hkr q1 h90 (by simp (disch := decide) only [up2_d]; rw [hP.2.2.1, nI_1])))
      · refine s_ifneF (pc' := 96) (tgt := 107) dX5_gather_93 (by decide) rfl (by decide) ?_
        refine s_aload_n (pc' := 97) dX5_gather_96 rfl rfl ?_
        refine s_getS (pc' := 100) (b := 27) dX5_gather_97 rfl (by decide) rfl (by decide) fa_X5_18_5 rfl rfl ?_
        refine s_iload (pc' := 102) dX5_gather_100 rfl rfl ?_
        refine s_iconst (pc' := 103) (v := 1) dX5_gather_102 rfl (by decide) ?_
        refine t_iast (pc' := 104) dX5_gather_103 rfl sh_27 rfl (by omega) ?_
        refine s_goto (tgt := 136) dX5_gather_104 (by decide) ?_
        refine t_iinc (pc' := 139) (v := nI (s + cntB (kvB D (nI v)) r + 1)) (L' := [.ref 24, .ref 1, .int _, .int _, .int _, .int _, .int _, .ref _]) dX5_gather_136 rfl rfl (nI_inc _) rfl ?_
        refine s_goto (tgt := 8) dX5_gather_139 (by decide) ?_
        have e25 : J' 25 = J 25 := hP.2.2.2.2.2.2 25 (by decide)
        have q1 : bitI th (nI r) = 1 := by rw [← hth3]; simp (disch := decide) only [up2_d] at b63; exact (bitI_1 (by omega)).mpr b63
        rw [up2_o (show (25 : Nat) ≠ 26 by decide), e25] at h90
        rw [e25]
        refine s_fg [6, 7] (by rw [show s + cntB (kvB D (nI v)) r + 1 = s + cntB (kvB D (nI v)) (r + 1) by rw [cnt_s1 hkr]; rfl]; rfl) (ih (r + 1) _ _ _ (by omega) (by rw [cnt_s1 hkr]; omega) (hP.step hkr (Pv_n2 h90) (by rw [if_pos q1, if_neg (by rw [h90]; decide)])))
    · refine s_ifneF (pc' := 69) (tgt := 80) dX5_gather_66 (by decide) rfl (by decide) ?_
      refine s_aload_n (pc' := 70) dX5_gather_69 rfl rfl ?_
      refine s_getS (pc' := 73) (b := 27) dX5_gather_70 rfl (by decide) rfl (by decide) fa_X5_18_5 rfl rfl ?_
      refine s_iload (pc' := 75) dX5_gather_73 rfl rfl ?_
      refine s_iconst (pc' := 76) (v := 0) dX5_gather_75 rfl (by decide) ?_
      refine t_iast (pc' := 77) dX5_gather_76 rfl sh_27 rfl (by omega) ?_
      refine s_goto (tgt := 136) dX5_gather_77 (by decide) ?_
      refine t_iinc (pc' := 139) (v := nI (s + cntB (kvB D (nI v)) r + 1)) (L' := [.ref 24, .ref 1, .int _, .int _, .int _, .int _, .int _, .ref _]) dX5_gather_136 rfl rfl (nI_inc _) rfl ?_
      refine s_goto (tgt := 8) dX5_gather_139 (by decide) ?_
      have e25 : J' 25 = J 25 := hP.2.2.2.2.2.2 25 (by decide)
      have q1 : bitI th (nI r) ≠ 1 := fun z => by rw [← hth3] at z; simp (disch := decide) only [up2_d] at b63; rw [(bitI_1 (by omega)).mp z] at b63; cases b63
      rw [e25]
      refine s_fg [6, 7] (by rw [show s + cntB (kvB D (nI v)) r + 1 = s + cntB (kvB D (nI v)) (r + 1) by rw [cnt_s1 hkr]; rfl]; rfl) (ih (r + 1) _ _ _ (by omega) (by rw [cnt_s1 hkr]; omega) (hP.step hkr (Pv_n1 q1) (by rw [if_neg q1])))
theorem c_X5_gather {N : Nat} {S : Nat → Nat × Nat} {I : Nat → Nat → Int32} {J : Nat → Nat → Int64} {Q : Nat → Nat → Option Nat} {κ : Option Value → HP → Prop} {D : Nat → Nat → Int32} {nv nr ns : Nat} {ad td : Nat → Nat} (X : XS N S I Q D nv nr ns ad td 0) (hW : DW D nv nr ns) {v s : Nat} {x th : Int32} (hv : v < 10) (hth : I 24 4 = th) (hs : s + cntB (kvB D (nI v)) nr ≤ 30) (hpl : ∀ r, r < nr → kvB D (nI v) r = true → I 30 (s + cntB (kvB D (nI v)) r) = nI r) (hk : ∀ I' J' Q', GA I I' J J' Q Q' D x th (nI v) ad nr → κ none (N, S, I', J', Q')) : CT E1 M_X5_gather [.ref 24, .ref 1, .int x, .int (nI s), .int (nI (s + cntB (kvB D (nI v)) nr))] (N, S, I, J, Q) κ := by
  refine ofSP mk_X5_gather (Nat.le_of_ble_eq_true rfl) (L := [.ref 24, .ref 1, .int _, .int _, .int _, .retAddr _, .retAddr _, .retAddr _]) rfl ?_
  refine s_aload_n (pc' := 1) dX5_gather_0 rfl rfl ?_
  refine s_iconst (pc' := 2) (v := 0) dX5_gather_1 rfl (by decide) ?_
  refine t_putI (pc' := 5) dX5_gather_2 rfl sh_24 (by decide) fa_X5_50_5 (Or.inl rfl) rfl rfl rfl ?_
  refine s_iload_n (pc' := 6) dX5_gather_5 rfl rfl ?_
  refine t_istore (pc' := 8) (L' := [.ref 24, .ref 1, .int _, .int _, .int _, .int _, .retAddr _, .retAddr _]) dX5_gather_6 rfl (Nat.le_of_ble_eq_true rfl) rfl ?_
  exact l_X5_gather X hW hv hth hs hpl hk (cntB (kvB D (nI v)) nr) 0 _ _ _ (Nat.zero_le _) (by simp [cntB]) GA.rf
