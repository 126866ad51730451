/-! ===== chance: the class ===== -/
/-- Euclid from x, y comes to its end within r steps -/
def GB : Nat → Nat → Nat → Prop
  | 0, _, y => y = 0
  | r + 1, x, y => y = 0 ∨ GB r y (x % y)
theorem GB_ok : ∀ m x y, y < 2 ^ m → GB (2 * m + 1) x y
  | 0, x, y, h => Or.inl (by rw [Nat.pow_zero] at h; omega)
  | m + 1, x, y, h => by
    by_cases z : y = 0
    · exact Or.inl z
    · refine Or.inr ?_
      show GB (2 * m + 1 + 1) y (x % y)
      by_cases w : x % y = 0
      · exact Or.inl w
      · refine Or.inr (GB_ok m _ _ ?_)
        have := gcd_half (x := x) (show 0 < y by omega) (by omega)
        rw [Nat.pow_succ] at h
        omega
theorem nI_sB {a b : Nat} (h : b ≤ a) : nI a - nI b = nI (a - b) := by
  have e : nI a = nI (a - b) + nI b := by rw [nI_add]; congr 1; omega
  rw [e, Int32.add_sub_cancel]
def CWJ (J J' : Nat → Nat → Int64) (s d m : Nat) : Prop := (∀ a, a ≠ 53 → J' a = J a) ∧ (∀ t, t < m → J' 53 t = nL (Wy d s t)) ∧ ∀ t, m ≤ t → t < 61 → J' 53 t = nL (Wy (d + 1) s t)
section CW
variable {N : Nat} {S : Nat → Nat × Nat} {I : Nat → Nat → Int32} {J J' : Nat → Nat → Int64} {Q : Nat → Nat → Option Nat} {D : Nat → Nat → Int32} {nv nr ns e s d m n : Nat} {ad td : Nat → Nat}
theorem CWJ.st {x : Int64} (h : CWJ J J' s d (m + 1)) (hx : x = nL (Wy (d + 1) s m)) : CWJ J (up2 J' 53 m x) s d m := ⟨fun a ha => by rw [up2_o ha]; exact h.1 a ha, fun t ht => by rw [up2_e (by omega)]; exact h.2.1 t (by omega), fun t h1 h2 => by
  by_cases z : t = m
  · rw [z, up2_s, hx]
  · rw [up2_e z]; exact h.2.2 t (by omega) h2⟩
theorem CWJ.nx (h : CWJ J J' s d 0) : CWJ J J' s (d + 1) 61 := ⟨h.1, fun t ht => h.2.2 t (Nat.zero_le _) ht, fun t h1 h2 => absurd h1 (by omega)⟩
theorem CWJ.z : CWJ J (up2 (flJ J 53 61 0) 53 0 1) s 0 61 := ⟨fun a ha => by funext j; rw [up2_o ha]; unfold flJ; rw [if_neg (fun z => ha z.1)], fun t ht => by
  by_cases z : t = 0
  · rw [z, up2_s]; rfl
  · rw [up2_e z, Wy, if_neg z]; unfold flJ; rw [if_pos ⟨rfl, ht⟩]; rfl, fun t h1 h2 => absurd h1 (by omega)⟩
theorem XB.j (h : XB N S I J Q D nv nr ns ad td e) (h2 : J' 38 = J 38) : XB N S I J' Q D nv nr ns ad td e := by
  obtain ⟨x1, x2, x3, x4, x5, x6, k1, k2, k3⟩ := h
  refine ⟨x1, x2, x3, x4, x5, x6, k1, k2, fun b hb => ?_⟩
  obtain ⟨q1, q2⟩ := k3 b hb
  refine ⟨q1, fun z => ?_⟩
  obtain ⟨p1, p2⟩ := q2 z
  exact ⟨fun v hv => by unfold gX; rw [h2]; exact p1 v hv, p2⟩
theorem INVd.j (H : INVd n N S I J Q D nv nr ns ad td e) (h : ∀ a, a ≠ 53 → J' a = J a) : INVd n N S I J' Q D nv nr ns ad td e := by
  obtain ⟨h1, h2, h3, h4, h5, h6⟩ := H
  exact ⟨h1, h2, h3.j (h 38 (by decide)), h4, h5.imp id (fun L => L.mv rfl rfl rfl (h 80 (by decide))), h6⟩
end CW
set_option maxHeartbeats 400000 in
theorem GB_up : ∀ r q x y, GB r x y → GB (r + q) x y
  | 0, 0, x, y, h => h
  | 0, q + 1, x, y, h => by rw [Nat.zero_add]; exact Or.inl h
  | r + 1, q, x, y, h => by
    rw [show r + 1 + q = (r + q) + 1 by omega]
    rcases h with h | h
    · exact Or.inl h
    · exact Or.inr (GB_up r q _ _ h)
theorem gb100 {a b : Nat} (hb : b < 2 ^ 40) : GB 100 a b := GB_up 81 19 a b (GB_ok 40 a b hb)
set_option maxHeartbeats 200000 in
theorem l_X11_commonDivisor {N : Nat} {S : Nat → Nat × Nat} {I : Nat → Nat → Int32} {J : Nat → Nat → Int64} {Q : Nat → Nat → Option Nat} {κ : Option Value → HP → Prop} {A B : Int64} {G : Nat} (hG : 0 < G) (hk : κ (some (.long (nL G))) (N, S, I, J, Q)) : ∀ d : Nat, ∀ k x y (r9 r10 : Value), k + d = 100 → x < 2 ^ 62 → y < 2 ^ 62 → GB d x y → Nat.gcd x y = G → SP E1 M_X11_commonDivisor κ 9 [.long A, .retAddr 0, .long B, .retAddr 0, .long (nL x), .retAddr 0, .long (nL y), .retAddr 0, .int (nI k), r9, r10] [] (N, S, I, J, Q) 0 0 := by
  intro d
  induction d with
  | zero =>
    intro k x y r9 r10 hd hx hy gb hg
    obtain rfl : k = 100 := by omega
    have y0 : y = 0 := gb
    have gx : x = G := by rw [y0, Nat.gcd_zero_right] at hg; exact hg
    refine s_iload (pc' := 11) dX11_commonDivisor_9 rfl rfl ?_
    refine s_bipush (pc' := 13) (v := 100) dX11_commonDivisor_11 rfl (by decide) ?_
    refine s_icmpgeT (tgt := 44) dX11_commonDivisor_13 (by decide) (by decide) ?_
    refine s_lload (pc' := 46) dX11_commonDivisor_44 rfl rfl ?_
    refine s_lconst (pc' := 47) (v := 0) dX11_commonDivisor_46 rfl (by decide) ?_
    refine s_lcmp (pc' := 48) dX11_commonDivisor_47 rfl ?_
    refine s_ifneT (tgt := 55) dX11_commonDivisor_48 (by decide) (fun z => by rw [lg_cmp_eq] at z; have := (nL_0 (by omega)).mp z; omega) ?_
    refine s_lload (pc' := 57) dX11_commonDivisor_55 rfl rfl ?_
    exact s_lret dX11_commonDivisor_57 rfl (by decide) (by decide) (by rw [gx]; exact hk)
  | succ d ih =>
    intro k x y r9 r10 hd hx hy gb hg
    by_cases y0 : y = 0
    · have gx : x = G := by rw [y0, Nat.gcd_zero_right] at hg; exact hg
      refine s_iload (pc' := 11) dX11_commonDivisor_9 rfl rfl ?_
      refine s_bipush (pc' := 13) (v := 100) dX11_commonDivisor_11 rfl (by decide) ?_
      refine s_icmpgeF (pc' := 16) (tgt := 44) dX11_commonDivisor_13 (by decide) rfl (nI_ge (b := 100) (by omega) (by decide)) ?_
      refine s_lload (pc' := 18) dX11_commonDivisor_16 rfl rfl ?_
      refine s_lconst (pc' := 19) (v := 0) dX11_commonDivisor_18 rfl (by decide) ?_
      refine s_lcmp (pc' := 20) dX11_commonDivisor_19 rfl ?_
      refine s_ifeqT (tgt := 44) dX11_commonDivisor_20 (by decide) (by rw [lg_cmp_eq, y0]; rfl) ?_
      refine s_lload (pc' := 46) dX11_commonDivisor_44 rfl rfl ?_
      refine s_lconst (pc' := 47) (v := 0) dX11_commonDivisor_46 rfl (by decide) ?_
      refine s_lcmp (pc' := 48) dX11_commonDivisor_47 rfl ?_
      refine s_ifneT (tgt := 55) dX11_commonDivisor_48 (by decide) (fun z => by rw [lg_cmp_eq] at z; have := (nL_0 (by omega)).mp z; omega) ?_
      refine s_lload (pc' := 57) dX11_commonDivisor_55 rfl rfl ?_
      exact s_lret dX11_commonDivisor_57 rfl (by decide) (by decide) (by rw [gx]; exact hk)
    · have my := Nat.mod_lt x (show 0 < y by omega)
      refine s_iload (pc' := 11) dX11_commonDivisor_9 rfl rfl ?_
      refine s_bipush (pc' := 13) (v := 100) dX11_commonDivisor_11 rfl (by decide) ?_
      refine s_icmpgeF (pc' := 16) (tgt := 44) dX11_commonDivisor_13 (by decide) rfl (nI_ge (b := 100) (by omega) (by decide)) ?_
      refine s_lload (pc' := 18) dX11_commonDivisor_16 rfl rfl ?_
      refine s_lconst (pc' := 19) (v := 0) dX11_commonDivisor_18 rfl (by decide) ?_
      refine s_lcmp (pc' := 20) dX11_commonDivisor_19 rfl ?_
      refine s_ifeqF (pc' := 23) (tgt := 44) dX11_commonDivisor_20 (by decide) rfl (fun z => y0 ((nL_0 (by omega)).mp ((lg_cmp_eq _ _).mp z))) ?_
      refine s_lload (pc' := 25) dX11_commonDivisor_23 rfl rfl ?_
      refine s_lload (pc' := 27) dX11_commonDivisor_25 rfl rfl ?_
      refine s_lrem (pc' := 28) dX11_commonDivisor_27 rfl (fun z => y0 ((nL_0 (by omega)).mp z)) ?_
      rw [nL_rem hx hy]
      refine t_lstore (pc' := 30) (L' := [.long _, _, .long _, _, .long _, _, .long _, _, .int _, .long _, _]) dX11_commonDivisor_28 rfl (Nat.le_of_ble_eq_true rfl) rfl ?_
      refine s_lload (pc' := 32) dX11_commonDivisor_30 rfl rfl ?_
      refine t_lstore (pc' := 34) (L' := [.long _, _, .long _, _, .long _, _, .long _, _, .int _, .long _, _]) dX11_commonDivisor_32 rfl (Nat.le_of_ble_eq_true rfl) rfl ?_
      refine s_lload (pc' := 36) dX11_commonDivisor_34 rfl rfl ?_
      refine t_lstore (pc' := 38) (L' := [.long _, _, .long _, _, .long _, _, .long _, _, .int _, .long _, _]) dX11_commonDivisor_36 rfl (Nat.le_of_ble_eq_true rfl) rfl ?_
      refine t_iinc (pc' := 41) (v := nI (k + 1)) (L' := [.long _, _, .long _, _, .long _, _, .long _, _, .int _, .long _, _]) dX11_commonDivisor_38 rfl rfl (nI_inc k) rfl ?_
      refine s_goto (tgt := 9) dX11_commonDivisor_41 (by decide) ?_
      exact ih (k + 1) y (x % y) _ _ (by omega) hy (by omega) (gb.resolve_left y0) (by rw [Nat.gcd_comm y (x % y), ← Nat.gcd_rec y x, Nat.gcd_comm y x]; exact hg)
set_option maxHeartbeats 200000 in
theorem c_X11_commonDivisor {N : Nat} {S : Nat → Nat × Nat} {I : Nat → Nat → Int32} {J : Nat → Nat → Int64} {Q : Nat → Nat → Option Nat} {κ : Option Value → HP → Prop} {a b : Nat} (ha : a < 2 ^ 40) (hb : b < 2 ^ 40) (hG : 0 < Nat.gcd a b) (hk : κ (some (.long (nL (Nat.gcd a b)))) (N, S, I, J, Q)) : CT E1 M_X11_commonDivisor [.long (nL a), .long (nL b)] (N, S, I, J, Q) κ := by
  refine ofSP mk_X11_commonDivisor (Nat.le_of_ble_eq_true rfl) (L := [.long _, .retAddr _, .long _, .retAddr _, .retAddr _, .retAddr _, .retAddr _, .retAddr _, .retAddr _, .retAddr _, .retAddr _]) rfl ?_
  refine s_lload_n (pc' := 1) dX11_commonDivisor_0 rfl rfl ?_
  refine t_lstore (pc' := 3) (L' := [.long _, .retAddr _, .long _, .retAddr _, .long _, .retAddr _, .retAddr _, .retAddr _, .retAddr _, .retAddr _, .retAddr _]) dX11_commonDivisor_1 rfl (Nat.le_of_ble_eq_true rfl) rfl ?_
  refine s_lload_n (pc' := 4) dX11_commonDivisor_3 rfl rfl ?_
  refine t_lstore (pc' := 6) (L' := [.long _, .retAddr _, .long _, .retAddr _, .long _, .retAddr _, .long _, .retAddr _, .retAddr _, .retAddr _, .retAddr _]) dX11_commonDivisor_4 rfl (Nat.le_of_ble_eq_true rfl) rfl ?_
  refine s_iconst (pc' := 7) (v := 0) dX11_commonDivisor_6 rfl (by decide) ?_
  refine t_istore (pc' := 9) (L' := [.long _, .retAddr _, .long _, .retAddr _, .long _, .retAddr _, .long _, .retAddr _, .int _, .retAddr _, .retAddr _]) dX11_commonDivisor_7 rfl (Nat.le_of_ble_eq_true rfl) rfl ?_
  exact l_X11_commonDivisor hG hk 100 0 a b _ _ (by omega) (by omega) (by omega) (gb100 hb) rfl
set_option maxHeartbeats 200000 in
theorem l_X11_waysOfOneMore {N : Nat} {S : Nat → Nat × Nat} {I : Nat → Nat → Int32} {J : Nat → Nat → Int64} {Q : Nat → Nat → Option Nat} {κ : Option Value → HP → Prop} {k s : Nat} {f : Nat → Nat} (hk6 : k < 61) (hs : s ≤ 12) (hf : ∀ i, i < k → J 53 i = nL (f i)) (hk : κ (some (.long (nL (sW f k s)))) (N, S, I, J, Q)) : ∀ d : Nat, ∀ j, j + d = s → SP E1 M_X11_waysOfOneMore κ 5 [.ref 0, .int (nI k), .int (nI s), .long (nL (sW f k j)), .retAddr 0, .int (nI (j + 1))] [] (N, S, I, J, Q) 0 0 := by
  intro d
  induction d with
  | zero =>
    intro j hd
    obtain rfl : j = s := by omega
    refine s_iload (pc' := 7) dX11_waysOfOneMore_5 rfl rfl ?_
    refine s_iload_n (pc' := 8) dX11_waysOfOneMore_7 rfl rfl ?_
    refine s_icmpgtT (tgt := 35) dX11_waysOfOneMore_8 (by decide) (nI_lt (by omega) (by omega)) ?_
    refine s_lload_n (pc' := 36) dX11_waysOfOneMore_35 rfl rfl ?_
    exact s_lret dX11_waysOfOneMore_36 rfl (by decide) (by decide) hk
  | succ d ih =>
    intro j hd
    refine s_iload (pc' := 7) dX11_waysOfOneMore_5 rfl rfl ?_
    refine s_iload_n (pc' := 8) dX11_waysOfOneMore_7 rfl rfl ?_
    refine s_icmpgtF (pc' := 11) (tgt := 35) dX11_waysOfOneMore_8 (by decide) rfl (Int32.not_lt.mpr (nI_le (by omega) (by omega))) ?_
    refine s_iload (pc' := 13) dX11_waysOfOneMore_11 rfl rfl ?_
    refine s_iload_n (pc' := 14) dX11_waysOfOneMore_13 rfl rfl ?_
    refine s_icmpgt (pc' := 17) (tgt := 35) dX11_waysOfOneMore_14 (by decide) rfl (fun c14 => ?_) (fun c14 => ?_)
    · refine s_lload_n (pc' := 36) dX11_waysOfOneMore_35 rfl rfl ?_
      exact s_lret dX11_waysOfOneMore_36 rfl (by decide) (by decide) (by have jk : k < j + 1 := (nI_ltI (by omega) (by omega)).mp c14; rw [← sW_stop (show k ≤ j by omega) (s - j), show j + (s - j) = s by omega]; exact hk)
    · have jk : j + 1 ≤ k := (nI_leI (by omega) (by omega)).mp (Int32.not_lt.mp c14)
      refine s_lload_n (pc' := 18) dX11_waysOfOneMore_17 rfl rfl ?_
      refine s_aload_n (pc' := 19) dX11_waysOfOneMore_18 rfl rfl ?_
      refine s_getS (pc' := 22) (b := 53) dX11_waysOfOneMore_19 rfl (by decide) rfl (by decide) fa_X11_75_11 rfl rfl ?_
      refine s_iload_n (pc' := 23) dX11_waysOfOneMore_22 rfl rfl ?_
      refine s_iload (pc' := 25) dX11_waysOfOneMore_23 rfl rfl ?_
      refine s_isub (pc' := 26) dX11_waysOfOneMore_25 rfl ?_
      refine t_lald (pc' := 27) (q := k - (j + 1)) dX11_waysOfOneMore_26 rfl sh_53 (nI_sB jk) (by omega) ?_
      refine s_ladd (pc' := 28) dX11_waysOfOneMore_27 rfl ?_
      rw [hf (k - (j + 1)) (by omega), nL_add]
      refine t_lstore_n (pc' := 29) (L' := [.ref 0, .int _, .int _, .long _, .retAddr _, .int _]) dX11_waysOfOneMore_28 rfl (Nat.le_of_ble_eq_true rfl) rfl ?_
      refine t_iinc (pc' := 32) (v := nI (j + 2)) (L' := [.ref 0, .int _, .int _, .long _, .retAddr _, .int _]) dX11_waysOfOneMore_29 rfl rfl (nI_inc (j + 1)) rfl ?_
      refine s_goto (tgt := 5) dX11_waysOfOneMore_32 (by decide) ?_
      refine s_eq ?_ rfl rfl (ih (j + 1) (by omega))
      rw [show sW f k (j + 1) = sW f k j + (if j + 1 ≤ k then f (k - (j + 1)) else 0) from rfl, if_pos jk]
set_option maxHeartbeats 200000 in
theorem c_X11_waysOfOneMore {N : Nat} {S : Nat → Nat × Nat} {I : Nat → Nat → Int32} {J : Nat → Nat → Int64} {Q : Nat → Nat → Option Nat} {κ : Option Value → HP → Prop} {k s : Nat} {f : Nat → Nat} (hk6 : k < 61) (hs : s ≤ 12) (hf : ∀ i, i < k → J 53 i = nL (f i)) (hk : κ (some (.long (nL (sW f k s)))) (N, S, I, J, Q)) : CT E1 M_X11_waysOfOneMore [.ref 0, .int (nI k), .int (nI s)] (N, S, I, J, Q) κ := by
  refine ofSP mk_X11_waysOfOneMore (Nat.le_of_ble_eq_true rfl) (L := [.ref 0, .int _, .int _, .retAddr _, .retAddr _, .retAddr _]) rfl ?_
  refine s_lconst (pc' := 1) (v := 0) dX11_waysOfOneMore_0 rfl (by decide) ?_
  refine t_lstore_n (pc' := 2) (L' := [.ref 0, .int _, .int _, .long _, .retAddr _, .retAddr _]) dX11_waysOfOneMore_1 rfl (Nat.le_of_ble_eq_true rfl) rfl ?_
  refine s_iconst (pc' := 3) (v := 1) dX11_waysOfOneMore_2 rfl (by decide) ?_
  refine t_istore (pc' := 5) (L' := [.ref 0, .int _, .int _, .long _, .retAddr _, .int _]) dX11_waysOfOneMore_3 rfl (Nat.le_of_ble_eq_true rfl) rfl ?_
  exact l_X11_waysOfOneMore hk6 hs hf hk s 0 (by omega)
set_option maxHeartbeats 200000 in
theorem l_X11_countWays_m {N : Nat} {S : Nat → Nat × Nat} {I : Nat → Nat → Int32} {J : Nat → Nat → Int64} {Q : Nat → Nat → Option Nat} {κ : Option Value → HP → Prop} {c s : Nat} (hc : c ≤ 5) (hs : s ≤ 12) {t d : Nat} {al : Int64} (hk : ∀ J' (x6 : Value), CWJ J J' s d 0 → SP E1 M_X11_countWays κ 65 [.ref 0, .int (nI c), .int (nI s), .long al, .retAddr 0, .int (nI t), x6] [] (N, S, I, J', Q) 0 0) : ∀ dd : Nat, ∀ J', dd ≤ 61 → CWJ J J' s d dd → SP E1 M_X11_countWays κ 40 [.ref 0, .int (nI c), .int (nI s), .long al, .retAddr 0, .int (nI t), .int (nI dd - 1)] [] (N, S, I, J', Q) 0 0 := by
  intro dd
  induction dd with
  | zero =>
    intro J' hd g
    refine s_iload (pc' := 42) dX11_countWays_40 rfl rfl ?_
    refine s_ifltT (tgt := 65) dX11_countWays_42 (by decide) (by decide) ?_
    exact hk J' _ g
  | succ dd ih =>
    intro J' hd g
    rw [nI_p1]
    refine s_iload (pc' := 42) dX11_countWays_40 rfl rfl ?_
    refine s_ifltF (pc' := 45) (tgt := 65) dX11_countWays_42 (by decide) rfl (nI_n0 (by omega)) ?_
    refine s_aload_n (pc' := 46) dX11_countWays_45 rfl rfl ?_
    refine s_getS (pc' := 49) (b := 53) dX11_countWays_46 rfl (by decide) rfl (by decide) fa_X11_75_11 rfl rfl ?_
    refine s_iload (pc' := 51) dX11_countWays_49 rfl rfl ?_
    refine s_aload_n (pc' := 52) dX11_countWays_51 rfl rfl ?_
    refine s_iload (pc' := 54) dX11_countWays_52 rfl rfl ?_
    refine s_iload_n (pc' := 55) dX11_countWays_54 rfl rfl ?_
    refine s_callV (pc' := 58) (As := [.int _, .int _]) dX11_countWays_55 rfl mk_X11_waysOfOneMore ml_X11_421 im_X11_waysOfOneMore se_X11_X11_X11_waysOfOneMore sh_0 (by decide) rfl rfl rfl ⟨Nat.le_of_ble_eq_true rfl, Nat.le_of_ble_eq_true rfl, Nat.le_of_ble_eq_true rfl, Nat.le_of_ble_eq_true rfl⟩ (Nat.le_of_ble_eq_true rfl) (c_X11_waysOfOneMore (f := Wy d s) (by omega) hs (fun i hi => g.2.1 i (by omega)) ?_)
    refine t_last (pc' := 59) dX11_countWays_58 rfl sh_53 rfl (by omega) ?_
    refine t_iinc (pc' := 62) (v := nI dd - 1) (L' := [.ref 0, .int _, .int _, .long _, .retAddr _, .int _, .int _]) dX11_countWays_59 rfl rfl (by rw [Int32.sub_eq_add_neg]; rfl) rfl ?_
    refine s_goto (tgt := 40) dX11_countWays_62 (by decide) ?_
    exact ih _ (by omega) (g.st rfl)
set_option maxHeartbeats 200000 in
theorem l_X11_countWays {N : Nat} {S : Nat → Nat × Nat} {I : Nat → Nat → Int32} {J : Nat → Nat → Int64} {Q : Nat → Nat → Option Nat} {κ : Option Value → HP → Prop} {c s : Nat} (hc : c ≤ 5) (hs : s ≤ 12) (hk : ∀ J', CWJ J J' s c 61 → κ (some (.long (nL (s ^ c)))) (N, S, I, J', Q)) : ∀ dd : Nat, ∀ d J' (x6 : Value), d + dd = c → CWJ J J' s d 61 → SP E1 M_X11_countWays κ 20 [.ref 0, .int (nI c), .int (nI s), .long (nL (s ^ d)), .retAddr 0, .int (nI (d + 1)), x6] [] (N, S, I, J', Q) 0 0 := by
  intro dd
  induction dd with
  | zero =>
    intro d J' x6 hd g
    obtain rfl : d = c := by omega
    refine s_iload (pc' := 22) dX11_countWays_20 rfl rfl ?_
    refine s_iload_n (pc' := 23) dX11_countWays_22 rfl rfl ?_
    refine s_icmpgtT (tgt := 71) dX11_countWays_23 (by decide) (nI_lt (by omega) (by omega)) ?_
    refine s_lload_n (pc' := 72) dX11_countWays_71 rfl rfl ?_
    exact s_lret dX11_countWays_72 rfl (by decide) (by decide) (hk J' g)
  | succ dd ih =>
    intro d J' x6 hd g
    refine s_iload (pc' := 22) dX11_countWays_20 rfl rfl ?_
    refine s_iload_n (pc' := 23) dX11_countWays_22 rfl rfl ?_
    refine s_icmpgtF (pc' := 26) (tgt := 71) dX11_countWays_23 (by decide) rfl (Int32.not_lt.mpr (nI_le (by omega) (by omega))) ?_
    refine s_lload_n (pc' := 27) dX11_countWays_26 rfl rfl ?_
    refine s_iload_n (pc' := 28) dX11_countWays_27 rfl rfl ?_
    refine s_i2l (pc' := 29) dX11_countWays_28 rfl ?_
    refine s_lmul (pc' := 30) dX11_countWays_29 rfl ?_
    rw [nL_i (by omega), nL_mul, ← Nat.pow_succ]
    refine t_lstore_n (pc' := 31) (L' := [.ref 0, .int _, .int _, .long _, _, .int _, _]) dX11_countWays_30 rfl (Nat.le_of_ble_eq_true rfl) rfl ?_
    refine s_aload_n (pc' := 32) dX11_countWays_31 rfl rfl ?_
    refine s_getS (pc' := 35) (b := 53) dX11_countWays_32 rfl (by decide) rfl (by decide) fa_X11_75_11 rfl rfl ?_
    refine s_alen (pc' := 36) dX11_countWays_35 rfl (Or.inr rfl) sh_53 ?_
    refine s_iconst (pc' := 37) (v := 1) dX11_countWays_36 rfl (by decide) ?_
    refine s_isub (pc' := 38) dX11_countWays_37 rfl ?_
    refine t_istore (pc' := 40) (L' := [.ref 0, .int _, .int _, .long _, _, .int _, .int _]) dX11_countWays_38 rfl (Nat.le_of_ble_eq_true rfl) rfl ?_
    refine l_X11_countWays_m hc hs (fun J2 y6 g2 => ?_) 61 J' (by omega) g
    refine t_iinc (pc' := 68) (v := nI (d + 2)) (L' := [.ref 0, .int _, .int _, .long _, _, .int _, _]) dX11_countWays_65 rfl rfl (nI_inc (d + 1)) rfl ?_
    refine s_goto (tgt := 20) dX11_countWays_68 (by decide) ?_
    exact ih (d + 1) J2 _ (by omega) g2.nx
set_option maxHeartbeats 200000 in
theorem c_X11_countWays {N : Nat} {S : Nat → Nat × Nat} {I : Nat → Nat → Int32} {J : Nat → Nat → Int64} {Q : Nat → Nat → Option Nat} {κ : Option Value → HP → Prop} {c s : Nat} (hc : c ≤ 5) (hs : s ≤ 12) (hk : ∀ J', CWJ J J' s c 61 → κ (some (.long (nL (s ^ c)))) (N, S, I, J', Q)) : CT E1 M_X11_countWays [.ref 0, .int (nI c), .int (nI s)] (N, S, I, J, Q) κ := by
  refine ofSP mk_X11_countWays (Nat.le_of_ble_eq_true rfl) (L := [.ref 0, .int _, .int _, .retAddr _, .retAddr _, .retAddr _, .retAddr _]) rfl ?_
  refine s_aload_n (pc' := 1) dX11_countWays_0 rfl rfl ?_
  refine s_getS (pc' := 4) (b := 53) dX11_countWays_1 rfl (by decide) rfl (by decide) fa_X11_75_11 rfl rfl ?_
  refine s_lconst (pc' := 5) (v := 0) dX11_countWays_4 rfl (by decide) ?_
  refine s_callS (pc' := 8) (As := [.ref 53, .long _]) dX11_countWays_5 rfl mk_J7_fill_d0a16 ml_X11_418 sm_J7_fill_d0a16 rfl rfl ⟨Nat.le_of_ble_eq_true rfl, Nat.le_of_ble_eq_true rfl, Nat.le_of_ble_eq_true rfl, Nat.le_of_ble_eq_true rfl⟩ (Nat.le_of_ble_eq_true rfl) (c_J7_fill_d0a16 (n := 61) (by decide) sh_53 ?_)
  refine s_aload_n (pc' := 9) dX11_countWays_8 rfl rfl ?_
  refine s_getS (pc' := 12) (b := 53) dX11_countWays_9 rfl (by decide) rfl (by decide) fa_X11_75_11 rfl rfl ?_
  refine s_iconst (pc' := 13) (v := 0) dX11_countWays_12 rfl (by decide) ?_
  refine s_lconst (pc' := 14) (v := 1) dX11_countWays_13 rfl (by decide) ?_
  refine t_last (pc' := 15) (q := 0) dX11_countWays_14 rfl sh_53 rfl (by decide) ?_
  refine s_lconst (pc' := 16) (v := 1) dX11_countWays_15 rfl (by decide) ?_
  refine t_lstore_n (pc' := 17) (L' := [.ref 0, .int _, .int _, .long _, .retAddr _, .retAddr _, .retAddr _]) dX11_countWays_16 rfl (Nat.le_of_ble_eq_true rfl) rfl ?_
  refine s_iconst (pc' := 18) (v := 1) dX11_countWays_17 rfl (by decide) ?_
  refine t_istore (pc' := 20) (L' := [.ref 0, .int _, .int _, .long _, .retAddr _, .int _, .retAddr _]) dX11_countWays_18 rfl (Nat.le_of_ble_eq_true rfl) rfl ?_
  exact l_X11_countWays hc hs hk c 0 _ _ (by omega) CWJ.z
set_option maxHeartbeats 200000 in
theorem l_X11_waysToReach {N : Nat} {S : Nat → Nat × Nat} {I : Nat → Nat → Int32} {J : Nat → Nat → Int64} {Q : Nat → Nat → Option Nat} {κ : Option Value → HP → Prop} {c s : Nat} {n : Int32} {g : Int64} (hj : ∀ t, t < 61 → J 53 t = nL (Wy c s t)) (hk : κ (some (.long (nL (TP (Wy c s) (rch g n) 61)))) (N, S, I, J, Q)) : ∀ d : Nat, ∀ k, k + d = 61 → SP E1 M_X11_waysToReach κ 6 [.ref 0, .int n, .long g, .retAddr 0, .long (nL (TP (Wy c s) (rch g n) k)), .retAddr 0, .int (nI k)] [] (N, S, I, J, Q) 0 0 := by
  intro d
  induction d with
  | zero =>
    intro k hd
    obtain rfl : k = 61 := by omega
    refine s_iload (pc' := 8) dX11_waysToReach_6 rfl rfl ?_
    refine s_aload_n (pc' := 9) dX11_waysToReach_8 rfl rfl ?_
    refine s_getS (pc' := 12) (b := 53) dX11_waysToReach_9 rfl (by decide) rfl (by decide) fa_X11_75_11 rfl rfl ?_
    refine s_alen (pc' := 13) dX11_waysToReach_12 rfl (Or.inr rfl) sh_53 ?_
    refine s_icmpgeT (tgt := 45) dX11_waysToReach_13 (by decide) (by decide) ?_
    refine s_lload (pc' := 47) dX11_waysToReach_45 rfl rfl ?_
    exact s_lret dX11_waysToReach_47 rfl (by decide) (by decide) hk
  | succ d ih =>
    intro k hd
    have eG : TP (Wy c s) (rch g n) (k + 1) = TP (Wy c s) (rch g n) k + (if rch g n k = true then Wy c s k else 0) := rfl
    refine s_iload (pc' := 8) dX11_waysToReach_6 rfl rfl ?_
    refine s_aload_n (pc' := 9) dX11_waysToReach_8 rfl rfl ?_
    refine s_getS (pc' := 12) (b := 53) dX11_waysToReach_9 rfl (by decide) rfl (by decide) fa_X11_75_11 rfl rfl ?_
    refine s_alen (pc' := 13) dX11_waysToReach_12 rfl (Or.inr rfl) sh_53 ?_
    refine s_icmpgeF (pc' := 16) (tgt := 45) dX11_waysToReach_13 (by decide) rfl (nI_ge (b := 61) (by omega) (by decide)) ?_
    refine s_iload (pc' := 18) dX11_waysToReach_16 rfl rfl ?_
    refine s_i2l (pc' := 19) dX11_waysToReach_18 rfl ?_
    refine s_lload_n (pc' := 20) dX11_waysToReach_19 rfl rfl ?_
    refine s_ladd (pc' := 21) dX11_waysToReach_20 rfl ?_
    refine s_iload_n (pc' := 22) dX11_waysToReach_21 rfl rfl ?_
    refine s_i2l (pc' := 23) dX11_waysToReach_22 rfl ?_
    refine s_lcmp (pc' := 24) dX11_waysToReach_23 rfl ?_
    refine s_iflt (pc' := 27) (tgt := 39) dX11_waysToReach_24 (by decide) rfl (fun c24 => ?_) (fun c24 => ?_)
    · refine t_iinc (pc' := 42) (v := nI (k + 1)) (L' := [.ref 0, .int _, .long _, .retAddr _, .long _, .retAddr _, .int _]) dX11_waysToReach_39 rfl rfl (nI_inc k) rfl ?_
      refine s_goto (tgt := 6) dX11_waysToReach_42 (by decide) ?_
      refine s_eq ?_ rfl rfl (ih (k + 1) (by omega))
      rw [eG, if_neg (show ¬ rch g n k = true from fun z => Int64.not_le.mpr ((lg_cmp_lt _ _).mp c24) (of_decide_eq_true z))]
      rfl
    · refine s_lload (pc' := 29) dX11_waysToReach_27 rfl rfl ?_
      refine s_aload_n (pc' := 30) dX11_waysToReach_29 rfl rfl ?_
      refine s_getS (pc' := 33) (b := 53) dX11_waysToReach_30 rfl (by decide) rfl (by decide) fa_X11_75_11 rfl rfl ?_
      refine s_iload (pc' := 35) dX11_waysToReach_33 rfl rfl ?_
      refine t_lald (pc' := 36) dX11_waysToReach_35 rfl sh_53 rfl (by omega) ?_
      refine s_ladd (pc' := 37) dX11_waysToReach_36 rfl ?_
      rw [hj k (by omega), nL_add]
      refine t_lstore (pc' := 39) (L' := [.ref 0, .int _, .long _, .retAddr _, .long _, .retAddr _, .int _]) dX11_waysToReach_37 rfl (Nat.le_of_ble_eq_true rfl) rfl ?_
      refine t_iinc (pc' := 42) (v := nI (k + 1)) (L' := [.ref 0, .int _, .long _, .retAddr _, .long _, .retAddr _, .int _]) dX11_waysToReach_39 rfl rfl (nI_inc k) rfl ?_
      refine s_goto (tgt := 6) dX11_waysToReach_42 (by decide) ?_
      refine s_eq ?_ rfl rfl (ih (k + 1) (by omega))
      rw [eG, if_pos (show rch g n k = true from decide_eq_true (Int64.not_lt.mp (fun z => c24 ((lg_cmp_lt _ _).mpr z))))]
set_option maxHeartbeats 200000 in
theorem c_X11_waysToReach {N : Nat} {S : Nat → Nat × Nat} {I : Nat → Nat → Int32} {J : Nat → Nat → Int64} {Q : Nat → Nat → Option Nat} {κ : Option Value → HP → Prop} {c s : Nat} {n : Int32} {g : Int64} (hj : ∀ t, t < 61 → J 53 t = nL (Wy c s t)) (hk : κ (some (.long (nL (TP (Wy c s) (rch g n) 61)))) (N, S, I, J, Q)) : CT E1 M_X11_waysToReach [.ref 0, .int n, .long g] (N, S, I, J, Q) κ := by
  refine ofSP mk_X11_waysToReach (Nat.le_of_ble_eq_true rfl) (L := [.ref 0, .int _, .long _, .retAddr _, .retAddr _, .retAddr _, .retAddr _]) rfl ?_
  refine s_lconst (pc' := 1) (v := 0) dX11_waysToReach_0 rfl (by decide) ?_
  refine t_lstore (pc' := 3) (L' := [.ref 0, .int _, .long _, .retAddr _, .long _, .retAddr _, .retAddr _]) dX11_waysToReach_1 rfl (Nat.le_of_ble_eq_true rfl) rfl ?_
  refine s_iconst (pc' := 4) (v := 0) dX11_waysToReach_3 rfl (by decide) ?_
  refine t_istore (pc' := 6) (L' := [.ref 0, .int _, .long _, .retAddr _, .long _, .retAddr _, .int _]) dX11_waysToReach_4 rfl (Nat.le_of_ble_eq_true rfl) rfl ?_
  exact l_X11_waysToReach hj hk 61 0 (by omega)
set_option maxHeartbeats 200000 in
theorem c_X11_chance {N : Nat} {S : Nat → Nat × Nat} {I : Nat → Nat → Int32} {J : Nat → Nat → Int64} {Q : Nat → Nat → Option Nat} {κ : Option Value → HP → Prop} {D : Nat → Nat → Int32} {nv nr ns : Nat} {ad td : Nat → Nat} {e : Nat} (X : XB N S I J Q D nv nr ns ad td e) {md : Nat} (hm : D 75 3 = nI md) (hmd : md < 256) {x n best w : Int32} (k1 : ((∀ v, v < nv → x = nI v → D 55 v ≠ 3) ∨ ¬ inR w 0 1) → κ (some (.long (-1000000000000))) (N, S, I, J, Q)) (k2 : ∀ v, v < nv → x = nI v → D 55 v = 3 → ∀ c s, 1 ≤ c → c ≤ 5 → 2 ≤ s → s ≤ 12 → D 57 v = nI c → D 58 v = nI s → ∀ q, q < 2 → w = nI q → ∀ J2, (∀ a, a ≠ 53 → J2 a = J a) → ∀ I' J' Q', WQ I I' J2 J' Q Q' → XB N S I' J' Q' D nv nr ns ad td e → κ (some (.long (chV c s (gS D nv nr ns md v) n best q))) (N, S, I', J', Q')) : CT E1 M_X11_chance [.ref 0, .int x, .int n, .int best, .int w] (N, S, I, J, Q) κ := by
  refine ofSP mk_X11_chance (Nat.le_of_ble_eq_true rfl) (L := [.ref 0, .int _, .int _, .int _, .int _, .retAddr _, .retAddr _, .retAddr _, .retAddr _, .retAddr _, .retAddr _, .retAddr _, .retAddr _, .retAddr _, .retAddr _]) rfl ?_
  refine s_aload_n (pc' := 1) dX11_chance_0 rfl rfl ?_
  refine s_iload_n (pc' := 2) dX11_chance_1 rfl rfl ?_
  refine s_iconst (pc' := 3) (v := 3) dX11_chance_2 rfl (by decide) ?_
  refine s_callV (pc' := 6) (As := [.int _, .int _]) dX11_chance_3 rfl mk_X11_isOfKind ml_X11_166 im_X11_isOfKind se_X11_X11_X11_isOfKind sh_0 (by decide) rfl rfl rfl ⟨Nat.le_of_ble_eq_true rfl, Nat.le_of_ble_eq_true rfl, Nat.le_of_ble_eq_true rfl, Nat.le_of_ble_eq_true rfl⟩ (Nat.le_of_ble_eq_true rfl) (c_X11_isOfKind X.1.xv X.2.1.nv (fun j3 hj3 e3 o3 => ?_) (fun n3 => ?_))
  · subst e3
    refine s_ifeqF (pc' := 9) (tgt := 20) dX11_chance_6 (by decide) rfl (by decide) ?_
    refine s_iload (pc' := 11) dX11_chance_9 rfl rfl ?_
    refine s_iflt (pc' := 14) (tgt := 20) dX11_chance_11 (by decide) rfl (fun c11 => ?_) (fun c11 => ?_)
    · refine s_ldc2 (pc' := 23) dX11_chance_20 rfl kl_X11_207 ?_
      exact s_lret dX11_chance_23 rfl (by decide) (by decide) (k1 (Or.inr (fun q => inR_nlt2 (a := 0) q (by decide) c11)))
    · refine s_iload (pc' := 16) dX11_chance_14 rfl rfl ?_
      refine s_iconst (pc' := 17) (v := 1) dX11_chance_16 rfl (by decide) ?_
      refine s_icmple (pc' := 20) (tgt := 24) dX11_chance_17 (by decide) rfl (fun c17 => ?_) (fun c17 => ?_)
      · have h55 : D 55 j3 = 3 := by rw [← (X.rd hj3).1]; exact o3
        have hn10 := X.2.1.nv
        obtain ⟨c, s, c1, c2, s1, s2, e57, e58⟩ := (X.2.1.2.2.1 j3 hj3).2.2.2.1 h55
        have t0 : 0 < s ^ c := Nat.pow_pos (by omega)
        have hl := ch_hl (p := rch (gS D nv nr ns md j3) n) c2 s2
        refine s_aload_n (pc' := 25) dX11_chance_24 rfl rfl ?_
        refine s_aload_n (pc' := 26) dX11_chance_25 rfl rfl ?_
        refine s_getS (pc' := 29) (b := 1) dX11_chance_26 rfl (by decide) rfl (by decide) fa_X11_10_11 rfl rfl ?_
        refine s_iload_n (pc' := 30) dX11_chance_29 rfl rfl ?_
        refine s_callV (pc' := 33) (As := [.int _]) dX11_chance_30 rfl mk_X8_diceCount ml_X11_185 im_X8_diceCount se_X8_X8_X8_diceCount sh_1 (by decide) rfl rfl rfl ⟨Nat.le_of_ble_eq_true rfl, Nat.le_of_ble_eq_true rfl, Nat.le_of_ble_eq_true rfl, Nat.le_of_ble_eq_true rfl⟩ (Nat.le_of_ble_eq_true rfl) (c_X8_diceCount (by omega) ?_)
        rw [(dpk X hj3).1, e57]
        refine s_aload_n (pc' := 34) dX11_chance_33 rfl rfl ?_
        refine s_getS (pc' := 37) (b := 1) dX11_chance_34 rfl (by decide) rfl (by decide) fa_X11_10_11 rfl rfl ?_
        refine s_iload_n (pc' := 38) dX11_chance_37 rfl rfl ?_
        refine s_callV (pc' := 41) (As := [.int _]) dX11_chance_38 rfl mk_X8_diceSides ml_X11_188 im_X8_diceSides se_X8_X8_X8_diceSides sh_1 (by decide) rfl rfl rfl ⟨Nat.le_of_ble_eq_true rfl, Nat.le_of_ble_eq_true rfl, Nat.le_of_ble_eq_true rfl, Nat.le_of_ble_eq_true rfl⟩ (Nat.le_of_ble_eq_true rfl) (c_X8_diceSides (by omega) ?_)
        rw [(dpk X hj3).2, e58]
        refine s_callV (pc' := 44) (As := [.int _, .int _]) dX11_chance_41 rfl mk_X11_countWays ml_X11_294 im_X11_countWays se_X11_X11_X11_countWays sh_0 (by decide) rfl rfl rfl ⟨Nat.le_of_ble_eq_true rfl, Nat.le_of_ble_eq_true rfl, Nat.le_of_ble_eq_true rfl, Nat.le_of_ble_eq_true rfl⟩ (Nat.le_of_ble_eq_true rfl) (c_X11_countWays c2 s2 (fun J2 g2 => ?_))
        have X2 := X.j (g2.1 38 (by decide))
        refine t_lstore (pc' := 46) (L' := [.ref 0, .int _, .int _, .int _, .int _, .long _, .retAddr _, .retAddr _, .retAddr _, .retAddr _, .retAddr _, .retAddr _, .retAddr _, .retAddr _, .retAddr _]) dX11_chance_44 rfl (Nat.le_of_ble_eq_true rfl) rfl ?_
        refine s_aload_n (pc' := 47) dX11_chance_46 rfl rfl ?_
        refine s_iload_n (pc' := 48) dX11_chance_47 rfl rfl ?_
        refine s_aload_n (pc' := 49) dX11_chance_48 rfl rfl ?_
        refine s_iload_n (pc' := 50) dX11_chance_49 rfl rfl ?_
        refine s_callV (pc' := 53) (As := [.int _]) dX11_chance_50 rfl mk_X11_numberNow ml_X11_169 im_X11_numberNow se_X11_X11_X11_numberNow sh_0 (by decide) rfl rfl rfl ⟨Nat.le_of_ble_eq_true rfl, Nat.le_of_ble_eq_true rfl, Nat.le_of_ble_eq_true rfl, Nat.le_of_ble_eq_true rfl⟩ (Nat.le_of_ble_eq_true rfl) (c_X11_numberNowB X2 hm hmd hj3 (fun nbg I1 J1 Q1 w1 X1 => ?_))
        refine s_callV (pc' := 56) (As := [.int _, .long _]) dX11_chance_53 rfl mk_X11_waysToReach ml_X11_297 im_X11_waysToReach se_X11_X11_X11_waysToReach sh_0 (by decide) rfl rfl rfl ⟨Nat.le_of_ble_eq_true rfl, Nat.le_of_ble_eq_true rfl, Nat.le_of_ble_eq_true rfl, Nat.le_of_ble_eq_true rfl⟩ (Nat.le_of_ble_eq_true rfl) (c_X11_waysToReach (c := c) (s := s) (fun t ht => by rw [w1.2.2.2.2.1 53 (by decide)]; exact g2.2.1 t ht) ?_)
        refine t_lstore (pc' := 58) (L' := [.ref 0, .int _, .int _, .int _, .int _, .long _, .retAddr _, .long _, .retAddr _, .retAddr _, .retAddr _, .retAddr _, .retAddr _, .retAddr _, .retAddr _]) dX11_chance_56 rfl (Nat.le_of_ble_eq_true rfl) rfl ?_
        refine s_iload_n (pc' := 59) dX11_chance_58 rfl rfl ?_
        refine s_ifeq (pc' := 62) (tgt := 70) dX11_chance_59 (by decide) rfl (fun c59 => ?_) (fun c59 => ?_)
        · refine s_lload (pc' := 72) dX11_chance_70 rfl rfl ?_
          have eb : blw (s ^ c) best = s ^ c := if_pos c59
          refine t_lstore (pc' := 74) (L' := [.ref 0, .int _, .int _, .int _, .int _, .long _, .retAddr _, .long _, .retAddr _, .long _, .retAddr _, .retAddr _, .retAddr _, .retAddr _, .retAddr _]) dX11_chance_72 rfl (Nat.le_of_ble_eq_true rfl) rfl ?_
          refine s_iload_n (pc' := 75) dX11_chance_74 rfl rfl ?_
          refine s_ifeqT (tgt := 95) dX11_chance_75 (by decide) c59 ?_
          refine s_lload (pc' := 97) dX11_chance_95 rfl rfl ?_
          have ea : abv (s ^ c) (TP (Wy c s) (rch (gS D nv nr ns md j3) n) 61) best = TP (Wy c s) (rch (gS D nv nr ns md j3) n) 61 := if_pos c59
          have lt := abv_lt (best := best) (pw_le c2 s2) (ch_hl (p := rch (gS D nv nr ns md j3) n) c2 s2)
          have gp := gcd_pos (t := s ^ c) (h := TP (Wy c s) (rch (gS D nv nr ns md j3) n) 61) (best := best) t0
          have gl : Nat.gcd (abv (s ^ c) (TP (Wy c s) (rch (gS D nv nr ns md j3) n) 61) best) (blw (s ^ c) best) ≤ blw (s ^ c) best := Nat.le_of_dvd (by rw [eb]; exact t0) (Nat.gcd_dvd_right _ _)
          rw [ea, eb] at gp gl lt
          refine t_lstore (pc' := 99) (L' := [.ref 0, .int _, .int _, .int _, .int _, .long _, .retAddr _, .long _, .retAddr _, .long _, .retAddr _, .long _, .retAddr _, .retAddr _, .retAddr _]) dX11_chance_97 rfl (Nat.le_of_ble_eq_true rfl) rfl ?_
          refine s_lload (pc' := 101) dX11_chance_99 rfl rfl ?_
          refine s_lload (pc' := 103) dX11_chance_101 rfl rfl ?_
          refine s_callS (pc' := 106) (As := [.long _, .long _]) dX11_chance_103 rfl mk_X11_commonDivisor ml_X11_301 sm_X11_commonDivisor rfl rfl ⟨Nat.le_of_ble_eq_true rfl, Nat.le_of_ble_eq_true rfl, Nat.le_of_ble_eq_true rfl, Nat.le_of_ble_eq_true rfl⟩ (Nat.le_of_ble_eq_true rfl) (c_X11_commonDivisor (a := TP (Wy c s) (rch (gS D nv nr ns md j3) n) 61) (b := s ^ c) (by omega) (by omega) gp ?_)
          refine t_lstore (pc' := 108) (L' := [.ref 0, .int _, .int _, .int _, .int _, .long _, .retAddr _, .long _, .retAddr _, .long _, .retAddr _, .long _, .retAddr _, .long _, .retAddr _]) dX11_chance_106 rfl (Nat.le_of_ble_eq_true rfl) rfl ?_
          refine s_iload (pc' := 110) dX11_chance_108 rfl rfl ?_
          refine s_ifne (pc' := 113) (tgt := 118) dX11_chance_110 (by decide) rfl (fun c110 => ?_) (fun c110 => ?_)
          · refine s_lload (pc' := 120) dX11_chance_118 rfl rfl ?_
            refine s_lload (pc' := 122) dX11_chance_120 rfl rfl ?_
            refine s_ldiv (pc' := 123) dX11_chance_122 rfl (fun z => by have := (nL_0 (by omega)).mp z; omega) ?_
            exact s_lret dX11_chance_123 rfl (by decide) (by decide) (by rw [nL_div (by omega) (by omega)]; have q := k2 j3 hj3 rfl h55 c s c1 c2 s1 s2 e57 e58 1 (by decide) (in01b (inR_ok (a := 0) (b := 1) (by decide) (by decide) c11 (Int32.not_lt.mpr c17)) c110) J2 g2.1 I1 J1 Q1 w1.q X1; unfold chV at q; rw [if_neg (by decide)] at q; rw [ea, eb] at q; exact q)
          · refine s_lload (pc' := 115) dX11_chance_113 rfl rfl ?_
            refine s_goto (tgt := 120) dX11_chance_115 (by decide) ?_
            refine s_lload (pc' := 122) dX11_chance_120 rfl rfl ?_
            refine s_ldiv (pc' := 123) dX11_chance_122 rfl (fun z => by have := (nL_0 (by omega)).mp z; omega) ?_
            exact s_lret dX11_chance_123 rfl (by decide) (by decide) (by rw [nL_div (by omega) (by omega)]; have q := k2 j3 hj3 rfl h55 c s c1 c2 s1 s2 e57 e58 0 (by decide) (by first | exact c110 | exact Decidable.not_not.mp c110) J2 g2.1 I1 J1 Q1 w1.q X1; unfold chV at q; rw [if_pos rfl] at q; rw [ea, eb] at q; exact q)
        · refine s_lload (pc' := 64) dX11_chance_62 rfl rfl ?_
          refine s_lload (pc' := 66) dX11_chance_64 rfl rfl ?_
          refine s_lmul (pc' := 67) dX11_chance_66 rfl ?_
          refine s_goto (tgt := 72) dX11_chance_67 (by decide) ?_
          have eb : blw (s ^ c) best = s ^ c * s ^ c := if_neg c59
          rw [nL_mul, ← eb]
          refine t_lstore (pc' := 74) (L' := [.ref 0, .int _, .int _, .int _, .int _, .long _, .retAddr _, .long _, .retAddr _, .long _, .retAddr _, .retAddr _, .retAddr _, .retAddr _, .retAddr _]) dX11_chance_72 rfl (Nat.le_of_ble_eq_true rfl) rfl ?_
          refine s_iload_n (pc' := 75) dX11_chance_74 rfl rfl ?_
          refine s_ifeqF (pc' := 78) (tgt := 95) dX11_chance_75 (by decide) rfl c59 ?_
          refine s_lload (pc' := 80) dX11_chance_78 rfl rfl ?_
          refine s_lload (pc' := 82) dX11_chance_80 rfl rfl ?_
          refine s_lload (pc' := 84) dX11_chance_82 rfl rfl ?_
          refine s_lsub (pc' := 85) dX11_chance_84 rfl ?_
          refine s_lload (pc' := 87) dX11_chance_85 rfl rfl ?_
          refine s_lload (pc' := 89) dX11_chance_87 rfl rfl ?_
          refine s_lsub (pc' := 90) dX11_chance_89 rfl ?_
          refine s_lmul (pc' := 91) dX11_chance_90 rfl ?_
          refine s_lsub (pc' := 92) dX11_chance_91 rfl ?_
          refine s_goto (tgt := 97) dX11_chance_92 (by decide) ?_
          have ea : abv (s ^ c) (TP (Wy c s) (rch (gS D nv nr ns md j3) n) 61) best = s ^ c * s ^ c - (s ^ c - TP (Wy c s) (rch (gS D nv nr ns md j3) n) 61) * (s ^ c - TP (Wy c s) (rch (gS D nv nr ns md j3) n) 61) := if_neg c59
          rw [nL_sub hl, nL_mul, eb, nL_sub (tt_h hl), ← ea, ← eb]
          have lt := abv_lt (best := best) (pw_le c2 s2) (ch_hl (p := rch (gS D nv nr ns md j3) n) c2 s2)
          have gp := gcd_pos (t := s ^ c) (h := TP (Wy c s) (rch (gS D nv nr ns md j3) n) 61) (best := best) t0
          have gl : Nat.gcd (abv (s ^ c) (TP (Wy c s) (rch (gS D nv nr ns md j3) n) 61) best) (blw (s ^ c) best) ≤ blw (s ^ c) best := Nat.le_of_dvd (by rw [eb]; exact Nat.mul_pos t0 t0) (Nat.gcd_dvd_right _ _)
          refine t_lstore (pc' := 99) (L' := [.ref 0, .int _, .int _, .int _, .int _, .long _, .retAddr _, .long _, .retAddr _, .long _, .retAddr _, .long _, .retAddr _, .retAddr _, .retAddr _]) dX11_chance_97 rfl (Nat.le_of_ble_eq_true rfl) rfl ?_
          refine s_lload (pc' := 101) dX11_chance_99 rfl rfl ?_
          refine s_lload (pc' := 103) dX11_chance_101 rfl rfl ?_
          refine s_callS (pc' := 106) (As := [.long _, .long _]) dX11_chance_103 rfl mk_X11_commonDivisor ml_X11_301 sm_X11_commonDivisor rfl rfl ⟨Nat.le_of_ble_eq_true rfl, Nat.le_of_ble_eq_true rfl, Nat.le_of_ble_eq_true rfl, Nat.le_of_ble_eq_true rfl⟩ (Nat.le_of_ble_eq_true rfl) (c_X11_commonDivisor (a := abv (s ^ c) (TP (Wy c s) (rch (gS D nv nr ns md j3) n) 61) best) (b := blw (s ^ c) best) (by omega) (by omega) gp ?_)
          refine t_lstore (pc' := 108) (L' := [.ref 0, .int _, .int _, .int _, .int _, .long _, .retAddr _, .long _, .retAddr _, .long _, .retAddr _, .long _, .retAddr _, .long _, .retAddr _]) dX11_chance_106 rfl (Nat.le_of_ble_eq_true rfl) rfl ?_
          refine s_iload (pc' := 110) dX11_chance_108 rfl rfl ?_
          refine s_ifne (pc' := 113) (tgt := 118) dX11_chance_110 (by decide) rfl (fun c110 => ?_) (fun c110 => ?_)
          · refine s_lload (pc' := 120) dX11_chance_118 rfl rfl ?_
            refine s_lload (pc' := 122) dX11_chance_120 rfl rfl ?_
            refine s_ldiv (pc' := 123) dX11_chance_122 rfl (fun z => by have := (nL_0 (by omega)).mp z; omega) ?_
            exact s_lret dX11_chance_123 rfl (by decide) (by decide) (by rw [nL_div (by omega) (by omega)]; have q := k2 j3 hj3 rfl h55 c s c1 c2 s1 s2 e57 e58 1 (by decide) (in01b (inR_ok (a := 0) (b := 1) (by decide) (by decide) c11 (Int32.not_lt.mpr c17)) c110) J2 g2.1 I1 J1 Q1 w1.q X1; unfold chV at q; rw [if_neg (by decide)] at q; exact q)
          · refine s_lload (pc' := 115) dX11_chance_113 rfl rfl ?_
            refine s_goto (tgt := 120) dX11_chance_115 (by decide) ?_
            refine s_lload (pc' := 122) dX11_chance_120 rfl rfl ?_
            refine s_ldiv (pc' := 123) dX11_chance_122 rfl (fun z => by have := (nL_0 (by omega)).mp z; omega) ?_
            exact s_lret dX11_chance_123 rfl (by decide) (by decide) (by rw [nL_div (by omega) (by omega)]; have q := k2 j3 hj3 rfl h55 c s c1 c2 s1 s2 e57 e58 0 (by decide) (by first | exact c110 | exact Decidable.not_not.mp c110) J2 g2.1 I1 J1 Q1 w1.q X1; unfold chV at q; rw [if_pos rfl] at q; exact q)
      · refine s_ldc2 (pc' := 23) dX11_chance_20 rfl kl_X11_207 ?_
        exact s_lret dX11_chance_23 rfl (by decide) (by decide) (k1 (Or.inr (fun q => inR_nlt (b := 1) q (by decide) (Int32.not_le.mp c17))))
  · refine s_ifeqT (tgt := 20) dX11_chance_6 (by decide) (by decide) ?_
    refine s_ldc2 (pc' := 23) dX11_chance_20 rfl kl_X11_207 ?_
    exact s_lret dX11_chance_23 rfl (by decide) (by decide) (k1 (Or.inl (fun v hv ev z => n3 v hv ev (by rw [(X.rd hv).1]; exact z))))
