/-! ===== image and back: the model ===== -/
/-- how long the model's rows are -/
def lenA (i : Nat) : Nat := if i < 60 then 10 else if i < 72 then 30 else if i < 75 then 10 else 7
theorem off_s1 : ∀ m, m < 75 → 55 ≤ m → off (m + 1) = off m + lenA m := by decide +kernel
theorem off_s {m : Nat} (h1 : 55 ≤ m) (h2 : m < 75) : off (m + 1) = off m + lenA m := off_s1 m h2 h1
theorem off_lt {i m j : Nat} (h1 : 55 ≤ i) (h2 : i < m) (h3 : m < 76) (hj : j < lenA i) : off i + j < off m := by
  unfold lenA at hj
  unfold off
  repeat' split
  all_goals (repeat' split at hj)
  all_goals omega
def MVK (I I' : Nat → Nat → Int32) (a n p : Nat) : Prop := (∀ i, i ≠ 54 → i ≠ 76 → I' i = I i) ∧ (∀ j, j ≠ 32 → I' 54 j = I 54 j) ∧ I' 54 32 = nI (p + n) ∧ (∀ q, q < p → I' 76 q = I 76 q) ∧ ∀ k, k < n → I' 76 (p + k) = I a k
def MVB (I I' : Nat → Nat → Int32) (a n p : Nat) : Prop := (∀ i, i ≠ 54 → i ≠ a → I' i = I i) ∧ (∀ j, j ≠ 32 → I' 54 j = I 54 j) ∧ I' 54 32 = nI (p + n) ∧ (∀ k, n ≤ k → I' a k = I a k) ∧ ∀ k, k < n → I' a k = I 76 (p + k)
def KM (I I' : Nat → Nat → Int32) (m : Nat) : Prop := (∀ i, i ≠ 54 → i ≠ 76 → I' i = I i) ∧ (∀ j, j ≠ 32 → I' 54 j = I 54 j) ∧ (m < 76 → I' 54 32 = nI (off m)) ∧ ∀ i, 55 ≤ i → i < m → ∀ j, j < lenA i → I' 76 (off i + j) = I i j
def BM (I I' : Nat → Nat → Int32) (m : Nat) : Prop := (∀ i, (i < 54 ∨ m ≤ i) → I' i = I i) ∧ (∀ j, j ≠ 32 → I' 54 j = I 54 j) ∧ (m < 76 → I' 54 32 = nI (off m)) ∧ (∀ i, 55 ≤ i → i < m → ∀ j, lenA i ≤ j → I' i j = I i j) ∧ ∀ i, 55 ≤ i → i < m → ∀ j, j < lenA i → I' i j = I 76 (off i + j)
section MV
variable {I I' I1 I2 : Nat → Nat → Int32} {a n p k m : Nat}
theorem MVK.z (h : I 54 32 = nI p) : MVK I I a 0 p := ⟨fun _ _ _ => rfl, fun _ _ => rfl, h, fun _ _ => rfl, fun _ hk => absurd hk (Nat.not_lt_zero _)⟩
theorem MVB.z (h : I 54 32 = nI p) : MVB I I a 0 p := ⟨fun _ _ _ => rfl, fun _ _ => rfl, h, fun _ _ => rfl, fun _ hk => absurd hk (Nat.not_lt_zero _)⟩
theorem MVK.s {x y : Int32} (h : MVK I I' a k p) (hx : x = I' a k) (hy : y = I' 54 32 + 1) (h1 : a ≠ 54) (h2 : a ≠ 76) : MVK I (up2 (up2 I' 76 (p + k) x) 54 32 y) a (k + 1) p := by
  obtain ⟨g1, g2, g3, g4, g5⟩ := h
  refine ⟨fun i i1 i2 => ?_, fun j hj => ?_, ?_, fun q hq => ?_, fun q hq => ?_⟩
  · rw [up2_o i1, up2_o i2]; exact g1 i i1 i2
  · rw [up2_e hj, up2_d (by decide)]; exact g2 j hj
  · rw [up2_s, hy, g3]; exact nI_1 (p + k)
  · rw [up2_d (by decide), up2_e (by omega)]; exact g4 q hq
  · rw [up2_d (by decide)]
    by_cases e : q = k
    · rw [e, up2_s, hx, g1 a h1 h2]
    · rw [up2_e (by omega)]; exact g5 q (by omega)
theorem MVB.s {x y : Int32} (h : MVB I I' a k p) (hx : x = I' 76 (p + k)) (hy : y = I' 54 32 + 1) (h1 : a ≠ 54) (h2 : a ≠ 76) : MVB I (up2 (up2 I' a k x) 54 32 y) a (k + 1) p := by
  obtain ⟨g1, g2, g3, g4, g5⟩ := h
  refine ⟨fun i i1 i2 => ?_, fun j hj => ?_, ?_, fun q hq => ?_, fun q hq => ?_⟩
  · rw [up2_o i1, up2_o i2]; exact g1 i i1 i2
  · rw [up2_e hj, up2_d (by omega)]; exact g2 j hj
  · rw [up2_s, hy, g3]; exact nI_1 (p + k)
  · rw [up2_d (by omega), up2_e (by omega)]; exact g4 q (by omega)
  · rw [up2_d (by omega)]
    by_cases e : q = k
    · rw [e, up2_s, hx, g1 76 (by decide) (by omega)]
    · rw [up2_e (by omega)]; exact g5 q (by omega)
theorem KM.z : KM I (up2 I 54 32 0) 55 := ⟨fun i i1 _ => up2_o i1, fun j hj => up2_e hj, fun _ => up2_s, fun i i1 i2 => absurd i2 (by omega)⟩
theorem BM.z : BM I (up2 I 54 32 0) 55 := ⟨fun i hi => up2_o (by omega), fun j hj => up2_e hj, fun _ => up2_s, fun i i1 i2 => absurd i2 (by omega), fun i i1 i2 => absurd i2 (by omega)⟩
theorem KM.s (h : KM I I1 m) (h1 : 55 ≤ m) (h2 : m < 76) (g : MVK I1 I2 m (lenA m) (off m)) : KM I I2 (m + 1) := by
  obtain ⟨a1, a2, a3, a4⟩ := h
  obtain ⟨b1, b2, b3, b4, b5⟩ := g
  refine ⟨fun i i1 i2 => (b1 i i1 i2).trans (a1 i i1 i2), fun j hj => (b2 j hj).trans (a2 j hj), fun hm => by rw [off_s h1 (by omega)]; exact b3, fun i i1 i2 j hj => ?_⟩
  by_cases e : i = m
  · rw [e] at hj ⊢
    rw [b5 j hj, a1 m (by omega) (by omega)]
  · rw [b4 _ (off_lt i1 (by omega) h2 hj)]; exact a4 i i1 (by omega) j hj
theorem BM.s (h : BM I I1 m) (h1 : 55 ≤ m) (h2 : m < 76) (g : MVB I1 I2 m (lenA m) (off m)) : BM I I2 (m + 1) := by
  obtain ⟨a1, a2, a3, a6, a4⟩ := h
  obtain ⟨b1, b2, b3, b4, b5⟩ := g
  refine ⟨fun i hi => (b1 i (by omega) (by omega)).trans (a1 i (by omega)), fun j hj => (b2 j hj).trans (a2 j hj), fun hm => by rw [off_s h1 (by omega)]; exact b3, fun i i1 i2 j hj => ?_, fun i i1 i2 j hj => ?_⟩
  · by_cases e : i = m
    · rw [e] at hj ⊢
      rw [b4 j hj, a1 m (by omega)]
    · rw [b1 i (by omega) e]; exact a6 i i1 (by omega) j hj
  by_cases e : i = m
  · rw [e] at hj ⊢
    rw [b5 j hj, a1 76 (by omega)]
  · rw [b1 i (by omega) e]; exact a4 i i1 (by omega) j hj
end MV
set_option maxHeartbeats 200000 in
theorem l_X12_moves_k {N : Nat} {S : Nat → Nat × Nat} {I : Nat → Nat → Int32} {J : Nat → Nat → Int64} {Q : Nat → Nat → Option Nat} {κ : Option Value → HP → Prop} {a l n p : Nat} (hs : ∀ h, Sh E1 h a 13 l) (hnl : n ≤ l) (hp : p + n ≤ 450) (h54 : a ≠ 54) (h76 : a ≠ 76) {b x : Int32} (hx : x = nI n) (hb : b ≠ 0) (hk : ∀ I', MVK I I' a n p → κ none (N, S, I', J, Q)) : ∀ d : Nat, ∀ k I', k + d = n → MVK I I' a k p → SP E1 M_X12_moves κ 3 [.ref 54, .ref a, .int x, .int b, .int (nI k)] [] (N, S, I', J, Q) 0 0 := by
  intro d
  induction d with
  | zero =>
    intro k I' hd g
    obtain rfl : k = n := by omega
    refine s_iload (pc' := 5) dX12_moves_3 rfl rfl ?_
    refine s_iload_n (pc' := 6) dX12_moves_5 rfl rfl ?_
    refine s_icmpgeT (tgt := 58) dX12_moves_6 (by decide) (by rw [hx]; exact nI_le (Nat.le_refl _) (by omega)) ?_
    exact s_vret dX12_moves_58 rfl (by decide) (by decide) (hk _ g)
  | succ d ih =>
    intro k I' hd g
    refine s_iload (pc' := 5) dX12_moves_3 rfl rfl ?_
    refine s_iload_n (pc' := 6) dX12_moves_5 rfl rfl ?_
    refine s_icmpgeF (pc' := 9) (tgt := 58) dX12_moves_6 (by decide) rfl (by rw [hx]; exact nI_ge (by omega) (by omega)) ?_
    refine s_iload_n (pc' := 10) dX12_moves_9 rfl rfl ?_
    refine s_ifeqF (pc' := 13) (tgt := 29) dX12_moves_10 (by decide) rfl hb ?_
    refine s_aload_n (pc' := 14) dX12_moves_13 rfl rfl ?_
    refine s_getS (pc' := 17) (b := 76) dX12_moves_14 rfl (by decide) rfl (by decide) fa_X12_73_12 rfl rfl ?_
    refine s_aload_n (pc' := 18) dX12_moves_17 rfl rfl ?_
    refine t_getI (pc' := 21) dX12_moves_18 rfl sh_54 (by decide) fa_X12_211_12 rfl ?_
    refine s_aload_n (pc' := 22) dX12_moves_21 rfl rfl ?_
    refine s_iload (pc' := 24) dX12_moves_22 rfl rfl ?_
    refine t_iald (pc' := 25) dX12_moves_24 rfl (hs _) rfl (by omega) ?_
    refine t_iast (pc' := 26) (q := p + k) dX12_moves_25 rfl sh_76 g.2.2.1 (by omega) ?_
    refine s_goto (tgt := 42) dX12_moves_26 (by decide) ?_
    refine s_aload_n (pc' := 43) dX12_moves_42 rfl rfl ?_
    refine s_dup (pc' := 44) dX12_moves_43 rfl rfl ?_
    refine t_getI (pc' := 47) dX12_moves_44 rfl sh_54 (by decide) fa_X12_211_12 rfl ?_
    refine s_iconst (pc' := 48) (v := 1) dX12_moves_47 rfl (by decide) ?_
    refine s_iadd (pc' := 49) dX12_moves_48 rfl ?_
    refine t_putI (pc' := 52) dX12_moves_49 rfl sh_54 (by decide) fa_X12_211_12 (Or.inl rfl) rfl rfl rfl ?_
    refine t_iinc (pc' := 55) (v := nI (k + 1)) (L' := [.ref 54, .ref _, .int _, .int _, .int _]) dX12_moves_52 rfl rfl (nI_inc k) rfl ?_
    refine s_goto (tgt := 3) dX12_moves_55 (by decide) ?_
    refine ih (k + 1) _ (by omega) (g.s rfl (by rw [up2_d (by decide)]) h54 h76)
set_option maxHeartbeats 200000 in
theorem c_X12_moves_k {N : Nat} {S : Nat → Nat × Nat} {I : Nat → Nat → Int32} {J : Nat → Nat → Int64} {Q : Nat → Nat → Option Nat} {κ : Option Value → HP → Prop} {a l n p : Nat} (hs : ∀ h, Sh E1 h a 13 l) (hnl : n ≤ l) (hp : p + n ≤ 450) (h54 : a ≠ 54) (h76 : a ≠ 76) {b x : Int32} (hx : x = nI n) (hb : b ≠ 0) (h32 : I 54 32 = nI p) (hk : ∀ I', MVK I I' a n p → κ none (N, S, I', J, Q)) : CT E1 M_X12_moves [.ref 54, .ref a, .int x, .int b] (N, S, I, J, Q) κ := by
  refine ofSP mk_X12_moves (Nat.le_of_ble_eq_true rfl) (L := [.ref 54, .ref _, .int _, .int _, .retAddr _]) rfl ?_
  refine s_iconst (pc' := 1) (v := 0) dX12_moves_0 rfl (by decide) ?_
  refine t_istore (pc' := 3) (L' := [.ref 54, .ref _, .int _, .int _, .int _]) dX12_moves_1 rfl (Nat.le_of_ble_eq_true rfl) rfl ?_
  exact l_X12_moves_k hs hnl hp h54 h76 hx hb hk n 0 _ (by omega) (MVK.z h32)
set_option maxHeartbeats 200000 in
theorem l_X12_moves_b {N : Nat} {S : Nat → Nat × Nat} {I : Nat → Nat → Int32} {J : Nat → Nat → Int64} {Q : Nat → Nat → Option Nat} {κ : Option Value → HP → Prop} {a l n p : Nat} (hs : ∀ h, Sh E1 h a 13 l) (hnl : n ≤ l) (hp : p + n ≤ 450) (h54 : a ≠ 54) (h76 : a ≠ 76) {b x : Int32} (hx : x = nI n) (hb : b = 0) (hk : ∀ I', MVB I I' a n p → κ none (N, S, I', J, Q)) : ∀ d : Nat, ∀ k I', k + d = n → MVB I I' a k p → SP E1 M_X12_moves κ 3 [.ref 54, .ref a, .int x, .int b, .int (nI k)] [] (N, S, I', J, Q) 0 0 := by
  intro d
  induction d with
  | zero =>
    intro k I' hd g
    obtain rfl : k = n := by omega
    refine s_iload (pc' := 5) dX12_moves_3 rfl rfl ?_
    refine s_iload_n (pc' := 6) dX12_moves_5 rfl rfl ?_
    refine s_icmpgeT (tgt := 58) dX12_moves_6 (by decide) (by rw [hx]; exact nI_le (Nat.le_refl _) (by omega)) ?_
    exact s_vret dX12_moves_58 rfl (by decide) (by decide) (hk _ g)
  | succ d ih =>
    intro k I' hd g
    refine s_iload (pc' := 5) dX12_moves_3 rfl rfl ?_
    refine s_iload_n (pc' := 6) dX12_moves_5 rfl rfl ?_
    refine s_icmpgeF (pc' := 9) (tgt := 58) dX12_moves_6 (by decide) rfl (by rw [hx]; exact nI_ge (by omega) (by omega)) ?_
    refine s_iload_n (pc' := 10) dX12_moves_9 rfl rfl ?_
    refine s_ifeqT (tgt := 29) dX12_moves_10 (by decide) hb ?_
    refine s_aload_n (pc' := 30) dX12_moves_29 rfl rfl ?_
    refine s_iload (pc' := 32) dX12_moves_30 rfl rfl ?_
    refine s_aload_n (pc' := 33) dX12_moves_32 rfl rfl ?_
    refine s_getS (pc' := 36) (b := 76) dX12_moves_33 rfl (by decide) rfl (by decide) fa_X12_73_12 rfl rfl ?_
    refine s_aload_n (pc' := 37) dX12_moves_36 rfl rfl ?_
    refine t_getI (pc' := 40) dX12_moves_37 rfl sh_54 (by decide) fa_X12_211_12 rfl ?_
    refine t_iald (pc' := 41) (q := p + k) dX12_moves_40 rfl sh_76 g.2.2.1 (by omega) ?_
    refine t_iast (pc' := 42) dX12_moves_41 rfl (hs _) rfl (by omega) ?_
    refine s_aload_n (pc' := 43) dX12_moves_42 rfl rfl ?_
    refine s_dup (pc' := 44) dX12_moves_43 rfl rfl ?_
    refine t_getI (pc' := 47) dX12_moves_44 rfl sh_54 (by decide) fa_X12_211_12 rfl ?_
    refine s_iconst (pc' := 48) (v := 1) dX12_moves_47 rfl (by decide) ?_
    refine s_iadd (pc' := 49) dX12_moves_48 rfl ?_
    refine t_putI (pc' := 52) dX12_moves_49 rfl sh_54 (by decide) fa_X12_211_12 (Or.inl rfl) rfl rfl rfl ?_
    refine t_iinc (pc' := 55) (v := nI (k + 1)) (L' := [.ref 54, .ref _, .int _, .int _, .int _]) dX12_moves_52 rfl rfl (nI_inc k) rfl ?_
    refine s_goto (tgt := 3) dX12_moves_55 (by decide) ?_
    refine ih (k + 1) _ (by omega) (g.s rfl (by rw [up2_d (by omega)]) h54 h76)
set_option maxHeartbeats 200000 in
theorem c_X12_moves_b {N : Nat} {S : Nat → Nat × Nat} {I : Nat → Nat → Int32} {J : Nat → Nat → Int64} {Q : Nat → Nat → Option Nat} {κ : Option Value → HP → Prop} {a l n p : Nat} (hs : ∀ h, Sh E1 h a 13 l) (hnl : n ≤ l) (hp : p + n ≤ 450) (h54 : a ≠ 54) (h76 : a ≠ 76) {b x : Int32} (hx : x = nI n) (hb : b = 0) (h32 : I 54 32 = nI p) (hk : ∀ I', MVB I I' a n p → κ none (N, S, I', J, Q)) : CT E1 M_X12_moves [.ref 54, .ref a, .int x, .int b] (N, S, I, J, Q) κ := by
  refine ofSP mk_X12_moves (Nat.le_of_ble_eq_true rfl) (L := [.ref 54, .ref _, .int _, .int _, .retAddr _]) rfl ?_
  refine s_iconst (pc' := 1) (v := 0) dX12_moves_0 rfl (by decide) ?_
  refine t_istore (pc' := 3) (L' := [.ref 54, .ref _, .int _, .int _, .int _]) dX12_moves_1 rfl (Nat.le_of_ble_eq_true rfl) rfl ?_
  exact l_X12_moves_b hs hnl hp h54 h76 hx hb hk n 0 _ (by omega) (MVB.z h32)
set_option maxHeartbeats 200000 in
theorem c_X12_movesAll_k {N : Nat} {S : Nat → Nat × Nat} {I : Nat → Nat → Int32} {J : Nat → Nat → Int64} {Q : Nat → Nat → Option Nat} {κ : Option Value → HP → Prop} {b : Int32} (hb : b ≠ 0) (hk : ∀ I', KM I I' 76 → κ none (N, S, I', J, Q)) : CT E1 M_X12_movesAll [.ref 54, .int b] (N, S, I, J, Q) κ := by
  refine ofSP mk_X12_movesAll (Nat.le_of_ble_eq_true rfl) (L := [.ref 54, .int _]) rfl ?_
  refine s_aload_n (pc' := 1) dX12_movesAll_0 rfl rfl ?_
  refine s_iconst (pc' := 2) (v := 0) dX12_movesAll_1 rfl (by decide) ?_
  refine t_putI (pc' := 5) dX12_movesAll_2 rfl sh_54 (by decide) fa_X12_211_12 (Or.inl rfl) rfl rfl rfl ?_
  refine s_aload_n (pc' := 6) dX12_movesAll_5 rfl rfl ?_
  refine s_aload_n (pc' := 7) dX12_movesAll_6 rfl rfl ?_
  refine s_getS (pc' := 10) (b := 55) dX12_movesAll_7 rfl (by decide) rfl (by decide) fa_X12_7_12 rfl rfl ?_
  refine s_bipush (pc' := 12) (v := 10) dX12_movesAll_10 rfl (by decide) ?_
  refine s_iload_n (pc' := 13) dX12_movesAll_12 rfl rfl ?_
  refine s_callV (pc' := 16) (As := [.ref 55, .int _, .int _]) dX12_movesAll_13 rfl mk_X12_moves ml_X12_214 im_X12_moves se_X12_X12_X12_moves sh_54 (by decide) rfl rfl rfl ⟨Nat.le_of_ble_eq_true rfl, Nat.le_of_ble_eq_true rfl, Nat.le_of_ble_eq_true rfl, Nat.le_of_ble_eq_true rfl⟩ (Nat.le_of_ble_eq_true rfl) (c_X12_moves_k (n := 10) (p := 0) (fun _ => sh_55) (by decide) (by decide) (by decide) (by decide) rfl hb rfl (fun I1 m1 => ?_))
  have g1 := (KM.z (I := I)).s (m := 55) (by decide) (by decide) m1
  refine s_aload_n (pc' := 17) dX12_movesAll_16 rfl rfl ?_
  refine s_aload_n (pc' := 18) dX12_movesAll_17 rfl rfl ?_
  refine s_getS (pc' := 21) (b := 56) dX12_movesAll_18 rfl (by decide) rfl (by decide) fa_X12_13_12 rfl rfl ?_
  refine s_bipush (pc' := 23) (v := 10) dX12_movesAll_21 rfl (by decide) ?_
  refine s_iload_n (pc' := 24) dX12_movesAll_23 rfl rfl ?_
  refine s_callV (pc' := 27) (As := [.ref 56, .int _, .int _]) dX12_movesAll_24 rfl mk_X12_moves ml_X12_214 im_X12_moves se_X12_X12_X12_moves sh_54 (by decide) rfl rfl rfl ⟨Nat.le_of_ble_eq_true rfl, Nat.le_of_ble_eq_true rfl, Nat.le_of_ble_eq_true rfl, Nat.le_of_ble_eq_true rfl⟩ (Nat.le_of_ble_eq_true rfl) (c_X12_moves_k (n := 10) (p := 10) (fun _ => sh_56) (by decide) (by decide) (by decide) (by decide) rfl hb (g1.2.2.1 (by decide)) (fun I2 m2 => ?_))
  have g2 := g1.s (m := 56) (by decide) (by decide) m2
  refine s_aload_n (pc' := 28) dX12_movesAll_27 rfl rfl ?_
  refine s_aload_n (pc' := 29) dX12_movesAll_28 rfl rfl ?_
  refine s_getS (pc' := 32) (b := 57) dX12_movesAll_29 rfl (by decide) rfl (by decide) fa_X12_16_12 rfl rfl ?_
  refine s_bipush (pc' := 34) (v := 10) dX12_movesAll_32 rfl (by decide) ?_
  refine s_iload_n (pc' := 35) dX12_movesAll_34 rfl rfl ?_
  refine s_callV (pc' := 38) (As := [.ref 57, .int _, .int _]) dX12_movesAll_35 rfl mk_X12_moves ml_X12_214 im_X12_moves se_X12_X12_X12_moves sh_54 (by decide) rfl rfl rfl ⟨Nat.le_of_ble_eq_true rfl, Nat.le_of_ble_eq_true rfl, Nat.le_of_ble_eq_true rfl, Nat.le_of_ble_eq_true rfl⟩ (Nat.le_of_ble_eq_true rfl) (c_X12_moves_k (n := 10) (p := 20) (fun _ => sh_57) (by decide) (by decide) (by decide) (by decide) rfl hb (g2.2.2.1 (by decide)) (fun I3 m3 => ?_))
  have g3 := g2.s (m := 57) (by decide) (by decide) m3
  refine s_aload_n (pc' := 39) dX12_movesAll_38 rfl rfl ?_
  refine s_aload_n (pc' := 40) dX12_movesAll_39 rfl rfl ?_
  refine s_getS (pc' := 43) (b := 58) dX12_movesAll_40 rfl (by decide) rfl (by decide) fa_X12_19_12 rfl rfl ?_
  refine s_bipush (pc' := 45) (v := 10) dX12_movesAll_43 rfl (by decide) ?_
  refine s_iload_n (pc' := 46) dX12_movesAll_45 rfl rfl ?_
  refine s_callV (pc' := 49) (As := [.ref 58, .int _, .int _]) dX12_movesAll_46 rfl mk_X12_moves ml_X12_214 im_X12_moves se_X12_X12_X12_moves sh_54 (by decide) rfl rfl rfl ⟨Nat.le_of_ble_eq_true rfl, Nat.le_of_ble_eq_true rfl, Nat.le_of_ble_eq_true rfl, Nat.le_of_ble_eq_true rfl⟩ (Nat.le_of_ble_eq_true rfl) (c_X12_moves_k (n := 10) (p := 30) (fun _ => sh_58) (by decide) (by decide) (by decide) (by decide) rfl hb (g3.2.2.1 (by decide)) (fun I4 m4 => ?_))
  have g4 := g3.s (m := 58) (by decide) (by decide) m4
  refine s_aload_n (pc' := 50) dX12_movesAll_49 rfl rfl ?_
  refine s_aload_n (pc' := 51) dX12_movesAll_50 rfl rfl ?_
  refine s_getS (pc' := 54) (b := 59) dX12_movesAll_51 rfl (by decide) rfl (by decide) fa_X12_22_12 rfl rfl ?_
  refine s_bipush (pc' := 56) (v := 10) dX12_movesAll_54 rfl (by decide) ?_
  refine s_iload_n (pc' := 57) dX12_movesAll_56 rfl rfl ?_
  refine s_callV (pc' := 60) (As := [.ref 59, .int _, .int _]) dX12_movesAll_57 rfl mk_X12_moves ml_X12_214 im_X12_moves se_X12_X12_X12_moves sh_54 (by decide) rfl rfl rfl ⟨Nat.le_of_ble_eq_true rfl, Nat.le_of_ble_eq_true rfl, Nat.le_of_ble_eq_true rfl, Nat.le_of_ble_eq_true rfl⟩ (Nat.le_of_ble_eq_true rfl) (c_X12_moves_k (n := 10) (p := 40) (fun _ => sh_59) (by decide) (by decide) (by decide) (by decide) rfl hb (g4.2.2.1 (by decide)) (fun I5 m5 => ?_))
  have g5 := g4.s (m := 59) (by decide) (by decide) m5
  refine s_aload_n (pc' := 61) dX12_movesAll_60 rfl rfl ?_
  refine s_aload_n (pc' := 62) dX12_movesAll_61 rfl rfl ?_
  refine s_getS (pc' := 65) (b := 60) dX12_movesAll_62 rfl (by decide) rfl (by decide) fa_X12_25_12 rfl rfl ?_
  refine s_bipush (pc' := 67) (v := 30) dX12_movesAll_65 rfl (by decide) ?_
  refine s_iload_n (pc' := 68) dX12_movesAll_67 rfl rfl ?_
  refine s_callV (pc' := 71) (As := [.ref 60, .int _, .int _]) dX12_movesAll_68 rfl mk_X12_moves ml_X12_214 im_X12_moves se_X12_X12_X12_moves sh_54 (by decide) rfl rfl rfl ⟨Nat.le_of_ble_eq_true rfl, Nat.le_of_ble_eq_true rfl, Nat.le_of_ble_eq_true rfl, Nat.le_of_ble_eq_true rfl⟩ (Nat.le_of_ble_eq_true rfl) (c_X12_moves_k (n := 30) (p := 50) (fun _ => sh_60) (by decide) (by decide) (by decide) (by decide) rfl hb (g5.2.2.1 (by decide)) (fun I6 m6 => ?_))
  have g6 := g5.s (m := 60) (by decide) (by decide) m6
  refine s_aload_n (pc' := 72) dX12_movesAll_71 rfl rfl ?_
  refine s_aload_n (pc' := 73) dX12_movesAll_72 rfl rfl ?_
  refine s_getS (pc' := 76) (b := 61) dX12_movesAll_73 rfl (by decide) rfl (by decide) fa_X12_28_12 rfl rfl ?_
  refine s_bipush (pc' := 78) (v := 30) dX12_movesAll_76 rfl (by decide) ?_
  refine s_iload_n (pc' := 79) dX12_movesAll_78 rfl rfl ?_
  refine s_callV (pc' := 82) (As := [.ref 61, .int _, .int _]) dX12_movesAll_79 rfl mk_X12_moves ml_X12_214 im_X12_moves se_X12_X12_X12_moves sh_54 (by decide) rfl rfl rfl ⟨Nat.le_of_ble_eq_true rfl, Nat.le_of_ble_eq_true rfl, Nat.le_of_ble_eq_true rfl, Nat.le_of_ble_eq_true rfl⟩ (Nat.le_of_ble_eq_true rfl) (c_X12_moves_k (n := 30) (p := 80) (fun _ => sh_61) (by decide) (by decide) (by decide) (by decide) rfl hb (g6.2.2.1 (by decide)) (fun I7 m7 => ?_))
  have g7 := g6.s (m := 61) (by decide) (by decide) m7
  refine s_aload_n (pc' := 83) dX12_movesAll_82 rfl rfl ?_
  refine s_aload_n (pc' := 84) dX12_movesAll_83 rfl rfl ?_
  refine s_getS (pc' := 87) (b := 62) dX12_movesAll_84 rfl (by decide) rfl (by decide) fa_X12_31_12 rfl rfl ?_
  refine s_bipush (pc' := 89) (v := 30) dX12_movesAll_87 rfl (by decide) ?_
  refine s_iload_n (pc' := 90) dX12_movesAll_89 rfl rfl ?_
  refine s_callV (pc' := 93) (As := [.ref 62, .int _, .int _]) dX12_movesAll_90 rfl mk_X12_moves ml_X12_214 im_X12_moves se_X12_X12_X12_moves sh_54 (by decide) rfl rfl rfl ⟨Nat.le_of_ble_eq_true rfl, Nat.le_of_ble_eq_true rfl, Nat.le_of_ble_eq_true rfl, Nat.le_of_ble_eq_true rfl⟩ (Nat.le_of_ble_eq_true rfl) (c_X12_moves_k (n := 30) (p := 110) (fun _ => sh_62) (by decide) (by decide) (by decide) (by decide) rfl hb (g7.2.2.1 (by decide)) (fun I8 m8 => ?_))
  have g8 := g7.s (m := 62) (by decide) (by decide) m8
  refine s_aload_n (pc' := 94) dX12_movesAll_93 rfl rfl ?_
  refine s_aload_n (pc' := 95) dX12_movesAll_94 rfl rfl ?_
  refine s_getS (pc' := 98) (b := 63) dX12_movesAll_95 rfl (by decide) rfl (by decide) fa_X12_34_12 rfl rfl ?_
  refine s_bipush (pc' := 100) (v := 30) dX12_movesAll_98 rfl (by decide) ?_
  refine s_iload_n (pc' := 101) dX12_movesAll_100 rfl rfl ?_
  refine s_callV (pc' := 104) (As := [.ref 63, .int _, .int _]) dX12_movesAll_101 rfl mk_X12_moves ml_X12_214 im_X12_moves se_X12_X12_X12_moves sh_54 (by decide) rfl rfl rfl ⟨Nat.le_of_ble_eq_true rfl, Nat.le_of_ble_eq_true rfl, Nat.le_of_ble_eq_true rfl, Nat.le_of_ble_eq_true rfl⟩ (Nat.le_of_ble_eq_true rfl) (c_X12_moves_k (n := 30) (p := 140) (fun _ => sh_63) (by decide) (by decide) (by decide) (by decide) rfl hb (g8.2.2.1 (by decide)) (fun I9 m9 => ?_))
  have g9 := g8.s (m := 63) (by decide) (by decide) m9
  refine s_aload_n (pc' := 105) dX12_movesAll_104 rfl rfl ?_
  refine s_aload_n (pc' := 106) dX12_movesAll_105 rfl rfl ?_
  refine s_getS (pc' := 109) (b := 64) dX12_movesAll_106 rfl (by decide) rfl (by decide) fa_X12_37_12 rfl rfl ?_
  refine s_bipush (pc' := 111) (v := 30) dX12_movesAll_109 rfl (by decide) ?_
  refine s_iload_n (pc' := 112) dX12_movesAll_111 rfl rfl ?_
  refine s_callV (pc' := 115) (As := [.ref 64, .int _, .int _]) dX12_movesAll_112 rfl mk_X12_moves ml_X12_214 im_X12_moves se_X12_X12_X12_moves sh_54 (by decide) rfl rfl rfl ⟨Nat.le_of_ble_eq_true rfl, Nat.le_of_ble_eq_true rfl, Nat.le_of_ble_eq_true rfl, Nat.le_of_ble_eq_true rfl⟩ (Nat.le_of_ble_eq_true rfl) (c_X12_moves_k (n := 30) (p := 170) (fun _ => sh_64) (by decide) (by decide) (by decide) (by decide) rfl hb (g9.2.2.1 (by decide)) (fun I10 m10 => ?_))
  have g10 := g9.s (m := 64) (by decide) (by decide) m10
  refine s_aload_n (pc' := 116) dX12_movesAll_115 rfl rfl ?_
  refine s_aload_n (pc' := 117) dX12_movesAll_116 rfl rfl ?_
  refine s_getS (pc' := 120) (b := 65) dX12_movesAll_117 rfl (by decide) rfl (by decide) fa_X12_40_12 rfl rfl ?_
  refine s_bipush (pc' := 122) (v := 30) dX12_movesAll_120 rfl (by decide) ?_
  refine s_iload_n (pc' := 123) dX12_movesAll_122 rfl rfl ?_
  refine s_callV (pc' := 126) (As := [.ref 65, .int _, .int _]) dX12_movesAll_123 rfl mk_X12_moves ml_X12_214 im_X12_moves se_X12_X12_X12_moves sh_54 (by decide) rfl rfl rfl ⟨Nat.le_of_ble_eq_true rfl, Nat.le_of_ble_eq_true rfl, Nat.le_of_ble_eq_true rfl, Nat.le_of_ble_eq_true rfl⟩ (Nat.le_of_ble_eq_true rfl) (c_X12_moves_k (n := 30) (p := 200) (fun _ => sh_65) (by decide) (by decide) (by decide) (by decide) rfl hb (g10.2.2.1 (by decide)) (fun I11 m11 => ?_))
  have g11 := g10.s (m := 65) (by decide) (by decide) m11
  refine s_aload_n (pc' := 127) dX12_movesAll_126 rfl rfl ?_
  refine s_aload_n (pc' := 128) dX12_movesAll_127 rfl rfl ?_
  refine s_getS (pc' := 131) (b := 66) dX12_movesAll_128 rfl (by decide) rfl (by decide) fa_X12_43_12 rfl rfl ?_
  refine s_bipush (pc' := 133) (v := 30) dX12_movesAll_131 rfl (by decide) ?_
  refine s_iload_n (pc' := 134) dX12_movesAll_133 rfl rfl ?_
  refine s_callV (pc' := 137) (As := [.ref 66, .int _, .int _]) dX12_movesAll_134 rfl mk_X12_moves ml_X12_214 im_X12_moves se_X12_X12_X12_moves sh_54 (by decide) rfl rfl rfl ⟨Nat.le_of_ble_eq_true rfl, Nat.le_of_ble_eq_true rfl, Nat.le_of_ble_eq_true rfl, Nat.le_of_ble_eq_true rfl⟩ (Nat.le_of_ble_eq_true rfl) (c_X12_moves_k (n := 30) (p := 230) (fun _ => sh_66) (by decide) (by decide) (by decide) (by decide) rfl hb (g11.2.2.1 (by decide)) (fun I12 m12 => ?_))
  have g12 := g11.s (m := 66) (by decide) (by decide) m12
  refine s_aload_n (pc' := 138) dX12_movesAll_137 rfl rfl ?_
  refine s_aload_n (pc' := 139) dX12_movesAll_138 rfl rfl ?_
  refine s_getS (pc' := 142) (b := 67) dX12_movesAll_139 rfl (by decide) rfl (by decide) fa_X12_46_12 rfl rfl ?_
  refine s_bipush (pc' := 144) (v := 30) dX12_movesAll_142 rfl (by decide) ?_
  refine s_iload_n (pc' := 145) dX12_movesAll_144 rfl rfl ?_
  refine s_callV (pc' := 148) (As := [.ref 67, .int _, .int _]) dX12_movesAll_145 rfl mk_X12_moves ml_X12_214 im_X12_moves se_X12_X12_X12_moves sh_54 (by decide) rfl rfl rfl ⟨Nat.le_of_ble_eq_true rfl, Nat.le_of_ble_eq_true rfl, Nat.le_of_ble_eq_true rfl, Nat.le_of_ble_eq_true rfl⟩ (Nat.le_of_ble_eq_true rfl) (c_X12_moves_k (n := 30) (p := 260) (fun _ => sh_67) (by decide) (by decide) (by decide) (by decide) rfl hb (g12.2.2.1 (by decide)) (fun I13 m13 => ?_))
  have g13 := g12.s (m := 67) (by decide) (by decide) m13
  refine s_aload_n (pc' := 149) dX12_movesAll_148 rfl rfl ?_
  refine s_aload_n (pc' := 150) dX12_movesAll_149 rfl rfl ?_
  refine s_getS (pc' := 153) (b := 68) dX12_movesAll_150 rfl (by decide) rfl (by decide) fa_X12_49_12 rfl rfl ?_
  refine s_bipush (pc' := 155) (v := 30) dX12_movesAll_153 rfl (by decide) ?_
  refine s_iload_n (pc' := 156) dX12_movesAll_155 rfl rfl ?_
  refine s_callV (pc' := 159) (As := [.ref 68, .int _, .int _]) dX12_movesAll_156 rfl mk_X12_moves ml_X12_214 im_X12_moves se_X12_X12_X12_moves sh_54 (by decide) rfl rfl rfl ⟨Nat.le_of_ble_eq_true rfl, Nat.le_of_ble_eq_true rfl, Nat.le_of_ble_eq_true rfl, Nat.le_of_ble_eq_true rfl⟩ (Nat.le_of_ble_eq_true rfl) (c_X12_moves_k (n := 30) (p := 290) (fun _ => sh_68) (by decide) (by decide) (by decide) (by decide) rfl hb (g13.2.2.1 (by decide)) (fun I14 m14 => ?_))
  have g14 := g13.s (m := 68) (by decide) (by decide) m14
  refine s_aload_n (pc' := 160) dX12_movesAll_159 rfl rfl ?_
  refine s_aload_n (pc' := 161) dX12_movesAll_160 rfl rfl ?_
  refine s_getS (pc' := 164) (b := 69) dX12_movesAll_161 rfl (by decide) rfl (by decide) fa_X12_52_12 rfl rfl ?_
  refine s_bipush (pc' := 166) (v := 30) dX12_movesAll_164 rfl (by decide) ?_
  refine s_iload_n (pc' := 167) dX12_movesAll_166 rfl rfl ?_
  refine s_callV (pc' := 170) (As := [.ref 69, .int _, .int _]) dX12_movesAll_167 rfl mk_X12_moves ml_X12_214 im_X12_moves se_X12_X12_X12_moves sh_54 (by decide) rfl rfl rfl ⟨Nat.le_of_ble_eq_true rfl, Nat.le_of_ble_eq_true rfl, Nat.le_of_ble_eq_true rfl, Nat.le_of_ble_eq_true rfl⟩ (Nat.le_of_ble_eq_true rfl) (c_X12_moves_k (n := 30) (p := 320) (fun _ => sh_69) (by decide) (by decide) (by decide) (by decide) rfl hb (g14.2.2.1 (by decide)) (fun I15 m15 => ?_))
  have g15 := g14.s (m := 69) (by decide) (by decide) m15
  refine s_aload_n (pc' := 171) dX12_movesAll_170 rfl rfl ?_
  refine s_aload_n (pc' := 172) dX12_movesAll_171 rfl rfl ?_
  refine s_getS (pc' := 175) (b := 70) dX12_movesAll_172 rfl (by decide) rfl (by decide) fa_X12_55_12 rfl rfl ?_
  refine s_bipush (pc' := 177) (v := 30) dX12_movesAll_175 rfl (by decide) ?_
  refine s_iload_n (pc' := 178) dX12_movesAll_177 rfl rfl ?_
  refine s_callV (pc' := 181) (As := [.ref 70, .int _, .int _]) dX12_movesAll_178 rfl mk_X12_moves ml_X12_214 im_X12_moves se_X12_X12_X12_moves sh_54 (by decide) rfl rfl rfl ⟨Nat.le_of_ble_eq_true rfl, Nat.le_of_ble_eq_true rfl, Nat.le_of_ble_eq_true rfl, Nat.le_of_ble_eq_true rfl⟩ (Nat.le_of_ble_eq_true rfl) (c_X12_moves_k (n := 30) (p := 350) (fun _ => sh_70) (by decide) (by decide) (by decide) (by decide) rfl hb (g15.2.2.1 (by decide)) (fun I16 m16 => ?_))
  have g16 := g15.s (m := 70) (by decide) (by decide) m16
  refine s_aload_n (pc' := 182) dX12_movesAll_181 rfl rfl ?_
  refine s_aload_n (pc' := 183) dX12_movesAll_182 rfl rfl ?_
  refine s_getS (pc' := 186) (b := 71) dX12_movesAll_183 rfl (by decide) rfl (by decide) fa_X12_58_12 rfl rfl ?_
  refine s_bipush (pc' := 188) (v := 30) dX12_movesAll_186 rfl (by decide) ?_
  refine s_iload_n (pc' := 189) dX12_movesAll_188 rfl rfl ?_
  refine s_callV (pc' := 192) (As := [.ref 71, .int _, .int _]) dX12_movesAll_189 rfl mk_X12_moves ml_X12_214 im_X12_moves se_X12_X12_X12_moves sh_54 (by decide) rfl rfl rfl ⟨Nat.le_of_ble_eq_true rfl, Nat.le_of_ble_eq_true rfl, Nat.le_of_ble_eq_true rfl, Nat.le_of_ble_eq_true rfl⟩ (Nat.le_of_ble_eq_true rfl) (c_X12_moves_k (n := 30) (p := 380) (fun _ => sh_71) (by decide) (by decide) (by decide) (by decide) rfl hb (g16.2.2.1 (by decide)) (fun I17 m17 => ?_))
  have g17 := g16.s (m := 71) (by decide) (by decide) m17
  refine s_aload_n (pc' := 193) dX12_movesAll_192 rfl rfl ?_
  refine s_aload_n (pc' := 194) dX12_movesAll_193 rfl rfl ?_
  refine s_getS (pc' := 197) (b := 72) dX12_movesAll_194 rfl (by decide) rfl (by decide) fa_X12_61_12 rfl rfl ?_
  refine s_bipush (pc' := 199) (v := 10) dX12_movesAll_197 rfl (by decide) ?_
  refine s_iload_n (pc' := 200) dX12_movesAll_199 rfl rfl ?_
  refine s_callV (pc' := 203) (As := [.ref 72, .int _, .int _]) dX12_movesAll_200 rfl mk_X12_moves ml_X12_214 im_X12_moves se_X12_X12_X12_moves sh_54 (by decide) rfl rfl rfl ⟨Nat.le_of_ble_eq_true rfl, Nat.le_of_ble_eq_true rfl, Nat.le_of_ble_eq_true rfl, Nat.le_of_ble_eq_true rfl⟩ (Nat.le_of_ble_eq_true rfl) (c_X12_moves_k (n := 10) (p := 410) (fun _ => sh_72) (by decide) (by decide) (by decide) (by decide) rfl hb (g17.2.2.1 (by decide)) (fun I18 m18 => ?_))
  have g18 := g17.s (m := 72) (by decide) (by decide) m18
  refine s_aload_n (pc' := 204) dX12_movesAll_203 rfl rfl ?_
  refine s_aload_n (pc' := 205) dX12_movesAll_204 rfl rfl ?_
  refine s_getS (pc' := 208) (b := 73) dX12_movesAll_205 rfl (by decide) rfl (by decide) fa_X12_64_12 rfl rfl ?_
  refine s_bipush (pc' := 210) (v := 10) dX12_movesAll_208 rfl (by decide) ?_
  refine s_iload_n (pc' := 211) dX12_movesAll_210 rfl rfl ?_
  refine s_callV (pc' := 214) (As := [.ref 73, .int _, .int _]) dX12_movesAll_211 rfl mk_X12_moves ml_X12_214 im_X12_moves se_X12_X12_X12_moves sh_54 (by decide) rfl rfl rfl ⟨Nat.le_of_ble_eq_true rfl, Nat.le_of_ble_eq_true rfl, Nat.le_of_ble_eq_true rfl, Nat.le_of_ble_eq_true rfl⟩ (Nat.le_of_ble_eq_true rfl) (c_X12_moves_k (n := 10) (p := 420) (fun _ => sh_73) (by decide) (by decide) (by decide) (by decide) rfl hb (g18.2.2.1 (by decide)) (fun I19 m19 => ?_))
  have g19 := g18.s (m := 73) (by decide) (by decide) m19
  refine s_aload_n (pc' := 215) dX12_movesAll_214 rfl rfl ?_
  refine s_aload_n (pc' := 216) dX12_movesAll_215 rfl rfl ?_
  refine s_getS (pc' := 219) (b := 74) dX12_movesAll_216 rfl (by decide) rfl (by decide) fa_X12_67_12 rfl rfl ?_
  refine s_bipush (pc' := 221) (v := 10) dX12_movesAll_219 rfl (by decide) ?_
  refine s_iload_n (pc' := 222) dX12_movesAll_221 rfl rfl ?_
  refine s_callV (pc' := 225) (As := [.ref 74, .int _, .int _]) dX12_movesAll_222 rfl mk_X12_moves ml_X12_214 im_X12_moves se_X12_X12_X12_moves sh_54 (by decide) rfl rfl rfl ⟨Nat.le_of_ble_eq_true rfl, Nat.le_of_ble_eq_true rfl, Nat.le_of_ble_eq_true rfl, Nat.le_of_ble_eq_true rfl⟩ (Nat.le_of_ble_eq_true rfl) (c_X12_moves_k (n := 10) (p := 430) (fun _ => sh_74) (by decide) (by decide) (by decide) (by decide) rfl hb (g19.2.2.1 (by decide)) (fun I20 m20 => ?_))
  have g20 := g19.s (m := 74) (by decide) (by decide) m20
  refine s_aload_n (pc' := 226) dX12_movesAll_225 rfl rfl ?_
  refine s_aload_n (pc' := 227) dX12_movesAll_226 rfl rfl ?_
  refine s_getS (pc' := 230) (b := 75) dX12_movesAll_227 rfl (by decide) rfl (by decide) fa_X12_70_12 rfl rfl ?_
  refine s_bipush (pc' := 232) (v := 7) dX12_movesAll_230 rfl (by decide) ?_
  refine s_iload_n (pc' := 233) dX12_movesAll_232 rfl rfl ?_
  refine s_callV (pc' := 236) (As := [.ref 75, .int _, .int _]) dX12_movesAll_233 rfl mk_X12_moves ml_X12_214 im_X12_moves se_X12_X12_X12_moves sh_54 (by decide) rfl rfl rfl ⟨Nat.le_of_ble_eq_true rfl, Nat.le_of_ble_eq_true rfl, Nat.le_of_ble_eq_true rfl, Nat.le_of_ble_eq_true rfl⟩ (Nat.le_of_ble_eq_true rfl) (c_X12_moves_k (n := 7) (p := 440) (fun _ => sh_75) (by decide) (by decide) (by decide) (by decide) rfl hb (g20.2.2.1 (by decide)) (fun I21 m21 => ?_))
  have g21 := g20.s (m := 75) (by decide) (by decide) m21
  exact s_vret dX12_movesAll_236 rfl (by decide) (by decide) (hk _ g21)
set_option maxHeartbeats 200000 in
theorem c_X12_movesAll_b {N : Nat} {S : Nat → Nat × Nat} {I : Nat → Nat → Int32} {J : Nat → Nat → Int64} {Q : Nat → Nat → Option Nat} {κ : Option Value → HP → Prop} {b : Int32} (hb : b = 0) (hk : ∀ I', BM I I' 76 → κ none (N, S, I', J, Q)) : CT E1 M_X12_movesAll [.ref 54, .int b] (N, S, I, J, Q) κ := by
  refine ofSP mk_X12_movesAll (Nat.le_of_ble_eq_true rfl) (L := [.ref 54, .int _]) rfl ?_
  refine s_aload_n (pc' := 1) dX12_movesAll_0 rfl rfl ?_
  refine s_iconst (pc' := 2) (v := 0) dX12_movesAll_1 rfl (by decide) ?_
  refine t_putI (pc' := 5) dX12_movesAll_2 rfl sh_54 (by decide) fa_X12_211_12 (Or.inl rfl) rfl rfl rfl ?_
  refine s_aload_n (pc' := 6) dX12_movesAll_5 rfl rfl ?_
  refine s_aload_n (pc' := 7) dX12_movesAll_6 rfl rfl ?_
  refine s_getS (pc' := 10) (b := 55) dX12_movesAll_7 rfl (by decide) rfl (by decide) fa_X12_7_12 rfl rfl ?_
  refine s_bipush (pc' := 12) (v := 10) dX12_movesAll_10 rfl (by decide) ?_
  refine s_iload_n (pc' := 13) dX12_movesAll_12 rfl rfl ?_
  refine s_callV (pc' := 16) (As := [.ref 55, .int _, .int _]) dX12_movesAll_13 rfl mk_X12_moves ml_X12_214 im_X12_moves se_X12_X12_X12_moves sh_54 (by decide) rfl rfl rfl ⟨Nat.le_of_ble_eq_true rfl, Nat.le_of_ble_eq_true rfl, Nat.le_of_ble_eq_true rfl, Nat.le_of_ble_eq_true rfl⟩ (Nat.le_of_ble_eq_true rfl) (c_X12_moves_b (n := 10) (p := 0) (fun _ => sh_55) (by decide) (by decide) (by decide) (by decide) rfl hb rfl (fun I1 m1 => ?_))
  have g1 := (BM.z (I := I)).s (m := 55) (by decide) (by decide) m1
  refine s_aload_n (pc' := 17) dX12_movesAll_16 rfl rfl ?_
  refine s_aload_n (pc' := 18) dX12_movesAll_17 rfl rfl ?_
  refine s_getS (pc' := 21) (b := 56) dX12_movesAll_18 rfl (by decide) rfl (by decide) fa_X12_13_12 rfl rfl ?_
  refine s_bipush (pc' := 23) (v := 10) dX12_movesAll_21 rfl (by decide) ?_
  refine s_iload_n (pc' := 24) dX12_movesAll_23 rfl rfl ?_
  refine s_callV (pc' := 27) (As := [.ref 56, .int _, .int _]) dX12_movesAll_24 rfl mk_X12_moves ml_X12_214 im_X12_moves se_X12_X12_X12_moves sh_54 (by decide) rfl rfl rfl ⟨Nat.le_of_ble_eq_true rfl, Nat.le_of_ble_eq_true rfl, Nat.le_of_ble_eq_true rfl, Nat.le_of_ble_eq_true rfl⟩ (Nat.le_of_ble_eq_true rfl) (c_X12_moves_b (n := 10) (p := 10) (fun _ => sh_56) (by decide) (by decide) (by decide) (by decide) rfl hb (g1.2.2.1 (by decide)) (fun I2 m2 => ?_))
  have g2 := g1.s (m := 56) (by decide) (by decide) m2
  refine s_aload_n (pc' := 28) dX12_movesAll_27 rfl rfl ?_
  refine s_aload_n (pc' := 29) dX12_movesAll_28 rfl rfl ?_
  refine s_getS (pc' := 32) (b := 57) dX12_movesAll_29 rfl (by decide) rfl (by decide) fa_X12_16_12 rfl rfl ?_
  refine s_bipush (pc' := 34) (v := 10) dX12_movesAll_32 rfl (by decide) ?_
  refine s_iload_n (pc' := 35) dX12_movesAll_34 rfl rfl ?_
  refine s_callV (pc' := 38) (As := [.ref 57, .int _, .int _]) dX12_movesAll_35 rfl mk_X12_moves ml_X12_214 im_X12_moves se_X12_X12_X12_moves sh_54 (by decide) rfl rfl rfl ⟨Nat.le_of_ble_eq_true rfl, Nat.le_of_ble_eq_true rfl, Nat.le_of_ble_eq_true rfl, Nat.le_of_ble_eq_true rfl⟩ (Nat.le_of_ble_eq_true rfl) (c_X12_moves_b (n := 10) (p := 20) (fun _ => sh_57) (by decide) (by decide) (by decide) (by decide) rfl hb (g2.2.2.1 (by decide)) (fun I3 m3 => ?_))
  have g3 := g2.s (m := 57) (by decide) (by decide) m3
  refine s_aload_n (pc' := 39) dX12_movesAll_38 rfl rfl ?_
  refine s_aload_n (pc' := 40) dX12_movesAll_39 rfl rfl ?_
  refine s_getS (pc' := 43) (b := 58) dX12_movesAll_40 rfl (by decide) rfl (by decide) fa_X12_19_12 rfl rfl ?_
  refine s_bipush (pc' := 45) (v := 10) dX12_movesAll_43 rfl (by decide) ?_
  refine s_iload_n (pc' := 46) dX12_movesAll_45 rfl rfl ?_
  refine s_callV (pc' := 49) (As := [.ref 58, .int _, .int _]) dX12_movesAll_46 rfl mk_X12_moves ml_X12_214 im_X12_moves se_X12_X12_X12_moves sh_54 (by decide) rfl rfl rfl ⟨Nat.le_of_ble_eq_true rfl, Nat.le_of_ble_eq_true rfl, Nat.le_of_ble_eq_true rfl, Nat.le_of_ble_eq_true rfl⟩ (Nat.le_of_ble_eq_true rfl) (c_X12_moves_b (n := 10) (p := 30) (fun _ => sh_58) (by decide) (by decide) (by decide) (by decide) rfl hb (g3.2.2.1 (by decide)) (fun I4 m4 => ?_))
  have g4 := g3.s (m := 58) (by decide) (by decide) m4
  refine s_aload_n (pc' := 50) dX12_movesAll_49 rfl rfl ?_
  refine s_aload_n (pc' := 51) dX12_movesAll_50 rfl rfl ?_
  refine s_getS (pc' := 54) (b := 59) dX12_movesAll_51 rfl (by decide) rfl (by decide) fa_X12_22_12 rfl rfl ?_
  refine s_bipush (pc' := 56) (v := 10) dX12_movesAll_54 rfl (by decide) ?_
  refine s_iload_n (pc' := 57) dX12_movesAll_56 rfl rfl ?_
  refine s_callV (pc' := 60) (As := [.ref 59, .int _, .int _]) dX12_movesAll_57 rfl mk_X12_moves ml_X12_214 im_X12_moves se_X12_X12_X12_moves sh_54 (by decide) rfl rfl rfl ⟨Nat.le_of_ble_eq_true rfl, Nat.le_of_ble_eq_true rfl, Nat.le_of_ble_eq_true rfl, Nat.le_of_ble_eq_true rfl⟩ (Nat.le_of_ble_eq_true rfl) (c_X12_moves_b (n := 10) (p := 40) (fun _ => sh_59) (by decide) (by decide) (by decide) (by decide) rfl hb (g4.2.2.1 (by decide)) (fun I5 m5 => ?_))
  have g5 := g4.s (m := 59) (by decide) (by decide) m5
  refine s_aload_n (pc' := 61) dX12_movesAll_60 rfl rfl ?_
  refine s_aload_n (pc' := 62) dX12_movesAll_61 rfl rfl ?_
  refine s_getS (pc' := 65) (b := 60) dX12_movesAll_62 rfl (by decide) rfl (by decide) fa_X12_25_12 rfl rfl ?_
  refine s_bipush (pc' := 67) (v := 30) dX12_movesAll_65 rfl (by decide) ?_
  refine s_iload_n (pc' := 68) dX12_movesAll_67 rfl rfl ?_
  refine s_callV (pc' := 71) (As := [.ref 60, .int _, .int _]) dX12_movesAll_68 rfl mk_X12_moves ml_X12_214 im_X12_moves se_X12_X12_X12_moves sh_54 (by decide) rfl rfl rfl ⟨Nat.le_of_ble_eq_true rfl, Nat.le_of_ble_eq_true rfl, Nat.le_of_ble_eq_true rfl, Nat.le_of_ble_eq_true rfl⟩ (Nat.le_of_ble_eq_true rfl) (c_X12_moves_b (n := 30) (p := 50) (fun _ => sh_60) (by decide) (by decide) (by decide) (by decide) rfl hb (g5.2.2.1 (by decide)) (fun I6 m6 => ?_))
  have g6 := g5.s (m := 60) (by decide) (by decide) m6
  refine s_aload_n (pc' := 72) dX12_movesAll_71 rfl rfl ?_
  refine s_aload_n (pc' := 73) dX12_movesAll_72 rfl rfl ?_
  refine s_getS (pc' := 76) (b := 61) dX12_movesAll_73 rfl (by decide) rfl (by decide) fa_X12_28_12 rfl rfl ?_
  refine s_bipush (pc' := 78) (v := 30) dX12_movesAll_76 rfl (by decide) ?_
  refine s_iload_n (pc' := 79) dX12_movesAll_78 rfl rfl ?_
  refine s_callV (pc' := 82) (As := [.ref 61, .int _, .int _]) dX12_movesAll_79 rfl mk_X12_moves ml_X12_214 im_X12_moves se_X12_X12_X12_moves sh_54 (by decide) rfl rfl rfl ⟨Nat.le_of_ble_eq_true rfl, Nat.le_of_ble_eq_true rfl, Nat.le_of_ble_eq_true rfl, Nat.le_of_ble_eq_true rfl⟩ (Nat.le_of_ble_eq_true rfl) (c_X12_moves_b (n := 30) (p := 80) (fun _ => sh_61) (by decide) (by decide) (by decide) (by decide) rfl hb (g6.2.2.1 (by decide)) (fun I7 m7 => ?_))
  have g7 := g6.s (m := 61) (by decide) (by decide) m7
  refine s_aload_n (pc' := 83) dX12_movesAll_82 rfl rfl ?_
  refine s_aload_n (pc' := 84) dX12_movesAll_83 rfl rfl ?_
  refine s_getS (pc' := 87) (b := 62) dX12_movesAll_84 rfl (by decide) rfl (by decide) fa_X12_31_12 rfl rfl ?_
  refine s_bipush (pc' := 89) (v := 30) dX12_movesAll_87 rfl (by decide) ?_
  refine s_iload_n (pc' := 90) dX12_movesAll_89 rfl rfl ?_
  refine s_callV (pc' := 93) (As := [.ref 62, .int _, .int _]) dX12_movesAll_90 rfl mk_X12_moves ml_X12_214 im_X12_moves se_X12_X12_X12_moves sh_54 (by decide) rfl rfl rfl ⟨Nat.le_of_ble_eq_true rfl, Nat.le_of_ble_eq_true rfl, Nat.le_of_ble_eq_true rfl, Nat.le_of_ble_eq_true rfl⟩ (Nat.le_of_ble_eq_true rfl) (c_X12_moves_b (n := 30) (p := 110) (fun _ => sh_62) (by decide) (by decide) (by decide) (by decide) rfl hb (g7.2.2.1 (by decide)) (fun I8 m8 => ?_))
  have g8 := g7.s (m := 62) (by decide) (by decide) m8
  refine s_aload_n (pc' := 94) dX12_movesAll_93 rfl rfl ?_
  refine s_aload_n (pc' := 95) dX12_movesAll_94 rfl rfl ?_
  refine s_getS (pc' := 98) (b := 63) dX12_movesAll_95 rfl (by decide) rfl (by decide) fa_X12_34_12 rfl rfl ?_
  refine s_bipush (pc' := 100) (v := 30) dX12_movesAll_98 rfl (by decide) ?_
  refine s_iload_n (pc' := 101) dX12_movesAll_100 rfl rfl ?_
  refine s_callV (pc' := 104) (As := [.ref 63, .int _, .int _]) dX12_movesAll_101 rfl mk_X12_moves ml_X12_214 im_X12_moves se_X12_X12_X12_moves sh_54 (by decide) rfl rfl rfl ⟨Nat.le_of_ble_eq_true rfl, Nat.le_of_ble_eq_true rfl, Nat.le_of_ble_eq_true rfl, Nat.le_of_ble_eq_true rfl⟩ (Nat.le_of_ble_eq_true rfl) (c_X12_moves_b (n := 30) (p := 140) (fun _ => sh_63) (by decide) (by decide) (by decide) (by decide) rfl hb (g8.2.2.1 (by decide)) (fun I9 m9 => ?_))
  have g9 := g8.s (m := 63) (by decide) (by decide) m9
  refine s_aload_n (pc' := 105) dX12_movesAll_104 rfl rfl ?_
  refine s_aload_n (pc' := 106) dX12_movesAll_105 rfl rfl ?_
  refine s_getS (pc' := 109) (b := 64) dX12_movesAll_106 rfl (by decide) rfl (by decide) fa_X12_37_12 rfl rfl ?_
  refine s_bipush (pc' := 111) (v := 30) dX12_movesAll_109 rfl (by decide) ?_
  refine s_iload_n (pc' := 112) dX12_movesAll_111 rfl rfl ?_
  refine s_callV (pc' := 115) (As := [.ref 64, .int _, .int _]) dX12_movesAll_112 rfl mk_X12_moves ml_X12_214 im_X12_moves se_X12_X12_X12_moves sh_54 (by decide) rfl rfl rfl ⟨Nat.le_of_ble_eq_true rfl, Nat.le_of_ble_eq_true rfl, Nat.le_of_ble_eq_true rfl, Nat.le_of_ble_eq_true rfl⟩ (Nat.le_of_ble_eq_true rfl) (c_X12_moves_b (n := 30) (p := 170) (fun _ => sh_64) (by decide) (by decide) (by decide) (by decide) rfl hb (g9.2.2.1 (by decide)) (fun I10 m10 => ?_))
  have g10 := g9.s (m := 64) (by decide) (by decide) m10
  refine s_aload_n (pc' := 116) dX12_movesAll_115 rfl rfl ?_
  refine s_aload_n (pc' := 117) dX12_movesAll_116 rfl rfl ?_
  refine s_getS (pc' := 120) (b := 65) dX12_movesAll_117 rfl (by decide) rfl (by decide) fa_X12_40_12 rfl rfl ?_
  refine s_bipush (pc' := 122) (v := 30) dX12_movesAll_120 rfl (by decide) ?_
  refine s_iload_n (pc' := 123) dX12_movesAll_122 rfl rfl ?_
  refine s_callV (pc' := 126) (As := [.ref 65, .int _, .int _]) dX12_movesAll_123 rfl mk_X12_moves ml_X12_214 im_X12_moves se_X12_X12_X12_moves sh_54 (by decide) rfl rfl rfl ⟨Nat.le_of_ble_eq_true rfl, Nat.le_of_ble_eq_true rfl, Nat.le_of_ble_eq_true rfl, Nat.le_of_ble_eq_true rfl⟩ (Nat.le_of_ble_eq_true rfl) (c_X12_moves_b (n := 30) (p := 200) (fun _ => sh_65) (by decide) (by decide) (by decide) (by decide) rfl hb (g10.2.2.1 (by decide)) (fun I11 m11 => ?_))
  have g11 := g10.s (m := 65) (by decide) (by decide) m11
  refine s_aload_n (pc' := 127) dX12_movesAll_126 rfl rfl ?_
  refine s_aload_n (pc' := 128) dX12_movesAll_127 rfl rfl ?_
  refine s_getS (pc' := 131) (b := 66) dX12_movesAll_128 rfl (by decide) rfl (by decide) fa_X12_43_12 rfl rfl ?_
  refine s_bipush (pc' := 133) (v := 30) dX12_movesAll_131 rfl (by decide) ?_
  refine s_iload_n (pc' := 134) dX12_movesAll_133 rfl rfl ?_
  refine s_callV (pc' := 137) (As := [.ref 66, .int _, .int _]) dX12_movesAll_134 rfl mk_X12_moves ml_X12_214 im_X12_moves se_X12_X12_X12_moves sh_54 (by decide) rfl rfl rfl ⟨Nat.le_of_ble_eq_true rfl, Nat.le_of_ble_eq_true rfl, Nat.le_of_ble_eq_true rfl, Nat.le_of_ble_eq_true rfl⟩ (Nat.le_of_ble_eq_true rfl) (c_X12_moves_b (n := 30) (p := 230) (fun _ => sh_66) (by decide) (by decide) (by decide) (by decide) rfl hb (g11.2.2.1 (by decide)) (fun I12 m12 => ?_))
  have g12 := g11.s (m := 66) (by decide) (by decide) m12
  refine s_aload_n (pc' := 138) dX12_movesAll_137 rfl rfl ?_
  refine s_aload_n (pc' := 139) dX12_movesAll_138 rfl rfl ?_
  refine s_getS (pc' := 142) (b := 67) dX12_movesAll_139 rfl (by decide) rfl (by decide) fa_X12_46_12 rfl rfl ?_
  refine s_bipush (pc' := 144) (v := 30) dX12_movesAll_142 rfl (by decide) ?_
  refine s_iload_n (pc' := 145) dX12_movesAll_144 rfl rfl ?_
  refine s_callV (pc' := 148) (As := [.ref 67, .int _, .int _]) dX12_movesAll_145 rfl mk_X12_moves ml_X12_214 im_X12_moves se_X12_X12_X12_moves sh_54 (by decide) rfl rfl rfl ⟨Nat.le_of_ble_eq_true rfl, Nat.le_of_ble_eq_true rfl, Nat.le_of_ble_eq_true rfl, Nat.le_of_ble_eq_true rfl⟩ (Nat.le_of_ble_eq_true rfl) (c_X12_moves_b (n := 30) (p := 260) (fun _ => sh_67) (by decide) (by decide) (by decide) (by decide) rfl hb (g12.2.2.1 (by decide)) (fun I13 m13 => ?_))
  have g13 := g12.s (m := 67) (by decide) (by decide) m13
  refine s_aload_n (pc' := 149) dX12_movesAll_148 rfl rfl ?_
  refine s_aload_n (pc' := 150) dX12_movesAll_149 rfl rfl ?_
  refine s_getS (pc' := 153) (b := 68) dX12_movesAll_150 rfl (by decide) rfl (by decide) fa_X12_49_12 rfl rfl ?_
  refine s_bipush (pc' := 155) (v := 30) dX12_movesAll_153 rfl (by decide) ?_
  refine s_iload_n (pc' := 156) dX12_movesAll_155 rfl rfl ?_
  refine s_callV (pc' := 159) (As := [.ref 68, .int _, .int _]) dX12_movesAll_156 rfl mk_X12_moves ml_X12_214 im_X12_moves se_X12_X12_X12_moves sh_54 (by decide) rfl rfl rfl ⟨Nat.le_of_ble_eq_true rfl, Nat.le_of_ble_eq_true rfl, Nat.le_of_ble_eq_true rfl, Nat.le_of_ble_eq_true rfl⟩ (Nat.le_of_ble_eq_true rfl) (c_X12_moves_b (n := 30) (p := 290) (fun _ => sh_68) (by decide) (by decide) (by decide) (by decide) rfl hb (g13.2.2.1 (by decide)) (fun I14 m14 => ?_))
  have g14 := g13.s (m := 68) (by decide) (by decide) m14
  refine s_aload_n (pc' := 160) dX12_movesAll_159 rfl rfl ?_
  refine s_aload_n (pc' := 161) dX12_movesAll_160 rfl rfl ?_
  refine s_getS (pc' := 164) (b := 69) dX12_movesAll_161 rfl (by decide) rfl (by decide) fa_X12_52_12 rfl rfl ?_
  refine s_bipush (pc' := 166) (v := 30) dX12_movesAll_164 rfl (by decide) ?_
  refine s_iload_n (pc' := 167) dX12_movesAll_166 rfl rfl ?_
  refine s_callV (pc' := 170) (As := [.ref 69, .int _, .int _]) dX12_movesAll_167 rfl mk_X12_moves ml_X12_214 im_X12_moves se_X12_X12_X12_moves sh_54 (by decide) rfl rfl rfl ⟨Nat.le_of_ble_eq_true rfl, Nat.le_of_ble_eq_true rfl, Nat.le_of_ble_eq_true rfl, Nat.le_of_ble_eq_true rfl⟩ (Nat.le_of_ble_eq_true rfl) (c_X12_moves_b (n := 30) (p := 320) (fun _ => sh_69) (by decide) (by decide) (by decide) (by decide) rfl hb (g14.2.2.1 (by decide)) (fun I15 m15 => ?_))
  have g15 := g14.s (m := 69) (by decide) (by decide) m15
  refine s_aload_n (pc' := 171) dX12_movesAll_170 rfl rfl ?_
  refine s_aload_n (pc' := 172) dX12_movesAll_171 rfl rfl ?_
  refine s_getS (pc' := 175) (b := 70) dX12_movesAll_172 rfl (by decide) rfl (by decide) fa_X12_55_12 rfl rfl ?_
  refine s_bipush (pc' := 177) (v := 30) dX12_movesAll_175 rfl (by decide) ?_
  refine s_iload_n (pc' := 178) dX12_movesAll_177 rfl rfl ?_
  refine s_callV (pc' := 181) (As := [.ref 70, .int _, .int _]) dX12_movesAll_178 rfl mk_X12_moves ml_X12_214 im_X12_moves se_X12_X12_X12_moves sh_54 (by decide) rfl rfl rfl ⟨Nat.le_of_ble_eq_true rfl, Nat.le_of_ble_eq_true rfl, Nat.le_of_ble_eq_true rfl, Nat.le_of_ble_eq_true rfl⟩ (Nat.le_of_ble_eq_true rfl) (c_X12_moves_b (n := 30) (p := 350) (fun _ => sh_70) (by decide) (by decide) (by decide) (by decide) rfl hb (g15.2.2.1 (by decide)) (fun I16 m16 => ?_))
  have g16 := g15.s (m := 70) (by decide) (by decide) m16
  refine s_aload_n (pc' := 182) dX12_movesAll_181 rfl rfl ?_
  refine s_aload_n (pc' := 183) dX12_movesAll_182 rfl rfl ?_
  refine s_getS (pc' := 186) (b := 71) dX12_movesAll_183 rfl (by decide) rfl (by decide) fa_X12_58_12 rfl rfl ?_
  refine s_bipush (pc' := 188) (v := 30) dX12_movesAll_186 rfl (by decide) ?_
  refine s_iload_n (pc' := 189) dX12_movesAll_188 rfl rfl ?_
  refine s_callV (pc' := 192) (As := [.ref 71, .int _, .int _]) dX12_movesAll_189 rfl mk_X12_moves ml_X12_214 im_X12_moves se_X12_X12_X12_moves sh_54 (by decide) rfl rfl rfl ⟨Nat.le_of_ble_eq_true rfl, Nat.le_of_ble_eq_true rfl, Nat.le_of_ble_eq_true rfl, Nat.le_of_ble_eq_true rfl⟩ (Nat.le_of_ble_eq_true rfl) (c_X12_moves_b (n := 30) (p := 380) (fun _ => sh_71) (by decide) (by decide) (by decide) (by decide) rfl hb (g16.2.2.1 (by decide)) (fun I17 m17 => ?_))
  have g17 := g16.s (m := 71) (by decide) (by decide) m17
  refine s_aload_n (pc' := 193) dX12_movesAll_192 rfl rfl ?_
  refine s_aload_n (pc' := 194) dX12_movesAll_193 rfl rfl ?_
  refine s_getS (pc' := 197) (b := 72) dX12_movesAll_194 rfl (by decide) rfl (by decide) fa_X12_61_12 rfl rfl ?_
  refine s_bipush (pc' := 199) (v := 10) dX12_movesAll_197 rfl (by decide) ?_
  refine s_iload_n (pc' := 200) dX12_movesAll_199 rfl rfl ?_
  refine s_callV (pc' := 203) (As := [.ref 72, .int _, .int _]) dX12_movesAll_200 rfl mk_X12_moves ml_X12_214 im_X12_moves se_X12_X12_X12_moves sh_54 (by decide) rfl rfl rfl ⟨Nat.le_of_ble_eq_true rfl, Nat.le_of_ble_eq_true rfl, Nat.le_of_ble_eq_true rfl, Nat.le_of_ble_eq_true rfl⟩ (Nat.le_of_ble_eq_true rfl) (c_X12_moves_b (n := 10) (p := 410) (fun _ => sh_72) (by decide) (by decide) (by decide) (by decide) rfl hb (g17.2.2.1 (by decide)) (fun I18 m18 => ?_))
  have g18 := g17.s (m := 72) (by decide) (by decide) m18
  refine s_aload_n (pc' := 204) dX12_movesAll_203 rfl rfl ?_
  refine s_aload_n (pc' := 205) dX12_movesAll_204 rfl rfl ?_
  refine s_getS (pc' := 208) (b := 73) dX12_movesAll_205 rfl (by decide) rfl (by decide) fa_X12_64_12 rfl rfl ?_
  refine s_bipush (pc' := 210) (v := 10) dX12_movesAll_208 rfl (by decide) ?_
  refine s_iload_n (pc' := 211) dX12_movesAll_210 rfl rfl ?_
  refine s_callV (pc' := 214) (As := [.ref 73, .int _, .int _]) dX12_movesAll_211 rfl mk_X12_moves ml_X12_214 im_X12_moves se_X12_X12_X12_moves sh_54 (by decide) rfl rfl rfl ⟨Nat.le_of_ble_eq_true rfl, Nat.le_of_ble_eq_true rfl, Nat.le_of_ble_eq_true rfl, Nat.le_of_ble_eq_true rfl⟩ (Nat.le_of_ble_eq_true rfl) (c_X12_moves_b (n := 10) (p := 420) (fun _ => sh_73) (by decide) (by decide) (by decide) (by decide) rfl hb (g18.2.2.1 (by decide)) (fun I19 m19 => ?_))
  have g19 := g18.s (m := 73) (by decide) (by decide) m19
  refine s_aload_n (pc' := 215) dX12_movesAll_214 rfl rfl ?_
  refine s_aload_n (pc' := 216) dX12_movesAll_215 rfl rfl ?_
  refine s_getS (pc' := 219) (b := 74) dX12_movesAll_216 rfl (by decide) rfl (by decide) fa_X12_67_12 rfl rfl ?_
  refine s_bipush (pc' := 221) (v := 10) dX12_movesAll_219 rfl (by decide) ?_
  refine s_iload_n (pc' := 222) dX12_movesAll_221 rfl rfl ?_
  refine s_callV (pc' := 225) (As := [.ref 74, .int _, .int _]) dX12_movesAll_222 rfl mk_X12_moves ml_X12_214 im_X12_moves se_X12_X12_X12_moves sh_54 (by decide) rfl rfl rfl ⟨Nat.le_of_ble_eq_true rfl, Nat.le_of_ble_eq_true rfl, Nat.le_of_ble_eq_true rfl, Nat.le_of_ble_eq_true rfl⟩ (Nat.le_of_ble_eq_true rfl) (c_X12_moves_b (n := 10) (p := 430) (fun _ => sh_74) (by decide) (by decide) (by decide) (by decide) rfl hb (g19.2.2.1 (by decide)) (fun I20 m20 => ?_))
  have g20 := g19.s (m := 74) (by decide) (by decide) m20
  refine s_aload_n (pc' := 226) dX12_movesAll_225 rfl rfl ?_
  refine s_aload_n (pc' := 227) dX12_movesAll_226 rfl rfl ?_
  refine s_getS (pc' := 230) (b := 75) dX12_movesAll_227 rfl (by decide) rfl (by decide) fa_X12_70_12 rfl rfl ?_
  refine s_bipush (pc' := 232) (v := 7) dX12_movesAll_230 rfl (by decide) ?_
  refine s_iload_n (pc' := 233) dX12_movesAll_232 rfl rfl ?_
  refine s_callV (pc' := 236) (As := [.ref 75, .int _, .int _]) dX12_movesAll_233 rfl mk_X12_moves ml_X12_214 im_X12_moves se_X12_X12_X12_moves sh_54 (by decide) rfl rfl rfl ⟨Nat.le_of_ble_eq_true rfl, Nat.le_of_ble_eq_true rfl, Nat.le_of_ble_eq_true rfl, Nat.le_of_ble_eq_true rfl⟩ (Nat.le_of_ble_eq_true rfl) (c_X12_moves_b (n := 7) (p := 440) (fun _ => sh_75) (by decide) (by decide) (by decide) (by decide) rfl hb (g20.2.2.1 (by decide)) (fun I21 m21 => ?_))
  have g21 := g20.s (m := 75) (by decide) (by decide) m21
  exact s_vret dX12_movesAll_236 rfl (by decide) (by decide) (hk _ g21)
set_option maxHeartbeats 200000 in
theorem c_X12_image {N : Nat} {S : Nat → Nat × Nat} {I : Nat → Nat → Int32} {J : Nat → Nat → Int64} {Q : Nat → Nat → Option Nat} {κ : Option Value → HP → Prop} (hk : ∀ I', KM I I' 76 → κ (some (.int 1)) (N, S, up2 (up2 I' 54 22 1) 54 24 0, J, Q)) : CT E1 M_X12_image [.ref 54] (N, S, I, J, Q) κ := by
  refine ofSP mk_X12_image (Nat.le_of_ble_eq_true rfl) (L := [.ref 54]) rfl ?_
  refine s_aload_n (pc' := 1) dX12_image_0 rfl rfl ?_
  refine s_iconst (pc' := 2) (v := 1) dX12_image_1 rfl (by decide) ?_
  refine s_callV (pc' := 5) (As := [.int _]) dX12_image_2 rfl mk_X12_movesAll ml_X12_218 im_X12_movesAll se_X12_X12_X12_movesAll sh_54 (by decide) rfl rfl rfl ⟨Nat.le_of_ble_eq_true rfl, Nat.le_of_ble_eq_true rfl, Nat.le_of_ble_eq_true rfl, Nat.le_of_ble_eq_true rfl⟩ (Nat.le_of_ble_eq_true rfl) (c_X12_movesAll_k (by decide) (fun I1 g1 => ?_))
  refine s_aload_n (pc' := 6) dX12_image_5 rfl rfl ?_
  refine s_iconst (pc' := 7) (v := 1) dX12_image_6 rfl (by decide) ?_
  refine t_putI (pc' := 10) dX12_image_7 rfl sh_54 (by decide) fa_X12_222_12 (Or.inl rfl) rfl rfl rfl ?_
  refine s_aload_n (pc' := 11) dX12_image_10 rfl rfl ?_
  refine s_iconst (pc' := 12) (v := 1) dX12_image_11 rfl (by decide) ?_
  refine s_callV (pc' := 15) (As := [.int _]) dX12_image_12 rfl mk_X12_done ml_X12_157 im_X12_done se_X12_X12_X12_done sh_54 (by decide) rfl rfl rfl ⟨Nat.le_of_ble_eq_true rfl, Nat.le_of_ble_eq_true rfl, Nat.le_of_ble_eq_true rfl, Nat.le_of_ble_eq_true rfl⟩ (Nat.le_of_ble_eq_true rfl) (c_X12_done ?_)
  exact s_iret dX12_image_15 rfl (by decide) (by decide) (hk _ g1)
set_option maxHeartbeats 200000 in
theorem c_X12_back {N : Nat} {S : Nat → Nat × Nat} {I : Nat → Nat → Int32} {J : Nat → Nat → Int64} {Q : Nat → Nat → Option Nat} {κ : Option Value → HP → Prop} (k1 : I 54 23 = 20 → κ (some (.int (-1))) (N, S, up2 I 54 24 2, J, Q)) (k2 : I 54 23 ≠ 20 → I 54 22 = 0 → κ (some (.int (-1))) (N, S, up2 I 54 24 3, J, Q)) (k3 : I 54 23 ≠ 20 → I 54 22 ≠ 0 → ∀ I', BM (up2 I 54 23 (I 54 23 + 1)) I' 76 → κ (some (.int (I' 75 6))) (N, S, up2 (up2 (up2 I' 54 25 0) 54 37 0) 54 24 0, J, Q)) : CT E1 M_X12_back [.ref 54] (N, S, I, J, Q) κ := by
  refine ofSP mk_X12_back (Nat.le_of_ble_eq_true rfl) (L := [.ref 54]) rfl ?_
  refine s_aload_n (pc' := 1) dX12_back_0 rfl rfl ?_
  refine t_getI (pc' := 4) dX12_back_1 rfl sh_54 (by decide) fa_X12_225_12 rfl ?_
  refine s_bipush (pc' := 6) (v := 20) dX12_back_4 rfl (by decide) ?_
  refine s_icmpne (pc' := 9) (tgt := 15) dX12_back_6 (by decide) rfl (fun c6 => ?_) (fun c6 => ?_)
  · refine s_aload_n (pc' := 16) dX12_back_15 rfl rfl ?_
    refine t_getI (pc' := 19) dX12_back_16 rfl sh_54 (by decide) fa_X12_222_12 rfl ?_
    refine s_ifne (pc' := 22) (tgt := 28) dX12_back_19 (by decide) rfl (fun c19 => ?_) (fun c19 => ?_)
    · refine s_aload_n (pc' := 29) dX12_back_28 rfl rfl ?_
      refine s_dup (pc' := 30) dX12_back_29 rfl rfl ?_
      refine t_getI (pc' := 33) dX12_back_30 rfl sh_54 (by decide) fa_X12_225_12 rfl ?_
      refine s_iconst (pc' := 34) (v := 1) dX12_back_33 rfl (by decide) ?_
      refine s_iadd (pc' := 35) dX12_back_34 rfl ?_
      refine t_putI (pc' := 38) dX12_back_35 rfl sh_54 (by decide) fa_X12_225_12 (Or.inl rfl) rfl rfl rfl ?_
      refine s_aload_n (pc' := 39) dX12_back_38 rfl rfl ?_
      refine s_iconst (pc' := 40) (v := 0) dX12_back_39 rfl (by decide) ?_
      refine s_callV (pc' := 43) (As := [.int _]) dX12_back_40 rfl mk_X12_movesAll ml_X12_218 im_X12_movesAll se_X12_X12_X12_movesAll sh_54 (by decide) rfl rfl rfl ⟨Nat.le_of_ble_eq_true rfl, Nat.le_of_ble_eq_true rfl, Nat.le_of_ble_eq_true rfl, Nat.le_of_ble_eq_true rfl⟩ (Nat.le_of_ble_eq_true rfl) (c_X12_movesAll_b rfl (fun I1 g1 => ?_))
      refine s_aload_n (pc' := 44) dX12_back_43 rfl rfl ?_
      refine s_iconst (pc' := 45) (v := 0) dX12_back_44 rfl (by decide) ?_
      refine t_putI (pc' := 48) dX12_back_45 rfl sh_54 (by decide) fa_X12_164_12 (Or.inl rfl) rfl rfl rfl ?_
      refine s_aload_n (pc' := 49) dX12_back_48 rfl rfl ?_
      refine s_iconst (pc' := 50) (v := 0) dX12_back_49 rfl (by decide) ?_
      refine t_putI (pc' := 53) dX12_back_50 rfl sh_54 (by decide) fa_X12_153_12 (Or.inl rfl) rfl rfl rfl ?_
      refine s_aload_n (pc' := 54) dX12_back_53 rfl rfl ?_
      refine s_aload_n (pc' := 55) dX12_back_54 rfl rfl ?_
      refine s_getS (pc' := 58) (b := 75) dX12_back_55 rfl (by decide) rfl (by decide) fa_X12_70_12 rfl rfl ?_
      refine s_bipush (pc' := 60) (v := 6) dX12_back_58 rfl (by decide) ?_
      refine t_iald (pc' := 61) (q := 6) dX12_back_60 rfl sh_75 rfl (by decide) ?_
      refine s_callV (pc' := 64) (As := [.int _]) dX12_back_61 rfl mk_X12_done ml_X12_157 im_X12_done se_X12_X12_X12_done sh_54 (by decide) rfl rfl rfl ⟨Nat.le_of_ble_eq_true rfl, Nat.le_of_ble_eq_true rfl, Nat.le_of_ble_eq_true rfl, Nat.le_of_ble_eq_true rfl⟩ (Nat.le_of_ble_eq_true rfl) (c_X12_done ?_)
      exact s_iret dX12_back_64 rfl (by decide) (by decide) (by have q := k3 c6 c19 I1 g1; rw [up2_d (by decide), up2_d (by decide)]; exact q)
    · refine s_aload_n (pc' := 23) dX12_back_22 rfl rfl ?_
      refine s_iconst (pc' := 24) (v := 3) dX12_back_23 rfl (by decide) ?_
      refine s_callV (pc' := 27) (As := [.int _]) dX12_back_24 rfl mk_X12_refused ml_X12_149 im_X12_refused se_X12_X12_X12_refused sh_54 (by decide) rfl rfl rfl ⟨Nat.le_of_ble_eq_true rfl, Nat.le_of_ble_eq_true rfl, Nat.le_of_ble_eq_true rfl, Nat.le_of_ble_eq_true rfl⟩ (Nat.le_of_ble_eq_true rfl) (c_X12_refused ?_)
      exact s_iret dX12_back_27 rfl (by decide) (by decide) (k2 c6 (by first | exact c19 | exact Decidable.not_not.mp c19))
  · refine s_aload_n (pc' := 10) dX12_back_9 rfl rfl ?_
    refine s_iconst (pc' := 11) (v := 2) dX12_back_10 rfl (by decide) ?_
    refine s_callV (pc' := 14) (As := [.int _]) dX12_back_11 rfl mk_X12_refused ml_X12_149 im_X12_refused se_X12_X12_X12_refused sh_54 (by decide) rfl rfl rfl ⟨Nat.le_of_ble_eq_true rfl, Nat.le_of_ble_eq_true rfl, Nat.le_of_ble_eq_true rfl, Nat.le_of_ble_eq_true rfl⟩ (Nat.le_of_ble_eq_true rfl) (c_X12_refused ?_)
    exact s_iret dX12_back_14 rfl (by decide) (by decide) (k1 (by first | exact c6 | exact Decidable.not_not.mp c6))
