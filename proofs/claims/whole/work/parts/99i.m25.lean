/-! ===== chance: the model ===== -/
def RBJ (J J' : Nat → Nat → Int64) (s d : Nat) : Prop := (∀ a, a ≠ 88 → a ≠ 89 → J' a = J a) ∧ ∀ t, t < 64 → J' 88 t = nL (Wy d s t)
def R9 (J' : Nat → Nat → Int64) (f : Nat → Nat) : Prop := ∀ t, t < 64 → J' 89 t = nL (f t)
/-- what the sums below K, and K with its first u sides, give -/
def scu (f : Nat → Nat) (S K u t : Nat) : Nat := sc f S K t + (if K < t ∧ t ≤ K + u then f K else 0)
section RB
variable {J J' : Nat → Nat → Int64} {s d K u k : Nat} {f : Nat → Nat}
theorem RBJ.up {x : Int64} (h : RBJ J J' s d) : RBJ J (up2 J' 89 k x) s d := ⟨fun a a1 a2 => by rw [up2_o a2]; exact h.1 a a1 a2, fun t ht => by rw [up2_d (by decide)]; exact h.2 t ht⟩
theorem R9.z (h : R9 J' (fun _ => 0)) : R9 J' (fun t => sc f s 0 t) := fun t ht => h t ht
theorem R9.b (h : R9 J' (fun t => sc f s K t)) : R9 J' (fun t => scu f s K 0 t) := fun t ht => by
  rw [h t ht]; show _ = nL (scu f s K 0 t); unfold scu; rw [if_neg (by omega), Nat.add_zero]
theorem R9.e (h : R9 J' (fun t => scu f s K s t)) : R9 J' (fun t => sc f s (K + 1) t) := fun t ht => h t ht
theorem R9.n (h : R9 J' (fun t => scu f s K u t)) (h0 : f K = 0) : R9 J' (fun t => sc f s (K + 1) t) := fun t ht => by
  rw [h t ht]
  show nL (scu f s K u t) = nL (sc f s (K + 1) t)
  unfold scu; rw [sc_s, h0]
  congr 2
  split <;> split <;> rfl
theorem R9.st {x : Int64} (h : R9 J' (fun t => scu f s K u t)) (hx : x = J' 89 (K + (u + 1)) + nL (f K)) (hb : K + (u + 1) < 64) : R9 (up2 J' 89 (K + (u + 1)) x) (fun t => scu f s K (u + 1) t) := fun t ht => by
  show _ = nL (scu f s K (u + 1) t)
  by_cases e : t = K + (u + 1)
  · rw [e, up2_s, hx, h _ hb]
    show nL (scu f s K u (K + (u + 1))) + nL (f K) = _
    rw [nL_add]; unfold scu
    rw [if_neg (by omega), if_pos (by omega), Nat.add_zero]
  · rw [up2_e e, h t ht]
    show nL (scu f s K u t) = _
    unfold scu
    by_cases z : K < t ∧ t ≤ K + u
    · rw [if_pos z, if_pos (by omega)]
    · rw [if_neg z, if_neg (by omega)]
/-- the copy so far -/
def RC8 (J J' : Nat → Nat → Int64) (s d k : Nat) : Prop := (∀ a, a ≠ 88 → a ≠ 89 → J' a = J a) ∧ R9 J' (Wy (d + 1) s) ∧ ∀ t, t < k → J' 88 t = nL (Wy (d + 1) s t)
theorem RC8.z (h : RBJ J J' s d) (h9 : R9 J' (fun t => sc (Wy d s) s 64 t)) : RC8 J J' s d 0 := ⟨h.1, fun t ht => by
  rw [h9 t ht]; show nL (sc (Wy d s) s 64 t) = _; rw [scq (by omega)]; rfl, fun _ h => absurd h (Nat.not_lt_zero _)⟩
theorem RC8.st {x : Int64} (h : RC8 J J' s d k) (hk : k < 64) (hx : x = J' 89 k) : RC8 J (up2 J' 88 k x) s d (k + 1) := ⟨fun a a1 a2 => by rw [up2_o a1]; exact h.1 a a1 a2, fun t ht => by rw [up2_d (by decide)]; exact h.2.1 t ht, fun t ht => by
  by_cases e : t = k
  · rw [e, up2_s, hx]; exact h.2.1 k hk
  · rw [up2_e e]; exact h.2.2 t (by omega)⟩
theorem RC8.e (h : RC8 J J' s d 64) : RBJ J J' s (d + 1) := ⟨h.1, h.2.2⟩
end RB
theorem gcd_pos {t h : Nat} {best : Int32} (ht : 0 < t) : 0 < Nat.gcd (abv t h best) (blw t best) := Nat.gcd_pos_of_pos_right _ (by
  unfold blw
  split
  · exact ht
  · exact Nat.mul_pos ht ht)
theorem tt_h {t h : Nat} (hh : h ≤ t) : (t - h) * (t - h) ≤ t * t := Nat.mul_le_mul (Nat.sub_le _ _) (Nat.sub_le _ _)
set_option maxHeartbeats 200000 in
theorem l_X12_divisor {N : Nat} {S : Nat → Nat × Nat} {I : Nat → Nat → Int32} {J : Nat → Nat → Int64} {Q : Nat → Nat → Option Nat} {κ : Option Value → HP → Prop} {A B : Int64} {G : Nat} (hk : κ (some (.long (nL G))) (N, S, I, J, Q)) : ∀ d : Nat, ∀ x y (r8 r9 : Value), y ≤ d → x < 2 ^ 62 → y < 2 ^ 62 → Nat.gcd x y = G → SP E1 M_X12_divisor κ 17 [.long A, .retAddr 0, .long B, .retAddr 0, .long (nL x), .retAddr 0, .long (nL y), .retAddr 0, r8, r9] [] (N, S, I, J, Q) 0 0 := by
  intro d
  induction d with
  | zero =>
    intro x y r8 r9 hd hx hy hg
    obtain rfl : y = 0 := by omega
    refine s_lload (pc' := 19) dX12_divisor_17 rfl rfl ?_
    refine s_lconst (pc' := 20) (v := 0) dX12_divisor_19 rfl (by decide) ?_
    refine s_lcmp (pc' := 21) dX12_divisor_20 rfl ?_
    refine s_ifeqT (tgt := 42) dX12_divisor_21 (by decide) (by rw [lg_cmp_eq]; rfl) ?_
    refine s_lload (pc' := 44) dX12_divisor_42 rfl rfl ?_
    exact s_lret dX12_divisor_44 rfl (by decide) (by decide) (by rw [Nat.gcd_zero_right] at hg; rw [hg]; exact hk)
  | succ d ih =>
    intro x y r8 r9 hd hx hy hg
    by_cases y0 : y = 0
    · subst y0
      refine s_lload (pc' := 19) dX12_divisor_17 rfl rfl ?_
      refine s_lconst (pc' := 20) (v := 0) dX12_divisor_19 rfl (by decide) ?_
      refine s_lcmp (pc' := 21) dX12_divisor_20 rfl ?_
      refine s_ifeqT (tgt := 42) dX12_divisor_21 (by decide) (by rw [lg_cmp_eq]; rfl) ?_
      refine s_lload (pc' := 44) dX12_divisor_42 rfl rfl ?_
      exact s_lret dX12_divisor_44 rfl (by decide) (by decide) (by rw [Nat.gcd_zero_right] at hg; rw [hg]; exact hk)
    · have my := Nat.mod_lt x (show 0 < y by omega)
      refine s_lload (pc' := 19) dX12_divisor_17 rfl rfl ?_
      refine s_lconst (pc' := 20) (v := 0) dX12_divisor_19 rfl (by decide) ?_
      refine s_lcmp (pc' := 21) dX12_divisor_20 rfl ?_
      refine s_ifeqF (pc' := 24) (tgt := 42) dX12_divisor_21 (by decide) rfl (fun z => y0 ((nL_0 (by omega)).mp ((lg_cmp_eq _ _).mp z))) ?_
      refine s_lload (pc' := 26) dX12_divisor_24 rfl rfl ?_
      refine s_lload (pc' := 28) dX12_divisor_26 rfl rfl ?_
      refine s_lrem (pc' := 29) dX12_divisor_28 rfl (fun z => y0 ((nL_0 (by omega)).mp z)) ?_
      rw [nL_rem hx hy]
      refine t_lstore (pc' := 31) (L' := [.long _, _, .long _, _, .long _, _, .long _, _, .long _, _]) dX12_divisor_29 rfl (Nat.le_of_ble_eq_true rfl) rfl ?_
      refine s_lload (pc' := 33) dX12_divisor_31 rfl rfl ?_
      refine t_lstore (pc' := 35) (L' := [.long _, _, .long _, _, .long _, _, .long _, _, .long _, _]) dX12_divisor_33 rfl (Nat.le_of_ble_eq_true rfl) rfl ?_
      refine s_lload (pc' := 37) dX12_divisor_35 rfl rfl ?_
      refine t_lstore (pc' := 39) (L' := [.long _, _, .long _, _, .long _, _, .long _, _, .long _, _]) dX12_divisor_37 rfl (Nat.le_of_ble_eq_true rfl) rfl ?_
      refine s_goto (tgt := 17) dX12_divisor_39 (by decide) ?_
      exact ih y (x % y) _ _ (by omega) hy (by omega) (by rw [Nat.gcd_comm y (x % y), ← Nat.gcd_rec y x, Nat.gcd_comm y x]; exact hg)
set_option maxHeartbeats 200000 in
theorem c_X12_divisor {N : Nat} {S : Nat → Nat × Nat} {I : Nat → Nat → Int32} {J : Nat → Nat → Int64} {Q : Nat → Nat → Option Nat} {κ : Option Value → HP → Prop} {a b : Nat} (ha : a < 2 ^ 62) (hb : b < 2 ^ 62) (hk : κ (some (.long (nL (Nat.gcd a b)))) (N, S, I, J, Q)) : CT E1 M_X12_divisor [.long (nL a), .long (nL b)] (N, S, I, J, Q) κ := by
  refine ofSP mk_X12_divisor (Nat.le_of_ble_eq_true rfl) (L := [.long _, .retAddr _, .long _, .retAddr _, .retAddr _, .retAddr _, .retAddr _, .retAddr _, .retAddr _, .retAddr _]) rfl ?_
  refine s_lload_n (pc' := 1) dX12_divisor_0 rfl rfl ?_
  refine s_lconst (pc' := 2) (v := 0) dX12_divisor_1 rfl (by decide) ?_
  refine s_lcmp (pc' := 3) dX12_divisor_2 rfl ?_
  refine s_ifgeT (tgt := 11) dX12_divisor_3 (by decide) ((lg_cmp_ge _ _).mpr ((nL_leI (a := 0) (by decide) (by omega)).mpr (Nat.zero_le _))) ?_
  refine s_lload_n (pc' := 12) dX12_divisor_11 rfl rfl ?_
  refine t_lstore (pc' := 14) (L' := [.long _, .retAddr _, .long _, .retAddr _, .long _, .retAddr _, .retAddr _, .retAddr _, .retAddr _, .retAddr _]) dX12_divisor_12 rfl (Nat.le_of_ble_eq_true rfl) rfl ?_
  refine s_lload_n (pc' := 15) dX12_divisor_14 rfl rfl ?_
  refine t_lstore (pc' := 17) (L' := [.long _, .retAddr _, .long _, .retAddr _, .long _, .retAddr _, .long _, .retAddr _, .retAddr _, .retAddr _]) dX12_divisor_15 rfl (Nat.le_of_ble_eq_true rfl) rfl ?_
  exact l_X12_divisor hk b a b _ _ (Nat.le_refl _) ha hb rfl
set_option maxHeartbeats 200000 in
theorem l_X12_chance_s {N : Nat} {S : Nat → Nat × Nat} {I : Nat → Nat → Int32} {J : Nat → Nat → Int64} {Q : Nat → Nat → Option Nat} {κ : Option Value → HP → Prop} {v c s : Nat} {n best w : Int32} {g : Int64} (hv : v < 10) (hc : c ≤ 5) (hs : s ≤ 12) (h57 : I 57 v = nI c) (h58 : I 58 v = nI s) {d K : Nat} (hd : d < c) (hK : K < 64) (hk : ∀ J' (x9 : Value), RBJ J J' s d → R9 J' (fun t => sc (Wy d s) s (K + 1) t) → SP E1 M_X12_chance κ 188 [.ref 54, .int (nI v), .int n, .int best, .int w, .long g, .retAddr 0, .int (nI d), .int (nI K), x9, .retAddr 0, .retAddr 0, .retAddr 0, .retAddr 0, .retAddr 0, .retAddr 0, .retAddr 0] [] (N, S, I, J', Q) 0 0) : ∀ dd : Nat, ∀ u J', u + dd = s → RBJ J J' s d → R9 J' (fun t => scu (Wy d s) s K u t) → SP E1 M_X12_chance κ 139 [.ref 54, .int (nI v), .int n, .int best, .int w, .long g, .retAddr 0, .int (nI d), .int (nI K), .int (nI (u + 1)), .retAddr 0, .retAddr 0, .retAddr 0, .retAddr 0, .retAddr 0, .retAddr 0, .retAddr 0] [] (N, S, I, J', Q) 0 0 := by
  intro dd
  induction dd with
  | zero =>
    intro u J' hd2 b r
    obtain rfl : u = s := by omega
    refine s_iload (pc' := 141) dX12_chance_139 rfl rfl ?_
    refine s_aload_n (pc' := 142) dX12_chance_141 rfl rfl ?_
    refine s_getS (pc' := 145) (b := 58) dX12_chance_142 rfl (by decide) rfl (by decide) fa_X12_19_12 rfl rfl ?_
    refine s_iload_n (pc' := 146) dX12_chance_145 rfl rfl ?_
    refine t_iald (pc' := 147) dX12_chance_146 rfl sh_58 rfl hv ?_
    refine s_icmpgtT (tgt := 188) dX12_chance_147 (by decide) (by rw [h58]; exact nI_lt (by omega) (by omega)) ?_
    exact hk J' _ b r.e
  | succ dd ih =>
    intro u J' hd2 b r
    have wl := Wy_le (s := s) d K
    have pl := pw_le (c := d) (s := s) (by omega) hs
    have e88 : J' 88 K = nL (Wy d s K) := b.2 K hK
    refine s_iload (pc' := 141) dX12_chance_139 rfl rfl ?_
    refine s_aload_n (pc' := 142) dX12_chance_141 rfl rfl ?_
    refine s_getS (pc' := 145) (b := 58) dX12_chance_142 rfl (by decide) rfl (by decide) fa_X12_19_12 rfl rfl ?_
    refine s_iload_n (pc' := 146) dX12_chance_145 rfl rfl ?_
    refine t_iald (pc' := 147) dX12_chance_146 rfl sh_58 rfl hv ?_
    refine s_icmpgtF (pc' := 150) (tgt := 188) dX12_chance_147 (by decide) rfl (by rw [h58]; exact Int32.not_lt.mpr (nI_le (by omega) (by omega))) ?_
    refine s_aload_n (pc' := 151) dX12_chance_150 rfl rfl ?_
    refine s_getS (pc' := 154) (b := 88) dX12_chance_151 rfl (by decide) rfl (by decide) fa_X12_111_12 rfl rfl ?_
    refine s_iload (pc' := 156) dX12_chance_154 rfl rfl ?_
    refine t_lald (pc' := 157) dX12_chance_156 rfl sh_88 rfl hK ?_
    refine s_lconst (pc' := 158) (v := 0) dX12_chance_157 rfl (by decide) ?_
    refine s_lcmp (pc' := 159) dX12_chance_158 rfl ?_
    refine s_ifle (pc' := 162) (tgt := 188) dX12_chance_159 (by decide) rfl (fun c159 => ?_) (fun c159 => ?_)
    · exact hk J' _ b (r.n (by rw [lg_cmp_le, e88] at c159; have := (nL_leI (b := 0) (by omega) (by decide)).mp c159; omega))
    · have f0 : Wy d s K ≠ 0 := fun z => c159 (by rw [lg_cmp_le, e88, z]; exact Int64.le_refl _)
      have kd : K ≤ d * s := Nat.le_of_not_lt (fun z => f0 (Wy_z d K z))
      have ds : d * s ≤ 4 * 12 := Nat.mul_le_mul (by omega) hs
      have b64 : K + (u + 1) < 64 := by omega
      refine s_aload_n (pc' := 163) dX12_chance_162 rfl rfl ?_
      refine s_getS (pc' := 166) (b := 89) dX12_chance_163 rfl (by decide) rfl (by decide) fa_X12_114_12 rfl rfl ?_
      refine s_iload (pc' := 168) dX12_chance_166 rfl rfl ?_
      refine s_iload (pc' := 170) dX12_chance_168 rfl rfl ?_
      refine s_iadd (pc' := 171) dX12_chance_170 rfl ?_
      refine s_dup2 (pc' := 172) dX12_chance_171 rfl rfl rfl ?_
      refine t_lald (pc' := 173) (q := K + (u + 1)) dX12_chance_172 rfl sh_89 (nI_add K (u + 1)) b64 ?_
      refine s_aload_n (pc' := 174) dX12_chance_173 rfl rfl ?_
      refine s_getS (pc' := 177) (b := 88) dX12_chance_174 rfl (by decide) rfl (by decide) fa_X12_111_12 rfl rfl ?_
      refine s_iload (pc' := 179) dX12_chance_177 rfl rfl ?_
      refine t_lald (pc' := 180) dX12_chance_179 rfl sh_88 rfl hK ?_
      refine s_ladd (pc' := 181) dX12_chance_180 rfl ?_
      refine t_last (pc' := 182) (q := K + (u + 1)) dX12_chance_181 rfl sh_89 (nI_add K (u + 1)) b64 ?_
      refine t_iinc (pc' := 185) (v := nI (u + 2)) (L' := [.ref 54, .int _, .int _, .int _, .int _, .long _, .retAddr _, .int _, .int _, .int _, .retAddr _, .retAddr _, .retAddr _, .retAddr _, .retAddr _, .retAddr _, .retAddr _]) dX12_chance_182 rfl rfl (nI_inc (u + 1)) rfl ?_
      refine s_goto (tgt := 139) dX12_chance_185 (by decide) ?_
      exact ih (u + 1) _ (by omega) b.up (r.st (by rw [e88]) b64)
set_option maxHeartbeats 200000 in
theorem l_X12_chance_k {N : Nat} {S : Nat → Nat × Nat} {I : Nat → Nat → Int32} {J : Nat → Nat → Int64} {Q : Nat → Nat → Option Nat} {κ : Option Value → HP → Prop} {v c s : Nat} {n best w : Int32} {g : Int64} (hv : v < 10) (hc : c ≤ 5) (hs : s ≤ 12) (h57 : I 57 v = nI c) (h58 : I 58 v = nI s) {d : Nat} (hd : d < c) (hk : ∀ J' (x9 : Value), RBJ J J' s d → R9 J' (fun t => sc (Wy d s) s 64 t) → SP E1 M_X12_chance κ 194 [.ref 54, .int (nI v), .int n, .int best, .int w, .long g, .retAddr 0, .int (nI d), .int (nI 64), x9, .retAddr 0, .retAddr 0, .retAddr 0, .retAddr 0, .retAddr 0, .retAddr 0, .retAddr 0] [] (N, S, I, J', Q) 0 0) : ∀ dd : Nat, ∀ K J' (x9 : Value), K + dd = 64 → RBJ J J' s d → R9 J' (fun t => sc (Wy d s) s K t) → SP E1 M_X12_chance κ 129 [.ref 54, .int (nI v), .int n, .int best, .int w, .long g, .retAddr 0, .int (nI d), .int (nI K), x9, .retAddr 0, .retAddr 0, .retAddr 0, .retAddr 0, .retAddr 0, .retAddr 0, .retAddr 0] [] (N, S, I, J', Q) 0 0 := by
  intro dd
  induction dd with
  | zero =>
    intro K J' x9 hd2 b r
    obtain rfl : K = 64 := by omega
    refine s_iload (pc' := 131) dX12_chance_129 rfl rfl ?_
    refine s_bipush (pc' := 133) (v := 64) dX12_chance_131 rfl (by decide) ?_
    refine s_icmpgeT (tgt := 194) dX12_chance_133 (by decide) (by decide) ?_
    exact hk J' _ b r
  | succ dd ih =>
    intro K J' x9 hd2 b r
    refine s_iload (pc' := 131) dX12_chance_129 rfl rfl ?_
    refine s_bipush (pc' := 133) (v := 64) dX12_chance_131 rfl (by decide) ?_
    refine s_icmpgeF (pc' := 136) (tgt := 194) dX12_chance_133 (by decide) rfl (nI_ge (b := 64) (by omega) (by decide)) ?_
    refine s_iconst (pc' := 137) (v := 1) dX12_chance_136 rfl (by decide) ?_
    refine t_istore (pc' := 139) (L' := [.ref 54, .int _, .int _, .int _, .int _, .long _, _, .int _, .int _, .int _, _, _, _, _, _, _, _]) dX12_chance_137 rfl (Nat.le_of_ble_eq_true rfl) rfl ?_
    refine l_X12_chance_s hv hc hs h57 h58 hd (by omega) (fun J2 y9 b2 r2 => ?_) s 0 J' (by omega) b r.b
    refine t_iinc (pc' := 191) (v := nI (K + 1)) (L' := [.ref 54, .int _, .int _, .int _, .int _, .long _, _, .int _, .int _, _, _, _, _, _, _, _, _]) dX12_chance_188 rfl rfl (nI_inc K) rfl ?_
    refine s_goto (tgt := 129) dX12_chance_191 (by decide) ?_
    exact ih (K + 1) J2 _ (by omega) b2 r2
set_option maxHeartbeats 200000 in
theorem l_X12_chance_z {N : Nat} {S : Nat → Nat × Nat} {I : Nat → Nat → Int32} {J : Nat → Nat → Int64} {Q : Nat → Nat → Option Nat} {κ : Option Value → HP → Prop} {v c s : Nat} {n best w : Int32} {g : Int64} (hv : v < 10) (hc : c ≤ 5) (hs : s ≤ 12) (h57 : I 57 v = nI c) (h58 : I 58 v = nI s) {d : Nat} (hk : ∀ J' (x9 : Value), RBJ J J' s d → R9 J' (fun _ => 0) → SP E1 M_X12_chance κ 126 [.ref 54, .int (nI v), .int n, .int best, .int w, .long g, .retAddr 0, .int (nI d), .int (nI 64), x9, .retAddr 0, .retAddr 0, .retAddr 0, .retAddr 0, .retAddr 0, .retAddr 0, .retAddr 0] [] (N, S, I, J', Q) 0 0) : ∀ dd : Nat, ∀ k J' (x9 : Value), k + dd = 64 → RBJ J J' s d → (∀ t, t < k → J' 89 t = 0) → SP E1 M_X12_chance κ 105 [.ref 54, .int (nI v), .int n, .int best, .int w, .long g, .retAddr 0, .int (nI d), .int (nI k), x9, .retAddr 0, .retAddr 0, .retAddr 0, .retAddr 0, .retAddr 0, .retAddr 0, .retAddr 0] [] (N, S, I, J', Q) 0 0 := by
  intro dd
  induction dd with
  | zero =>
    intro k J' x9 hd2 b r
    obtain rfl : k = 64 := by omega
    refine s_iload (pc' := 107) dX12_chance_105 rfl rfl ?_
    refine s_bipush (pc' := 109) (v := 64) dX12_chance_107 rfl (by decide) ?_
    refine s_icmpgeT (tgt := 126) dX12_chance_109 (by decide) (by decide) ?_
    exact hk J' _ b r
  | succ dd ih =>
    intro k J' x9 hd2 b r
    refine s_iload (pc' := 107) dX12_chance_105 rfl rfl ?_
    refine s_bipush (pc' := 109) (v := 64) dX12_chance_107 rfl (by decide) ?_
    refine s_icmpgeF (pc' := 112) (tgt := 126) dX12_chance_109 (by decide) rfl (nI_ge (b := 64) (by omega) (by decide)) ?_
    refine s_aload_n (pc' := 113) dX12_chance_112 rfl rfl ?_
    refine s_getS (pc' := 116) (b := 89) dX12_chance_113 rfl (by decide) rfl (by decide) fa_X12_114_12 rfl rfl ?_
    refine s_iload (pc' := 118) dX12_chance_116 rfl rfl ?_
    refine s_lconst (pc' := 119) (v := 0) dX12_chance_118 rfl (by decide) ?_
    refine t_last (pc' := 120) dX12_chance_119 rfl sh_89 rfl (by omega) ?_
    refine t_iinc (pc' := 123) (v := nI (k + 1)) (L' := [.ref 54, .int _, .int _, .int _, .int _, .long _, _, .int _, .int _, _, _, _, _, _, _, _, _]) dX12_chance_120 rfl rfl (nI_inc k) rfl ?_
    refine s_goto (tgt := 105) dX12_chance_123 (by decide) ?_
    refine ih (k + 1) _ _ (by omega) b.up (fun t ht => ?_)
    by_cases e : t = k
    · rw [e, up2_s]
    · rw [up2_e e]; exact r t (by omega)
set_option maxHeartbeats 200000 in
theorem l_X12_chance_c {N : Nat} {S : Nat → Nat × Nat} {I : Nat → Nat → Int32} {J : Nat → Nat → Int64} {Q : Nat → Nat → Option Nat} {κ : Option Value → HP → Prop} {v c s : Nat} {n best w : Int32} {g : Int64} (hv : v < 10) (hc : c ≤ 5) (hs : s ≤ 12) (h57 : I 57 v = nI c) (h58 : I 58 v = nI s) {d : Nat} (hk : ∀ J' (x9 : Value), RBJ J J' s (d + 1) → SP E1 M_X12_chance κ 224 [.ref 54, .int (nI v), .int n, .int best, .int w, .long g, .retAddr 0, .int (nI d), .int (nI 64), x9, .retAddr 0, .retAddr 0, .retAddr 0, .retAddr 0, .retAddr 0, .retAddr 0, .retAddr 0] [] (N, S, I, J', Q) 0 0) : ∀ dd : Nat, ∀ k J' (x9 : Value), k + dd = 64 → RC8 J J' s d k → SP E1 M_X12_chance κ 197 [.ref 54, .int (nI v), .int n, .int best, .int w, .long g, .retAddr 0, .int (nI d), .int (nI k), x9, .retAddr 0, .retAddr 0, .retAddr 0, .retAddr 0, .retAddr 0, .retAddr 0, .retAddr 0] [] (N, S, I, J', Q) 0 0 := by
  intro dd
  induction dd with
  | zero =>
    intro k J' x9 hd2 b
    obtain rfl : k = 64 := by omega
    refine s_iload (pc' := 199) dX12_chance_197 rfl rfl ?_
    refine s_bipush (pc' := 201) (v := 64) dX12_chance_199 rfl (by decide) ?_
    refine s_icmpgeT (tgt := 224) dX12_chance_201 (by decide) (by decide) ?_
    exact hk J' _ b.e
  | succ dd ih =>
    intro k J' x9 hd2 b
    refine s_iload (pc' := 199) dX12_chance_197 rfl rfl ?_
    refine s_bipush (pc' := 201) (v := 64) dX12_chance_199 rfl (by decide) ?_
    refine s_icmpgeF (pc' := 204) (tgt := 224) dX12_chance_201 (by decide) rfl (nI_ge (b := 64) (by omega) (by decide)) ?_
    refine s_aload_n (pc' := 205) dX12_chance_204 rfl rfl ?_
    refine s_getS (pc' := 208) (b := 88) dX12_chance_205 rfl (by decide) rfl (by decide) fa_X12_111_12 rfl rfl ?_
    refine s_iload (pc' := 210) dX12_chance_208 rfl rfl ?_
    refine s_aload_n (pc' := 211) dX12_chance_210 rfl rfl ?_
    refine s_getS (pc' := 214) (b := 89) dX12_chance_211 rfl (by decide) rfl (by decide) fa_X12_114_12 rfl rfl ?_
    refine s_iload (pc' := 216) dX12_chance_214 rfl rfl ?_
    refine t_lald (pc' := 217) dX12_chance_216 rfl sh_89 rfl (by omega) ?_
    refine t_last (pc' := 218) dX12_chance_217 rfl sh_88 rfl (by omega) ?_
    refine t_iinc (pc' := 221) (v := nI (k + 1)) (L' := [.ref 54, .int _, .int _, .int _, .int _, .long _, _, .int _, .int _, _, _, _, _, _, _, _, _]) dX12_chance_218 rfl rfl (nI_inc k) rfl ?_
    refine s_goto (tgt := 197) dX12_chance_221 (by decide) ?_
    exact ih (k + 1) _ _ (by omega) (b.st (by omega) rfl)
set_option maxHeartbeats 200000 in
theorem l_X12_chance_d {N : Nat} {S : Nat → Nat × Nat} {I : Nat → Nat → Int32} {J : Nat → Nat → Int64} {Q : Nat → Nat → Option Nat} {κ : Option Value → HP → Prop} {v c s : Nat} {n best w : Int32} {g : Int64} (hv : v < 10) (hc : c ≤ 5) (hs : s ≤ 12) (h57 : I 57 v = nI c) (h58 : I 58 v = nI s) (hk : ∀ J' (x8 x9 : Value), RBJ J J' s c → SP E1 M_X12_chance κ 230 [.ref 54, .int (nI v), .int n, .int best, .int w, .long g, .retAddr 0, .int (nI c), x8, x9, .retAddr 0, .retAddr 0, .retAddr 0, .retAddr 0, .retAddr 0, .retAddr 0, .retAddr 0] [] (N, S, I, J', Q) 0 0) : ∀ dd : Nat, ∀ d J' (x8 x9 : Value), d + dd = c → RBJ J J' s d → SP E1 M_X12_chance κ 91 [.ref 54, .int (nI v), .int n, .int best, .int w, .long g, .retAddr 0, .int (nI d), x8, x9, .retAddr 0, .retAddr 0, .retAddr 0, .retAddr 0, .retAddr 0, .retAddr 0, .retAddr 0] [] (N, S, I, J', Q) 0 0 := by
  intro dd
  induction dd with
  | zero =>
    intro d J' x8 x9 hd2 b
    obtain rfl : d = c := by omega
    refine s_iload (pc' := 93) dX12_chance_91 rfl rfl ?_
    refine s_aload_n (pc' := 94) dX12_chance_93 rfl rfl ?_
    refine s_getS (pc' := 97) (b := 57) dX12_chance_94 rfl (by decide) rfl (by decide) fa_X12_16_12 rfl rfl ?_
    refine s_iload_n (pc' := 98) dX12_chance_97 rfl rfl ?_
    refine t_iald (pc' := 99) dX12_chance_98 rfl sh_57 rfl hv ?_
    refine s_icmpgeT (tgt := 230) dX12_chance_99 (by decide) (by rw [h57]; exact Int32.le_refl _) ?_
    exact hk J' _ _ b
  | succ dd ih =>
    intro d J' x8 x9 hd2 b
    refine s_iload (pc' := 93) dX12_chance_91 rfl rfl ?_
    refine s_aload_n (pc' := 94) dX12_chance_93 rfl rfl ?_
    refine s_getS (pc' := 97) (b := 57) dX12_chance_94 rfl (by decide) rfl (by decide) fa_X12_16_12 rfl rfl ?_
    refine s_iload_n (pc' := 98) dX12_chance_97 rfl rfl ?_
    refine t_iald (pc' := 99) dX12_chance_98 rfl sh_57 rfl hv ?_
    refine s_icmpgeF (pc' := 102) (tgt := 230) dX12_chance_99 (by decide) rfl (by rw [h57]; exact nI_ge (by omega) (by omega)) ?_
    refine s_iconst (pc' := 103) (v := 0) dX12_chance_102 rfl (by decide) ?_
    refine t_istore (pc' := 105) (L' := [.ref 54, .int _, .int _, .int _, .int _, .long _, _, .int _, .int _, _, _, _, _, _, _, _, _]) dX12_chance_103 rfl (Nat.le_of_ble_eq_true rfl) rfl ?_
    refine l_X12_chance_z hv hc hs h57 h58 (fun J2 y9 b2 r2 => ?_) 64 0 J' _ (by omega) b (fun _ h => absurd h (Nat.not_lt_zero _))
    refine s_iconst (pc' := 127) (v := 0) dX12_chance_126 rfl (by decide) ?_
    refine t_istore (pc' := 129) (L' := [.ref 54, .int _, .int _, .int _, .int _, .long _, _, .int _, .int _, _, _, _, _, _, _, _, _]) dX12_chance_127 rfl (Nat.le_of_ble_eq_true rfl) rfl ?_
    refine l_X12_chance_k hv hc hs h57 h58 (by omega) (fun J3 z9 b3 r3 => ?_) 64 0 J2 _ (by omega) b2 (R9.z r2)
    refine s_iconst (pc' := 195) (v := 0) dX12_chance_194 rfl (by decide) ?_
    refine t_istore (pc' := 197) (L' := [.ref 54, .int _, .int _, .int _, .int _, .long _, _, .int _, .int _, _, _, _, _, _, _, _, _]) dX12_chance_195 rfl (Nat.le_of_ble_eq_true rfl) rfl ?_
    refine l_X12_chance_c hv hc hs h57 h58 (fun J4 w9 b4 => ?_) 64 0 J3 _ (by omega) (RC8.z b3 r3)
    refine t_iinc (pc' := 227) (v := nI (d + 1)) (L' := [.ref 54, .int _, .int _, .int _, .int _, .long _, _, .int _, .int _, _, _, _, _, _, _, _, _]) dX12_chance_224 rfl rfl (nI_inc d) rfl ?_
    refine s_goto (tgt := 91) dX12_chance_227 (by decide) ?_
    exact ih (d + 1) J4 _ _ (by omega) b4
set_option maxHeartbeats 200000 in
theorem l_X12_chance_r {N : Nat} {S : Nat → Nat × Nat} {I : Nat → Nat → Int32} {J : Nat → Nat → Int64} {Q : Nat → Nat → Option Nat} {κ : Option Value → HP → Prop} {v c s : Nat} {n best w : Int32} {g : Int64} (hv : v < 10) (hc : c ≤ 5) (hs : s ≤ 12) (h57 : I 57 v = nI c) (h58 : I 58 v = nI s) (hk : ∀ J', RBJ J J' s 0 → SP E1 M_X12_chance κ 88 [.ref 54, .int (nI v), .int n, .int best, .int w, .long g, .retAddr 0, .int (nI 64), .retAddr 0, .retAddr 0, .retAddr 0, .retAddr 0, .retAddr 0, .retAddr 0, .retAddr 0, .retAddr 0, .retAddr 0] [] (N, S, I, J', Q) 0 0) : ∀ dd : Nat, ∀ k J', k + dd = 64 → (∀ a, a ≠ 88 → a ≠ 89 → J' a = J a) → (∀ t, t < k → J' 88 t = nL (Wy 0 s t)) → SP E1 M_X12_chance κ 58 [.ref 54, .int (nI v), .int n, .int best, .int w, .long g, .retAddr 0, .int (nI k), .retAddr 0, .retAddr 0, .retAddr 0, .retAddr 0, .retAddr 0, .retAddr 0, .retAddr 0, .retAddr 0, .retAddr 0] [] (N, S, I, J', Q) 0 0 := by
  intro dd
  induction dd with
  | zero =>
    intro k J' hd2 b r
    obtain rfl : k = 64 := by omega
    refine s_iload (pc' := 60) dX12_chance_58 rfl rfl ?_
    refine s_bipush (pc' := 62) (v := 64) dX12_chance_60 rfl (by decide) ?_
    refine s_icmpgeT (tgt := 88) dX12_chance_62 (by decide) (by decide) ?_
    exact hk J' ⟨b, r⟩
  | succ dd ih =>
    intro k J' hd2 b r
    refine s_iload (pc' := 60) dX12_chance_58 rfl rfl ?_
    refine s_bipush (pc' := 62) (v := 64) dX12_chance_60 rfl (by decide) ?_
    refine s_icmpgeF (pc' := 65) (tgt := 88) dX12_chance_62 (by decide) rfl (nI_ge (b := 64) (by omega) (by decide)) ?_
    refine s_aload_n (pc' := 66) dX12_chance_65 rfl rfl ?_
    refine s_getS (pc' := 69) (b := 88) dX12_chance_66 rfl (by decide) rfl (by decide) fa_X12_111_12 rfl rfl ?_
    refine s_iload (pc' := 71) dX12_chance_69 rfl rfl ?_
    refine s_iload (pc' := 73) dX12_chance_71 rfl rfl ?_
    refine s_ifne (pc' := 76) (tgt := 80) dX12_chance_73 (by decide) rfl (fun c73 => ?_) (fun c73 => ?_)
    · refine s_lconst (pc' := 81) (v := 0) dX12_chance_80 rfl (by decide) ?_
      refine t_last (pc' := 82) dX12_chance_81 rfl sh_88 rfl (by omega) ?_
      refine t_iinc (pc' := 85) (v := nI (k + 1)) (L' := [.ref 54, .int _, .int _, .int _, .int _, .long _, .retAddr _, .int _, .retAddr _, .retAddr _, .retAddr _, .retAddr _, .retAddr _, .retAddr _, .retAddr _, .retAddr _, .retAddr _]) dX12_chance_82 rfl rfl (nI_inc k) rfl ?_
      refine s_goto (tgt := 58) dX12_chance_85 (by decide) ?_
      refine ih (k + 1) _ (by omega) (fun a a1 a2 => by rw [up2_o a1]; exact b a a1 a2) (fun t ht => ?_)
      by_cases e : t = k
      · rw [e, up2_s, Wy, if_neg (fun z => c73 (by rw [z]; rfl))]; rfl
      · rw [up2_e e]; exact r t (by omega)
    · refine s_lconst (pc' := 77) (v := 1) dX12_chance_76 rfl (by decide) ?_
      refine s_goto (tgt := 81) dX12_chance_77 (by decide) ?_
      refine t_last (pc' := 82) dX12_chance_81 rfl sh_88 rfl (by omega) ?_
      refine t_iinc (pc' := 85) (v := nI (k + 1)) (L' := [.ref 54, .int _, .int _, .int _, .int _, .long _, .retAddr _, .int _, .retAddr _, .retAddr _, .retAddr _, .retAddr _, .retAddr _, .retAddr _, .retAddr _, .retAddr _, .retAddr _]) dX12_chance_82 rfl rfl (nI_inc k) rfl ?_
      refine s_goto (tgt := 58) dX12_chance_85 (by decide) ?_
      refine ih (k + 1) _ (by omega) (fun a a1 a2 => by rw [up2_o a1]; exact b a a1 a2) (fun t ht => ?_)
      by_cases e : t = k
      · rw [e, up2_s, Wy, if_pos ((nI_eq (b := 0) (by omega) (by decide)).mp (by first | exact c73 | exact Decidable.not_not.mp c73))]; rfl
      · rw [up2_e e]; exact r t (by omega)
theorem MQu.j {I I' : Nat → Nat → Int32} {J J' J2 : Nat → Nat → Int64} {D : Nat → Nat → Int32} {nv nr ns : Nat} (m : MQu I I' J J' D nv nr ns) (b : ∀ a, a ≠ 88 → a ≠ 89 → J2 a = J' a) : MQu I I' J J2 D nv nr ns :=
  ⟨m.1, m.2.1, fun a a1 a2 a3 => (b a a2 a3).trans (m.2.2.1 a a1 a2 a3), m.2.2.2.imp id (fun L => L.mv rfl rfl rfl (b 80 (by decide) (by decide)))⟩
theorem ch_tot {c s : Nat} (hc : c ≤ 5) (hs : s ≤ 12) : Ts (Wy c s) 64 = s ^ c := T_W c (Nat.lt_of_le_of_lt (Nat.mul_le_mul hc hs) (by decide))
theorem ch_hit {c s : Nat} {p : Nat → Bool} (hc : c ≤ 5) (hs : s ≤ 12) : TP (Wy c s) p 64 = TP (Wy c s) p 61 := TP_cut (a := 61) 3 (fun k h1 _ => Wy_z c k (Nat.lt_of_le_of_lt (Nat.mul_le_mul hc hs) (by omega)))
theorem ch_hl {c s : Nat} {p : Nat → Bool} (hc : c ≤ 5) (hs : s ≤ 12) : TP (Wy c s) p 61 ≤ s ^ c := by rw [← ch_tot hc hs, ← ch_hit hc hs]; exact TP_le _ _ _
set_option maxHeartbeats 200000 in
theorem l_X12_chance_t {N : Nat} {S : Nat → Nat × Nat} {I : Nat → Nat → Int32} {J : Nat → Nat → Int64} {Q : Nat → Nat → Option Nat} {κ : Option Value → HP → Prop} {v c s : Nat} {n best w : Int32} {g : Int64} (hv : v < 10) (hc : c ≤ 5) (hs : s ≤ 12) (h57 : I 57 v = nI c) (h58 : I 58 v = nI s) (hj : ∀ t, t < 64 → J 88 t = nL (Wy c s t)) (hk : SP E1 M_X12_chance κ 288 [.ref 54, .int (nI v), .int n, .int best, .int w, .long g, .retAddr 0, .long (nL (Ts (Wy c s) 64)), .retAddr 0, .long (nL (TP (Wy c s) (rch g n) 64)), .retAddr 0, .int (nI 64), .retAddr 0, .retAddr 0, .retAddr 0, .retAddr 0, .retAddr 0] [] (N, S, I, J, Q) 0 0) : ∀ d : Nat, ∀ k, k + d = 64 → SP E1 M_X12_chance κ 239 [.ref 54, .int (nI v), .int n, .int best, .int w, .long g, .retAddr 0, .long (nL (Ts (Wy c s) k)), .retAddr 0, .long (nL (TP (Wy c s) (rch g n) k)), .retAddr 0, .int (nI k), .retAddr 0, .retAddr 0, .retAddr 0, .retAddr 0, .retAddr 0] [] (N, S, I, J, Q) 0 0 := by
  intro d
  induction d with
  | zero =>
    intro k hd2
    obtain rfl : k = 64 := by omega
    refine s_iload (pc' := 241) dX12_chance_239 rfl rfl ?_
    refine s_bipush (pc' := 243) (v := 64) dX12_chance_241 rfl (by decide) ?_
    refine s_icmpgeT (tgt := 288) dX12_chance_243 (by decide) (by decide) ?_
    exact hk
  | succ d ih =>
    intro k hd2
    have e88 : J 88 k = nL (Wy c s k) := hj k (by omega)
    have eA : Ts (Wy c s) (k + 1) = Ts (Wy c s) k + Wy c s k := rfl
    have eG : TP (Wy c s) (rch g n) (k + 1) = TP (Wy c s) (rch g n) k + (if (rch g n) k = true then Wy c s k else 0) := rfl
    refine s_iload (pc' := 241) dX12_chance_239 rfl rfl ?_
    refine s_bipush (pc' := 243) (v := 64) dX12_chance_241 rfl (by decide) ?_
    refine s_icmpgeF (pc' := 246) (tgt := 288) dX12_chance_243 (by decide) rfl (nI_ge (b := 64) (by omega) (by decide)) ?_
    refine s_lload (pc' := 248) dX12_chance_246 rfl rfl ?_
    refine s_aload_n (pc' := 249) dX12_chance_248 rfl rfl ?_
    refine s_getS (pc' := 252) (b := 88) dX12_chance_249 rfl (by decide) rfl (by decide) fa_X12_111_12 rfl rfl ?_
    refine s_iload (pc' := 254) dX12_chance_252 rfl rfl ?_
    refine t_lald (pc' := 255) dX12_chance_254 rfl sh_88 rfl (by omega) ?_
    refine s_ladd (pc' := 256) dX12_chance_255 rfl ?_
    rw [e88, nL_add, ← eA]
    refine t_lstore (pc' := 258) (L' := [.ref 54, .int _, .int _, .int _, .int _, .long _, .retAddr _, .long _, .retAddr _, .long _, .retAddr _, .int _, .retAddr _, .retAddr _, .retAddr _, .retAddr _, .retAddr _]) dX12_chance_256 rfl (Nat.le_of_ble_eq_true rfl) rfl ?_
    refine s_iload (pc' := 260) dX12_chance_258 rfl rfl ?_
    refine s_i2l (pc' := 261) dX12_chance_260 rfl ?_
    refine s_lload (pc' := 263) dX12_chance_261 rfl rfl ?_
    refine s_ladd (pc' := 264) dX12_chance_263 rfl ?_
    refine s_iload_n (pc' := 265) dX12_chance_264 rfl rfl ?_
    refine s_i2l (pc' := 266) dX12_chance_265 rfl ?_
    refine s_lcmp (pc' := 267) dX12_chance_266 rfl ?_
    refine s_iflt (pc' := 270) (tgt := 282) dX12_chance_267 (by decide) rfl (fun c267 => ?_) (fun c267 => ?_)
    · refine t_iinc (pc' := 285) (v := nI (k + 1)) (L' := [.ref 54, .int _, .int _, .int _, .int _, .long _, .retAddr _, .long _, .retAddr _, .long _, .retAddr _, .int _, .retAddr _, .retAddr _, .retAddr _, .retAddr _, .retAddr _]) dX12_chance_282 rfl rfl (nI_inc k) rfl ?_
      refine s_goto (tgt := 239) dX12_chance_285 (by decide) ?_
      refine s_eq ?_ rfl rfl (ih (k + 1) (by omega))
      rw [eG, if_neg (show ¬ rch g n k = true from fun z => Int64.not_le.mpr ((lg_cmp_lt _ _).mp c267) (of_decide_eq_true z))]
      rfl
    · refine s_lload (pc' := 272) dX12_chance_270 rfl rfl ?_
      refine s_aload_n (pc' := 273) dX12_chance_272 rfl rfl ?_
      refine s_getS (pc' := 276) (b := 88) dX12_chance_273 rfl (by decide) rfl (by decide) fa_X12_111_12 rfl rfl ?_
      refine s_iload (pc' := 278) dX12_chance_276 rfl rfl ?_
      refine t_lald (pc' := 279) dX12_chance_278 rfl sh_88 rfl (by omega) ?_
      refine s_ladd (pc' := 280) dX12_chance_279 rfl ?_
      rw [e88, nL_add]
      refine t_lstore (pc' := 282) (L' := [.ref 54, .int _, .int _, .int _, .int _, .long _, .retAddr _, .long _, .retAddr _, .long _, .retAddr _, .int _, .retAddr _, .retAddr _, .retAddr _, .retAddr _, .retAddr _]) dX12_chance_280 rfl (Nat.le_of_ble_eq_true rfl) rfl ?_
      refine t_iinc (pc' := 285) (v := nI (k + 1)) (L' := [.ref 54, .int _, .int _, .int _, .int _, .long _, .retAddr _, .long _, .retAddr _, .long _, .retAddr _, .int _, .retAddr _, .retAddr _, .retAddr _, .retAddr _, .retAddr _]) dX12_chance_282 rfl rfl (nI_inc k) rfl ?_
      refine s_goto (tgt := 239) dX12_chance_285 (by decide) ?_
      refine s_eq ?_ rfl rfl (ih (k + 1) (by omega))
      rw [eG, if_pos (show rch g n k = true from decide_eq_true (Int64.not_lt.mp (fun z => c267 ((lg_cmp_lt _ _).mpr z))))]
theorem f_X12_chance {N : Nat} {S : Nat → Nat × Nat} {I : Nat → Nat → Int32} {J : Nat → Nat → Int64} {Q : Nat → Nat → Option Nat} {κ : Option Value → HP → Prop} {v : Nat} {n best w : Int32} {g : Int64} {t h : Nat} (ht : t ≤ 248832) (ht0 : 0 < t) (hh : h ≤ t) (k0 : w = 0 → κ (some (.long (nL (abv t h best / Nat.gcd (abv t h best) (blw t best))))) (N, S, I, J, Q)) (k1 : w ≠ 0 → κ (some (.long (nL (blw t best / Nat.gcd (abv t h best) (blw t best))))) (N, S, I, J, Q)) : SP E1 M_X12_chance κ 288 [.ref 54, .int (nI v), .int n, .int best, .int w, .long g, .retAddr 0, .long (nL t), .retAddr 0, .long (nL h), .retAddr 0, .int (nI 64), .retAddr 0, .retAddr 0, .retAddr 0, .retAddr 0, .retAddr 0] [] (N, S, I, J, Q) 0 0 := by
  refine s_iload_n (pc' := 289) dX12_chance_288 rfl rfl ?_
  refine s_ifeq (pc' := 292) (tgt := 312) dX12_chance_289 (by decide) rfl (fun c289 => ?_) (fun c289 => ?_)
  · refine s_lload (pc' := 314) dX12_chance_312 rfl rfl ?_
    have ea : abv t h best = h := if_pos c289
    refine t_lstore (pc' := 316) (L' := [.ref 54, .int _, .int _, .int _, .int _, .long _, .retAddr _, .long _, .retAddr _, .long _, .retAddr _, .long _, .retAddr _, .retAddr _, .retAddr _, .retAddr _, .retAddr _]) dX12_chance_314 rfl (Nat.le_of_ble_eq_true rfl) rfl ?_
    refine s_iload_n (pc' := 317) dX12_chance_316 rfl rfl ?_
    refine s_ifeqT (tgt := 328) dX12_chance_317 (by decide) c289 ?_
    refine s_lload (pc' := 330) dX12_chance_328 rfl rfl ?_
    have eb : blw t best = t := if_pos c289
    have lt := abv_lt (best := best) ht hh
    have gp := gcd_pos (h := h) (best := best) ht0
    have gl : Nat.gcd (abv t h best) (blw t best) ≤ blw t best := Nat.le_of_dvd (by rw [eb]; exact ht0) (Nat.gcd_dvd_right _ _)
    rw [ea, eb] at gp gl lt
    refine t_lstore (pc' := 332) (L' := [.ref 54, .int _, .int _, .int _, .int _, .long _, .retAddr _, .long _, .retAddr _, .long _, .retAddr _, .long _, .retAddr _, .long _, .retAddr _, .retAddr _, .retAddr _]) dX12_chance_330 rfl (Nat.le_of_ble_eq_true rfl) rfl ?_
    refine s_lload (pc' := 334) dX12_chance_332 rfl rfl ?_
    refine s_lload (pc' := 336) dX12_chance_334 rfl rfl ?_
    refine s_callS (pc' := 339) (As := [.long _, .long _]) dX12_chance_336 rfl mk_X12_divisor ml_X12_300 sm_X12_divisor rfl rfl ⟨Nat.le_of_ble_eq_true rfl, Nat.le_of_ble_eq_true rfl, Nat.le_of_ble_eq_true rfl, Nat.le_of_ble_eq_true rfl⟩ (Nat.le_of_ble_eq_true rfl) (c_X12_divisor (a := t) (b := h) (by omega) (by omega) ?_)
    rw [Nat.gcd_comm]
    refine t_lstore (pc' := 341) (L' := [.ref 54, .int _, .int _, .int _, .int _, .long _, .retAddr _, .long _, .retAddr _, .long _, .retAddr _, .long _, .retAddr _, .long _, .retAddr _, .long _, .retAddr _]) dX12_chance_339 rfl (Nat.le_of_ble_eq_true rfl) rfl ?_
    refine s_iload (pc' := 343) dX12_chance_341 rfl rfl ?_
    refine s_ifne (pc' := 346) (tgt := 354) dX12_chance_343 (by decide) rfl (fun c343 => ?_) (fun c343 => ?_)
    · refine s_lload (pc' := 356) dX12_chance_354 rfl rfl ?_
      refine s_lload (pc' := 358) dX12_chance_356 rfl rfl ?_
      refine s_ldiv (pc' := 359) dX12_chance_358 rfl (fun z => by have := (nL_0 (by omega)).mp z; omega) ?_
      exact s_lret dX12_chance_359 rfl (by decide) (by decide) (by rw [nL_div (by omega) (by omega)]; have q := k1 c343; rw [ea, eb] at q; exact q)
    · refine s_lload (pc' := 348) dX12_chance_346 rfl rfl ?_
      refine s_lload (pc' := 350) dX12_chance_348 rfl rfl ?_
      refine s_ldiv (pc' := 351) dX12_chance_350 rfl (fun z => by have := (nL_0 (by omega)).mp z; omega) ?_
      refine s_goto (tgt := 359) dX12_chance_351 (by decide) ?_
      exact s_lret dX12_chance_359 rfl (by decide) (by decide) (by rw [nL_div (by omega) (by omega)]; have q := k0 (by first | exact c343 | exact Decidable.not_not.mp c343); rw [ea, eb] at q; exact q)
  · refine s_lload (pc' := 294) dX12_chance_292 rfl rfl ?_
    refine s_lload (pc' := 296) dX12_chance_294 rfl rfl ?_
    refine s_lmul (pc' := 297) dX12_chance_296 rfl ?_
    refine s_lload (pc' := 299) dX12_chance_297 rfl rfl ?_
    refine s_lload (pc' := 301) dX12_chance_299 rfl rfl ?_
    refine s_lsub (pc' := 302) dX12_chance_301 rfl ?_
    refine s_lload (pc' := 304) dX12_chance_302 rfl rfl ?_
    refine s_lload (pc' := 306) dX12_chance_304 rfl rfl ?_
    refine s_lsub (pc' := 307) dX12_chance_306 rfl ?_
    refine s_lmul (pc' := 308) dX12_chance_307 rfl ?_
    refine s_lsub (pc' := 309) dX12_chance_308 rfl ?_
    refine s_goto (tgt := 314) dX12_chance_309 (by decide) ?_
    have ea : abv t h best = t * t - (t - h) * (t - h) := if_neg c289
    rw [nL_mul, nL_sub hh, nL_mul, nL_sub (tt_h hh), ← ea]
    refine t_lstore (pc' := 316) (L' := [.ref 54, .int _, .int _, .int _, .int _, .long _, .retAddr _, .long _, .retAddr _, .long _, .retAddr _, .long _, .retAddr _, .retAddr _, .retAddr _, .retAddr _, .retAddr _]) dX12_chance_314 rfl (Nat.le_of_ble_eq_true rfl) rfl ?_
    refine s_iload_n (pc' := 317) dX12_chance_316 rfl rfl ?_
    refine s_ifeqF (pc' := 320) (tgt := 328) dX12_chance_317 (by decide) rfl c289 ?_
    refine s_lload (pc' := 322) dX12_chance_320 rfl rfl ?_
    refine s_lload (pc' := 324) dX12_chance_322 rfl rfl ?_
    refine s_lmul (pc' := 325) dX12_chance_324 rfl ?_
    refine s_goto (tgt := 330) dX12_chance_325 (by decide) ?_
    have eb : blw t best = t * t := if_neg c289
    rw [nL_mul, ← eb]
    have lt := abv_lt (best := best) ht hh
    have gp := gcd_pos (h := h) (best := best) ht0
    have gl : Nat.gcd (abv t h best) (blw t best) ≤ blw t best := Nat.le_of_dvd (by rw [eb]; exact Nat.mul_pos ht0 ht0) (Nat.gcd_dvd_right _ _)
    refine t_lstore (pc' := 332) (L' := [.ref 54, .int _, .int _, .int _, .int _, .long _, .retAddr _, .long _, .retAddr _, .long _, .retAddr _, .long _, .retAddr _, .long _, .retAddr _, .retAddr _, .retAddr _]) dX12_chance_330 rfl (Nat.le_of_ble_eq_true rfl) rfl ?_
    refine s_lload (pc' := 334) dX12_chance_332 rfl rfl ?_
    refine s_lload (pc' := 336) dX12_chance_334 rfl rfl ?_
    refine s_callS (pc' := 339) (As := [.long _, .long _]) dX12_chance_336 rfl mk_X12_divisor ml_X12_300 sm_X12_divisor rfl rfl ⟨Nat.le_of_ble_eq_true rfl, Nat.le_of_ble_eq_true rfl, Nat.le_of_ble_eq_true rfl, Nat.le_of_ble_eq_true rfl⟩ (Nat.le_of_ble_eq_true rfl) (c_X12_divisor (a := blw t best) (b := abv t h best) (by omega) (by omega) ?_)
    rw [Nat.gcd_comm]
    refine t_lstore (pc' := 341) (L' := [.ref 54, .int _, .int _, .int _, .int _, .long _, .retAddr _, .long _, .retAddr _, .long _, .retAddr _, .long _, .retAddr _, .long _, .retAddr _, .long _, .retAddr _]) dX12_chance_339 rfl (Nat.le_of_ble_eq_true rfl) rfl ?_
    refine s_iload (pc' := 343) dX12_chance_341 rfl rfl ?_
    refine s_ifne (pc' := 346) (tgt := 354) dX12_chance_343 (by decide) rfl (fun c343 => ?_) (fun c343 => ?_)
    · refine s_lload (pc' := 356) dX12_chance_354 rfl rfl ?_
      refine s_lload (pc' := 358) dX12_chance_356 rfl rfl ?_
      refine s_ldiv (pc' := 359) dX12_chance_358 rfl (fun z => by have := (nL_0 (by omega)).mp z; omega) ?_
      exact s_lret dX12_chance_359 rfl (by decide) (by decide) (by rw [nL_div (by omega) (by omega)]; have q := k1 c343; exact q)
    · refine s_lload (pc' := 348) dX12_chance_346 rfl rfl ?_
      refine s_lload (pc' := 350) dX12_chance_348 rfl rfl ?_
      refine s_ldiv (pc' := 351) dX12_chance_350 rfl (fun z => by have := (nL_0 (by omega)).mp z; omega) ?_
      refine s_goto (tgt := 359) dX12_chance_351 (by decide) ?_
      exact s_lret dX12_chance_359 rfl (by decide) (by decide) (by rw [nL_div (by omega) (by omega)]; have q := k0 (by first | exact c343 | exact Decidable.not_not.mp c343); exact q)
theorem in01b {w : Int32} (h : inR w 0 1) (h0 : w ≠ 0) : w = nI 1 := by
  obtain ⟨j, j1, j2, rfl⟩ := in_nI (a := 0) (b := 1) h (by decide)
  rcases (show j = 0 ∨ j = 1 by omega) with z | z
  · rw [z] at h0; exact absurd rfl h0
  · rw [z]
set_option maxHeartbeats 200000 in
theorem c_X12_chance {N : Nat} {S : Nat → Nat × Nat} {I : Nat → Nat → Int32} {J : Nat → Nat → Int64} {Q : Nat → Nat → Option Nat} {κ : Option Value → HP → Prop} {D : Nat → Nat → Int32} {nv nr ns md : Nat} (M : MOD I J D nv nr ns) (hm : D 75 3 = nI md) (hmd : md < 256) {x n best w : Int32} (k1 : ((∀ v, v < nv → x = nI v → D 55 v ≠ 3) ∨ ¬ inR w 0 1) → κ (some (.long (-1000000000000))) (N, S, I, J, Q)) (k2 : ∀ v, v < nv → x = nI v → D 55 v = 3 → ∀ c s, 1 ≤ c → c ≤ 5 → 2 ≤ s → s ≤ 12 → D 57 v = nI c → D 58 v = nI s → ∀ q, q < 2 → w = nI q → ∀ I' J', MQu I I' J J' D nv nr ns → κ (some (.long (chV c s (gS D nv nr ns md v) n best q))) (N, S, I', J', Q)) : CT E1 M_X12_chance [.ref 54, .int x, .int n, .int best, .int w] (N, S, I, J, Q) κ := by
  refine ofSP mk_X12_chance (Nat.le_of_ble_eq_true rfl) (L := [.ref 54, .int _, .int _, .int _, .int _, .retAddr _, .retAddr _, .retAddr _, .retAddr _, .retAddr _, .retAddr _, .retAddr _, .retAddr _, .retAddr _, .retAddr _, .retAddr _, .retAddr _]) rfl ?_
  refine s_aload_n (pc' := 1) dX12_chance_0 rfl rfl ?_
  refine s_iload_n (pc' := 2) dX12_chance_1 rfl rfl ?_
  refine s_callV (pc' := 5) (As := [.int _]) dX12_chance_2 rfl mk_X12_isValue ml_X12_170 im_X12_isValue se_X12_X12_X12_isValue sh_54 (by decide) rfl rfl rfl ⟨Nat.le_of_ble_eq_true rfl, Nat.le_of_ble_eq_true rfl, Nat.le_of_ble_eq_true rfl, Nat.le_of_ble_eq_true rfl⟩ (Nat.le_of_ble_eq_true rfl) (c_X12_isValue (M.2.1.vn M.1) (by have := M.2.1.nv; omega) (fun j2 hj2 e2 => ?_) (fun n2 => ?_))
  · subst e2
    refine s_ifeqF (pc' := 8) (tgt := 29) dX12_chance_5 (by decide) rfl (by decide) ?_
    refine s_aload_n (pc' := 9) dX12_chance_8 rfl rfl ?_
    refine s_getS (pc' := 12) (b := 55) dX12_chance_9 rfl (by decide) rfl (by decide) fa_X12_7_12 rfl rfl ?_
    refine s_iload_n (pc' := 13) dX12_chance_12 rfl rfl ?_
    refine t_iald (pc' := 14) dX12_chance_13 rfl sh_55 rfl (by have := M.2.1.nv; omega) ?_
    refine s_iconst (pc' := 15) (v := 3) dX12_chance_14 rfl (by decide) ?_
    refine s_icmpne (pc' := 18) (tgt := 29) dX12_chance_15 (by decide) rfl (fun c15 => ?_) (fun c15 => ?_)
    · refine s_ldc2 (pc' := 32) dX12_chance_29 rfl kl_X12_290 ?_
      exact s_lret dX12_chance_32 rfl (by decide) (by decide) (k1 (Or.inl (fun v hv ev z => by obtain rfl := ixe ev (by have := M.2.1.nv; omega) (by have := M.2.1.nv; omega); exact c15 (by rw [M.1 55 (by decide) (by decide)]; exact z))))
    · refine s_iload (pc' := 20) dX12_chance_18 rfl rfl ?_
      refine s_i2l (pc' := 21) dX12_chance_20 rfl ?_
      refine s_lconst (pc' := 22) (v := 0) dX12_chance_21 rfl (by decide) ?_
      refine s_lconst (pc' := 23) (v := 1) dX12_chance_22 rfl (by decide) ?_
      refine s_callS (pc' := 26) (As := [.long _, .long _, .long _]) dX12_chance_23 rfl mk_X12_isIn ml_X12_135 sm_X12_isIn rfl rfl ⟨Nat.le_of_ble_eq_true rfl, Nat.le_of_ble_eq_true rfl, Nat.le_of_ble_eq_true rfl, Nat.le_of_ble_eq_true rfl⟩ (Nat.le_of_ble_eq_true rfl) (c_isInR (a' := 0) (b' := 1) rfl rfl (fun i23 => ?_) (fun i23 => ?_))
      · refine s_ifneT (tgt := 33) dX12_chance_26 (by decide) (by decide) ?_
        refine s_aload_n (pc' := 34) dX12_chance_33 rfl rfl ?_
        refine s_callV (pc' := 37) (As := []) dX12_chance_34 rfl mk_X12_lay ml_X12_208 im_X12_lay se_X12_X12_X12_lay sh_54 (by decide) rfl rfl rfl ⟨Nat.le_of_ble_eq_true rfl, Nat.le_of_ble_eq_true rfl, Nat.le_of_ble_eq_true rfl, Nat.le_of_ble_eq_true rfl⟩ (Nat.le_of_ble_eq_true rfl) (e_lay M (fun I1 J1 h1 => ?_))
        have hD1 := h1.1.da M.1
        have G1 := h1.2.2.2.g M.2.1 M.2.2.1
        have e75 : I1 75 3 = nI md := by rw [hD1 75 (by decide) (by decide)]; exact hm
        refine s_aload_n (pc' := 38) dX12_chance_37 rfl rfl ?_
        refine s_getS (pc' := 41) (b := 80) dX12_chance_38 rfl (by decide) rfl (by decide) fa_X12_85_12 rfl rfl ?_
        refine s_bipush (pc' := 43) (v := 10) dX12_chance_41 rfl (by decide) ?_
        refine s_aload_n (pc' := 44) dX12_chance_43 rfl rfl ?_
        refine s_getS (pc' := 47) (b := 75) dX12_chance_44 rfl (by decide) rfl (by decide) fa_X12_70_12 rfl rfl ?_
        refine s_iconst (pc' := 48) (v := 3) dX12_chance_47 rfl (by decide) ?_
        refine t_iald (pc' := 49) (q := 3) dX12_chance_48 rfl sh_75 rfl (by decide) ?_
        refine s_imul (pc' := 50) dX12_chance_49 rfl ?_
        refine s_iload_n (pc' := 51) dX12_chance_50 rfl rfl ?_
        refine s_iadd (pc' := 52) dX12_chance_51 rfl ?_
        refine t_lald (pc' := 53) (q := 10 * md + j2) dX12_chance_52 rfl sh_80 (by rw [e75]; exact ix10 hmd (by have := M.2.1.nv; omega)) (by have := M.2.1.nv; omega) ?_
        rw [(G1 md hmd).1 j2 hj2]
        refine t_lstore (pc' := 55) (L' := [.ref 54, .int _, .int _, .int _, .int _, .long _, .retAddr _, .retAddr _, .retAddr _, .retAddr _, .retAddr _, .retAddr _, .retAddr _, .retAddr _, .retAddr _, .retAddr _, .retAddr _]) dX12_chance_53 rfl (Nat.le_of_ble_eq_true rfl) rfl ?_
        refine s_iconst (pc' := 56) (v := 0) dX12_chance_55 rfl (by decide) ?_
        refine t_istore (pc' := 58) (L' := [.ref 54, .int _, .int _, .int _, .int _, .long _, .retAddr _, .int _, .retAddr _, .retAddr _, .retAddr _, .retAddr _, .retAddr _, .retAddr _, .retAddr _, .retAddr _, .retAddr _]) dX12_chance_56 rfl (Nat.le_of_ble_eq_true rfl) rfl ?_
        have h55 : D 55 j2 = 3 := by rw [← M.1 55 (by decide) (by decide)]; first | exact c15 | exact Decidable.not_not.mp c15
        obtain ⟨c, s, c1, c2, s1, s2, e57, e58⟩ := (M.2.1.2.2.1 j2 hj2).2.2.2.1 h55
        have hn10 := M.2.1.nv
        have f57 : I1 57 j2 = nI c := by rw [hD1.a (by decide) (by decide)]; exact e57
        have f58 : I1 58 j2 = nI s := by rw [hD1.a (by decide) (by decide)]; exact e58
        refine l_X12_chance_r (c := c) (s := s) (by omega) c2 s2 f57 f58 (fun J2 b2 => ?_) 64 0 _ (by omega) (fun _ _ _ => rfl) (fun _ h => absurd h (Nat.not_lt_zero _))
        refine s_iconst (pc' := 89) (v := 0) dX12_chance_88 rfl (by decide) ?_
        refine t_istore (pc' := 91) (L' := [.ref 54, .int _, .int _, .int _, .int _, .long _, .retAddr _, .int _, .retAddr _, .retAddr _, .retAddr _, .retAddr _, .retAddr _, .retAddr _, .retAddr _, .retAddr _, .retAddr _]) dX12_chance_89 rfl (Nat.le_of_ble_eq_true rfl) rfl ?_
        refine l_X12_chance_d (by omega) c2 s2 f57 f58 (fun J3 x8 x9 b3 => ?_) c 0 J2 _ _ (by omega) b2
        refine s_lconst (pc' := 231) (v := 0) dX12_chance_230 rfl (by decide) ?_
        refine t_lstore (pc' := 233) (L' := [.ref 54, .int _, .int _, .int _, .int _, .long _, _, .long _, _, _, _, _, _, _, _, _, _]) dX12_chance_231 rfl (Nat.le_of_ble_eq_true rfl) rfl ?_
        refine s_lconst (pc' := 234) (v := 0) dX12_chance_233 rfl (by decide) ?_
        refine t_lstore (pc' := 236) (L' := [.ref 54, .int _, .int _, .int _, .int _, .long _, _, .long _, _, .long _, _, _, _, _, _, _, _]) dX12_chance_234 rfl (Nat.le_of_ble_eq_true rfl) rfl ?_
        refine s_iconst (pc' := 237) (v := 0) dX12_chance_236 rfl (by decide) ?_
        refine t_istore (pc' := 239) (L' := [.ref 54, .int _, .int _, .int _, .int _, .long _, _, .long _, _, .long _, _, .int _, _, _, _, _, _]) dX12_chance_237 rfl (Nat.le_of_ble_eq_true rfl) rfl ?_
        refine l_X12_chance_t (by omega) c2 s2 f57 f58 b3.2 ?_ 64 0 (by omega)
        rw [ch_tot c2 s2, ch_hit c2 s2]
        refine f_X12_chance (pw_le c2 s2) (Nat.pow_pos (by omega)) (ch_hl c2 s2) (fun w0 => ?_) (fun w0 => ?_)
        · have q := k2 j2 hj2 rfl h55 c s c1 c2 s1 s2 e57 e58 0 (by decide) w0 I1 J3 (h1.mq.j b3.1)
          unfold chV at q; rw [if_pos rfl] at q; exact q
        · have q := k2 j2 hj2 rfl h55 c s c1 c2 s1 s2 e57 e58 1 (by decide) (in01b i23 w0) I1 J3 (h1.mq.j b3.1)
          unfold chV at q; rw [if_neg (by decide)] at q; exact q
      · refine s_ifneF (pc' := 29) (tgt := 33) dX12_chance_26 (by decide) rfl (by decide) ?_
        refine s_ldc2 (pc' := 32) dX12_chance_29 rfl kl_X12_290 ?_
        exact s_lret dX12_chance_32 rfl (by decide) (by decide) (k1 (Or.inr i23))
  · refine s_ifeqT (tgt := 29) dX12_chance_5 (by decide) (by decide) ?_
    refine s_ldc2 (pc' := 32) dX12_chance_29 rfl kl_X12_290 ?_
    exact s_lret dX12_chance_32 rfl (by decide) (by decide) (k1 (Or.inl (fun v hv ev _ => n2 v hv ev)))
