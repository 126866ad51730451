/-! ===== spells, values, rest ===== -/
def spD (D : Nat → Nat → Int32) (ns : Nat) (j x t : Int32) : Nat → Nat → Int32 := up2 (up2 (up2 (up2 D 72 ns j) 73 ns x) 74 ns t) 75 2 (nI (ns + 1))
def vlD (D : Nat → Nat → Int32) (nv : Nat) (kind base cc sd : Int32) : Nat → Nat → Int32 := up2 (up2 (up2 (up2 (up2 (up2 D 75 0 (nI (nv + 1))) 55 nv kind) 56 nv base) 57 nv cc) 58 nv sd) 59 nv 0
set_option maxHeartbeats 200000 in
theorem in_r {x a b : Int32} {A B : Int} (ea : a.toInt = A) (eb : b.toInt = B) (h1 : ¬ x < a) (h2 : x ≤ b) : inR x A B := by
  rw [int_lt] at h1; rw [Int32.le_iff_toInt_le] at h2; unfold inR; omega
set_option maxHeartbeats 200000 in
theorem in_r1 {x a : Int32} {A B : Int} (ea : a.toInt = A) (h1 : x < a) : ¬ inR x A B := by
  rw [int_lt] at h1; unfold inR; omega
set_option maxHeartbeats 200000 in
theorem in_r2 {x b : Int32} {A B : Int} (eb : b.toInt = B) (h2 : ¬ x ≤ b) : ¬ inR x A B := by
  rw [Int32.le_iff_toInt_le] at h2; unfold inR; omega
set_option maxHeartbeats 200000 in
theorem zr_o {I : Nat → Nat → Int32} {a k b : Nat} (h : b ≠ a) : zr I a k b = I b := by funext i; exact zr_d h
set_option maxHeartbeats 200000 in
theorem zr_in {I : Nat → Nat → Int32} {a k i : Nat} (h : i < k) : zr I a k a i = 0 := by simp [zr, h]
set_option maxHeartbeats 200000 in
theorem zr_z {I : Nat → Nat → Int32} {a k : Nat} (h : I a k = 0) : zr I a (k + 1) = zr I a k := by
  rw [← zr_s]; funext b i
  by_cases e : b = a ∧ i = k
  · obtain ⟨rfl, rfl⟩ := e; rw [up2_s, zr_e (Nat.le_refl _), h]
  · rw [up2_n e]
set_option maxHeartbeats 200000 in
theorem cNz_cg {f g : Nat → Int32} : ∀ n, (∀ i, i < n → f i = g i) → cNz f n = cNz g n
  | 0, _ => rfl
  | n + 1, h => by rw [cNz, cNz, cNz_cg n (fun i hi => h i (by omega)), h n (by omega)]
section SV
variable {N : Nat} {S : Nat → Nat × Nat} {I I' : Nat → Nat → Int32} {Q Q' : Nat → Nat → Option Nat} {D D' : Nat → Nat → Int32} {nv nr ns j : Nat} {ad td : Nat → Nat} {x kind base cc sd mm : Int32} {t : Nat}
set_option maxHeartbeats 200000 in
theorem spD.dr {y z : Int32} : DR D (spD D ns x y z) := fun i h1 h2 => by unfold spD; rw [up2_o (by omega), up2_o (by omega), up2_o (by omega), up2_o (by omega)]
set_option maxHeartbeats 200000 in
theorem vlD.dr : DR D (vlD D nv kind base cc sd) := fun i h1 h2 => by unfold vlD; rw [up2_o (by omega), up2_o (by omega), up2_o (by omega), up2_o (by omega), up2_o (by omega), up2_o (by omega)]
set_option maxHeartbeats 200000 in
theorem DR.zro {n : Nat} : DR D (zr D 59 n) := fun i h1 h2 => zr_o (by omega)
set_option maxHeartbeats 200000 in
theorem DW.sp (h : DW D nv nr ns) (hs : ns < 10) (hj : j < nv) (hx : inR x (-20) 20) (ht : t ≤ 1020) : DW (spD D ns (nI j) x (nI t)) nv nr (ns + 1) := by
  obtain ⟨⟨a1, a2, a3, a4, a5, a6⟩, b, c, d, e⟩ := h
  have dr := spD.dr (D := D) (ns := ns) (x := nI j) (y := x) (z := nI t)
  refine ⟨⟨a1, a2, by omega, ?_, ?_, ?_⟩, ?_, ?_, fun k hk => ?_, ?_⟩
  · unfold spD; simp (disch := decide) only [up2_d, up2_e]; exact a4
  · unfold spD; simp (disch := decide) only [up2_d, up2_e]; exact a5
  · unfold spD; rw [up2_s]
  · rw [dr 60 (by decide) (by decide), dr 61 (by decide) (by decide), dr 62 (by decide) (by decide), dr 63 (by decide) (by decide), dr 64 (by decide) (by decide), dr 65 (by decide) (by decide), dr 66 (by decide) (by decide), dr 67 (by decide) (by decide), dr 68 (by decide) (by decide), dr 69 (by decide) (by decide), dr 70 (by decide) (by decide)]; exact b
  · unfold spD; simp (disch := decide) only [up2_d]; exact c
  · unfold spD; simp (disch := decide) only [up2_d]
    by_cases ek : k = ns
    · subst ek; rw [up2_s, up2_s, up2_s]; exact ⟨⟨j, hj, rfl⟩, hx, t, ht, rfl⟩
    · rw [up2_e ek, up2_e ek, up2_e ek]; exact d k (by omega)
  · unfold spD; simp (disch := decide) only [up2_d, up2_e]; exact e
set_option maxHeartbeats 200000 in
theorem XS.sp {t : Int32} (h : XS N S I Q D nv nr ns ad td 0) : XS N S (up2 (up2 (up2 (up2 I 9 ns (nI j)) 10 ns x) 11 ns t) 1 9 (nI (ns + 1))) Q (spD D ns (nI j) x t) nv nr (ns + 1) ad td 0 := by
  refine h.ch spD.dr (fun a ha => ?_) (fun _ _ => rfl) rfl ?_ (fun v hv => ?_) (fun k hk => ?_)
  · rw [up2_o (by omega), up2_o (by omega), up2_o (by omega), up2_o (by omega)]
  · unfold spD; simp (disch := decide) only [up2_d, up2_e, up2_s]
    exact ⟨h.1.1, h.1.2.1, trivial, h.1.2.2.2⟩
  · unfold spD; simp (disch := decide) only [up2_d]; exact h.2.1 v hv
  · unfold spD; simp (disch := decide) only [up2_d]
    by_cases ek : k = ns
    · subst ek; rw [up2_s, up2_s, up2_s, up2_s, up2_s, up2_s]; exact ⟨rfl, rfl, rfl⟩
    · rw [up2_e ek, up2_e ek, up2_e ek, up2_e ek, up2_e ek, up2_e ek]; exact h.2.2.2 k (by omega)
set_option maxHeartbeats 200000 in
theorem nd_hi (h : DW D nv nr ns) {v : Nat} (hv : nv ≤ v) (hv2 : v < 1000) : ∀ k, k ≤ nr → nd D k v = 0
  | 0, _ => rfl
  | k + 1, hk => by
    rw [nd, if_neg, nd_hi h hv hv2 k (by omega)]
    rintro ⟨z1, z2⟩
    obtain ⟨a, a1, a2⟩ := h.aim (r := k) (by omega) (DA.rf (I := D)) z1
    have hn := h.nv
    have := (nI_eq (by omega) (by omega)).mp (a2.symm.trans z2); omega
set_option maxHeartbeats 200000 in
theorem DW.vl (h : DW D nv nr ns) (hn : nv < 10) (k1 : inR kind 0 4) (k2 : inR base (-99) 99) (k3 : kind = 3 → ∃ c s : Nat, 1 ≤ c ∧ c ≤ 5 ∧ 2 ≤ s ∧ s ≤ 12 ∧ cc = nI c ∧ sd = nI s) (k4 : kind ≠ 3 → cc = 0 ∧ sd = 0) : DW (vlD D nv kind base cc sd) (nv + 1) nr ns := by
  obtain ⟨⟨a1, a2, a3, a4, a5, a6⟩, b, c, d, e⟩ := h
  have dr := vlD.dr (D := D) (nv := nv) (kind := kind) (base := base) (cc := cc) (sd := sd)
  refine ⟨⟨by omega, a2, a3, ?_, ?_, ?_⟩, fun r hr => ?_, fun v hv => ?_, fun k hk => ?_, ?_⟩
  · unfold vlD; simp (disch := decide) only [up2_d, up2_s]
  · unfold vlD; simp (disch := decide) only [up2_d, up2_e]; exact a5
  · unfold vlD; simp (disch := decide) only [up2_d, up2_e]; exact a6
  · rw [dr 60 (by decide) (by decide), dr 61 (by decide) (by decide), dr 62 (by decide) (by decide), dr 63 (by decide) (by decide), dr 64 (by decide) (by decide), dr 65 (by decide) (by decide), dr 66 (by decide) (by decide), dr 67 (by decide) (by decide), dr 68 (by decide) (by decide), dr 69 (by decide) (by decide), dr 70 (by decide) (by decide)]
    obtain ⟨r1, ⟨a, q1, q2, q3, q4⟩, r3, r4, r5⟩ := b r hr
    refine ⟨r1, ⟨a, q1, q2, fun z => by have := q3 z; omega, q4⟩, ?_, ?_, r5⟩
    · rcases r3 with z | z | ⟨z1, z2, o, z3, z4⟩
      · exact Or.inl z
      · exact Or.inr (Or.inl z)
      · exact Or.inr (Or.inr ⟨z1, z2, o, by omega, z4⟩)
    · rcases r4 with z | ⟨o, z3, z4⟩
      · exact Or.inl z
      · exact Or.inr ⟨o, by omega, z4⟩
  · unfold vlD; simp (disch := decide) only [up2_d]
    by_cases ek : v = nv
    · subst ek; rw [up2_s, up2_s, up2_s, up2_s, up2_s]
      exact ⟨k1, k2, ⟨by decide, by decide⟩, k3, k4⟩
    · rw [up2_e ek, up2_e ek, up2_e ek, up2_e ek, up2_e ek]; exact c v (by omega)
  · unfold vlD; simp (disch := decide) only [up2_d]
    obtain ⟨⟨v, v1, v2⟩, r⟩ := d k hk
    exact ⟨⟨v, by omega, v2⟩, r⟩
  · unfold vlD; simp (disch := decide) only [up2_d, up2_e]; exact e
set_option maxHeartbeats 200000 in
theorem XS.vl (h : XS N S I Q D nv nr ns ad td 0) (hW : DW D nv nr ns) (hn : nv < 10) (hm : mm = cc + 8 * sd) : XS N S (up2 (up2 (up2 (up2 (up2 (up2 (up2 I 2 nv kind) 3 nv base) 4 nv 0) 5 nv mm) 6 nv 0) 7 nv 0) 1 0 (nI (nv + 1))) Q (vlD D nv kind base cc sd) (nv + 1) nr ns ad td 0 := by
  refine h.ch vlD.dr (fun a ha => ?_) (fun _ _ => rfl) rfl ?_ (fun v hv => ?_) (fun k hk => ?_)
  · rw [up2_o (by omega), up2_o (by omega), up2_o (by omega), up2_o (by omega), up2_o (by omega), up2_o (by omega), up2_o (by omega)]
  · unfold vlD; simp (disch := decide) only [up2_d, up2_e, up2_s]
    exact ⟨trivial, h.1.2⟩
  · unfold vlD; simp (disch := decide) only [up2_d]
    by_cases ek : v = nv
    · subst ek; simp only [up2_s]; exact ⟨trivial, trivial, trivial, hm, (nd_hi hW (Nat.le_refl _) (by omega) nr (Nat.le_refl _)).symm⟩
    · simp only [up2_e ek]; exact h.2.1 v (by omega)
  · unfold vlD; simp (disch := decide) only [up2_d]; exact h.2.2.2 k hk
set_option maxHeartbeats 200000 in
theorem AC.vl (h : DW D nv nr ns) (hn : nv < 10) (hA : AC D nv nr) : AC (vlD D nv kind base cc sd) (nv + 1) nr := by
  obtain ⟨f, hf⟩ := hA
  refine ⟨f, fun v hv u hu hb => ?_⟩
  rw [vlD.dr.nds] at hb
  have hu2 : u < nv := nd_lt h (by omega) nr (Nat.le_refl _) hb
  by_cases ev : v = nv
  · rw [nd_hi h (by omega) (by omega) nr (Nat.le_refl _), b_0] at hb; cases hb
  · exact hf v (by omega) u hu2 hb
set_option maxHeartbeats 200000 in
theorem NT.vl (h : DW D nv nr ns) (hn : nv < 10) (hN : NT I D nv nr 0) (h7 : I' 7 = fun i => if i = nv then 0 else I 7 i) : NT I' (vlD D nv kind base cc sd) (nv + 1) nr 0 := by
  intro v hv u
  rw [vlD.dr.rc]
  show bt (I' 7 v) u = true ↔ _
  rw [h7]
  by_cases ev : v = nv
  · subst ev
    simp only [if_true]
    rw [b_0]
    refine ⟨fun z => (by cases z), fun z => ?_⟩
    exfalso
    have key : ∀ w, ¬ bt (nd D nr v) w = true := fun w hw => by rw [nd_hi h (Nat.le_refl _) (by omega) nr (Nat.le_refl _), b_0] at hw; cases hw
    obtain ⟨w, hw⟩ : ∃ w, bt (nd D nr v) w = true := by
      induction z with
      | single q => exact ⟨_, q⟩
      | tail _ _ ih => exact ih
    exact key w hw
  · simp only [if_neg ev]; exact hN v (by omega) u
set_option maxHeartbeats 200000 in
theorem DW.zro (h : DW D nv nr ns) : DW (zr D 59 nv) nv nr ns := by
  obtain ⟨a, b, c, d, e⟩ := h
  unfold DW
  rw [zr_o (by decide : 75 ≠ 59), zr_o (by decide : 60 ≠ 59), zr_o (by decide : 61 ≠ 59), zr_o (by decide : 62 ≠ 59), zr_o (by decide : 63 ≠ 59), zr_o (by decide : 64 ≠ 59), zr_o (by decide : 65 ≠ 59), zr_o (by decide : 66 ≠ 59), zr_o (by decide : 67 ≠ 59), zr_o (by decide : 68 ≠ 59), zr_o (by decide : 69 ≠ 59), zr_o (by decide : 70 ≠ 59), zr_o (by decide : 55 ≠ 59), zr_o (by decide : 56 ≠ 59), zr_o (by decide : 57 ≠ 59), zr_o (by decide : 58 ≠ 59), zr_o (by decide : 72 ≠ 59), zr_o (by decide : 73 ≠ 59), zr_o (by decide : 74 ≠ 59)]
  refine ⟨a, b, fun v hv => ?_, d, e⟩
  obtain ⟨c1, c2, c3, c4⟩ := c v hv
  refine ⟨c1, c2, ?_, c4⟩
  rw [zr_in hv]; exact ⟨by decide, by decide⟩
set_option maxHeartbeats 200000 in
theorem XS.zro (h : XS N S I Q D nv nr ns ad td 0) : XS N S (zr I 4 nv) Q (zr D 59 nv) nv nr ns ad td 0 := by
  refine h.ch DR.zro (fun a ha => zr_o (by omega)) (fun _ _ => rfl) rfl ?_ (fun v hv => ?_) (fun k hk => ?_)
  · rw [zr_o (by decide), zr_o (by decide)]; exact h.1
  · rw [zr_o (by decide : 2 ≠ 4), zr_o (by decide : 3 ≠ 4), zr_o (by decide : 5 ≠ 4), zr_o (by decide : 6 ≠ 4), zr_o (by decide : 55 ≠ 59), zr_o (by decide : 56 ≠ 59), zr_o (by decide : 57 ≠ 59), zr_o (by decide : 58 ≠ 59), zr_in hv, zr_in hv]
    obtain ⟨q1, q2, q3, q4, q5⟩ := h.2.1 v hv
    exact ⟨q1, q2, rfl, q4, q5⟩
  · rw [zr_o (by decide : 9 ≠ 4), zr_o (by decide : 10 ≠ 4), zr_o (by decide : 11 ≠ 4), zr_o (by decide : 72 ≠ 59), zr_o (by decide : 73 ≠ 59), zr_o (by decide : 74 ≠ 59)]; exact h.2.2.2 k hk
set_option maxHeartbeats 200000 in
theorem DR.u59 {j : Nat} {x : Int32} : DR D (up2 D 59 j x) := fun i _ _ => up2_o (by omega)
set_option maxHeartbeats 200000 in
theorem DW.u59 (h : DW D nv nr ns) (hx : inR x 0 600000) : DW (up2 D 59 j x) nv nr ns := by
  obtain ⟨a, b, c, d, e⟩ := h
  unfold DW
  rw [up2_o (by decide : 75 ≠ 59), up2_o (by decide : 60 ≠ 59), up2_o (by decide : 61 ≠ 59), up2_o (by decide : 62 ≠ 59), up2_o (by decide : 63 ≠ 59), up2_o (by decide : 64 ≠ 59), up2_o (by decide : 65 ≠ 59), up2_o (by decide : 66 ≠ 59), up2_o (by decide : 67 ≠ 59), up2_o (by decide : 68 ≠ 59), up2_o (by decide : 69 ≠ 59), up2_o (by decide : 70 ≠ 59), up2_o (by decide : 55 ≠ 59), up2_o (by decide : 56 ≠ 59), up2_o (by decide : 57 ≠ 59), up2_o (by decide : 58 ≠ 59), up2_o (by decide : 72 ≠ 59), up2_o (by decide : 73 ≠ 59), up2_o (by decide : 74 ≠ 59)]
  refine ⟨a, b, fun v hv => ?_, d, e⟩
  obtain ⟨c1, c2, c3, c4⟩ := c v hv
  refine ⟨c1, c2, ?_, c4⟩
  by_cases ev : v = j
  · rw [ev, up2_s]; exact hx
  · rw [up2_e ev]; exact c3
set_option maxHeartbeats 200000 in
theorem XS.u59 (h : XS N S I Q D nv nr ns ad td 0) : XS N S (up2 I 4 j x) Q (up2 D 59 j x) nv nr ns ad td 0 := by
  refine h.ch DR.u59 (fun a ha => up2_o (by omega)) (fun _ _ => rfl) rfl ?_ (fun v hv => ?_) (fun k hk => ?_)
  · simp (disch := decide) only [up2_d]; exact h.1
  · simp (disch := decide) only [up2_d]
    obtain ⟨q1, q2, q3, q4, q5⟩ := h.2.1 v hv
    refine ⟨q1, q2, ?_, q4, q5⟩
    by_cases ev : v = j
    · rw [ev, up2_s, up2_s]
    · rw [up2_e ev, up2_e ev]; exact q3
  · simp (disch := decide) only [up2_d]; exact h.2.2.2 k hk
end SV
set_option maxHeartbeats 200000 in
theorem c_X8_addSpell {N : Nat} {S : Nat → Nat × Nat} {I : Nat → Nat → Int32} {J : Nat → Nat → Int64} {Q : Nat → Nat → Option Nat} {κ : Option Value → HP → Prop} {v n t : Int32} {ns : Nat} (hs : I 1 9 = nI ns) (hn : ns < 10) (hk : κ none (N, S, up2 (up2 (up2 (up2 I 9 ns v) 10 ns n) 11 ns t) 1 9 (nI (ns + 1)), J, Q)) : CT E1 M_X8_addSpell [.ref 1, .int v, .int n, .int t] (N, S, I, J, Q) κ := by
  refine ofSP mk_X8_addSpell (Nat.le_of_ble_eq_true rfl) (L := [.ref 1, .int _, .int _, .int _]) rfl ?_
  refine s_aload_n (pc' := 1) dX8_addSpell_0 rfl rfl ?_
  refine s_getS (pc' := 4) (b := 9) dX8_addSpell_1 rfl (by decide) rfl (by decide) fa_X8_46_8 rfl rfl ?_
  refine s_aload_n (pc' := 5) dX8_addSpell_4 rfl rfl ?_
  refine t_getI (pc' := 8) dX8_addSpell_5 rfl sh_1 (by decide) fa_X8_43_8 rfl ?_
  refine s_iload_n (pc' := 9) dX8_addSpell_8 rfl rfl ?_
  refine t_iast (pc' := 10) dX8_addSpell_9 rfl sh_9 hs (by omega) ?_
  refine s_aload_n (pc' := 11) dX8_addSpell_10 rfl rfl ?_
  refine s_getS (pc' := 14) (b := 10) dX8_addSpell_11 rfl (by decide) rfl (by decide) fa_X8_49_8 rfl rfl ?_
  refine s_aload_n (pc' := 15) dX8_addSpell_14 rfl rfl ?_
  refine t_getI (pc' := 18) dX8_addSpell_15 rfl sh_1 (by decide) fa_X8_43_8 rfl ?_
  refine s_iload_n (pc' := 19) dX8_addSpell_18 rfl rfl ?_
  refine t_iast (pc' := 20) (q := ns) dX8_addSpell_19 rfl sh_10 (by simp (disch := decide) only [up2_d]; exact hs) (by omega) ?_
  refine s_aload_n (pc' := 21) dX8_addSpell_20 rfl rfl ?_
  refine s_getS (pc' := 24) (b := 11) dX8_addSpell_21 rfl (by decide) rfl (by decide) fa_X8_52_8 rfl rfl ?_
  refine s_aload_n (pc' := 25) dX8_addSpell_24 rfl rfl ?_
  refine t_getI (pc' := 28) dX8_addSpell_25 rfl sh_1 (by decide) fa_X8_43_8 rfl ?_
  refine s_iload_n (pc' := 29) dX8_addSpell_28 rfl rfl ?_
  refine t_iast (pc' := 30) (q := ns) dX8_addSpell_29 rfl sh_11 (by simp (disch := decide) only [up2_d]; exact hs) (by omega) ?_
  refine s_aload_n (pc' := 31) dX8_addSpell_30 rfl rfl ?_
  refine s_dup (pc' := 32) dX8_addSpell_31 rfl rfl ?_
  refine t_getI (pc' := 35) dX8_addSpell_32 rfl sh_1 (by decide) fa_X8_43_8 rfl ?_
  refine s_iconst (pc' := 36) (v := 1) dX8_addSpell_35 rfl (by decide) ?_
  refine s_iadd (pc' := 37) dX8_addSpell_36 rfl ?_
  refine t_putI (pc' := 40) dX8_addSpell_37 rfl sh_1 (by decide) fa_X8_43_8 (Or.inl rfl) rfl rfl rfl ?_
  exact s_vret dX8_addSpell_40 rfl (by decide) (by decide) (by simp (disch := decide) only [up2_d]; rw [hs, show nI ns + 1 = nI (ns + 1) from nI_inc ns]; exact hk)
set_option maxHeartbeats 200000 in
theorem c_X11_spell {N : Nat} {S : Nat → Nat × Nat} {I : Nat → Nat → Int32} {J : Nat → Nat → Int64} {Q : Nat → Nat → Option Nat} {κ : Option Value → HP → Prop} {D : Nat → Nat → Int32} {nv nr ns : Nat} {ad td : Nat → Nat} {e : Nat} (X : XB N S I J Q D nv nr ns ad td e) (he : e + 1 < 2 ^ 30) {v x n : Int32} (k1 : ((∀ j, j < nv → v ≠ nI j) ∨ ¬ inR x (-20) 20 ∨ ¬ inR n 1 20) → κ (some (.int (-1))) (N, S, up2 I 0 5 1, J, Q)) (k2 : ∀ j, j < nv → v = nI j → inR x (-20) 20 → inR n 1 20 →  ns = 10 → κ (some (.int (-1))) (N, S, up2 I 0 5 2, J, Q)) (k3 : ∀ j, j < nv → v = nI j → inR x (-20) 20 → inR n 1 20 →  ns ≠ 10 → ∀ I', FG (up2 (up2 (up2 (up2 I 9 ns (nI j)) 10 ns x) 11 ns (D 75 6 + n)) 1 9 (nI (ns + 1))) I' → XB N S I' J Q (spD D ns (nI j) x (D 75 6 + n)) nv nr (ns + 1) ad td (e + 1) → κ (some (.int (nI (ns + 1)))) (N, S, up2 I' 0 5 0, J, Q)) : CT E1 M_X11_spell [.ref 0, .int v, .int x, .int n] (N, S, I, J, Q) κ := by
  refine ofSP mk_X11_spell (Nat.le_of_ble_eq_true rfl) (L := [.ref 0, .int _, .int _, .int _]) rfl ?_
  refine s_aload_n (pc' := 1) dX11_spell_0 rfl rfl ?_
  refine s_iload_n (pc' := 2) dX11_spell_1 rfl rfl ?_
  refine s_callV (pc' := 5) (As := [.int _]) dX11_spell_2 rfl mk_X11_isValue ml_X11_113 im_X11_isValue se_X11_X11_X11_isValue sh_0 (by decide) rfl rfl rfl ⟨Nat.le_of_ble_eq_true rfl, Nat.le_of_ble_eq_true rfl, Nat.le_of_ble_eq_true rfl, Nat.le_of_ble_eq_true rfl⟩ (Nat.le_of_ble_eq_true rfl) (c_X11_isValue X.1.xv (by have := X.2.1.nv; omega) (fun j2 hj2 e2 => ?_) (fun n2 => ?_))
  · subst e2
    refine s_ifeqF (pc' := 8) (tgt := 28) dX11_spell_5 (by decide) rfl (by decide) ?_
    refine s_iload_n (pc' := 9) dX11_spell_8 rfl rfl ?_
    refine s_bipush (pc' := 11) (v := 20) dX11_spell_9 rfl (by decide) ?_
    refine s_callS (pc' := 14) (As := [.int _, .int _]) dX11_spell_11 rfl mk_X11_isWithin ml_X11_79 sm_X11_isWithin rfl rfl ⟨Nat.le_of_ble_eq_true rfl, Nat.le_of_ble_eq_true rfl, Nat.le_of_ble_eq_true rfl, Nat.le_of_ble_eq_true rfl⟩ (Nat.le_of_ble_eq_true rfl) (c_X11_isWithin (m := 20) (by decide) (fun i11 => ?_) (fun i11 => ?_))
    · refine s_ifeqF (pc' := 17) (tgt := 28) dX11_spell_14 (by decide) rfl (by decide) ?_
      refine s_iload_n (pc' := 18) dX11_spell_17 rfl rfl ?_
      refine s_iconst (pc' := 19) (v := 1) dX11_spell_18 rfl (by decide) ?_
      refine s_icmplt (pc' := 22) (tgt := 28) dX11_spell_19 (by decide) rfl (fun c19 => ?_) (fun c19 => ?_)
      · refine s_aload_n (pc' := 29) dX11_spell_28 rfl rfl ?_
        refine s_iconst (pc' := 30) (v := 1) dX11_spell_29 rfl (by decide) ?_
        refine s_callV (pc' := 33) (As := [.int _]) dX11_spell_30 rfl mk_X11_refused ml_X11_87 im_X11_refused se_X11_X11_X11_refused sh_0 (by decide) rfl rfl rfl ⟨Nat.le_of_ble_eq_true rfl, Nat.le_of_ble_eq_true rfl, Nat.le_of_ble_eq_true rfl, Nat.le_of_ble_eq_true rfl⟩ (Nat.le_of_ble_eq_true rfl) (c_X11_refused ?_)
        exact s_iret dX11_spell_33 rfl (by decide) (by decide) (k1 (Or.inr (Or.inr (in_r1 (a := 1) (by decide) c19))))
      · refine s_iload_n (pc' := 23) dX11_spell_22 rfl rfl ?_
        refine s_bipush (pc' := 25) (v := 20) dX11_spell_23 rfl (by decide) ?_
        refine s_icmple (pc' := 28) (tgt := 34) dX11_spell_25 (by decide) rfl (fun c25 => ?_) (fun c25 => ?_)
        · have hnR : inR n 1 20 := in_r (a := 1) (b := 20) (by decide) (by decide) c19 c25
          refine s_aload_n (pc' := 35) dX11_spell_34 rfl rfl ?_
          refine s_getS (pc' := 38) (b := 1) dX11_spell_35 rfl (by decide) rfl (by decide) fa_X11_10_11 rfl rfl ?_
          refine t_getI (pc' := 41) dX11_spell_38 rfl sh_1 (by decide) fa_X11_153_8 rfl ?_
          refine s_bipush (pc' := 43) (v := 10) dX11_spell_41 rfl (by decide) ?_
          refine s_icmplt (pc' := 46) (tgt := 52) dX11_spell_43 (by decide) rfl (fun c43 => ?_) (fun c43 => ?_)
          · have hns : ns < 10 := by have hh := X.2.1.ns; rw [X.1.xs] at c43; exact Nat.lt_of_not_le (fun z => Int32.not_lt.mpr (nI_le (a := 10) z (by omega)) c43)
            obtain ⟨_, _, _, t, -, -, -, ht, -, -, -, ht2⟩ := X.2.1.2.2.2.2
            obtain ⟨m, m1, m2, em⟩ := in_nI (a := 1) (b := 20) hnR (by decide)
            have et : D 75 6 + n = nI (t + m) := by rw [ht2, em, nI_add]
            refine s_aload_n (pc' := 53) dX11_spell_52 rfl rfl ?_
            refine s_getS (pc' := 56) (b := 1) dX11_spell_53 rfl (by decide) rfl (by decide) fa_X11_10_11 rfl rfl ?_
            refine s_iload_n (pc' := 57) dX11_spell_56 rfl rfl ?_
            refine s_iload_n (pc' := 58) dX11_spell_57 rfl rfl ?_
            refine s_aload_n (pc' := 59) dX11_spell_58 rfl rfl ?_
            refine s_getS (pc' := 62) (b := 1) dX11_spell_59 rfl (by decide) rfl (by decide) fa_X11_10_11 rfl rfl ?_
            refine t_getI (pc' := 65) dX11_spell_62 rfl sh_1 (by decide) fa_X11_156_8 rfl ?_
            refine s_iload_n (pc' := 66) dX11_spell_65 rfl rfl ?_
            refine s_iadd (pc' := 67) dX11_spell_66 rfl ?_
            rw [X.1.tn]
            refine s_callV (pc' := 70) (As := [.int _, .int _, .int _]) dX11_spell_67 rfl mk_X8_addSpell ml_X11_159 im_X8_addSpell se_X8_X8_X8_addSpell sh_1 (by decide) rfl rfl rfl ⟨Nat.le_of_ble_eq_true rfl, Nat.le_of_ble_eq_true rfl, Nat.le_of_ble_eq_true rfl, Nat.le_of_ble_eq_true rfl⟩ (Nat.le_of_ble_eq_true rfl) (c_X8_addSpell X.1.xs hns ?_)
            refine s_aload_n (pc' := 71) dX11_spell_70 rfl rfl ?_
            refine s_getS (pc' := 74) (b := 23) dX11_spell_71 rfl (by decide) rfl (by decide) fa_X11_24_11 rfl rfl ?_
            refine s_callV (pc' := 77) (As := []) dX11_spell_74 rfl mk_X1_forget ml_X11_97 im_X1_forget se_X1_X1_X1_forget sh_23 (by decide) rfl rfl rfl ⟨Nat.le_of_ble_eq_true rfl, Nat.le_of_ble_eq_true rfl, Nat.le_of_ble_eq_true rfl, Nat.le_of_ble_eq_true rfl⟩ (Nat.le_of_ble_eq_true rfl) (c_X1_forget X.1.sp (by rw [et]; exact X.2.1.sp hns hj2 i11 (by omega)) (spD.dr.ac X.2.2.1) (spD.dr.nt X.2.2.2.1 (by funext q; simp (disch := decide) only [up2_d])) (by simp (disch := decide) only [up2_d]; exact X.2.2.2.2.2.1) (J0 := J) (e := e) (BK.hd X.2.2.2.2.2.2) he (fun I1 f1 X1 => ?_))
            refine s_aload_n (pc' := 78) dX11_spell_77 rfl rfl ?_
            refine s_aload_n (pc' := 79) dX11_spell_78 rfl rfl ?_
            refine s_getS (pc' := 82) (b := 1) dX11_spell_79 rfl (by decide) rfl (by decide) fa_X11_10_11 rfl rfl ?_
            refine t_getI (pc' := 85) dX11_spell_82 rfl sh_1 (by decide) fa_X11_153_8 rfl ?_
            refine s_callV (pc' := 88) (As := [.int _]) dX11_spell_85 rfl mk_X11_done ml_X11_100 im_X11_done se_X11_X11_X11_done sh_0 (by decide) rfl rfl rfl ⟨Nat.le_of_ble_eq_true rfl, Nat.le_of_ble_eq_true rfl, Nat.le_of_ble_eq_true rfl, Nat.le_of_ble_eq_true rfl⟩ (Nat.le_of_ble_eq_true rfl) (c_X11_done ?_)
            exact s_iret dX11_spell_88 rfl (by decide) (by decide) (by have q := k3 j2 hj2 rfl i11 hnR (by omega) I1 f1 X1; rw [X1.1.xs]; exact q)
          · refine s_aload_n (pc' := 47) dX11_spell_46 rfl rfl ?_
            refine s_iconst (pc' := 48) (v := 2) dX11_spell_47 rfl (by decide) ?_
            refine s_callV (pc' := 51) (As := [.int _]) dX11_spell_48 rfl mk_X11_refused ml_X11_87 im_X11_refused se_X11_X11_X11_refused sh_0 (by decide) rfl rfl rfl ⟨Nat.le_of_ble_eq_true rfl, Nat.le_of_ble_eq_true rfl, Nat.le_of_ble_eq_true rfl, Nat.le_of_ble_eq_true rfl⟩ (Nat.le_of_ble_eq_true rfl) (c_X11_refused ?_)
            exact s_iret dX11_spell_51 rfl (by decide) (by decide) (k2 j2 hj2 rfl i11 hnR (by rw [X.1.xs] at c43; have := X.2.1.ns; exact Nat.le_antisymm this (Nat.le_of_not_lt (fun z => c43 (nI_lt (b := 10) z (by omega))))))
        · refine s_aload_n (pc' := 29) dX11_spell_28 rfl rfl ?_
          refine s_iconst (pc' := 30) (v := 1) dX11_spell_29 rfl (by decide) ?_
          refine s_callV (pc' := 33) (As := [.int _]) dX11_spell_30 rfl mk_X11_refused ml_X11_87 im_X11_refused se_X11_X11_X11_refused sh_0 (by decide) rfl rfl rfl ⟨Nat.le_of_ble_eq_true rfl, Nat.le_of_ble_eq_true rfl, Nat.le_of_ble_eq_true rfl, Nat.le_of_ble_eq_true rfl⟩ (Nat.le_of_ble_eq_true rfl) (c_X11_refused ?_)
          exact s_iret dX11_spell_33 rfl (by decide) (by decide) (k1 (Or.inr (Or.inr (in_r2 (b := 20) (by decide) c25))))
    · refine s_ifeqT (tgt := 28) dX11_spell_14 (by decide) (by decide) ?_
      refine s_aload_n (pc' := 29) dX11_spell_28 rfl rfl ?_
      refine s_iconst (pc' := 30) (v := 1) dX11_spell_29 rfl (by decide) ?_
      refine s_callV (pc' := 33) (As := [.int _]) dX11_spell_30 rfl mk_X11_refused ml_X11_87 im_X11_refused se_X11_X11_X11_refused sh_0 (by decide) rfl rfl rfl ⟨Nat.le_of_ble_eq_true rfl, Nat.le_of_ble_eq_true rfl, Nat.le_of_ble_eq_true rfl, Nat.le_of_ble_eq_true rfl⟩ (Nat.le_of_ble_eq_true rfl) (c_X11_refused ?_)
      exact s_iret dX11_spell_33 rfl (by decide) (by decide) (k1 (Or.inr (Or.inl i11)))
  · refine s_ifeqT (tgt := 28) dX11_spell_5 (by decide) (by decide) ?_
    refine s_aload_n (pc' := 29) dX11_spell_28 rfl rfl ?_
    refine s_iconst (pc' := 30) (v := 1) dX11_spell_29 rfl (by decide) ?_
    refine s_callV (pc' := 33) (As := [.int _]) dX11_spell_30 rfl mk_X11_refused ml_X11_87 im_X11_refused se_X11_X11_X11_refused sh_0 (by decide) rfl rfl rfl ⟨Nat.le_of_ble_eq_true rfl, Nat.le_of_ble_eq_true rfl, Nat.le_of_ble_eq_true rfl, Nat.le_of_ble_eq_true rfl⟩ (Nat.le_of_ble_eq_true rfl) (c_X11_refused ?_)
    exact s_iret dX11_spell_33 rfl (by decide) (by decide) (k1 (Or.inl n2))
set_option maxHeartbeats 200000 in
theorem c_X8_addValue {N : Nat} {S : Nat → Nat × Nat} {I : Nat → Nat → Int32} {J : Nat → Nat → Int64} {Q : Nat → Nat → Option Nat} {κ : Option Value → HP → Prop} {kind base mm : Int32} {nv : Nat} (hs : I 1 0 = nI nv) (hn : nv < 10) (hk : κ none (N, S, (up2 (up2 (up2 (up2 (up2 (up2 (up2 I 2 nv kind) 3 nv base) 4 nv 0) 5 nv mm) 6 nv 0) 7 nv 0) 1 0 (nI (nv + 1))), J, Q)) : CT E1 M_X8_addValue [.ref 1, .int kind, .int base, .int mm] (N, S, I, J, Q) κ := by
  refine ofSP mk_X8_addValue (Nat.le_of_ble_eq_true rfl) (L := [.ref 1, .int _, .int _, .int _]) rfl ?_
  refine s_aload_n (pc' := 1) dX8_addValue_0 rfl rfl ?_
  refine s_getS (pc' := 4) (b := 2) dX8_addValue_1 rfl (by decide) rfl (by decide) fa_X8_15_8 rfl rfl ?_
  refine s_aload_n (pc' := 5) dX8_addValue_4 rfl rfl ?_
  refine t_getI (pc' := 8) dX8_addValue_5 rfl sh_1 (by decide) fa_X8_9_8 rfl ?_
  refine s_iload_n (pc' := 9) dX8_addValue_8 rfl rfl ?_
  refine t_iast (pc' := 10) dX8_addValue_9 rfl sh_2 hs (by omega) ?_
  refine s_aload_n (pc' := 11) dX8_addValue_10 rfl rfl ?_
  refine s_getS (pc' := 14) (b := 3) dX8_addValue_11 rfl (by decide) rfl (by decide) fa_X8_19_8 rfl rfl ?_
  refine s_aload_n (pc' := 15) dX8_addValue_14 rfl rfl ?_
  refine t_getI (pc' := 18) dX8_addValue_15 rfl sh_1 (by decide) fa_X8_9_8 rfl ?_
  refine s_iload_n (pc' := 19) dX8_addValue_18 rfl rfl ?_
  refine t_iast (pc' := 20) (q := nv) dX8_addValue_19 rfl sh_3 (by simp (disch := decide) only [up2_d]; exact hs) (by omega) ?_
  refine s_aload_n (pc' := 21) dX8_addValue_20 rfl rfl ?_
  refine s_getS (pc' := 24) (b := 4) dX8_addValue_21 rfl (by decide) rfl (by decide) fa_X8_22_8 rfl rfl ?_
  refine s_aload_n (pc' := 25) dX8_addValue_24 rfl rfl ?_
  refine t_getI (pc' := 28) dX8_addValue_25 rfl sh_1 (by decide) fa_X8_9_8 rfl ?_
  refine s_iconst (pc' := 29) (v := 0) dX8_addValue_28 rfl (by decide) ?_
  refine t_iast (pc' := 30) (q := nv) dX8_addValue_29 rfl sh_4 (by simp (disch := decide) only [up2_d]; exact hs) (by omega) ?_
  refine s_aload_n (pc' := 31) dX8_addValue_30 rfl rfl ?_
  refine s_getS (pc' := 34) (b := 5) dX8_addValue_31 rfl (by decide) rfl (by decide) fa_X8_25_8 rfl rfl ?_
  refine s_aload_n (pc' := 35) dX8_addValue_34 rfl rfl ?_
  refine t_getI (pc' := 38) dX8_addValue_35 rfl sh_1 (by decide) fa_X8_9_8 rfl ?_
  refine s_iload_n (pc' := 39) dX8_addValue_38 rfl rfl ?_
  refine t_iast (pc' := 40) (q := nv) dX8_addValue_39 rfl sh_5 (by simp (disch := decide) only [up2_d]; exact hs) (by omega) ?_
  refine s_aload_n (pc' := 41) dX8_addValue_40 rfl rfl ?_
  refine s_getS (pc' := 44) (b := 6) dX8_addValue_41 rfl (by decide) rfl (by decide) fa_X8_28_8 rfl rfl ?_
  refine s_aload_n (pc' := 45) dX8_addValue_44 rfl rfl ?_
  refine t_getI (pc' := 48) dX8_addValue_45 rfl sh_1 (by decide) fa_X8_9_8 rfl ?_
  refine s_iconst (pc' := 49) (v := 0) dX8_addValue_48 rfl (by decide) ?_
  refine t_iast (pc' := 50) (q := nv) dX8_addValue_49 rfl sh_6 (by simp (disch := decide) only [up2_d]; exact hs) (by omega) ?_
  refine s_aload_n (pc' := 51) dX8_addValue_50 rfl rfl ?_
  refine s_getS (pc' := 54) (b := 7) dX8_addValue_51 rfl (by decide) rfl (by decide) fa_X8_31_8 rfl rfl ?_
  refine s_aload_n (pc' := 55) dX8_addValue_54 rfl rfl ?_
  refine t_getI (pc' := 58) dX8_addValue_55 rfl sh_1 (by decide) fa_X8_9_8 rfl ?_
  refine s_iconst (pc' := 59) (v := 0) dX8_addValue_58 rfl (by decide) ?_
  refine t_iast (pc' := 60) (q := nv) dX8_addValue_59 rfl sh_7 (by simp (disch := decide) only [up2_d]; exact hs) (by omega) ?_
  refine s_aload_n (pc' := 61) dX8_addValue_60 rfl rfl ?_
  refine s_dup (pc' := 62) dX8_addValue_61 rfl rfl ?_
  refine t_getI (pc' := 65) dX8_addValue_62 rfl sh_1 (by decide) fa_X8_9_8 rfl ?_
  refine s_iconst (pc' := 66) (v := 1) dX8_addValue_65 rfl (by decide) ?_
  refine s_iadd (pc' := 67) dX8_addValue_66 rfl ?_
  refine t_putI (pc' := 70) dX8_addValue_67 rfl sh_1 (by decide) fa_X8_9_8 (Or.inl rfl) rfl rfl rfl ?_
  exact s_vret dX8_addValue_70 rfl (by decide) (by decide) (by simp (disch := decide) only [up2_d]; rw [hs, show nI nv + 1 = nI (nv + 1) from nI_inc nv]; exact hk)
theorem mm_ok {kind more : Int32} (h : kind = 3 → dOk more) : ∃ cc sd : Int32, (kind = 3 → ∃ c s : Nat, 1 ≤ c ∧ c ≤ 5 ∧ 2 ≤ s ∧ s ≤ 12 ∧ more = nI (c + 8 * s) ∧ cc = nI c ∧ sd = nI s) ∧ (kind ≠ 3 → cc = 0 ∧ sd = 0) ∧ (if kind = 3 then more else 0) = cc + 8 * sd := by
  by_cases e : kind = 3
  · obtain ⟨c, s, h1, h2, h3, h4, h5⟩ := h e
    refine ⟨nI c, nI s, fun _ => ⟨c, s, h1, h2, h3, h4, h5, rfl, rfl⟩, fun z => absurd e z, ?_⟩
    rw [if_pos e, h5, ← nI_add]
    congr 1
    exact (pk_mul 8 s).symm
  · refine ⟨0, 0, fun z => absurd z e, fun _ => ⟨rfl, rfl⟩, ?_⟩
    rw [if_neg e]; decide
set_option maxHeartbeats 200000 in
theorem c_X11_value {N : Nat} {S : Nat → Nat × Nat} {I : Nat → Nat → Int32} {J : Nat → Nat → Int64} {Q : Nat → Nat → Option Nat} {κ : Option Value → HP → Prop} {D : Nat → Nat → Int32} {nv nr ns : Nat} {ad td : Nat → Nat} {e : Nat} (X : XB N S I J Q D nv nr ns ad td e) (he : e + 1 < 2 ^ 30) {kind base more : Int32} (k1 : ¬ vOk kind base more → κ (some (.int (-1))) (N, S, up2 I 0 5 1, J, Q)) (k2 : vOk kind base more → nv = 10 → κ (some (.int (-1))) (N, S, up2 I 0 5 2, J, Q)) (k3 : ∀ cc sd : Int32, vOk kind base more → nv ≠ 10 → (kind = 3 → ∃ c s : Nat, 1 ≤ c ∧ c ≤ 5 ∧ 2 ≤ s ∧ s ≤ 12 ∧ more = nI (c + 8 * s) ∧ cc = nI c ∧ sd = nI s) → (kind ≠ 3 → cc = 0 ∧ sd = 0) → ∀ I', FG (up2 (up2 (up2 (up2 (up2 (up2 (up2 I 2 nv kind) 3 nv base) 4 nv 0) 5 nv (if kind = 3 then more else 0)) 6 nv 0) 7 nv 0) 1 0 (nI (nv + 1))) I' → XB N S I' J Q (vlD D nv kind base cc sd) (nv + 1) nr ns ad td (e + 1) → κ (some (.int (nI nv))) (N, S, up2 I' 0 5 0, J, Q)) : CT E1 M_X11_value [.ref 0, .int kind, .int base, .int more] (N, S, I, J, Q) κ := by
  refine ofSP mk_X11_value (Nat.le_of_ble_eq_true rfl) (L := [.ref 0, .int _, .int _, .int _, .retAddr _]) rfl ?_
  refine s_iload_n (pc' := 1) dX11_value_0 rfl rfl ?_
  refine s_iflt (pc' := 4) (tgt := 22) dX11_value_1 (by decide) rfl (fun c1 => ?_) (fun c1 => ?_)
  · refine s_iconst (pc' := 23) (v := 0) dX11_value_22 rfl (by decide) ?_
    refine t_istore (pc' := 25) (L' := [.ref 0, .int _, .int _, .int _, .int _]) dX11_value_23 rfl (Nat.le_of_ble_eq_true rfl) rfl ?_
    refine s_iload (pc' := 27) dX11_value_25 rfl rfl ?_
    refine s_ifeqT (tgt := 42) dX11_value_27 (by decide) (by decide) ?_
    refine s_aload_n (pc' := 43) dX11_value_42 rfl rfl ?_
    refine s_iconst (pc' := 44) (v := 1) dX11_value_43 rfl (by decide) ?_
    refine s_callV (pc' := 47) (As := [.int _]) dX11_value_44 rfl mk_X11_refused ml_X11_87 im_X11_refused se_X11_X11_X11_refused sh_0 (by decide) rfl rfl rfl ⟨Nat.le_of_ble_eq_true rfl, Nat.le_of_ble_eq_true rfl, Nat.le_of_ble_eq_true rfl, Nat.le_of_ble_eq_true rfl⟩ (Nat.le_of_ble_eq_true rfl) (c_X11_refused ?_)
    exact s_iret dX11_value_47 rfl (by decide) (by decide) (k1 (fun z => in_r1 (a := 0) (by decide) c1 z.1))
  · refine s_iload_n (pc' := 5) dX11_value_4 rfl rfl ?_
    refine s_iconst (pc' := 6) (v := 4) dX11_value_5 rfl (by decide) ?_
    refine s_icmpgt (pc' := 9) (tgt := 22) dX11_value_6 (by decide) rfl (fun c6 => ?_) (fun c6 => ?_)
    · refine s_iconst (pc' := 23) (v := 0) dX11_value_22 rfl (by decide) ?_
      refine t_istore (pc' := 25) (L' := [.ref 0, .int _, .int _, .int _, .int _]) dX11_value_23 rfl (Nat.le_of_ble_eq_true rfl) rfl ?_
      refine s_iload (pc' := 27) dX11_value_25 rfl rfl ?_
      refine s_ifeqT (tgt := 42) dX11_value_27 (by decide) (by decide) ?_
      refine s_aload_n (pc' := 43) dX11_value_42 rfl rfl ?_
      refine s_iconst (pc' := 44) (v := 1) dX11_value_43 rfl (by decide) ?_
      refine s_callV (pc' := 47) (As := [.int _]) dX11_value_44 rfl mk_X11_refused ml_X11_87 im_X11_refused se_X11_X11_X11_refused sh_0 (by decide) rfl rfl rfl ⟨Nat.le_of_ble_eq_true rfl, Nat.le_of_ble_eq_true rfl, Nat.le_of_ble_eq_true rfl, Nat.le_of_ble_eq_true rfl⟩ (Nat.le_of_ble_eq_true rfl) (c_X11_refused ?_)
      exact s_iret dX11_value_47 rfl (by decide) (by decide) (k1 (fun z => in_r2 (b := 4) (by decide) (Int32.not_le.mpr c6) z.1))
    · refine s_iload_n (pc' := 10) dX11_value_9 rfl rfl ?_
      refine s_bipush (pc' := 12) (v := 99) dX11_value_10 rfl (by decide) ?_
      refine s_callS (pc' := 15) (As := [.int _, .int _]) dX11_value_12 rfl mk_X11_isWithin ml_X11_79 sm_X11_isWithin rfl rfl ⟨Nat.le_of_ble_eq_true rfl, Nat.le_of_ble_eq_true rfl, Nat.le_of_ble_eq_true rfl, Nat.le_of_ble_eq_true rfl⟩ (Nat.le_of_ble_eq_true rfl) (c_X11_isWithin (m := 99) (by decide) (fun i12 => ?_) (fun i12 => ?_))
      · refine s_ifeqF (pc' := 18) (tgt := 22) dX11_value_15 (by decide) rfl (by decide) ?_
        refine s_iconst (pc' := 19) (v := 1) dX11_value_18 rfl (by decide) ?_
        refine s_goto (tgt := 23) dX11_value_19 (by decide) ?_
        refine t_istore (pc' := 25) (L' := [.ref 0, .int _, .int _, .int _, .int _]) dX11_value_23 rfl (Nat.le_of_ble_eq_true rfl) rfl ?_
        refine s_iload (pc' := 27) dX11_value_25 rfl rfl ?_
        refine s_ifeqF (pc' := 30) (tgt := 42) dX11_value_27 (by decide) rfl (by decide) ?_
        refine s_iload_n (pc' := 31) dX11_value_30 rfl rfl ?_
        refine s_iconst (pc' := 32) (v := 3) dX11_value_31 rfl (by decide) ?_
        refine s_icmpne (pc' := 35) (tgt := 48) dX11_value_32 (by decide) rfl (fun c32 => ?_) (fun c32 => ?_)
        · have ok : vOk kind base more := ⟨in_r (a := 0) (b := 4) (by decide) (by decide) c1 (Int32.not_lt.mp c6), i12, fun z => absurd z c32⟩
          refine s_aload_n (pc' := 49) dX11_value_48 rfl rfl ?_
          refine s_getS (pc' := 52) (b := 1) dX11_value_49 rfl (by decide) rfl (by decide) fa_X11_10_11 rfl rfl ?_
          refine t_getI (pc' := 55) dX11_value_52 rfl sh_1 (by decide) fa_X11_91_8 rfl ?_
          refine s_bipush (pc' := 57) (v := 10) dX11_value_55 rfl (by decide) ?_
          refine s_icmplt (pc' := 60) (tgt := 66) dX11_value_57 (by decide) rfl (fun c57 => ?_) (fun c57 => ?_)
          · have hnv : nv < 10 := by have hh := X.2.1.nv; rw [X.1.xv] at c57; exact Nat.lt_of_not_le (fun z => Int32.not_lt.mpr (nI_le (a := 10) z (by omega)) c57)
            obtain ⟨cc, sd, h3, h4, hmm⟩ := mm_ok ok.2.2
            have h3b : kind = 3 → ∃ c s : Nat, 1 ≤ c ∧ c ≤ 5 ∧ 2 ≤ s ∧ s ≤ 12 ∧ cc = nI c ∧ sd = nI s := fun z => by obtain ⟨c, s, q1, q2, q3, q4, -, q5, q6⟩ := h3 z; exact ⟨c, s, q1, q2, q3, q4, q5, q6⟩
            refine s_aload_n (pc' := 67) dX11_value_66 rfl rfl ?_
            refine s_getS (pc' := 70) (b := 1) dX11_value_67 rfl (by decide) rfl (by decide) fa_X11_10_11 rfl rfl ?_
            refine s_iload_n (pc' := 71) dX11_value_70 rfl rfl ?_
            refine s_iload_n (pc' := 72) dX11_value_71 rfl rfl ?_
            refine s_iload_n (pc' := 73) dX11_value_72 rfl rfl ?_
            refine s_iconst (pc' := 74) (v := 3) dX11_value_73 rfl (by decide) ?_
            refine s_icmpne (pc' := 77) (tgt := 81) dX11_value_74 (by decide) rfl (fun c74 => ?_) (fun c74 => ?_)
            · refine s_iconst (pc' := 82) (v := 0) dX11_value_81 rfl (by decide) ?_
              skip
              refine s_callV (pc' := 85) (As := [.int _, .int _, .int _]) dX11_value_82 rfl mk_X8_addValue ml_X11_94 im_X8_addValue se_X8_X8_X8_addValue sh_1 (by decide) rfl rfl rfl ⟨Nat.le_of_ble_eq_true rfl, Nat.le_of_ble_eq_true rfl, Nat.le_of_ble_eq_true rfl, Nat.le_of_ble_eq_true rfl⟩ (Nat.le_of_ble_eq_true rfl) (c_X8_addValue X.1.xv hnv ?_)
              have hm2 : (0 : Int32) = cc + 8 * sd := by rw [if_neg c74] at hmm; exact hmm
              refine s_aload_n (pc' := 86) dX11_value_85 rfl rfl ?_
              refine s_getS (pc' := 89) (b := 23) dX11_value_86 rfl (by decide) rfl (by decide) fa_X11_24_11 rfl rfl ?_
              refine s_callV (pc' := 92) (As := []) dX11_value_89 rfl mk_X1_forget ml_X11_97 im_X1_forget se_X1_X1_X1_forget sh_23 (by decide) rfl rfl rfl ⟨Nat.le_of_ble_eq_true rfl, Nat.le_of_ble_eq_true rfl, Nat.le_of_ble_eq_true rfl, Nat.le_of_ble_eq_true rfl⟩ (Nat.le_of_ble_eq_true rfl) (c_X1_forget (X.1.vl X.2.1 hnv hm2) (X.2.1.vl hnv ok.1 ok.2.1 h3b h4) (AC.vl X.2.1 hnv X.2.2.1) (NT.vl X.2.1 hnv X.2.2.2.1 (by funext q; simp (disch := decide) only [up2_d]; by_cases eq : q = nv <;> simp [up2, eq])) (by simp (disch := decide) only [up2_d]; exact X.2.2.2.2.2.1) (J0 := J) (e := e) (BK.hd X.2.2.2.2.2.2) he (fun I1 f1 X1 => ?_))
              refine s_aload_n (pc' := 93) dX11_value_92 rfl rfl ?_
              refine s_aload_n (pc' := 94) dX11_value_93 rfl rfl ?_
              refine s_getS (pc' := 97) (b := 1) dX11_value_94 rfl (by decide) rfl (by decide) fa_X11_10_11 rfl rfl ?_
              refine t_getI (pc' := 100) dX11_value_97 rfl sh_1 (by decide) fa_X11_91_8 rfl ?_
              refine s_iconst (pc' := 101) (v := 1) dX11_value_100 rfl (by decide) ?_
              refine s_isub (pc' := 102) dX11_value_101 rfl ?_
              refine s_callV (pc' := 105) (As := [.int _]) dX11_value_102 rfl mk_X11_done ml_X11_100 im_X11_done se_X11_X11_X11_done sh_0 (by decide) rfl rfl rfl ⟨Nat.le_of_ble_eq_true rfl, Nat.le_of_ble_eq_true rfl, Nat.le_of_ble_eq_true rfl, Nat.le_of_ble_eq_true rfl⟩ (Nat.le_of_ble_eq_true rfl) (c_X11_done ?_)
              exact s_iret dX11_value_105 rfl (by decide) (by decide) (by have q := k3 cc sd ok (by omega) h3 h4 I1 (by rw [if_neg c74]; exact f1) X1; rw [X1.1.xv, show nI (nv + 1) - 1 = nI nv by rw [← nI_inc nv]; exact Int32.add_sub_cancel _ _]; exact q)
            · refine s_iload_n (pc' := 78) dX11_value_77 rfl rfl ?_
              refine s_goto (tgt := 82) dX11_value_78 (by decide) ?_
              skip
              refine s_callV (pc' := 85) (As := [.int _, .int _, .int _]) dX11_value_82 rfl mk_X8_addValue ml_X11_94 im_X8_addValue se_X8_X8_X8_addValue sh_1 (by decide) rfl rfl rfl ⟨Nat.le_of_ble_eq_true rfl, Nat.le_of_ble_eq_true rfl, Nat.le_of_ble_eq_true rfl, Nat.le_of_ble_eq_true rfl⟩ (Nat.le_of_ble_eq_true rfl) (c_X8_addValue X.1.xv hnv ?_)
              have hm2 : more = cc + 8 * sd := by rw [if_pos (by first | exact c74 | exact Decidable.not_not.mp c74)] at hmm; exact hmm
              refine s_aload_n (pc' := 86) dX11_value_85 rfl rfl ?_
              refine s_getS (pc' := 89) (b := 23) dX11_value_86 rfl (by decide) rfl (by decide) fa_X11_24_11 rfl rfl ?_
              refine s_callV (pc' := 92) (As := []) dX11_value_89 rfl mk_X1_forget ml_X11_97 im_X1_forget se_X1_X1_X1_forget sh_23 (by decide) rfl rfl rfl ⟨Nat.le_of_ble_eq_true rfl, Nat.le_of_ble_eq_true rfl, Nat.le_of_ble_eq_true rfl, Nat.le_of_ble_eq_true rfl⟩ (Nat.le_of_ble_eq_true rfl) (c_X1_forget (X.1.vl X.2.1 hnv hm2) (X.2.1.vl hnv ok.1 ok.2.1 h3b h4) (AC.vl X.2.1 hnv X.2.2.1) (NT.vl X.2.1 hnv X.2.2.2.1 (by funext q; simp (disch := decide) only [up2_d]; by_cases eq : q = nv <;> simp [up2, eq])) (by simp (disch := decide) only [up2_d]; exact X.2.2.2.2.2.1) (J0 := J) (e := e) (BK.hd X.2.2.2.2.2.2) he (fun I1 f1 X1 => ?_))
              refine s_aload_n (pc' := 93) dX11_value_92 rfl rfl ?_
              refine s_aload_n (pc' := 94) dX11_value_93 rfl rfl ?_
              refine s_getS (pc' := 97) (b := 1) dX11_value_94 rfl (by decide) rfl (by decide) fa_X11_10_11 rfl rfl ?_
              refine t_getI (pc' := 100) dX11_value_97 rfl sh_1 (by decide) fa_X11_91_8 rfl ?_
              refine s_iconst (pc' := 101) (v := 1) dX11_value_100 rfl (by decide) ?_
              refine s_isub (pc' := 102) dX11_value_101 rfl ?_
              refine s_callV (pc' := 105) (As := [.int _]) dX11_value_102 rfl mk_X11_done ml_X11_100 im_X11_done se_X11_X11_X11_done sh_0 (by decide) rfl rfl rfl ⟨Nat.le_of_ble_eq_true rfl, Nat.le_of_ble_eq_true rfl, Nat.le_of_ble_eq_true rfl, Nat.le_of_ble_eq_true rfl⟩ (Nat.le_of_ble_eq_true rfl) (c_X11_done ?_)
              exact s_iret dX11_value_105 rfl (by decide) (by decide) (by have q := k3 cc sd ok (by omega) h3 h4 I1 (by rw [if_pos (by first | exact c74 | exact Decidable.not_not.mp c74)]; exact f1) X1; rw [X1.1.xv, show nI (nv + 1) - 1 = nI nv by rw [← nI_inc nv]; exact Int32.add_sub_cancel _ _]; exact q)
          · refine s_aload_n (pc' := 61) dX11_value_60 rfl rfl ?_
            refine s_iconst (pc' := 62) (v := 2) dX11_value_61 rfl (by decide) ?_
            refine s_callV (pc' := 65) (As := [.int _]) dX11_value_62 rfl mk_X11_refused ml_X11_87 im_X11_refused se_X11_X11_X11_refused sh_0 (by decide) rfl rfl rfl ⟨Nat.le_of_ble_eq_true rfl, Nat.le_of_ble_eq_true rfl, Nat.le_of_ble_eq_true rfl, Nat.le_of_ble_eq_true rfl⟩ (Nat.le_of_ble_eq_true rfl) (c_X11_refused ?_)
            exact s_iret dX11_value_65 rfl (by decide) (by decide) (k2 ok (by rw [X.1.xv] at c57; have := X.2.1.nv; exact Nat.le_antisymm this (Nat.le_of_not_lt (fun z => c57 (nI_lt (b := 10) z (by omega))))))
        · refine s_iload_n (pc' := 36) dX11_value_35 rfl rfl ?_
          refine s_callS (pc' := 39) (As := [.int _]) dX11_value_36 rfl mk_X11_areDice ml_X11_83 sm_X11_areDice rfl rfl ⟨Nat.le_of_ble_eq_true rfl, Nat.le_of_ble_eq_true rfl, Nat.le_of_ble_eq_true rfl, Nat.le_of_ble_eq_true rfl⟩ (Nat.le_of_ble_eq_true rfl) (c_X11_areDice (fun i36 => ?_) (fun i36 => ?_))
          · refine s_ifneT (tgt := 48) dX11_value_39 (by decide) (by decide) ?_
            have ok : vOk kind base more := ⟨in_r (a := 0) (b := 4) (by decide) (by decide) c1 (Int32.not_lt.mp c6), i12, fun z => i36⟩
            refine s_aload_n (pc' := 49) dX11_value_48 rfl rfl ?_
            refine s_getS (pc' := 52) (b := 1) dX11_value_49 rfl (by decide) rfl (by decide) fa_X11_10_11 rfl rfl ?_
            refine t_getI (pc' := 55) dX11_value_52 rfl sh_1 (by decide) fa_X11_91_8 rfl ?_
            refine s_bipush (pc' := 57) (v := 10) dX11_value_55 rfl (by decide) ?_
            refine s_icmplt (pc' := 60) (tgt := 66) dX11_value_57 (by decide) rfl (fun c57 => ?_) (fun c57 => ?_)
            · have hnv : nv < 10 := by have hh := X.2.1.nv; rw [X.1.xv] at c57; exact Nat.lt_of_not_le (fun z => Int32.not_lt.mpr (nI_le (a := 10) z (by omega)) c57)
              obtain ⟨cc, sd, h3, h4, hmm⟩ := mm_ok ok.2.2
              have h3b : kind = 3 → ∃ c s : Nat, 1 ≤ c ∧ c ≤ 5 ∧ 2 ≤ s ∧ s ≤ 12 ∧ cc = nI c ∧ sd = nI s := fun z => by obtain ⟨c, s, q1, q2, q3, q4, -, q5, q6⟩ := h3 z; exact ⟨c, s, q1, q2, q3, q4, q5, q6⟩
              refine s_aload_n (pc' := 67) dX11_value_66 rfl rfl ?_
              refine s_getS (pc' := 70) (b := 1) dX11_value_67 rfl (by decide) rfl (by decide) fa_X11_10_11 rfl rfl ?_
              refine s_iload_n (pc' := 71) dX11_value_70 rfl rfl ?_
              refine s_iload_n (pc' := 72) dX11_value_71 rfl rfl ?_
              refine s_iload_n (pc' := 73) dX11_value_72 rfl rfl ?_
              refine s_iconst (pc' := 74) (v := 3) dX11_value_73 rfl (by decide) ?_
              refine s_icmpne (pc' := 77) (tgt := 81) dX11_value_74 (by decide) rfl (fun c74 => ?_) (fun c74 => ?_)
              · refine s_iconst (pc' := 82) (v := 0) dX11_value_81 rfl (by decide) ?_
                skip
                refine s_callV (pc' := 85) (As := [.int _, .int _, .int _]) dX11_value_82 rfl mk_X8_addValue ml_X11_94 im_X8_addValue se_X8_X8_X8_addValue sh_1 (by decide) rfl rfl rfl ⟨Nat.le_of_ble_eq_true rfl, Nat.le_of_ble_eq_true rfl, Nat.le_of_ble_eq_true rfl, Nat.le_of_ble_eq_true rfl⟩ (Nat.le_of_ble_eq_true rfl) (c_X8_addValue X.1.xv hnv ?_)
                have hm2 : (0 : Int32) = cc + 8 * sd := by rw [if_neg c74] at hmm; exact hmm
                refine s_aload_n (pc' := 86) dX11_value_85 rfl rfl ?_
                refine s_getS (pc' := 89) (b := 23) dX11_value_86 rfl (by decide) rfl (by decide) fa_X11_24_11 rfl rfl ?_
                refine s_callV (pc' := 92) (As := []) dX11_value_89 rfl mk_X1_forget ml_X11_97 im_X1_forget se_X1_X1_X1_forget sh_23 (by decide) rfl rfl rfl ⟨Nat.le_of_ble_eq_true rfl, Nat.le_of_ble_eq_true rfl, Nat.le_of_ble_eq_true rfl, Nat.le_of_ble_eq_true rfl⟩ (Nat.le_of_ble_eq_true rfl) (c_X1_forget (X.1.vl X.2.1 hnv hm2) (X.2.1.vl hnv ok.1 ok.2.1 h3b h4) (AC.vl X.2.1 hnv X.2.2.1) (NT.vl X.2.1 hnv X.2.2.2.1 (by funext q; simp (disch := decide) only [up2_d]; by_cases eq : q = nv <;> simp [up2, eq])) (by simp (disch := decide) only [up2_d]; exact X.2.2.2.2.2.1) (J0 := J) (e := e) (BK.hd X.2.2.2.2.2.2) he (fun I1 f1 X1 => ?_))
                refine s_aload_n (pc' := 93) dX11_value_92 rfl rfl ?_
                refine s_aload_n (pc' := 94) dX11_value_93 rfl rfl ?_
                refine s_getS (pc' := 97) (b := 1) dX11_value_94 rfl (by decide) rfl (by decide) fa_X11_10_11 rfl rfl ?_
                refine t_getI (pc' := 100) dX11_value_97 rfl sh_1 (by decide) fa_X11_91_8 rfl ?_
                refine s_iconst (pc' := 101) (v := 1) dX11_value_100 rfl (by decide) ?_
                refine s_isub (pc' := 102) dX11_value_101 rfl ?_
                refine s_callV (pc' := 105) (As := [.int _]) dX11_value_102 rfl mk_X11_done ml_X11_100 im_X11_done se_X11_X11_X11_done sh_0 (by decide) rfl rfl rfl ⟨Nat.le_of_ble_eq_true rfl, Nat.le_of_ble_eq_true rfl, Nat.le_of_ble_eq_true rfl, Nat.le_of_ble_eq_true rfl⟩ (Nat.le_of_ble_eq_true rfl) (c_X11_done ?_)
                exact s_iret dX11_value_105 rfl (by decide) (by decide) (by have q := k3 cc sd ok (by omega) h3 h4 I1 (by rw [if_neg c74]; exact f1) X1; rw [X1.1.xv, show nI (nv + 1) - 1 = nI nv by rw [← nI_inc nv]; exact Int32.add_sub_cancel _ _]; exact q)
              · refine s_iload_n (pc' := 78) dX11_value_77 rfl rfl ?_
                refine s_goto (tgt := 82) dX11_value_78 (by decide) ?_
                skip
                refine s_callV (pc' := 85) (As := [.int _, .int _, .int _]) dX11_value_82 rfl mk_X8_addValue ml_X11_94 im_X8_addValue se_X8_X8_X8_addValue sh_1 (by decide) rfl rfl rfl ⟨Nat.le_of_ble_eq_true rfl, Nat.le_of_ble_eq_true rfl, Nat.le_of_ble_eq_true rfl, Nat.le_of_ble_eq_true rfl⟩ (Nat.le_of_ble_eq_true rfl) (c_X8_addValue X.1.xv hnv ?_)
                have hm2 : more = cc + 8 * sd := by rw [if_pos (by first | exact c74 | exact Decidable.not_not.mp c74)] at hmm; exact hmm
                refine s_aload_n (pc' := 86) dX11_value_85 rfl rfl ?_
                refine s_getS (pc' := 89) (b := 23) dX11_value_86 rfl (by decide) rfl (by decide) fa_X11_24_11 rfl rfl ?_
                refine s_callV (pc' := 92) (As := []) dX11_value_89 rfl mk_X1_forget ml_X11_97 im_X1_forget se_X1_X1_X1_forget sh_23 (by decide) rfl rfl rfl ⟨Nat.le_of_ble_eq_true rfl, Nat.le_of_ble_eq_true rfl, Nat.le_of_ble_eq_true rfl, Nat.le_of_ble_eq_true rfl⟩ (Nat.le_of_ble_eq_true rfl) (c_X1_forget (X.1.vl X.2.1 hnv hm2) (X.2.1.vl hnv ok.1 ok.2.1 h3b h4) (AC.vl X.2.1 hnv X.2.2.1) (NT.vl X.2.1 hnv X.2.2.2.1 (by funext q; simp (disch := decide) only [up2_d]; by_cases eq : q = nv <;> simp [up2, eq])) (by simp (disch := decide) only [up2_d]; exact X.2.2.2.2.2.1) (J0 := J) (e := e) (BK.hd X.2.2.2.2.2.2) he (fun I1 f1 X1 => ?_))
                refine s_aload_n (pc' := 93) dX11_value_92 rfl rfl ?_
                refine s_aload_n (pc' := 94) dX11_value_93 rfl rfl ?_
                refine s_getS (pc' := 97) (b := 1) dX11_value_94 rfl (by decide) rfl (by decide) fa_X11_10_11 rfl rfl ?_
                refine t_getI (pc' := 100) dX11_value_97 rfl sh_1 (by decide) fa_X11_91_8 rfl ?_
                refine s_iconst (pc' := 101) (v := 1) dX11_value_100 rfl (by decide) ?_
                refine s_isub (pc' := 102) dX11_value_101 rfl ?_
                refine s_callV (pc' := 105) (As := [.int _]) dX11_value_102 rfl mk_X11_done ml_X11_100 im_X11_done se_X11_X11_X11_done sh_0 (by decide) rfl rfl rfl ⟨Nat.le_of_ble_eq_true rfl, Nat.le_of_ble_eq_true rfl, Nat.le_of_ble_eq_true rfl, Nat.le_of_ble_eq_true rfl⟩ (Nat.le_of_ble_eq_true rfl) (c_X11_done ?_)
                exact s_iret dX11_value_105 rfl (by decide) (by decide) (by have q := k3 cc sd ok (by omega) h3 h4 I1 (by rw [if_pos (by first | exact c74 | exact Decidable.not_not.mp c74)]; exact f1) X1; rw [X1.1.xv, show nI (nv + 1) - 1 = nI nv by rw [← nI_inc nv]; exact Int32.add_sub_cancel _ _]; exact q)
            · refine s_aload_n (pc' := 61) dX11_value_60 rfl rfl ?_
              refine s_iconst (pc' := 62) (v := 2) dX11_value_61 rfl (by decide) ?_
              refine s_callV (pc' := 65) (As := [.int _]) dX11_value_62 rfl mk_X11_refused ml_X11_87 im_X11_refused se_X11_X11_X11_refused sh_0 (by decide) rfl rfl rfl ⟨Nat.le_of_ble_eq_true rfl, Nat.le_of_ble_eq_true rfl, Nat.le_of_ble_eq_true rfl, Nat.le_of_ble_eq_true rfl⟩ (Nat.le_of_ble_eq_true rfl) (c_X11_refused ?_)
              exact s_iret dX11_value_65 rfl (by decide) (by decide) (k2 ok (by rw [X.1.xv] at c57; have := X.2.1.nv; exact Nat.le_antisymm this (Nat.le_of_not_lt (fun z => c57 (nI_lt (b := 10) z (by omega))))))
          · refine s_ifneF (pc' := 42) (tgt := 48) dX11_value_39 (by decide) rfl (by decide) ?_
            refine s_aload_n (pc' := 43) dX11_value_42 rfl rfl ?_
            refine s_iconst (pc' := 44) (v := 1) dX11_value_43 rfl (by decide) ?_
            refine s_callV (pc' := 47) (As := [.int _]) dX11_value_44 rfl mk_X11_refused ml_X11_87 im_X11_refused se_X11_X11_X11_refused sh_0 (by decide) rfl rfl rfl ⟨Nat.le_of_ble_eq_true rfl, Nat.le_of_ble_eq_true rfl, Nat.le_of_ble_eq_true rfl, Nat.le_of_ble_eq_true rfl⟩ (Nat.le_of_ble_eq_true rfl) (c_X11_refused ?_)
            exact s_iret dX11_value_47 rfl (by decide) (by decide) (k1 (fun z => i36 (z.2.2 (by first | exact c32 | exact Decidable.not_not.mp c32))))
      · refine s_ifeqT (tgt := 22) dX11_value_15 (by decide) (by decide) ?_
        refine s_iconst (pc' := 23) (v := 0) dX11_value_22 rfl (by decide) ?_
        refine t_istore (pc' := 25) (L' := [.ref 0, .int _, .int _, .int _, .int _]) dX11_value_23 rfl (Nat.le_of_ble_eq_true rfl) rfl ?_
        refine s_iload (pc' := 27) dX11_value_25 rfl rfl ?_
        refine s_ifeqT (tgt := 42) dX11_value_27 (by decide) (by decide) ?_
        refine s_aload_n (pc' := 43) dX11_value_42 rfl rfl ?_
        refine s_iconst (pc' := 44) (v := 1) dX11_value_43 rfl (by decide) ?_
        refine s_callV (pc' := 47) (As := [.int _]) dX11_value_44 rfl mk_X11_refused ml_X11_87 im_X11_refused se_X11_X11_X11_refused sh_0 (by decide) rfl rfl rfl ⟨Nat.le_of_ble_eq_true rfl, Nat.le_of_ble_eq_true rfl, Nat.le_of_ble_eq_true rfl, Nat.le_of_ble_eq_true rfl⟩ (Nat.le_of_ble_eq_true rfl) (c_X11_refused ?_)
        exact s_iret dX11_value_47 rfl (by decide) (by decide) (k1 (fun z => i12 z.2.1))
