/-! ===== rules: the class ===== -/
theorem and15e {x : Int32} (h : ¬ x < 0) : x &&& 15 = x - x / 16 * 16 := by
  obtain ⟨m, hm, rfl⟩ := nI_of h
  rw [and15 hm, nI_rm hm]
theorem shr4e {x : Int32} (h : ¬ x < 0) : x >>> ((4 : Int32) &&& 31) = x / 16 := by
  obtain ⟨m, hm, rfl⟩ := nI_of h
  rw [shr4 hm, nI_dv hm]
theorem inR_nlt {x b : Int32} {A B : Int} (h : inR x A B) (eb : b.toInt = B) : ¬ b < x := by
  rw [int_lt]; have := h.2; omega
theorem inR_nlt2 {x a : Int32} {A B : Int} (h : inR x A B) (ea : a.toInt = A) : ¬ x < a := by
  rw [int_lt]; have := h.1; omega
theorem inR_ok {x a b : Int32} {A B : Int} (ea : a.toInt = A) (eb : b.toInt = B) (h0 : ¬ x < a) (h1 : ¬ b < x) : inR x A B := by
  rw [int_lt] at h0 h1; unfold inR; omega
theorem a15n {x : Int32} (h : ¬ x < 0) : ¬ x &&& 15 < 0 := by
  obtain ⟨m, hm, rfl⟩ := nI_of h
  rw [and15 hm]; exact nI_n0 (by omega)
theorem s4n {x : Int32} (h : ¬ x < 0) : ¬ x >>> ((4 : Int32) &&& 31) < 0 := by
  obtain ⟨m, hm, rfl⟩ := nI_of h
  rw [shr4 hm]; exact nI_n0 (by omega)
/-- a rule's object as its constructor leaves it -/
def riI (I : Nat → Nat → Int32) (a : Nat) (kind num aim more told by_ : Int32) : Nat → Nat → Int32 :=
  up2 (up2 (up2 (up2 (up2 (up2 (up2 (up2 (up2 I a 0 kind) a 1 num) a 3 aim) a 4 (more &&& 15)) a 5 (more >>> ((4 : Int32) &&& 31))) a 6 (if kind ≤ 3 then aim else -1)) a 7 told) a 8 (if by_ = -1 then -1 else by_ &&& 15)) a 9 (if by_ = -1 then 0 else by_ >>> ((4 : Int32) &&& 31))
section RI
variable {N : Nat} {S : Nat → Nat × Nat} {I I' X : Nat → Nat → Int32} {Q Q' : Nat → Nat → Option Nat} {D D' : Nat → Nat → Int32} {nv nr ns kn a ra so t o c : Nat} {ty le am b fa how of num aim more amt by_ told kind : Int32} {ad td : Nat → Nat}
theorem riI_o (h : o ≠ a) : riI I a kind num aim more told by_ o = I o := by
  unfold riI
  rw [up2_o h, up2_o h, up2_o h, up2_o h, up2_o h, up2_o h, up2_o h, up2_o h, up2_o h]
theorem TO.new (T : TO N S I t how of num) (h94 : 94 ≤ N) (hX : ∀ c, c ≠ N → X c = I c) {k : Nat × Nat} : TO (N + 1) (nS S N k) X t how of num := by
  obtain ⟨q1, q2, q3, q4, q5, q6⟩ := T
  have e := hX t (by omega)
  exact ⟨q1, by omega, by rw [nS_o (by omega)]; exact q3, by rw [e]; exact q4, by rw [e]; exact q5, by rw [e]; exact q6⟩
/-- the new object stands for the new rule -/
theorem RO.new {ci : Nat} (h : NWD D D' nr kn a ra so ty le am b fa how of num) (g : RGO nv nr how kn aim more amt by_ a ra so am b fa) (hk : kn ≤ 6) (hn : nv ≤ 10) (h94 : 94 ≤ N) (T : TO N S I t how of num) (hci : kc (nI kn) = ci)
    (hX : ∀ c, c ≠ N → X c = I c) (hx : ∀ j, j < 10 → X N j = riI (zI I N) N (nI kn) (nI nr) aim more (if kn ≤ 3 then amt else 0) (if kn ≤ 3 then by_ else -1) N j) (hx1 : kn = 1 → X N 10 = ty) (hx3 : kn = 3 → X N 10 = 1 - le) (hq : Q' N 2 = some t) : RO (N + 1) (nS S N (ci, 0)) X Q' D' nr N t := by
  obtain ⟨n1, n2, n3, n4, ⟨n60, n61, n62, n63, n64, n65⟩, n66, n67, n68, n69, n70, n71⟩ := h
  obtain ⟨g1, g2, g3, g4, g5, g6, g7, g8, g9, g10⟩ := g
  have k3 : (nI kn ≤ 3 ↔ kn ≤ 3) := nI_leI (b := 3) (by omega) (by decide)
  have e1 : (nI kn = 1 ↔ kn = 1) := nI_eq (b := 1) (by omega) (by decide)
  have e3 : (nI kn = 3 ↔ kn = 3) := nI_eq (b := 3) (by omega) (by decide)
  have hby : (if (if kn ≤ 3 then by_ else -1) = -1 then (-1 : Int32) else (if kn ≤ 3 then by_ else -1) &&& 15) = b ∧ (if (if kn ≤ 3 then by_ else -1) = -1 then (0 : Int32) else (if kn ≤ 3 then by_ else -1) >>> ((4 : Int32) &&& 31)) = fa ∧ (if kn ≤ 3 then amt else 0) = am := by
    by_cases z : kn ≤ 3
    · rw [if_pos z, if_pos z]
      obtain ⟨x1, -, ⟨y1, y2, y3⟩ | ⟨d, f, d1, d2, d3, d4, d5, d6⟩⟩ := g9 z
      · rw [if_pos y1, if_pos y1]; exact ⟨y2.symm, y3.symm, x1.symm⟩
      · rw [d4, if_neg (nI_nm (by omega)), if_neg (nI_nm (by omega)), and15 (by omega), shr4 (by omega), d5, d6]
        exact ⟨by congr 1; omega, by congr 1; omega, x1.symm⟩
    · rw [if_neg z, if_neg z, if_pos rfl, if_pos rfl]
      obtain ⟨x1, x2, x3⟩ := g10 (by omega)
      exact ⟨x2.symm, x3.symm, x1.symm⟩
  unfold riI at hx
  have x0 := hx 0 (by decide); have x1 := hx 1 (by decide); have x3 := hx 3 (by decide); have x4 := hx 4 (by decide); have x5 := hx 5 (by decide); have x6 := hx 6 (by decide); have x7 := hx 7 (by decide); have x8 := hx 8 (by decide); have x9 := hx 9 (by decide)
  simp (disch := decide) only [up2_e, up2_s] at x0 x1 x3 x4 x5 x6 x7 x8 x9
  unfold RO
  rw [n60, n61, n62, n63, n64, n65, n66, n67, n68, n69, n70, n71]
  refine ⟨⟨h94, Nat.lt_succ_self _, by rw [nS_s, hci], hq, T.new h94 hX⟩, x0, x1, by rw [x3, g1], ?_, ?_, by rw [x6, g1], by rw [x7]; exact hby.2.2, by rw [x8]; exact hby.1, by rw [x9]; exact hby.2.1, fun z => hx1 (e1.mp z), fun z => hx3 (e3.mp z)⟩
  · rw [x4, g8, and15 (by omega)]; congr 1; omega
  · rw [x5, g8, shr4 (by omega)]; congr 1; omega
theorem NWD.rb (h : NWD D D' nr kn a ra so ty le am b fa how of num) : rb D' nr = rdS how of b := by
  obtain ⟨-, -, -, -, -, -, n67, -, n69, n70, -⟩ := h
  unfold CHeroSheetLaw_law_r7408_42258b.rb rdS; rw [n67, n69, n70]
theorem XS.nw (X : XS N S I Q D nv nr ns ad td 0) (h : NWD D D' nr kn a ra so ty le am b fa how of num) (R : RO N S I Q D' nr c t)
    (c1 : ∀ j, j ≠ 7 → I' 1 j = I 1 j) (c7 : I' 1 7 = nI (nr + 1)) (c2 : ∀ c, (2 ≤ c ∧ c ≤ 5) ∨ (9 ≤ c ∧ c ≤ 11) ∨ c = 42 ∨ 94 ≤ c → I' c = I c) (c6 : ∀ v, v < nv → I' 6 v = nd D' (nr + 1) v) (q8 : Q' 8 = up2 Q 8 nr (some c) 8) (q9 : ∀ c, 94 ≤ c → Q' c = Q c) : XS N S I' Q' D' nv (nr + 1) ns (fu ad nr c) (fu td nr t) 0 := by
  obtain ⟨x1, x2, x3, x4⟩ := X
  obtain ⟨n1, n2, n3, n4, -⟩ := h
  refine ⟨?_, fun v hv => ?_, fun r hr => ?_, fun k hk => ?_⟩
  · rw [c1 0 (by decide), c7, c1 9 (by decide), c1 13 (by decide), c1 14 (by decide), c1 15 (by decide), c1 16 (by decide), n2 6 (by decide), n2 3 (by decide), n2 4 (by decide), n2 5 (by decide)]
    exact ⟨x1.1, rfl, x1.2.2⟩
  · obtain ⟨y1, y2, y3, y4, -⟩ := x2 v hv
    rw [c2 (0 + 2) (by decide), c2 (0 + 3) (by decide), c2 (0 + 4) (by decide), c2 (0 + 5) (by decide), n1 55 (by decide), n1 56 (by decide), n1 57 (by decide), n1 58 (by decide), n1 59 (by decide)]
    exact ⟨y1, y2, y3, y4, c6 v hv⟩
  · rw [show Q' (0 + 8) = up2 Q 8 nr (some c) 8 from q8]
    by_cases e : r = nr
    · rw [e, up2_s, fu_s, fu_s]; exact ⟨rfl, R.mv (fun d hd => c2 d (by omega)) q9⟩
    · rw [up2_e e, fu_o e, fu_o e]
      exact ⟨(x3 r (by omega)).1, (n4.ro (by omega) (x3 r (by omega)).2).mv (fun d hd => c2 d (by omega)) q9⟩
  · rw [c2 (0 + 9) (by decide), c2 (0 + 10) (by decide), c2 (0 + 11) (by decide), n1 72 (by decide), n1 73 (by decide), n1 74 (by decide)]; exact x4 k hk
/-- what addNeeds does -/
def ANI (I I' : Nat → Nat → Int32) (nv w : Nat) (rd : Int32) : Prop := (∀ c, c ≠ 6 → c ≠ 7 → I' c = I c) ∧ (∀ v, v < nv → I' 6 v = if v = w then I 6 v ||| rd else I 6 v) ∧ ∀ v, v < nv → ∀ u, (bt (I' 7 v) u = true ↔ bt (I 7 v) u = true ∨ ((v = w ∨ bt (I 7 v) w = true) ∧ (bt rd u = true ∨ ∃ z, z < nv ∧ bt rd z = true ∧ bt (I 7 z) u = true)))
end RI
set_option maxHeartbeats 200000 in
theorem c_X6_init_6 {N : Nat} {S : Nat → Nat × Nat} {I : Nat → Nat → Int32} {J : Nat → Nat → Int64} {Q : Nat → Nat → Option Nat} {κ : Option Value → HP → Prop} {a : Nat} (h94 : 94 ≤ a) (ha : a < N) (hS : S a = (6, 0)) {t : Nat} {kind nu aim more told by_ : Int32} (hk : κ none (N, S, riI I a kind nu aim more told by_, J, up2 Q a 2 (some t))) : CT E1 M_X6_init [.ref a, .int kind, .int nu, .ref t, .int aim, .int more, .int told, .int by_] (N, S, I, J, Q) κ := by
  refine ofSP mk_X6_init (Nat.le_of_ble_eq_true rfl) (L := [.ref _, .int _, .int _, .ref _, .int _, .int _, .int _, .int _]) rfl ?_
  refine s_aload_n (pc' := 1) dX6_init_0 rfl rfl ?_
  refine s_objInit (pc' := 4) dX6_init_1 rfl ml_X6_3 (by decide) (by decide) ?_
  refine s_aload_n (pc' := 5) dX6_init_4 rfl rfl ?_
  refine s_iload_n (pc' := 6) dX6_init_5 rfl rfl ?_
  refine t_putI (pc' := 9) dX6_init_6 rfl (Sh.dy (by decide) ha hS) (by decide) fa_X6_9_6 (Or.inr ⟨rfl, rfl, rfl⟩) rfl rfl rfl ?_
  refine s_aload_n (pc' := 10) dX6_init_9 rfl rfl ?_
  refine s_iload_n (pc' := 11) dX6_init_10 rfl rfl ?_
  refine t_putI (pc' := 14) dX6_init_11 rfl (Sh.dy (by decide) ha hS) (by decide) fa_X6_15_6 (Or.inr ⟨rfl, rfl, rfl⟩) rfl rfl rfl ?_
  refine s_aload_n (pc' := 15) dX6_init_14 rfl rfl ?_
  refine s_aload_n (pc' := 16) dX6_init_15 rfl rfl ?_
  refine t_putR (pc' := 19) (r := some _) dX6_init_16 rfl rfl (Sh.dy (by decide) ha hS) (by decide) fa_X6_18_6 (Or.inr ⟨rfl, rfl, rfl⟩) rfl (fun z => absurd z (Nat.not_lt.mpr h94)) ?_
  refine s_aload_n (pc' := 20) dX6_init_19 rfl rfl ?_
  refine s_iload (pc' := 22) dX6_init_20 rfl rfl ?_
  refine t_putI (pc' := 25) dX6_init_22 rfl (Sh.dy (by decide) ha hS) (by decide) fa_X6_22_6 (Or.inr ⟨rfl, rfl, rfl⟩) rfl rfl rfl ?_
  refine s_aload_n (pc' := 26) dX6_init_25 rfl rfl ?_
  refine s_iload (pc' := 28) dX6_init_26 rfl rfl ?_
  refine s_bipush (pc' := 30) (v := 15) dX6_init_28 rfl (by decide) ?_
  refine s_iand (pc' := 31) dX6_init_30 rfl ?_
  refine t_putI (pc' := 34) dX6_init_31 rfl (Sh.dy (by decide) ha hS) (by decide) fa_X6_25_6 (Or.inr ⟨rfl, rfl, rfl⟩) rfl rfl rfl ?_
  refine s_aload_n (pc' := 35) dX6_init_34 rfl rfl ?_
  refine s_iload (pc' := 37) dX6_init_35 rfl rfl ?_
  refine s_iconst (pc' := 38) (v := 4) dX6_init_37 rfl (by decide) ?_
  refine s_ishr (pc' := 39) dX6_init_38 rfl ?_
  refine t_putI (pc' := 42) dX6_init_39 rfl (Sh.dy (by decide) ha hS) (by decide) fa_X6_28_6 (Or.inr ⟨rfl, rfl, rfl⟩) rfl rfl rfl ?_
  refine s_aload_n (pc' := 43) dX6_init_42 rfl rfl ?_
  refine s_iload_n (pc' := 44) dX6_init_43 rfl rfl ?_
  refine s_iconst (pc' := 45) (v := 3) dX6_init_44 rfl (by decide) ?_
  refine s_icmpgt (pc' := 48) (tgt := 53) dX6_init_45 (by decide) rfl (fun c45 => ?_) (fun c45 => ?_)
  · refine s_iconst (pc' := 54) (v := -1) dX6_init_53 rfl (by decide) ?_
    refine t_putI (pc' := 57) dX6_init_54 rfl (Sh.dy (by decide) ha hS) (by decide) fa_X6_31_6 (Or.inr ⟨rfl, rfl, rfl⟩) rfl rfl rfl ?_
    refine s_aload_n (pc' := 58) dX6_init_57 rfl rfl ?_
    refine s_iload (pc' := 60) dX6_init_58 rfl rfl ?_
    refine t_putI (pc' := 63) dX6_init_60 rfl (Sh.dy (by decide) ha hS) (by decide) fa_X6_34_6 (Or.inr ⟨rfl, rfl, rfl⟩) rfl rfl rfl ?_
    refine s_aload_n (pc' := 64) dX6_init_63 rfl rfl ?_
    refine s_iload (pc' := 66) dX6_init_64 rfl rfl ?_
    refine s_iconst (pc' := 67) (v := -1) dX6_init_66 rfl (by decide) ?_
    refine s_icmpne (pc' := 70) (tgt := 74) dX6_init_67 (by decide) rfl (fun c67 => ?_) (fun c67 => ?_)
    · refine s_iload (pc' := 76) dX6_init_74 rfl rfl ?_
      refine s_bipush (pc' := 78) (v := 15) dX6_init_76 rfl (by decide) ?_
      refine s_iand (pc' := 79) dX6_init_78 rfl ?_
      refine t_putI (pc' := 82) dX6_init_79 rfl (Sh.dy (by decide) ha hS) (by decide) fa_X6_37_6 (Or.inr ⟨rfl, rfl, rfl⟩) rfl rfl rfl ?_
      refine s_aload_n (pc' := 83) dX6_init_82 rfl rfl ?_
      refine s_iload (pc' := 85) dX6_init_83 rfl rfl ?_
      refine s_iconst (pc' := 86) (v := -1) dX6_init_85 rfl (by decide) ?_
      refine s_icmpneT (tgt := 93) dX6_init_86 (by decide) c67 ?_
      refine s_iload (pc' := 95) dX6_init_93 rfl rfl ?_
      refine s_iconst (pc' := 96) (v := 4) dX6_init_95 rfl (by decide) ?_
      refine s_ishr (pc' := 97) dX6_init_96 rfl ?_
      refine t_putI (pc' := 100) dX6_init_97 rfl (Sh.dy (by decide) ha hS) (by decide) fa_X6_40_6 (Or.inr ⟨rfl, rfl, rfl⟩) rfl rfl rfl ?_
      exact s_vret dX6_init_100 rfl (by decide) (by decide) (by have q := hk; unfold riI at q; rw [if_neg (Int32.not_le.mpr c45), if_neg c67, if_neg c67] at q; exact q)
    · refine s_iconst (pc' := 71) (v := -1) dX6_init_70 rfl (by decide) ?_
      refine s_goto (tgt := 79) dX6_init_71 (by decide) ?_
      refine t_putI (pc' := 82) dX6_init_79 rfl (Sh.dy (by decide) ha hS) (by decide) fa_X6_37_6 (Or.inr ⟨rfl, rfl, rfl⟩) rfl rfl rfl ?_
      refine s_aload_n (pc' := 83) dX6_init_82 rfl rfl ?_
      refine s_iload (pc' := 85) dX6_init_83 rfl rfl ?_
      refine s_iconst (pc' := 86) (v := -1) dX6_init_85 rfl (by decide) ?_
      refine s_icmpneF (pc' := 89) (tgt := 93) dX6_init_86 (by decide) rfl (by first | exact c67 | exact Decidable.not_not.mp c67) ?_
      refine s_iconst (pc' := 90) (v := 0) dX6_init_89 rfl (by decide) ?_
      refine s_goto (tgt := 97) dX6_init_90 (by decide) ?_
      refine t_putI (pc' := 100) dX6_init_97 rfl (Sh.dy (by decide) ha hS) (by decide) fa_X6_40_6 (Or.inr ⟨rfl, rfl, rfl⟩) rfl rfl rfl ?_
      exact s_vret dX6_init_100 rfl (by decide) (by decide) (by have q := hk; unfold riI at q; rw [if_neg (Int32.not_le.mpr c45), if_pos (show by_ = -1 from by first | exact c67 | exact Decidable.not_not.mp c67), if_pos (show by_ = -1 from by first | exact c67 | exact Decidable.not_not.mp c67)] at q; exact q)
  · refine s_iload (pc' := 50) dX6_init_48 rfl rfl ?_
    refine s_goto (tgt := 54) dX6_init_50 (by decide) ?_
    refine t_putI (pc' := 57) dX6_init_54 rfl (Sh.dy (by decide) ha hS) (by decide) fa_X6_31_6 (Or.inr ⟨rfl, rfl, rfl⟩) rfl rfl rfl ?_
    refine s_aload_n (pc' := 58) dX6_init_57 rfl rfl ?_
    refine s_iload (pc' := 60) dX6_init_58 rfl rfl ?_
    refine t_putI (pc' := 63) dX6_init_60 rfl (Sh.dy (by decide) ha hS) (by decide) fa_X6_34_6 (Or.inr ⟨rfl, rfl, rfl⟩) rfl rfl rfl ?_
    refine s_aload_n (pc' := 64) dX6_init_63 rfl rfl ?_
    refine s_iload (pc' := 66) dX6_init_64 rfl rfl ?_
    refine s_iconst (pc' := 67) (v := -1) dX6_init_66 rfl (by decide) ?_
    refine s_icmpne (pc' := 70) (tgt := 74) dX6_init_67 (by decide) rfl (fun c67 => ?_) (fun c67 => ?_)
    · refine s_iload (pc' := 76) dX6_init_74 rfl rfl ?_
      refine s_bipush (pc' := 78) (v := 15) dX6_init_76 rfl (by decide) ?_
      refine s_iand (pc' := 79) dX6_init_78 rfl ?_
      refine t_putI (pc' := 82) dX6_init_79 rfl (Sh.dy (by decide) ha hS) (by decide) fa_X6_37_6 (Or.inr ⟨rfl, rfl, rfl⟩) rfl rfl rfl ?_
      refine s_aload_n (pc' := 83) dX6_init_82 rfl rfl ?_
      refine s_iload (pc' := 85) dX6_init_83 rfl rfl ?_
      refine s_iconst (pc' := 86) (v := -1) dX6_init_85 rfl (by decide) ?_
      refine s_icmpneT (tgt := 93) dX6_init_86 (by decide) c67 ?_
      refine s_iload (pc' := 95) dX6_init_93 rfl rfl ?_
      refine s_iconst (pc' := 96) (v := 4) dX6_init_95 rfl (by decide) ?_
      refine s_ishr (pc' := 97) dX6_init_96 rfl ?_
      refine t_putI (pc' := 100) dX6_init_97 rfl (Sh.dy (by decide) ha hS) (by decide) fa_X6_40_6 (Or.inr ⟨rfl, rfl, rfl⟩) rfl rfl rfl ?_
      exact s_vret dX6_init_100 rfl (by decide) (by decide) (by have q := hk; unfold riI at q; rw [if_pos (Int32.not_lt.mp c45), if_neg c67, if_neg c67] at q; exact q)
    · refine s_iconst (pc' := 71) (v := -1) dX6_init_70 rfl (by decide) ?_
      refine s_goto (tgt := 79) dX6_init_71 (by decide) ?_
      refine t_putI (pc' := 82) dX6_init_79 rfl (Sh.dy (by decide) ha hS) (by decide) fa_X6_37_6 (Or.inr ⟨rfl, rfl, rfl⟩) rfl rfl rfl ?_
      refine s_aload_n (pc' := 83) dX6_init_82 rfl rfl ?_
      refine s_iload (pc' := 85) dX6_init_83 rfl rfl ?_
      refine s_iconst (pc' := 86) (v := -1) dX6_init_85 rfl (by decide) ?_
      refine s_icmpneF (pc' := 89) (tgt := 93) dX6_init_86 (by decide) rfl (by first | exact c67 | exact Decidable.not_not.mp c67) ?_
      refine s_iconst (pc' := 90) (v := 0) dX6_init_89 rfl (by decide) ?_
      refine s_goto (tgt := 97) dX6_init_90 (by decide) ?_
      refine t_putI (pc' := 100) dX6_init_97 rfl (Sh.dy (by decide) ha hS) (by decide) fa_X6_40_6 (Or.inr ⟨rfl, rfl, rfl⟩) rfl rfl rfl ?_
      exact s_vret dX6_init_100 rfl (by decide) (by decide) (by have q := hk; unfold riI at q; rw [if_pos (Int32.not_lt.mp c45), if_pos (show by_ = -1 from by first | exact c67 | exact Decidable.not_not.mp c67), if_pos (show by_ = -1 from by first | exact c67 | exact Decidable.not_not.mp c67)] at q; exact q)
set_option maxHeartbeats 200000 in
theorem c_X6_init_10 {N : Nat} {S : Nat → Nat × Nat} {I : Nat → Nat → Int32} {J : Nat → Nat → Int64} {Q : Nat → Nat → Option Nat} {κ : Option Value → HP → Prop} {a : Nat} (h94 : 94 ≤ a) (ha : a < N) (hS : S a = (10, 0)) {t : Nat} {kind nu aim more told by_ : Int32} (hk : κ none (N, S, riI I a kind nu aim more told by_, J, up2 Q a 2 (some t))) : CT E1 M_X6_init [.ref a, .int kind, .int nu, .ref t, .int aim, .int more, .int told, .int by_] (N, S, I, J, Q) κ := by
  refine ofSP mk_X6_init (Nat.le_of_ble_eq_true rfl) (L := [.ref _, .int _, .int _, .ref _, .int _, .int _, .int _, .int _]) rfl ?_
  refine s_aload_n (pc' := 1) dX6_init_0 rfl rfl ?_
  refine s_objInit (pc' := 4) dX6_init_1 rfl ml_X6_3 (by decide) (by decide) ?_
  refine s_aload_n (pc' := 5) dX6_init_4 rfl rfl ?_
  refine s_iload_n (pc' := 6) dX6_init_5 rfl rfl ?_
  refine t_putI (pc' := 9) dX6_init_6 rfl (Sh.dy (by decide) ha hS) (by decide) fa_X6_9_10 (Or.inr ⟨rfl, rfl, rfl⟩) rfl rfl rfl ?_
  refine s_aload_n (pc' := 10) dX6_init_9 rfl rfl ?_
  refine s_iload_n (pc' := 11) dX6_init_10 rfl rfl ?_
  refine t_putI (pc' := 14) dX6_init_11 rfl (Sh.dy (by decide) ha hS) (by decide) fa_X6_15_10 (Or.inr ⟨rfl, rfl, rfl⟩) rfl rfl rfl ?_
  refine s_aload_n (pc' := 15) dX6_init_14 rfl rfl ?_
  refine s_aload_n (pc' := 16) dX6_init_15 rfl rfl ?_
  refine t_putR (pc' := 19) (r := some _) dX6_init_16 rfl rfl (Sh.dy (by decide) ha hS) (by decide) fa_X6_18_10 (Or.inr ⟨rfl, rfl, rfl⟩) rfl (fun z => absurd z (Nat.not_lt.mpr h94)) ?_
  refine s_aload_n (pc' := 20) dX6_init_19 rfl rfl ?_
  refine s_iload (pc' := 22) dX6_init_20 rfl rfl ?_
  refine t_putI (pc' := 25) dX6_init_22 rfl (Sh.dy (by decide) ha hS) (by decide) fa_X6_22_10 (Or.inr ⟨rfl, rfl, rfl⟩) rfl rfl rfl ?_
  refine s_aload_n (pc' := 26) dX6_init_25 rfl rfl ?_
  refine s_iload (pc' := 28) dX6_init_26 rfl rfl ?_
  refine s_bipush (pc' := 30) (v := 15) dX6_init_28 rfl (by decide) ?_
  refine s_iand (pc' := 31) dX6_init_30 rfl ?_
  refine t_putI (pc' := 34) dX6_init_31 rfl (Sh.dy (by decide) ha hS) (by decide) fa_X6_25_10 (Or.inr ⟨rfl, rfl, rfl⟩) rfl rfl rfl ?_
  refine s_aload_n (pc' := 35) dX6_init_34 rfl rfl ?_
  refine s_iload (pc' := 37) dX6_init_35 rfl rfl ?_
  refine s_iconst (pc' := 38) (v := 4) dX6_init_37 rfl (by decide) ?_
  refine s_ishr (pc' := 39) dX6_init_38 rfl ?_
  refine t_putI (pc' := 42) dX6_init_39 rfl (Sh.dy (by decide) ha hS) (by decide) fa_X6_28_10 (Or.inr ⟨rfl, rfl, rfl⟩) rfl rfl rfl ?_
  refine s_aload_n (pc' := 43) dX6_init_42 rfl rfl ?_
  refine s_iload_n (pc' := 44) dX6_init_43 rfl rfl ?_
  refine s_iconst (pc' := 45) (v := 3) dX6_init_44 rfl (by decide) ?_
  refine s_icmpgt (pc' := 48) (tgt := 53) dX6_init_45 (by decide) rfl (fun c45 => ?_) (fun c45 => ?_)
  · refine s_iconst (pc' := 54) (v := -1) dX6_init_53 rfl (by decide) ?_
    refine t_putI (pc' := 57) dX6_init_54 rfl (Sh.dy (by decide) ha hS) (by decide) fa_X6_31_10 (Or.inr ⟨rfl, rfl, rfl⟩) rfl rfl rfl ?_
    refine s_aload_n (pc' := 58) dX6_init_57 rfl rfl ?_
    refine s_iload (pc' := 60) dX6_init_58 rfl rfl ?_
    refine t_putI (pc' := 63) dX6_init_60 rfl (Sh.dy (by decide) ha hS) (by decide) fa_X6_34_10 (Or.inr ⟨rfl, rfl, rfl⟩) rfl rfl rfl ?_
    refine s_aload_n (pc' := 64) dX6_init_63 rfl rfl ?_
    refine s_iload (pc' := 66) dX6_init_64 rfl rfl ?_
    refine s_iconst (pc' := 67) (v := -1) dX6_init_66 rfl (by decide) ?_
    refine s_icmpne (pc' := 70) (tgt := 74) dX6_init_67 (by decide) rfl (fun c67 => ?_) (fun c67 => ?_)
    · refine s_iload (pc' := 76) dX6_init_74 rfl rfl ?_
      refine s_bipush (pc' := 78) (v := 15) dX6_init_76 rfl (by decide) ?_
      refine s_iand (pc' := 79) dX6_init_78 rfl ?_
      refine t_putI (pc' := 82) dX6_init_79 rfl (Sh.dy (by decide) ha hS) (by decide) fa_X6_37_10 (Or.inr ⟨rfl, rfl, rfl⟩) rfl rfl rfl ?_
      refine s_aload_n (pc' := 83) dX6_init_82 rfl rfl ?_
      refine s_iload (pc' := 85) dX6_init_83 rfl rfl ?_
      refine s_iconst (pc' := 86) (v := -1) dX6_init_85 rfl (by decide) ?_
      refine s_icmpneT (tgt := 93) dX6_init_86 (by decide) c67 ?_
      refine s_iload (pc' := 95) dX6_init_93 rfl rfl ?_
      refine s_iconst (pc' := 96) (v := 4) dX6_init_95 rfl (by decide) ?_
      refine s_ishr (pc' := 97) dX6_init_96 rfl ?_
      refine t_putI (pc' := 100) dX6_init_97 rfl (Sh.dy (by decide) ha hS) (by decide) fa_X6_40_10 (Or.inr ⟨rfl, rfl, rfl⟩) rfl rfl rfl ?_
      exact s_vret dX6_init_100 rfl (by decide) (by decide) (by have q := hk; unfold riI at q; rw [if_neg (Int32.not_le.mpr c45), if_neg c67, if_neg c67] at q; exact q)
    · refine s_iconst (pc' := 71) (v := -1) dX6_init_70 rfl (by decide) ?_
      refine s_goto (tgt := 79) dX6_init_71 (by decide) ?_
      refine t_putI (pc' := 82) dX6_init_79 rfl (Sh.dy (by decide) ha hS) (by decide) fa_X6_37_10 (Or.inr ⟨rfl, rfl, rfl⟩) rfl rfl rfl ?_
      refine s_aload_n (pc' := 83) dX6_init_82 rfl rfl ?_
      refine s_iload (pc' := 85) dX6_init_83 rfl rfl ?_
      refine s_iconst (pc' := 86) (v := -1) dX6_init_85 rfl (by decide) ?_
      refine s_icmpneF (pc' := 89) (tgt := 93) dX6_init_86 (by decide) rfl (by first | exact c67 | exact Decidable.not_not.mp c67) ?_
      refine s_iconst (pc' := 90) (v := 0) dX6_init_89 rfl (by decide) ?_
      refine s_goto (tgt := 97) dX6_init_90 (by decide) ?_
      refine t_putI (pc' := 100) dX6_init_97 rfl (Sh.dy (by decide) ha hS) (by decide) fa_X6_40_10 (Or.inr ⟨rfl, rfl, rfl⟩) rfl rfl rfl ?_
      exact s_vret dX6_init_100 rfl (by decide) (by decide) (by have q := hk; unfold riI at q; rw [if_neg (Int32.not_le.mpr c45), if_pos (show by_ = -1 from by first | exact c67 | exact Decidable.not_not.mp c67), if_pos (show by_ = -1 from by first | exact c67 | exact Decidable.not_not.mp c67)] at q; exact q)
  · refine s_iload (pc' := 50) dX6_init_48 rfl rfl ?_
    refine s_goto (tgt := 54) dX6_init_50 (by decide) ?_
    refine t_putI (pc' := 57) dX6_init_54 rfl (Sh.dy (by decide) ha hS) (by decide) fa_X6_31_10 (Or.inr ⟨rfl, rfl, rfl⟩) rfl rfl rfl ?_
    refine s_aload_n (pc' := 58) dX6_init_57 rfl rfl ?_
    refine s_iload (pc' := 60) dX6_init_58 rfl rfl ?_
    refine t_putI (pc' := 63) dX6_init_60 rfl (Sh.dy (by decide) ha hS) (by decide) fa_X6_34_10 (Or.inr ⟨rfl, rfl, rfl⟩) rfl rfl rfl ?_
    refine s_aload_n (pc' := 64) dX6_init_63 rfl rfl ?_
    refine s_iload (pc' := 66) dX6_init_64 rfl rfl ?_
    refine s_iconst (pc' := 67) (v := -1) dX6_init_66 rfl (by decide) ?_
    refine s_icmpne (pc' := 70) (tgt := 74) dX6_init_67 (by decide) rfl (fun c67 => ?_) (fun c67 => ?_)
    · refine s_iload (pc' := 76) dX6_init_74 rfl rfl ?_
      refine s_bipush (pc' := 78) (v := 15) dX6_init_76 rfl (by decide) ?_
      refine s_iand (pc' := 79) dX6_init_78 rfl ?_
      refine t_putI (pc' := 82) dX6_init_79 rfl (Sh.dy (by decide) ha hS) (by decide) fa_X6_37_10 (Or.inr ⟨rfl, rfl, rfl⟩) rfl rfl rfl ?_
      refine s_aload_n (pc' := 83) dX6_init_82 rfl rfl ?_
      refine s_iload (pc' := 85) dX6_init_83 rfl rfl ?_
      refine s_iconst (pc' := 86) (v := -1) dX6_init_85 rfl (by decide) ?_
      refine s_icmpneT (tgt := 93) dX6_init_86 (by decide) c67 ?_
      refine s_iload (pc' := 95) dX6_init_93 rfl rfl ?_
      refine s_iconst (pc' := 96) (v := 4) dX6_init_95 rfl (by decide) ?_
      refine s_ishr (pc' := 97) dX6_init_96 rfl ?_
      refine t_putI (pc' := 100) dX6_init_97 rfl (Sh.dy (by decide) ha hS) (by decide) fa_X6_40_10 (Or.inr ⟨rfl, rfl, rfl⟩) rfl rfl rfl ?_
      exact s_vret dX6_init_100 rfl (by decide) (by decide) (by have q := hk; unfold riI at q; rw [if_pos (Int32.not_lt.mp c45), if_neg c67, if_neg c67] at q; exact q)
    · refine s_iconst (pc' := 71) (v := -1) dX6_init_70 rfl (by decide) ?_
      refine s_goto (tgt := 79) dX6_init_71 (by decide) ?_
      refine t_putI (pc' := 82) dX6_init_79 rfl (Sh.dy (by decide) ha hS) (by decide) fa_X6_37_10 (Or.inr ⟨rfl, rfl, rfl⟩) rfl rfl rfl ?_
      refine s_aload_n (pc' := 83) dX6_init_82 rfl rfl ?_
      refine s_iload (pc' := 85) dX6_init_83 rfl rfl ?_
      refine s_iconst (pc' := 86) (v := -1) dX6_init_85 rfl (by decide) ?_
      refine s_icmpneF (pc' := 89) (tgt := 93) dX6_init_86 (by decide) rfl (by first | exact c67 | exact Decidable.not_not.mp c67) ?_
      refine s_iconst (pc' := 90) (v := 0) dX6_init_89 rfl (by decide) ?_
      refine s_goto (tgt := 97) dX6_init_90 (by decide) ?_
      refine t_putI (pc' := 100) dX6_init_97 rfl (Sh.dy (by decide) ha hS) (by decide) fa_X6_40_10 (Or.inr ⟨rfl, rfl, rfl⟩) rfl rfl rfl ?_
      exact s_vret dX6_init_100 rfl (by decide) (by decide) (by have q := hk; unfold riI at q; rw [if_pos (Int32.not_lt.mp c45), if_pos (show by_ = -1 from by first | exact c67 | exact Decidable.not_not.mp c67), if_pos (show by_ = -1 from by first | exact c67 | exact Decidable.not_not.mp c67)] at q; exact q)
set_option maxHeartbeats 200000 in
theorem c_X6_init_7 {N : Nat} {S : Nat → Nat × Nat} {I : Nat → Nat → Int32} {J : Nat → Nat → Int64} {Q : Nat → Nat → Option Nat} {κ : Option Value → HP → Prop} {a : Nat} (h94 : 94 ≤ a) (ha : a < N) (hS : S a = (7, 0)) {t : Nat} {kind nu aim more told by_ : Int32} (hk : κ none (N, S, riI I a kind nu aim more told by_, J, up2 Q a 2 (some t))) : CT E1 M_X6_init [.ref a, .int kind, .int nu, .ref t, .int aim, .int more, .int told, .int by_] (N, S, I, J, Q) κ := by
  refine ofSP mk_X6_init (Nat.le_of_ble_eq_true rfl) (L := [.ref _, .int _, .int _, .ref _, .int _, .int _, .int _, .int _]) rfl ?_
  refine s_aload_n (pc' := 1) dX6_init_0 rfl rfl ?_
  refine s_objInit (pc' := 4) dX6_init_1 rfl ml_X6_3 (by decide) (by decide) ?_
  refine s_aload_n (pc' := 5) dX6_init_4 rfl rfl ?_
  refine s_iload_n (pc' := 6) dX6_init_5 rfl rfl ?_
  refine t_putI (pc' := 9) dX6_init_6 rfl (Sh.dy (by decide) ha hS) (by decide) fa_X6_9_7 (Or.inr ⟨rfl, rfl, rfl⟩) rfl rfl rfl ?_
  refine s_aload_n (pc' := 10) dX6_init_9 rfl rfl ?_
  refine s_iload_n (pc' := 11) dX6_init_10 rfl rfl ?_
  refine t_putI (pc' := 14) dX6_init_11 rfl (Sh.dy (by decide) ha hS) (by decide) fa_X6_15_7 (Or.inr ⟨rfl, rfl, rfl⟩) rfl rfl rfl ?_
  refine s_aload_n (pc' := 15) dX6_init_14 rfl rfl ?_
  refine s_aload_n (pc' := 16) dX6_init_15 rfl rfl ?_
  refine t_putR (pc' := 19) (r := some _) dX6_init_16 rfl rfl (Sh.dy (by decide) ha hS) (by decide) fa_X6_18_7 (Or.inr ⟨rfl, rfl, rfl⟩) rfl (fun z => absurd z (Nat.not_lt.mpr h94)) ?_
  refine s_aload_n (pc' := 20) dX6_init_19 rfl rfl ?_
  refine s_iload (pc' := 22) dX6_init_20 rfl rfl ?_
  refine t_putI (pc' := 25) dX6_init_22 rfl (Sh.dy (by decide) ha hS) (by decide) fa_X6_22_7 (Or.inr ⟨rfl, rfl, rfl⟩) rfl rfl rfl ?_
  refine s_aload_n (pc' := 26) dX6_init_25 rfl rfl ?_
  refine s_iload (pc' := 28) dX6_init_26 rfl rfl ?_
  refine s_bipush (pc' := 30) (v := 15) dX6_init_28 rfl (by decide) ?_
  refine s_iand (pc' := 31) dX6_init_30 rfl ?_
  refine t_putI (pc' := 34) dX6_init_31 rfl (Sh.dy (by decide) ha hS) (by decide) fa_X6_25_7 (Or.inr ⟨rfl, rfl, rfl⟩) rfl rfl rfl ?_
  refine s_aload_n (pc' := 35) dX6_init_34 rfl rfl ?_
  refine s_iload (pc' := 37) dX6_init_35 rfl rfl ?_
  refine s_iconst (pc' := 38) (v := 4) dX6_init_37 rfl (by decide) ?_
  refine s_ishr (pc' := 39) dX6_init_38 rfl ?_
  refine t_putI (pc' := 42) dX6_init_39 rfl (Sh.dy (by decide) ha hS) (by decide) fa_X6_28_7 (Or.inr ⟨rfl, rfl, rfl⟩) rfl rfl rfl ?_
  refine s_aload_n (pc' := 43) dX6_init_42 rfl rfl ?_
  refine s_iload_n (pc' := 44) dX6_init_43 rfl rfl ?_
  refine s_iconst (pc' := 45) (v := 3) dX6_init_44 rfl (by decide) ?_
  refine s_icmpgt (pc' := 48) (tgt := 53) dX6_init_45 (by decide) rfl (fun c45 => ?_) (fun c45 => ?_)
  · refine s_iconst (pc' := 54) (v := -1) dX6_init_53 rfl (by decide) ?_
    refine t_putI (pc' := 57) dX6_init_54 rfl (Sh.dy (by decide) ha hS) (by decide) fa_X6_31_7 (Or.inr ⟨rfl, rfl, rfl⟩) rfl rfl rfl ?_
    refine s_aload_n (pc' := 58) dX6_init_57 rfl rfl ?_
    refine s_iload (pc' := 60) dX6_init_58 rfl rfl ?_
    refine t_putI (pc' := 63) dX6_init_60 rfl (Sh.dy (by decide) ha hS) (by decide) fa_X6_34_7 (Or.inr ⟨rfl, rfl, rfl⟩) rfl rfl rfl ?_
    refine s_aload_n (pc' := 64) dX6_init_63 rfl rfl ?_
    refine s_iload (pc' := 66) dX6_init_64 rfl rfl ?_
    refine s_iconst (pc' := 67) (v := -1) dX6_init_66 rfl (by decide) ?_
    refine s_icmpne (pc' := 70) (tgt := 74) dX6_init_67 (by decide) rfl (fun c67 => ?_) (fun c67 => ?_)
    · refine s_iload (pc' := 76) dX6_init_74 rfl rfl ?_
      refine s_bipush (pc' := 78) (v := 15) dX6_init_76 rfl (by decide) ?_
      refine s_iand (pc' := 79) dX6_init_78 rfl ?_
      refine t_putI (pc' := 82) dX6_init_79 rfl (Sh.dy (by decide) ha hS) (by decide) fa_X6_37_7 (Or.inr ⟨rfl, rfl, rfl⟩) rfl rfl rfl ?_
      refine s_aload_n (pc' := 83) dX6_init_82 rfl rfl ?_
      refine s_iload (pc' := 85) dX6_init_83 rfl rfl ?_
      refine s_iconst (pc' := 86) (v := -1) dX6_init_85 rfl (by decide) ?_
      refine s_icmpneT (tgt := 93) dX6_init_86 (by decide) c67 ?_
      refine s_iload (pc' := 95) dX6_init_93 rfl rfl ?_
      refine s_iconst (pc' := 96) (v := 4) dX6_init_95 rfl (by decide) ?_
      refine s_ishr (pc' := 97) dX6_init_96 rfl ?_
      refine t_putI (pc' := 100) dX6_init_97 rfl (Sh.dy (by decide) ha hS) (by decide) fa_X6_40_7 (Or.inr ⟨rfl, rfl, rfl⟩) rfl rfl rfl ?_
      exact s_vret dX6_init_100 rfl (by decide) (by decide) (by have q := hk; unfold riI at q; rw [if_neg (Int32.not_le.mpr c45), if_neg c67, if_neg c67] at q; exact q)
    · refine s_iconst (pc' := 71) (v := -1) dX6_init_70 rfl (by decide) ?_
      refine s_goto (tgt := 79) dX6_init_71 (by decide) ?_
      refine t_putI (pc' := 82) dX6_init_79 rfl (Sh.dy (by decide) ha hS) (by decide) fa_X6_37_7 (Or.inr ⟨rfl, rfl, rfl⟩) rfl rfl rfl ?_
      refine s_aload_n (pc' := 83) dX6_init_82 rfl rfl ?_
      refine s_iload (pc' := 85) dX6_init_83 rfl rfl ?_
      refine s_iconst (pc' := 86) (v := -1) dX6_init_85 rfl (by decide) ?_
      refine s_icmpneF (pc' := 89) (tgt := 93) dX6_init_86 (by decide) rfl (by first | exact c67 | exact Decidable.not_not.mp c67) ?_
      refine s_iconst (pc' := 90) (v := 0) dX6_init_89 rfl (by decide) ?_
      refine s_goto (tgt := 97) dX6_init_90 (by decide) ?_
      refine t_putI (pc' := 100) dX6_init_97 rfl (Sh.dy (by decide) ha hS) (by decide) fa_X6_40_7 (Or.inr ⟨rfl, rfl, rfl⟩) rfl rfl rfl ?_
      exact s_vret dX6_init_100 rfl (by decide) (by decide) (by have q := hk; unfold riI at q; rw [if_neg (Int32.not_le.mpr c45), if_pos (show by_ = -1 from by first | exact c67 | exact Decidable.not_not.mp c67), if_pos (show by_ = -1 from by first | exact c67 | exact Decidable.not_not.mp c67)] at q; exact q)
  · refine s_iload (pc' := 50) dX6_init_48 rfl rfl ?_
    refine s_goto (tgt := 54) dX6_init_50 (by decide) ?_
    refine t_putI (pc' := 57) dX6_init_54 rfl (Sh.dy (by decide) ha hS) (by decide) fa_X6_31_7 (Or.inr ⟨rfl, rfl, rfl⟩) rfl rfl rfl ?_
    refine s_aload_n (pc' := 58) dX6_init_57 rfl rfl ?_
    refine s_iload (pc' := 60) dX6_init_58 rfl rfl ?_
    refine t_putI (pc' := 63) dX6_init_60 rfl (Sh.dy (by decide) ha hS) (by decide) fa_X6_34_7 (Or.inr ⟨rfl, rfl, rfl⟩) rfl rfl rfl ?_
    refine s_aload_n (pc' := 64) dX6_init_63 rfl rfl ?_
    refine s_iload (pc' := 66) dX6_init_64 rfl rfl ?_
    refine s_iconst (pc' := 67) (v := -1) dX6_init_66 rfl (by decide) ?_
    refine s_icmpne (pc' := 70) (tgt := 74) dX6_init_67 (by decide) rfl (fun c67 => ?_) (fun c67 => ?_)
    · refine s_iload (pc' := 76) dX6_init_74 rfl rfl ?_
      refine s_bipush (pc' := 78) (v := 15) dX6_init_76 rfl (by decide) ?_
      refine s_iand (pc' := 79) dX6_init_78 rfl ?_
      refine t_putI (pc' := 82) dX6_init_79 rfl (Sh.dy (by decide) ha hS) (by decide) fa_X6_37_7 (Or.inr ⟨rfl, rfl, rfl⟩) rfl rfl rfl ?_
      refine s_aload_n (pc' := 83) dX6_init_82 rfl rfl ?_
      refine s_iload (pc' := 85) dX6_init_83 rfl rfl ?_
      refine s_iconst (pc' := 86) (v := -1) dX6_init_85 rfl (by decide) ?_
      refine s_icmpneT (tgt := 93) dX6_init_86 (by decide) c67 ?_
      refine s_iload (pc' := 95) dX6_init_93 rfl rfl ?_
      refine s_iconst (pc' := 96) (v := 4) dX6_init_95 rfl (by decide) ?_
      refine s_ishr (pc' := 97) dX6_init_96 rfl ?_
      refine t_putI (pc' := 100) dX6_init_97 rfl (Sh.dy (by decide) ha hS) (by decide) fa_X6_40_7 (Or.inr ⟨rfl, rfl, rfl⟩) rfl rfl rfl ?_
      exact s_vret dX6_init_100 rfl (by decide) (by decide) (by have q := hk; unfold riI at q; rw [if_pos (Int32.not_lt.mp c45), if_neg c67, if_neg c67] at q; exact q)
    · refine s_iconst (pc' := 71) (v := -1) dX6_init_70 rfl (by decide) ?_
      refine s_goto (tgt := 79) dX6_init_71 (by decide) ?_
      refine t_putI (pc' := 82) dX6_init_79 rfl (Sh.dy (by decide) ha hS) (by decide) fa_X6_37_7 (Or.inr ⟨rfl, rfl, rfl⟩) rfl rfl rfl ?_
      refine s_aload_n (pc' := 83) dX6_init_82 rfl rfl ?_
      refine s_iload (pc' := 85) dX6_init_83 rfl rfl ?_
      refine s_iconst (pc' := 86) (v := -1) dX6_init_85 rfl (by decide) ?_
      refine s_icmpneF (pc' := 89) (tgt := 93) dX6_init_86 (by decide) rfl (by first | exact c67 | exact Decidable.not_not.mp c67) ?_
      refine s_iconst (pc' := 90) (v := 0) dX6_init_89 rfl (by decide) ?_
      refine s_goto (tgt := 97) dX6_init_90 (by decide) ?_
      refine t_putI (pc' := 100) dX6_init_97 rfl (Sh.dy (by decide) ha hS) (by decide) fa_X6_40_7 (Or.inr ⟨rfl, rfl, rfl⟩) rfl rfl rfl ?_
      exact s_vret dX6_init_100 rfl (by decide) (by decide) (by have q := hk; unfold riI at q; rw [if_pos (Int32.not_lt.mp c45), if_pos (show by_ = -1 from by first | exact c67 | exact Decidable.not_not.mp c67), if_pos (show by_ = -1 from by first | exact c67 | exact Decidable.not_not.mp c67)] at q; exact q)
set_option maxHeartbeats 200000 in
theorem c_X6_init_2 {N : Nat} {S : Nat → Nat × Nat} {I : Nat → Nat → Int32} {J : Nat → Nat → Int64} {Q : Nat → Nat → Option Nat} {κ : Option Value → HP → Prop} {a : Nat} (h94 : 94 ≤ a) (ha : a < N) (hS : S a = (2, 0)) {t : Nat} {kind nu aim more told by_ : Int32} (hk : κ none (N, S, riI I a kind nu aim more told by_, J, up2 Q a 2 (some t))) : CT E1 M_X6_init [.ref a, .int kind, .int nu, .ref t, .int aim, .int more, .int told, .int by_] (N, S, I, J, Q) κ := by
  refine ofSP mk_X6_init (Nat.le_of_ble_eq_true rfl) (L := [.ref _, .int _, .int _, .ref _, .int _, .int _, .int _, .int _]) rfl ?_
  refine s_aload_n (pc' := 1) dX6_init_0 rfl rfl ?_
  refine s_objInit (pc' := 4) dX6_init_1 rfl ml_X6_3 (by decide) (by decide) ?_
  refine s_aload_n (pc' := 5) dX6_init_4 rfl rfl ?_
  refine s_iload_n (pc' := 6) dX6_init_5 rfl rfl ?_
  refine t_putI (pc' := 9) dX6_init_6 rfl (Sh.dy (by decide) ha hS) (by decide) fa_X6_9_2 (Or.inr ⟨rfl, rfl, rfl⟩) rfl rfl rfl ?_
  refine s_aload_n (pc' := 10) dX6_init_9 rfl rfl ?_
  refine s_iload_n (pc' := 11) dX6_init_10 rfl rfl ?_
  refine t_putI (pc' := 14) dX6_init_11 rfl (Sh.dy (by decide) ha hS) (by decide) fa_X6_15_2 (Or.inr ⟨rfl, rfl, rfl⟩) rfl rfl rfl ?_
  refine s_aload_n (pc' := 15) dX6_init_14 rfl rfl ?_
  refine s_aload_n (pc' := 16) dX6_init_15 rfl rfl ?_
  refine t_putR (pc' := 19) (r := some _) dX6_init_16 rfl rfl (Sh.dy (by decide) ha hS) (by decide) fa_X6_18_2 (Or.inr ⟨rfl, rfl, rfl⟩) rfl (fun z => absurd z (Nat.not_lt.mpr h94)) ?_
  refine s_aload_n (pc' := 20) dX6_init_19 rfl rfl ?_
  refine s_iload (pc' := 22) dX6_init_20 rfl rfl ?_
  refine t_putI (pc' := 25) dX6_init_22 rfl (Sh.dy (by decide) ha hS) (by decide) fa_X6_22_2 (Or.inr ⟨rfl, rfl, rfl⟩) rfl rfl rfl ?_
  refine s_aload_n (pc' := 26) dX6_init_25 rfl rfl ?_
  refine s_iload (pc' := 28) dX6_init_26 rfl rfl ?_
  refine s_bipush (pc' := 30) (v := 15) dX6_init_28 rfl (by decide) ?_
  refine s_iand (pc' := 31) dX6_init_30 rfl ?_
  refine t_putI (pc' := 34) dX6_init_31 rfl (Sh.dy (by decide) ha hS) (by decide) fa_X6_25_2 (Or.inr ⟨rfl, rfl, rfl⟩) rfl rfl rfl ?_
  refine s_aload_n (pc' := 35) dX6_init_34 rfl rfl ?_
  refine s_iload (pc' := 37) dX6_init_35 rfl rfl ?_
  refine s_iconst (pc' := 38) (v := 4) dX6_init_37 rfl (by decide) ?_
  refine s_ishr (pc' := 39) dX6_init_38 rfl ?_
  refine t_putI (pc' := 42) dX6_init_39 rfl (Sh.dy (by decide) ha hS) (by decide) fa_X6_28_2 (Or.inr ⟨rfl, rfl, rfl⟩) rfl rfl rfl ?_
  refine s_aload_n (pc' := 43) dX6_init_42 rfl rfl ?_
  refine s_iload_n (pc' := 44) dX6_init_43 rfl rfl ?_
  refine s_iconst (pc' := 45) (v := 3) dX6_init_44 rfl (by decide) ?_
  refine s_icmpgt (pc' := 48) (tgt := 53) dX6_init_45 (by decide) rfl (fun c45 => ?_) (fun c45 => ?_)
  · refine s_iconst (pc' := 54) (v := -1) dX6_init_53 rfl (by decide) ?_
    refine t_putI (pc' := 57) dX6_init_54 rfl (Sh.dy (by decide) ha hS) (by decide) fa_X6_31_2 (Or.inr ⟨rfl, rfl, rfl⟩) rfl rfl rfl ?_
    refine s_aload_n (pc' := 58) dX6_init_57 rfl rfl ?_
    refine s_iload (pc' := 60) dX6_init_58 rfl rfl ?_
    refine t_putI (pc' := 63) dX6_init_60 rfl (Sh.dy (by decide) ha hS) (by decide) fa_X6_34_2 (Or.inr ⟨rfl, rfl, rfl⟩) rfl rfl rfl ?_
    refine s_aload_n (pc' := 64) dX6_init_63 rfl rfl ?_
    refine s_iload (pc' := 66) dX6_init_64 rfl rfl ?_
    refine s_iconst (pc' := 67) (v := -1) dX6_init_66 rfl (by decide) ?_
    refine s_icmpne (pc' := 70) (tgt := 74) dX6_init_67 (by decide) rfl (fun c67 => ?_) (fun c67 => ?_)
    · refine s_iload (pc' := 76) dX6_init_74 rfl rfl ?_
      refine s_bipush (pc' := 78) (v := 15) dX6_init_76 rfl (by decide) ?_
      refine s_iand (pc' := 79) dX6_init_78 rfl ?_
      refine t_putI (pc' := 82) dX6_init_79 rfl (Sh.dy (by decide) ha hS) (by decide) fa_X6_37_2 (Or.inr ⟨rfl, rfl, rfl⟩) rfl rfl rfl ?_
      refine s_aload_n (pc' := 83) dX6_init_82 rfl rfl ?_
      refine s_iload (pc' := 85) dX6_init_83 rfl rfl ?_
      refine s_iconst (pc' := 86) (v := -1) dX6_init_85 rfl (by decide) ?_
      refine s_icmpneT (tgt := 93) dX6_init_86 (by decide) c67 ?_
      refine s_iload (pc' := 95) dX6_init_93 rfl rfl ?_
      refine s_iconst (pc' := 96) (v := 4) dX6_init_95 rfl (by decide) ?_
      refine s_ishr (pc' := 97) dX6_init_96 rfl ?_
      refine t_putI (pc' := 100) dX6_init_97 rfl (Sh.dy (by decide) ha hS) (by decide) fa_X6_40_2 (Or.inr ⟨rfl, rfl, rfl⟩) rfl rfl rfl ?_
      exact s_vret dX6_init_100 rfl (by decide) (by decide) (by have q := hk; unfold riI at q; rw [if_neg (Int32.not_le.mpr c45), if_neg c67, if_neg c67] at q; exact q)
    · refine s_iconst (pc' := 71) (v := -1) dX6_init_70 rfl (by decide) ?_
      refine s_goto (tgt := 79) dX6_init_71 (by decide) ?_
      refine t_putI (pc' := 82) dX6_init_79 rfl (Sh.dy (by decide) ha hS) (by decide) fa_X6_37_2 (Or.inr ⟨rfl, rfl, rfl⟩) rfl rfl rfl ?_
      refine s_aload_n (pc' := 83) dX6_init_82 rfl rfl ?_
      refine s_iload (pc' := 85) dX6_init_83 rfl rfl ?_
      refine s_iconst (pc' := 86) (v := -1) dX6_init_85 rfl (by decide) ?_
      refine s_icmpneF (pc' := 89) (tgt := 93) dX6_init_86 (by decide) rfl (by first | exact c67 | exact Decidable.not_not.mp c67) ?_
      refine s_iconst (pc' := 90) (v := 0) dX6_init_89 rfl (by decide) ?_
      refine s_goto (tgt := 97) dX6_init_90 (by decide) ?_
      refine t_putI (pc' := 100) dX6_init_97 rfl (Sh.dy (by decide) ha hS) (by decide) fa_X6_40_2 (Or.inr ⟨rfl, rfl, rfl⟩) rfl rfl rfl ?_
      exact s_vret dX6_init_100 rfl (by decide) (by decide) (by have q := hk; unfold riI at q; rw [if_neg (Int32.not_le.mpr c45), if_pos (show by_ = -1 from by first | exact c67 | exact Decidable.not_not.mp c67), if_pos (show by_ = -1 from by first | exact c67 | exact Decidable.not_not.mp c67)] at q; exact q)
  · refine s_iload (pc' := 50) dX6_init_48 rfl rfl ?_
    refine s_goto (tgt := 54) dX6_init_50 (by decide) ?_
    refine t_putI (pc' := 57) dX6_init_54 rfl (Sh.dy (by decide) ha hS) (by decide) fa_X6_31_2 (Or.inr ⟨rfl, rfl, rfl⟩) rfl rfl rfl ?_
    refine s_aload_n (pc' := 58) dX6_init_57 rfl rfl ?_
    refine s_iload (pc' := 60) dX6_init_58 rfl rfl ?_
    refine t_putI (pc' := 63) dX6_init_60 rfl (Sh.dy (by decide) ha hS) (by decide) fa_X6_34_2 (Or.inr ⟨rfl, rfl, rfl⟩) rfl rfl rfl ?_
    refine s_aload_n (pc' := 64) dX6_init_63 rfl rfl ?_
    refine s_iload (pc' := 66) dX6_init_64 rfl rfl ?_
    refine s_iconst (pc' := 67) (v := -1) dX6_init_66 rfl (by decide) ?_
    refine s_icmpne (pc' := 70) (tgt := 74) dX6_init_67 (by decide) rfl (fun c67 => ?_) (fun c67 => ?_)
    · refine s_iload (pc' := 76) dX6_init_74 rfl rfl ?_
      refine s_bipush (pc' := 78) (v := 15) dX6_init_76 rfl (by decide) ?_
      refine s_iand (pc' := 79) dX6_init_78 rfl ?_
      refine t_putI (pc' := 82) dX6_init_79 rfl (Sh.dy (by decide) ha hS) (by decide) fa_X6_37_2 (Or.inr ⟨rfl, rfl, rfl⟩) rfl rfl rfl ?_
      refine s_aload_n (pc' := 83) dX6_init_82 rfl rfl ?_
      refine s_iload (pc' := 85) dX6_init_83 rfl rfl ?_
      refine s_iconst (pc' := 86) (v := -1) dX6_init_85 rfl (by decide) ?_
      refine s_icmpneT (tgt := 93) dX6_init_86 (by decide) c67 ?_
      refine s_iload (pc' := 95) dX6_init_93 rfl rfl ?_
      refine s_iconst (pc' := 96) (v := 4) dX6_init_95 rfl (by decide) ?_
      refine s_ishr (pc' := 97) dX6_init_96 rfl ?_
      refine t_putI (pc' := 100) dX6_init_97 rfl (Sh.dy (by decide) ha hS) (by decide) fa_X6_40_2 (Or.inr ⟨rfl, rfl, rfl⟩) rfl rfl rfl ?_
      exact s_vret dX6_init_100 rfl (by decide) (by decide) (by have q := hk; unfold riI at q; rw [if_pos (Int32.not_lt.mp c45), if_neg c67, if_neg c67] at q; exact q)
    · refine s_iconst (pc' := 71) (v := -1) dX6_init_70 rfl (by decide) ?_
      refine s_goto (tgt := 79) dX6_init_71 (by decide) ?_
      refine t_putI (pc' := 82) dX6_init_79 rfl (Sh.dy (by decide) ha hS) (by decide) fa_X6_37_2 (Or.inr ⟨rfl, rfl, rfl⟩) rfl rfl rfl ?_
      refine s_aload_n (pc' := 83) dX6_init_82 rfl rfl ?_
      refine s_iload (pc' := 85) dX6_init_83 rfl rfl ?_
      refine s_iconst (pc' := 86) (v := -1) dX6_init_85 rfl (by decide) ?_
      refine s_icmpneF (pc' := 89) (tgt := 93) dX6_init_86 (by decide) rfl (by first | exact c67 | exact Decidable.not_not.mp c67) ?_
      refine s_iconst (pc' := 90) (v := 0) dX6_init_89 rfl (by decide) ?_
      refine s_goto (tgt := 97) dX6_init_90 (by decide) ?_
      refine t_putI (pc' := 100) dX6_init_97 rfl (Sh.dy (by decide) ha hS) (by decide) fa_X6_40_2 (Or.inr ⟨rfl, rfl, rfl⟩) rfl rfl rfl ?_
      exact s_vret dX6_init_100 rfl (by decide) (by decide) (by have q := hk; unfold riI at q; rw [if_pos (Int32.not_lt.mp c45), if_pos (show by_ = -1 from by first | exact c67 | exact Decidable.not_not.mp c67), if_pos (show by_ = -1 from by first | exact c67 | exact Decidable.not_not.mp c67)] at q; exact q)
set_option maxHeartbeats 200000 in
theorem c_X6_init_3 {N : Nat} {S : Nat → Nat × Nat} {I : Nat → Nat → Int32} {J : Nat → Nat → Int64} {Q : Nat → Nat → Option Nat} {κ : Option Value → HP → Prop} {a : Nat} (h94 : 94 ≤ a) (ha : a < N) (hS : S a = (3, 0)) {t : Nat} {kind nu aim more told by_ : Int32} (hk : κ none (N, S, riI I a kind nu aim more told by_, J, up2 Q a 2 (some t))) : CT E1 M_X6_init [.ref a, .int kind, .int nu, .ref t, .int aim, .int more, .int told, .int by_] (N, S, I, J, Q) κ := by
  refine ofSP mk_X6_init (Nat.le_of_ble_eq_true rfl) (L := [.ref _, .int _, .int _, .ref _, .int _, .int _, .int _, .int _]) rfl ?_
  refine s_aload_n (pc' := 1) dX6_init_0 rfl rfl ?_
  refine s_objInit (pc' := 4) dX6_init_1 rfl ml_X6_3 (by decide) (by decide) ?_
  refine s_aload_n (pc' := 5) dX6_init_4 rfl rfl ?_
  refine s_iload_n (pc' := 6) dX6_init_5 rfl rfl ?_
  refine t_putI (pc' := 9) dX6_init_6 rfl (Sh.dy (by decide) ha hS) (by decide) fa_X6_9_3 (Or.inr ⟨rfl, rfl, rfl⟩) rfl rfl rfl ?_
  refine s_aload_n (pc' := 10) dX6_init_9 rfl rfl ?_
  refine s_iload_n (pc' := 11) dX6_init_10 rfl rfl ?_
  refine t_putI (pc' := 14) dX6_init_11 rfl (Sh.dy (by decide) ha hS) (by decide) fa_X6_15_3 (Or.inr ⟨rfl, rfl, rfl⟩) rfl rfl rfl ?_
  refine s_aload_n (pc' := 15) dX6_init_14 rfl rfl ?_
  refine s_aload_n (pc' := 16) dX6_init_15 rfl rfl ?_
  refine t_putR (pc' := 19) (r := some _) dX6_init_16 rfl rfl (Sh.dy (by decide) ha hS) (by decide) fa_X6_18_3 (Or.inr ⟨rfl, rfl, rfl⟩) rfl (fun z => absurd z (Nat.not_lt.mpr h94)) ?_
  refine s_aload_n (pc' := 20) dX6_init_19 rfl rfl ?_
  refine s_iload (pc' := 22) dX6_init_20 rfl rfl ?_
  refine t_putI (pc' := 25) dX6_init_22 rfl (Sh.dy (by decide) ha hS) (by decide) fa_X6_22_3 (Or.inr ⟨rfl, rfl, rfl⟩) rfl rfl rfl ?_
  refine s_aload_n (pc' := 26) dX6_init_25 rfl rfl ?_
  refine s_iload (pc' := 28) dX6_init_26 rfl rfl ?_
  refine s_bipush (pc' := 30) (v := 15) dX6_init_28 rfl (by decide) ?_
  refine s_iand (pc' := 31) dX6_init_30 rfl ?_
  refine t_putI (pc' := 34) dX6_init_31 rfl (Sh.dy (by decide) ha hS) (by decide) fa_X6_25_3 (Or.inr ⟨rfl, rfl, rfl⟩) rfl rfl rfl ?_
  refine s_aload_n (pc' := 35) dX6_init_34 rfl rfl ?_
  refine s_iload (pc' := 37) dX6_init_35 rfl rfl ?_
  refine s_iconst (pc' := 38) (v := 4) dX6_init_37 rfl (by decide) ?_
  refine s_ishr (pc' := 39) dX6_init_38 rfl ?_
  refine t_putI (pc' := 42) dX6_init_39 rfl (Sh.dy (by decide) ha hS) (by decide) fa_X6_28_3 (Or.inr ⟨rfl, rfl, rfl⟩) rfl rfl rfl ?_
  refine s_aload_n (pc' := 43) dX6_init_42 rfl rfl ?_
  refine s_iload_n (pc' := 44) dX6_init_43 rfl rfl ?_
  refine s_iconst (pc' := 45) (v := 3) dX6_init_44 rfl (by decide) ?_
  refine s_icmpgt (pc' := 48) (tgt := 53) dX6_init_45 (by decide) rfl (fun c45 => ?_) (fun c45 => ?_)
  · refine s_iconst (pc' := 54) (v := -1) dX6_init_53 rfl (by decide) ?_
    refine t_putI (pc' := 57) dX6_init_54 rfl (Sh.dy (by decide) ha hS) (by decide) fa_X6_31_3 (Or.inr ⟨rfl, rfl, rfl⟩) rfl rfl rfl ?_
    refine s_aload_n (pc' := 58) dX6_init_57 rfl rfl ?_
    refine s_iload (pc' := 60) dX6_init_58 rfl rfl ?_
    refine t_putI (pc' := 63) dX6_init_60 rfl (Sh.dy (by decide) ha hS) (by decide) fa_X6_34_3 (Or.inr ⟨rfl, rfl, rfl⟩) rfl rfl rfl ?_
    refine s_aload_n (pc' := 64) dX6_init_63 rfl rfl ?_
    refine s_iload (pc' := 66) dX6_init_64 rfl rfl ?_
    refine s_iconst (pc' := 67) (v := -1) dX6_init_66 rfl (by decide) ?_
    refine s_icmpne (pc' := 70) (tgt := 74) dX6_init_67 (by decide) rfl (fun c67 => ?_) (fun c67 => ?_)
    · refine s_iload (pc' := 76) dX6_init_74 rfl rfl ?_
      refine s_bipush (pc' := 78) (v := 15) dX6_init_76 rfl (by decide) ?_
      refine s_iand (pc' := 79) dX6_init_78 rfl ?_
      refine t_putI (pc' := 82) dX6_init_79 rfl (Sh.dy (by decide) ha hS) (by decide) fa_X6_37_3 (Or.inr ⟨rfl, rfl, rfl⟩) rfl rfl rfl ?_
      refine s_aload_n (pc' := 83) dX6_init_82 rfl rfl ?_
      refine s_iload (pc' := 85) dX6_init_83 rfl rfl ?_
      refine s_iconst (pc' := 86) (v := -1) dX6_init_85 rfl (by decide) ?_
      refine s_icmpneT (tgt := 93) dX6_init_86 (by decide) c67 ?_
      refine s_iload (pc' := 95) dX6_init_93 rfl rfl ?_
      refine s_iconst (pc' := 96) (v := 4) dX6_init_95 rfl (by decide) ?_
      refine s_ishr (pc' := 97) dX6_init_96 rfl ?_
      refine t_putI (pc' := 100) dX6_init_97 rfl (Sh.dy (by decide) ha hS) (by decide) fa_X6_40_3 (Or.inr ⟨rfl, rfl, rfl⟩) rfl rfl rfl ?_
      exact s_vret dX6_init_100 rfl (by decide) (by decide) (by have q := hk; unfold riI at q; rw [if_neg (Int32.not_le.mpr c45), if_neg c67, if_neg c67] at q; exact q)
    · refine s_iconst (pc' := 71) (v := -1) dX6_init_70 rfl (by decide) ?_
      refine s_goto (tgt := 79) dX6_init_71 (by decide) ?_
      refine t_putI (pc' := 82) dX6_init_79 rfl (Sh.dy (by decide) ha hS) (by decide) fa_X6_37_3 (Or.inr ⟨rfl, rfl, rfl⟩) rfl rfl rfl ?_
      refine s_aload_n (pc' := 83) dX6_init_82 rfl rfl ?_
      refine s_iload (pc' := 85) dX6_init_83 rfl rfl ?_
      refine s_iconst (pc' := 86) (v := -1) dX6_init_85 rfl (by decide) ?_
      refine s_icmpneF (pc' := 89) (tgt := 93) dX6_init_86 (by decide) rfl (by first | exact c67 | exact Decidable.not_not.mp c67) ?_
      refine s_iconst (pc' := 90) (v := 0) dX6_init_89 rfl (by decide) ?_
      refine s_goto (tgt := 97) dX6_init_90 (by decide) ?_
      refine t_putI (pc' := 100) dX6_init_97 rfl (Sh.dy (by decide) ha hS) (by decide) fa_X6_40_3 (Or.inr ⟨rfl, rfl, rfl⟩) rfl rfl rfl ?_
      exact s_vret dX6_init_100 rfl (by decide) (by decide) (by have q := hk; unfold riI at q; rw [if_neg (Int32.not_le.mpr c45), if_pos (show by_ = -1 from by first | exact c67 | exact Decidable.not_not.mp c67), if_pos (show by_ = -1 from by first | exact c67 | exact Decidable.not_not.mp c67)] at q; exact q)
  · refine s_iload (pc' := 50) dX6_init_48 rfl rfl ?_
    refine s_goto (tgt := 54) dX6_init_50 (by decide) ?_
    refine t_putI (pc' := 57) dX6_init_54 rfl (Sh.dy (by decide) ha hS) (by decide) fa_X6_31_3 (Or.inr ⟨rfl, rfl, rfl⟩) rfl rfl rfl ?_
    refine s_aload_n (pc' := 58) dX6_init_57 rfl rfl ?_
    refine s_iload (pc' := 60) dX6_init_58 rfl rfl ?_
    refine t_putI (pc' := 63) dX6_init_60 rfl (Sh.dy (by decide) ha hS) (by decide) fa_X6_34_3 (Or.inr ⟨rfl, rfl, rfl⟩) rfl rfl rfl ?_
    refine s_aload_n (pc' := 64) dX6_init_63 rfl rfl ?_
    refine s_iload (pc' := 66) dX6_init_64 rfl rfl ?_
    refine s_iconst (pc' := 67) (v := -1) dX6_init_66 rfl (by decide) ?_
    refine s_icmpne (pc' := 70) (tgt := 74) dX6_init_67 (by decide) rfl (fun c67 => ?_) (fun c67 => ?_)
    · refine s_iload (pc' := 76) dX6_init_74 rfl rfl ?_
      refine s_bipush (pc' := 78) (v := 15) dX6_init_76 rfl (by decide) ?_
      refine s_iand (pc' := 79) dX6_init_78 rfl ?_
      refine t_putI (pc' := 82) dX6_init_79 rfl (Sh.dy (by decide) ha hS) (by decide) fa_X6_37_3 (Or.inr ⟨rfl, rfl, rfl⟩) rfl rfl rfl ?_
      refine s_aload_n (pc' := 83) dX6_init_82 rfl rfl ?_
      refine s_iload (pc' := 85) dX6_init_83 rfl rfl ?_
      refine s_iconst (pc' := 86) (v := -1) dX6_init_85 rfl (by decide) ?_
      refine s_icmpneT (tgt := 93) dX6_init_86 (by decide) c67 ?_
      refine s_iload (pc' := 95) dX6_init_93 rfl rfl ?_
      refine s_iconst (pc' := 96) (v := 4) dX6_init_95 rfl (by decide) ?_
      refine s_ishr (pc' := 97) dX6_init_96 rfl ?_
      refine t_putI (pc' := 100) dX6_init_97 rfl (Sh.dy (by decide) ha hS) (by decide) fa_X6_40_3 (Or.inr ⟨rfl, rfl, rfl⟩) rfl rfl rfl ?_
      exact s_vret dX6_init_100 rfl (by decide) (by decide) (by have q := hk; unfold riI at q; rw [if_pos (Int32.not_lt.mp c45), if_neg c67, if_neg c67] at q; exact q)
    · refine s_iconst (pc' := 71) (v := -1) dX6_init_70 rfl (by decide) ?_
      refine s_goto (tgt := 79) dX6_init_71 (by decide) ?_
      refine t_putI (pc' := 82) dX6_init_79 rfl (Sh.dy (by decide) ha hS) (by decide) fa_X6_37_3 (Or.inr ⟨rfl, rfl, rfl⟩) rfl rfl rfl ?_
      refine s_aload_n (pc' := 83) dX6_init_82 rfl rfl ?_
      refine s_iload (pc' := 85) dX6_init_83 rfl rfl ?_
      refine s_iconst (pc' := 86) (v := -1) dX6_init_85 rfl (by decide) ?_
      refine s_icmpneF (pc' := 89) (tgt := 93) dX6_init_86 (by decide) rfl (by first | exact c67 | exact Decidable.not_not.mp c67) ?_
      refine s_iconst (pc' := 90) (v := 0) dX6_init_89 rfl (by decide) ?_
      refine s_goto (tgt := 97) dX6_init_90 (by decide) ?_
      refine t_putI (pc' := 100) dX6_init_97 rfl (Sh.dy (by decide) ha hS) (by decide) fa_X6_40_3 (Or.inr ⟨rfl, rfl, rfl⟩) rfl rfl rfl ?_
      exact s_vret dX6_init_100 rfl (by decide) (by decide) (by have q := hk; unfold riI at q; rw [if_pos (Int32.not_lt.mp c45), if_pos (show by_ = -1 from by first | exact c67 | exact Decidable.not_not.mp c67), if_pos (show by_ = -1 from by first | exact c67 | exact Decidable.not_not.mp c67)] at q; exact q)
set_option maxHeartbeats 200000 in
theorem c_X6_init_4 {N : Nat} {S : Nat → Nat × Nat} {I : Nat → Nat → Int32} {J : Nat → Nat → Int64} {Q : Nat → Nat → Option Nat} {κ : Option Value → HP → Prop} {a : Nat} (h94 : 94 ≤ a) (ha : a < N) (hS : S a = (4, 0)) {t : Nat} {kind nu aim more told by_ : Int32} (hk : κ none (N, S, riI I a kind nu aim more told by_, J, up2 Q a 2 (some t))) : CT E1 M_X6_init [.ref a, .int kind, .int nu, .ref t, .int aim, .int more, .int told, .int by_] (N, S, I, J, Q) κ := by
  refine ofSP mk_X6_init (Nat.le_of_ble_eq_true rfl) (L := [.ref _, .int _, .int _, .ref _, .int _, .int _, .int _, .int _]) rfl ?_
  refine s_aload_n (pc' := 1) dX6_init_0 rfl rfl ?_
  refine s_objInit (pc' := 4) dX6_init_1 rfl ml_X6_3 (by decide) (by decide) ?_
  refine s_aload_n (pc' := 5) dX6_init_4 rfl rfl ?_
  refine s_iload_n (pc' := 6) dX6_init_5 rfl rfl ?_
  refine t_putI (pc' := 9) dX6_init_6 rfl (Sh.dy (by decide) ha hS) (by decide) fa_X6_9_4 (Or.inr ⟨rfl, rfl, rfl⟩) rfl rfl rfl ?_
  refine s_aload_n (pc' := 10) dX6_init_9 rfl rfl ?_
  refine s_iload_n (pc' := 11) dX6_init_10 rfl rfl ?_
  refine t_putI (pc' := 14) dX6_init_11 rfl (Sh.dy (by decide) ha hS) (by decide) fa_X6_15_4 (Or.inr ⟨rfl, rfl, rfl⟩) rfl rfl rfl ?_
  refine s_aload_n (pc' := 15) dX6_init_14 rfl rfl ?_
  refine s_aload_n (pc' := 16) dX6_init_15 rfl rfl ?_
  refine t_putR (pc' := 19) (r := some _) dX6_init_16 rfl rfl (Sh.dy (by decide) ha hS) (by decide) fa_X6_18_4 (Or.inr ⟨rfl, rfl, rfl⟩) rfl (fun z => absurd z (Nat.not_lt.mpr h94)) ?_
  refine s_aload_n (pc' := 20) dX6_init_19 rfl rfl ?_
  refine s_iload (pc' := 22) dX6_init_20 rfl rfl ?_
  refine t_putI (pc' := 25) dX6_init_22 rfl (Sh.dy (by decide) ha hS) (by decide) fa_X6_22_4 (Or.inr ⟨rfl, rfl, rfl⟩) rfl rfl rfl ?_
  refine s_aload_n (pc' := 26) dX6_init_25 rfl rfl ?_
  refine s_iload (pc' := 28) dX6_init_26 rfl rfl ?_
  refine s_bipush (pc' := 30) (v := 15) dX6_init_28 rfl (by decide) ?_
  refine s_iand (pc' := 31) dX6_init_30 rfl ?_
  refine t_putI (pc' := 34) dX6_init_31 rfl (Sh.dy (by decide) ha hS) (by decide) fa_X6_25_4 (Or.inr ⟨rfl, rfl, rfl⟩) rfl rfl rfl ?_
  refine s_aload_n (pc' := 35) dX6_init_34 rfl rfl ?_
  refine s_iload (pc' := 37) dX6_init_35 rfl rfl ?_
  refine s_iconst (pc' := 38) (v := 4) dX6_init_37 rfl (by decide) ?_
  refine s_ishr (pc' := 39) dX6_init_38 rfl ?_
  refine t_putI (pc' := 42) dX6_init_39 rfl (Sh.dy (by decide) ha hS) (by decide) fa_X6_28_4 (Or.inr ⟨rfl, rfl, rfl⟩) rfl rfl rfl ?_
  refine s_aload_n (pc' := 43) dX6_init_42 rfl rfl ?_
  refine s_iload_n (pc' := 44) dX6_init_43 rfl rfl ?_
  refine s_iconst (pc' := 45) (v := 3) dX6_init_44 rfl (by decide) ?_
  refine s_icmpgt (pc' := 48) (tgt := 53) dX6_init_45 (by decide) rfl (fun c45 => ?_) (fun c45 => ?_)
  · refine s_iconst (pc' := 54) (v := -1) dX6_init_53 rfl (by decide) ?_
    refine t_putI (pc' := 57) dX6_init_54 rfl (Sh.dy (by decide) ha hS) (by decide) fa_X6_31_4 (Or.inr ⟨rfl, rfl, rfl⟩) rfl rfl rfl ?_
    refine s_aload_n (pc' := 58) dX6_init_57 rfl rfl ?_
    refine s_iload (pc' := 60) dX6_init_58 rfl rfl ?_
    refine t_putI (pc' := 63) dX6_init_60 rfl (Sh.dy (by decide) ha hS) (by decide) fa_X6_34_4 (Or.inr ⟨rfl, rfl, rfl⟩) rfl rfl rfl ?_
    refine s_aload_n (pc' := 64) dX6_init_63 rfl rfl ?_
    refine s_iload (pc' := 66) dX6_init_64 rfl rfl ?_
    refine s_iconst (pc' := 67) (v := -1) dX6_init_66 rfl (by decide) ?_
    refine s_icmpne (pc' := 70) (tgt := 74) dX6_init_67 (by decide) rfl (fun c67 => ?_) (fun c67 => ?_)
    · refine s_iload (pc' := 76) dX6_init_74 rfl rfl ?_
      refine s_bipush (pc' := 78) (v := 15) dX6_init_76 rfl (by decide) ?_
      refine s_iand (pc' := 79) dX6_init_78 rfl ?_
      refine t_putI (pc' := 82) dX6_init_79 rfl (Sh.dy (by decide) ha hS) (by decide) fa_X6_37_4 (Or.inr ⟨rfl, rfl, rfl⟩) rfl rfl rfl ?_
      refine s_aload_n (pc' := 83) dX6_init_82 rfl rfl ?_
      refine s_iload (pc' := 85) dX6_init_83 rfl rfl ?_
      refine s_iconst (pc' := 86) (v := -1) dX6_init_85 rfl (by decide) ?_
      refine s_icmpneT (tgt := 93) dX6_init_86 (by decide) c67 ?_
      refine s_iload (pc' := 95) dX6_init_93 rfl rfl ?_
      refine s_iconst (pc' := 96) (v := 4) dX6_init_95 rfl (by decide) ?_
      refine s_ishr (pc' := 97) dX6_init_96 rfl ?_
      refine t_putI (pc' := 100) dX6_init_97 rfl (Sh.dy (by decide) ha hS) (by decide) fa_X6_40_4 (Or.inr ⟨rfl, rfl, rfl⟩) rfl rfl rfl ?_
      exact s_vret dX6_init_100 rfl (by decide) (by decide) (by have q := hk; unfold riI at q; rw [if_neg (Int32.not_le.mpr c45), if_neg c67, if_neg c67] at q; exact q)
    · refine s_iconst (pc' := 71) (v := -1) dX6_init_70 rfl (by decide) ?_
      refine s_goto (tgt := 79) dX6_init_71 (by decide) ?_
      refine t_putI (pc' := 82) dX6_init_79 rfl (Sh.dy (by decide) ha hS) (by decide) fa_X6_37_4 (Or.inr ⟨rfl, rfl, rfl⟩) rfl rfl rfl ?_
      refine s_aload_n (pc' := 83) dX6_init_82 rfl rfl ?_
      refine s_iload (pc' := 85) dX6_init_83 rfl rfl ?_
      refine s_iconst (pc' := 86) (v := -1) dX6_init_85 rfl (by decide) ?_
      refine s_icmpneF (pc' := 89) (tgt := 93) dX6_init_86 (by decide) rfl (by first | exact c67 | exact Decidable.not_not.mp c67) ?_
      refine s_iconst (pc' := 90) (v := 0) dX6_init_89 rfl (by decide) ?_
      refine s_goto (tgt := 97) dX6_init_90 (by decide) ?_
      refine t_putI (pc' := 100) dX6_init_97 rfl (Sh.dy (by decide) ha hS) (by decide) fa_X6_40_4 (Or.inr ⟨rfl, rfl, rfl⟩) rfl rfl rfl ?_
      exact s_vret dX6_init_100 rfl (by decide) (by decide) (by have q := hk; unfold riI at q; rw [if_neg (Int32.not_le.mpr c45), if_pos (show by_ = -1 from by first | exact c67 | exact Decidable.not_not.mp c67), if_pos (show by_ = -1 from by first | exact c67 | exact Decidable.not_not.mp c67)] at q; exact q)
  · refine s_iload (pc' := 50) dX6_init_48 rfl rfl ?_
    refine s_goto (tgt := 54) dX6_init_50 (by decide) ?_
    refine t_putI (pc' := 57) dX6_init_54 rfl (Sh.dy (by decide) ha hS) (by decide) fa_X6_31_4 (Or.inr ⟨rfl, rfl, rfl⟩) rfl rfl rfl ?_
    refine s_aload_n (pc' := 58) dX6_init_57 rfl rfl ?_
    refine s_iload (pc' := 60) dX6_init_58 rfl rfl ?_
    refine t_putI (pc' := 63) dX6_init_60 rfl (Sh.dy (by decide) ha hS) (by decide) fa_X6_34_4 (Or.inr ⟨rfl, rfl, rfl⟩) rfl rfl rfl ?_
    refine s_aload_n (pc' := 64) dX6_init_63 rfl rfl ?_
    refine s_iload (pc' := 66) dX6_init_64 rfl rfl ?_
    refine s_iconst (pc' := 67) (v := -1) dX6_init_66 rfl (by decide) ?_
    refine s_icmpne (pc' := 70) (tgt := 74) dX6_init_67 (by decide) rfl (fun c67 => ?_) (fun c67 => ?_)
    · refine s_iload (pc' := 76) dX6_init_74 rfl rfl ?_
      refine s_bipush (pc' := 78) (v := 15) dX6_init_76 rfl (by decide) ?_
      refine s_iand (pc' := 79) dX6_init_78 rfl ?_
      refine t_putI (pc' := 82) dX6_init_79 rfl (Sh.dy (by decide) ha hS) (by decide) fa_X6_37_4 (Or.inr ⟨rfl, rfl, rfl⟩) rfl rfl rfl ?_
      refine s_aload_n (pc' := 83) dX6_init_82 rfl rfl ?_
      refine s_iload (pc' := 85) dX6_init_83 rfl rfl ?_
      refine s_iconst (pc' := 86) (v := -1) dX6_init_85 rfl (by decide) ?_
      refine s_icmpneT (tgt := 93) dX6_init_86 (by decide) c67 ?_
      refine s_iload (pc' := 95) dX6_init_93 rfl rfl ?_
      refine s_iconst (pc' := 96) (v := 4) dX6_init_95 rfl (by decide) ?_
      refine s_ishr (pc' := 97) dX6_init_96 rfl ?_
      refine t_putI (pc' := 100) dX6_init_97 rfl (Sh.dy (by decide) ha hS) (by decide) fa_X6_40_4 (Or.inr ⟨rfl, rfl, rfl⟩) rfl rfl rfl ?_
      exact s_vret dX6_init_100 rfl (by decide) (by decide) (by have q := hk; unfold riI at q; rw [if_pos (Int32.not_lt.mp c45), if_neg c67, if_neg c67] at q; exact q)
    · refine s_iconst (pc' := 71) (v := -1) dX6_init_70 rfl (by decide) ?_
      refine s_goto (tgt := 79) dX6_init_71 (by decide) ?_
      refine t_putI (pc' := 82) dX6_init_79 rfl (Sh.dy (by decide) ha hS) (by decide) fa_X6_37_4 (Or.inr ⟨rfl, rfl, rfl⟩) rfl rfl rfl ?_
      refine s_aload_n (pc' := 83) dX6_init_82 rfl rfl ?_
      refine s_iload (pc' := 85) dX6_init_83 rfl rfl ?_
      refine s_iconst (pc' := 86) (v := -1) dX6_init_85 rfl (by decide) ?_
      refine s_icmpneF (pc' := 89) (tgt := 93) dX6_init_86 (by decide) rfl (by first | exact c67 | exact Decidable.not_not.mp c67) ?_
      refine s_iconst (pc' := 90) (v := 0) dX6_init_89 rfl (by decide) ?_
      refine s_goto (tgt := 97) dX6_init_90 (by decide) ?_
      refine t_putI (pc' := 100) dX6_init_97 rfl (Sh.dy (by decide) ha hS) (by decide) fa_X6_40_4 (Or.inr ⟨rfl, rfl, rfl⟩) rfl rfl rfl ?_
      exact s_vret dX6_init_100 rfl (by decide) (by decide) (by have q := hk; unfold riI at q; rw [if_pos (Int32.not_lt.mp c45), if_pos (show by_ = -1 from by first | exact c67 | exact Decidable.not_not.mp c67), if_pos (show by_ = -1 from by first | exact c67 | exact Decidable.not_not.mp c67)] at q; exact q)
set_option maxHeartbeats 200000 in
theorem c_X6_init_0 {N : Nat} {S : Nat → Nat × Nat} {I : Nat → Nat → Int32} {J : Nat → Nat → Int64} {Q : Nat → Nat → Option Nat} {κ : Option Value → HP → Prop} {a : Nat} (h94 : 94 ≤ a) (ha : a < N) (hS : S a = (0, 0)) {t : Nat} {kind nu aim more told by_ : Int32} (hk : κ none (N, S, riI I a kind nu aim more told by_, J, up2 Q a 2 (some t))) : CT E1 M_X6_init [.ref a, .int kind, .int nu, .ref t, .int aim, .int more, .int told, .int by_] (N, S, I, J, Q) κ := by
  refine ofSP mk_X6_init (Nat.le_of_ble_eq_true rfl) (L := [.ref _, .int _, .int _, .ref _, .int _, .int _, .int _, .int _]) rfl ?_
  refine s_aload_n (pc' := 1) dX6_init_0 rfl rfl ?_
  refine s_objInit (pc' := 4) dX6_init_1 rfl ml_X6_3 (by decide) (by decide) ?_
  refine s_aload_n (pc' := 5) dX6_init_4 rfl rfl ?_
  refine s_iload_n (pc' := 6) dX6_init_5 rfl rfl ?_
  refine t_putI (pc' := 9) dX6_init_6 rfl (Sh.dy (by decide) ha hS) (by decide) fa_X6_9_0 (Or.inr ⟨rfl, rfl, rfl⟩) rfl rfl rfl ?_
  refine s_aload_n (pc' := 10) dX6_init_9 rfl rfl ?_
  refine s_iload_n (pc' := 11) dX6_init_10 rfl rfl ?_
  refine t_putI (pc' := 14) dX6_init_11 rfl (Sh.dy (by decide) ha hS) (by decide) fa_X6_15_0 (Or.inr ⟨rfl, rfl, rfl⟩) rfl rfl rfl ?_
  refine s_aload_n (pc' := 15) dX6_init_14 rfl rfl ?_
  refine s_aload_n (pc' := 16) dX6_init_15 rfl rfl ?_
  refine t_putR (pc' := 19) (r := some _) dX6_init_16 rfl rfl (Sh.dy (by decide) ha hS) (by decide) fa_X6_18_0 (Or.inr ⟨rfl, rfl, rfl⟩) rfl (fun z => absurd z (Nat.not_lt.mpr h94)) ?_
  refine s_aload_n (pc' := 20) dX6_init_19 rfl rfl ?_
  refine s_iload (pc' := 22) dX6_init_20 rfl rfl ?_
  refine t_putI (pc' := 25) dX6_init_22 rfl (Sh.dy (by decide) ha hS) (by decide) fa_X6_22_0 (Or.inr ⟨rfl, rfl, rfl⟩) rfl rfl rfl ?_
  refine s_aload_n (pc' := 26) dX6_init_25 rfl rfl ?_
  refine s_iload (pc' := 28) dX6_init_26 rfl rfl ?_
  refine s_bipush (pc' := 30) (v := 15) dX6_init_28 rfl (by decide) ?_
  refine s_iand (pc' := 31) dX6_init_30 rfl ?_
  refine t_putI (pc' := 34) dX6_init_31 rfl (Sh.dy (by decide) ha hS) (by decide) fa_X6_25_0 (Or.inr ⟨rfl, rfl, rfl⟩) rfl rfl rfl ?_
  refine s_aload_n (pc' := 35) dX6_init_34 rfl rfl ?_
  refine s_iload (pc' := 37) dX6_init_35 rfl rfl ?_
  refine s_iconst (pc' := 38) (v := 4) dX6_init_37 rfl (by decide) ?_
  refine s_ishr (pc' := 39) dX6_init_38 rfl ?_
  refine t_putI (pc' := 42) dX6_init_39 rfl (Sh.dy (by decide) ha hS) (by decide) fa_X6_28_0 (Or.inr ⟨rfl, rfl, rfl⟩) rfl rfl rfl ?_
  refine s_aload_n (pc' := 43) dX6_init_42 rfl rfl ?_
  refine s_iload_n (pc' := 44) dX6_init_43 rfl rfl ?_
  refine s_iconst (pc' := 45) (v := 3) dX6_init_44 rfl (by decide) ?_
  refine s_icmpgt (pc' := 48) (tgt := 53) dX6_init_45 (by decide) rfl (fun c45 => ?_) (fun c45 => ?_)
  · refine s_iconst (pc' := 54) (v := -1) dX6_init_53 rfl (by decide) ?_
    refine t_putI (pc' := 57) dX6_init_54 rfl (Sh.dy (by decide) ha hS) (by decide) fa_X6_31_0 (Or.inr ⟨rfl, rfl, rfl⟩) rfl rfl rfl ?_
    refine s_aload_n (pc' := 58) dX6_init_57 rfl rfl ?_
    refine s_iload (pc' := 60) dX6_init_58 rfl rfl ?_
    refine t_putI (pc' := 63) dX6_init_60 rfl (Sh.dy (by decide) ha hS) (by decide) fa_X6_34_0 (Or.inr ⟨rfl, rfl, rfl⟩) rfl rfl rfl ?_
    refine s_aload_n (pc' := 64) dX6_init_63 rfl rfl ?_
    refine s_iload (pc' := 66) dX6_init_64 rfl rfl ?_
    refine s_iconst (pc' := 67) (v := -1) dX6_init_66 rfl (by decide) ?_
    refine s_icmpne (pc' := 70) (tgt := 74) dX6_init_67 (by decide) rfl (fun c67 => ?_) (fun c67 => ?_)
    · refine s_iload (pc' := 76) dX6_init_74 rfl rfl ?_
      refine s_bipush (pc' := 78) (v := 15) dX6_init_76 rfl (by decide) ?_
      refine s_iand (pc' := 79) dX6_init_78 rfl ?_
      refine t_putI (pc' := 82) dX6_init_79 rfl (Sh.dy (by decide) ha hS) (by decide) fa_X6_37_0 (Or.inr ⟨rfl, rfl, rfl⟩) rfl rfl rfl ?_
      refine s_aload_n (pc' := 83) dX6_init_82 rfl rfl ?_
      refine s_iload (pc' := 85) dX6_init_83 rfl rfl ?_
      refine s_iconst (pc' := 86) (v := -1) dX6_init_85 rfl (by decide) ?_
      refine s_icmpneT (tgt := 93) dX6_init_86 (by decide) c67 ?_
      refine s_iload (pc' := 95) dX6_init_93 rfl rfl ?_
      refine s_iconst (pc' := 96) (v := 4) dX6_init_95 rfl (by decide) ?_
      refine s_ishr (pc' := 97) dX6_init_96 rfl ?_
      refine t_putI (pc' := 100) dX6_init_97 rfl (Sh.dy (by decide) ha hS) (by decide) fa_X6_40_0 (Or.inr ⟨rfl, rfl, rfl⟩) rfl rfl rfl ?_
      exact s_vret dX6_init_100 rfl (by decide) (by decide) (by have q := hk; unfold riI at q; rw [if_neg (Int32.not_le.mpr c45), if_neg c67, if_neg c67] at q; exact q)
    · refine s_iconst (pc' := 71) (v := -1) dX6_init_70 rfl (by decide) ?_
      refine s_goto (tgt := 79) dX6_init_71 (by decide) ?_
      refine t_putI (pc' := 82) dX6_init_79 rfl (Sh.dy (by decide) ha hS) (by decide) fa_X6_37_0 (Or.inr ⟨rfl, rfl, rfl⟩) rfl rfl rfl ?_
      refine s_aload_n (pc' := 83) dX6_init_82 rfl rfl ?_
      refine s_iload (pc' := 85) dX6_init_83 rfl rfl ?_
      refine s_iconst (pc' := 86) (v := -1) dX6_init_85 rfl (by decide) ?_
      refine s_icmpneF (pc' := 89) (tgt := 93) dX6_init_86 (by decide) rfl (by first | exact c67 | exact Decidable.not_not.mp c67) ?_
      refine s_iconst (pc' := 90) (v := 0) dX6_init_89 rfl (by decide) ?_
      refine s_goto (tgt := 97) dX6_init_90 (by decide) ?_
      refine t_putI (pc' := 100) dX6_init_97 rfl (Sh.dy (by decide) ha hS) (by decide) fa_X6_40_0 (Or.inr ⟨rfl, rfl, rfl⟩) rfl rfl rfl ?_
      exact s_vret dX6_init_100 rfl (by decide) (by decide) (by have q := hk; unfold riI at q; rw [if_neg (Int32.not_le.mpr c45), if_pos (show by_ = -1 from by first | exact c67 | exact Decidable.not_not.mp c67), if_pos (show by_ = -1 from by first | exact c67 | exact Decidable.not_not.mp c67)] at q; exact q)
  · refine s_iload (pc' := 50) dX6_init_48 rfl rfl ?_
    refine s_goto (tgt := 54) dX6_init_50 (by decide) ?_
    refine t_putI (pc' := 57) dX6_init_54 rfl (Sh.dy (by decide) ha hS) (by decide) fa_X6_31_0 (Or.inr ⟨rfl, rfl, rfl⟩) rfl rfl rfl ?_
    refine s_aload_n (pc' := 58) dX6_init_57 rfl rfl ?_
    refine s_iload (pc' := 60) dX6_init_58 rfl rfl ?_
    refine t_putI (pc' := 63) dX6_init_60 rfl (Sh.dy (by decide) ha hS) (by decide) fa_X6_34_0 (Or.inr ⟨rfl, rfl, rfl⟩) rfl rfl rfl ?_
    refine s_aload_n (pc' := 64) dX6_init_63 rfl rfl ?_
    refine s_iload (pc' := 66) dX6_init_64 rfl rfl ?_
    refine s_iconst (pc' := 67) (v := -1) dX6_init_66 rfl (by decide) ?_
    refine s_icmpne (pc' := 70) (tgt := 74) dX6_init_67 (by decide) rfl (fun c67 => ?_) (fun c67 => ?_)
    · refine s_iload (pc' := 76) dX6_init_74 rfl rfl ?_
      refine s_bipush (pc' := 78) (v := 15) dX6_init_76 rfl (by decide) ?_
      refine s_iand (pc' := 79) dX6_init_78 rfl ?_
      refine t_putI (pc' := 82) dX6_init_79 rfl (Sh.dy (by decide) ha hS) (by decide) fa_X6_37_0 (Or.inr ⟨rfl, rfl, rfl⟩) rfl rfl rfl ?_
      refine s_aload_n (pc' := 83) dX6_init_82 rfl rfl ?_
      refine s_iload (pc' := 85) dX6_init_83 rfl rfl ?_
      refine s_iconst (pc' := 86) (v := -1) dX6_init_85 rfl (by decide) ?_
      refine s_icmpneT (tgt := 93) dX6_init_86 (by decide) c67 ?_
      refine s_iload (pc' := 95) dX6_init_93 rfl rfl ?_
      refine s_iconst (pc' := 96) (v := 4) dX6_init_95 rfl (by decide) ?_
      refine s_ishr (pc' := 97) dX6_init_96 rfl ?_
      refine t_putI (pc' := 100) dX6_init_97 rfl (Sh.dy (by decide) ha hS) (by decide) fa_X6_40_0 (Or.inr ⟨rfl, rfl, rfl⟩) rfl rfl rfl ?_
      exact s_vret dX6_init_100 rfl (by decide) (by decide) (by have q := hk; unfold riI at q; rw [if_pos (Int32.not_lt.mp c45), if_neg c67, if_neg c67] at q; exact q)
    · refine s_iconst (pc' := 71) (v := -1) dX6_init_70 rfl (by decide) ?_
      refine s_goto (tgt := 79) dX6_init_71 (by decide) ?_
      refine t_putI (pc' := 82) dX6_init_79 rfl (Sh.dy (by decide) ha hS) (by decide) fa_X6_37_0 (Or.inr ⟨rfl, rfl, rfl⟩) rfl rfl rfl ?_
      refine s_aload_n (pc' := 83) dX6_init_82 rfl rfl ?_
      refine s_iload (pc' := 85) dX6_init_83 rfl rfl ?_
      refine s_iconst (pc' := 86) (v := -1) dX6_init_85 rfl (by decide) ?_
      refine s_icmpneF (pc' := 89) (tgt := 93) dX6_init_86 (by decide) rfl (by first | exact c67 | exact Decidable.not_not.mp c67) ?_
      refine s_iconst (pc' := 90) (v := 0) dX6_init_89 rfl (by decide) ?_
      refine s_goto (tgt := 97) dX6_init_90 (by decide) ?_
      refine t_putI (pc' := 100) dX6_init_97 rfl (Sh.dy (by decide) ha hS) (by decide) fa_X6_40_0 (Or.inr ⟨rfl, rfl, rfl⟩) rfl rfl rfl ?_
      exact s_vret dX6_init_100 rfl (by decide) (by decide) (by have q := hk; unfold riI at q; rw [if_pos (Int32.not_lt.mp c45), if_pos (show by_ = -1 from by first | exact c67 | exact Decidable.not_not.mp c67), if_pos (show by_ = -1 from by first | exact c67 | exact Decidable.not_not.mp c67)] at q; exact q)
set_option maxHeartbeats 200000 in
theorem c_X10_init {N : Nat} {S : Nat → Nat × Nat} {I : Nat → Nat → Int32} {J : Nat → Nat → Int64} {Q : Nat → Nat → Option Nat} {κ : Option Value → HP → Prop} {a : Nat} (h94 : 94 ≤ a) (ha : a < N) (hS : S a = (10, 0)) {t : Nat} {nu ty aim more told by_ : Int32} (hk : κ none (N, S, up2 (riI I a 1 nu aim more told by_) a 10 ty, J, up2 Q a 2 (some t))) : CT E1 M_X10_init [.ref a, .int nu, .ref t, .int ty, .int aim, .int more, .int told, .int by_] (N, S, I, J, Q) κ := by
  refine ofSP mk_X10_init (Nat.le_of_ble_eq_true rfl) (L := [.ref _, .int _, .ref _, .int _, .int _, .int _, .int _, .int _]) rfl ?_
  refine s_aload_n (pc' := 1) dX10_init_0 rfl rfl ?_
  refine s_iconst (pc' := 2) (v := 1) dX10_init_1 rfl (by decide) ?_
  refine s_iload_n (pc' := 3) dX10_init_2 rfl rfl ?_
  refine s_aload_n (pc' := 4) dX10_init_3 rfl rfl ?_
  refine s_iload (pc' := 6) dX10_init_4 rfl rfl ?_
  refine s_iload (pc' := 8) dX10_init_6 rfl rfl ?_
  refine s_iload (pc' := 10) dX10_init_8 rfl rfl ?_
  refine s_iload (pc' := 12) dX10_init_10 rfl rfl ?_
  refine s_callI (pc' := 15) (As := [.int _, .int _, .ref _, .int _, .int _, .int _, .int _]) dX10_init_12 rfl mk_X6_init ml_X10_3 im_X6_init rfl rfl rfl rfl ⟨Nat.le_of_ble_eq_true rfl, Nat.le_of_ble_eq_true rfl, Nat.le_of_ble_eq_true rfl, Nat.le_of_ble_eq_true rfl⟩ (Nat.le_of_ble_eq_true rfl) (c_X6_init_10 h94 ha hS ?_)
  refine s_aload_n (pc' := 16) dX10_init_15 rfl rfl ?_
  refine s_iload_n (pc' := 17) dX10_init_16 rfl rfl ?_
  refine t_putI (pc' := 20) dX10_init_17 rfl (Sh.dy (by decide) ha hS) (by decide) fa_X10_9_10 (Or.inr ⟨rfl, rfl, rfl⟩) rfl rfl rfl ?_
  exact s_vret dX10_init_20 rfl (by decide) (by decide) hk
set_option maxHeartbeats 200000 in
theorem c_X7_init {N : Nat} {S : Nat → Nat × Nat} {I : Nat → Nat → Int32} {J : Nat → Nat → Int64} {Q : Nat → Nat → Option Nat} {κ : Option Value → HP → Prop} {a : Nat} (h94 : 94 ≤ a) (ha : a < N) (hS : S a = (7, 0)) {t : Nat} {nu aim more told by_ : Int32} (hk : κ none (N, S, riI I a 2 nu aim more told by_, J, up2 Q a 2 (some t))) : CT E1 M_X7_init [.ref a, .int nu, .ref t, .int aim, .int more, .int told, .int by_] (N, S, I, J, Q) κ := by
  refine ofSP mk_X7_init (Nat.le_of_ble_eq_true rfl) (L := [.ref _, .int _, .ref _, .int _, .int _, .int _, .int _]) rfl ?_
  refine s_aload_n (pc' := 1) dX7_init_0 rfl rfl ?_
  refine s_iconst (pc' := 2) (v := 2) dX7_init_1 rfl (by decide) ?_
  refine s_iload_n (pc' := 3) dX7_init_2 rfl rfl ?_
  refine s_aload_n (pc' := 4) dX7_init_3 rfl rfl ?_
  refine s_iload_n (pc' := 5) dX7_init_4 rfl rfl ?_
  refine s_iload (pc' := 7) dX7_init_5 rfl rfl ?_
  refine s_iload (pc' := 9) dX7_init_7 rfl rfl ?_
  refine s_iload (pc' := 11) dX7_init_9 rfl rfl ?_
  refine s_callI (pc' := 14) (As := [.int _, .int _, .ref _, .int _, .int _, .int _, .int _]) dX7_init_11 rfl mk_X6_init ml_X7_3 im_X6_init rfl rfl rfl rfl ⟨Nat.le_of_ble_eq_true rfl, Nat.le_of_ble_eq_true rfl, Nat.le_of_ble_eq_true rfl, Nat.le_of_ble_eq_true rfl⟩ (Nat.le_of_ble_eq_true rfl) (c_X6_init_7 h94 ha hS ?_)
  exact s_vret dX7_init_14 rfl (by decide) (by decide) hk
set_option maxHeartbeats 200000 in
theorem c_X2_init_0 {N : Nat} {S : Nat → Nat × Nat} {I : Nat → Nat → Int32} {J : Nat → Nat → Int64} {Q : Nat → Nat → Option Nat} {κ : Option Value → HP → Prop} {a : Nat} (h94 : 94 ≤ a) (ha : a < N) (hS : S a = (2, 0)) {t : Nat} {nu aim more told by_ : Int32} (hk : κ none (N, S, up2 (riI I a 3 nu aim more told by_) a 10 0, J, up2 Q a 2 (some t))) : CT E1 M_X2_init [.ref a, .int nu, .ref t, .int 0, .int aim, .int more, .int told, .int by_] (N, S, I, J, Q) κ := by
  refine ofSP mk_X2_init (Nat.le_of_ble_eq_true rfl) (L := [.ref _, .int _, .ref _, .int _, .int _, .int _, .int _, .int _]) rfl ?_
  refine s_aload_n (pc' := 1) dX2_init_0 rfl rfl ?_
  refine s_iconst (pc' := 2) (v := 3) dX2_init_1 rfl (by decide) ?_
  refine s_iload_n (pc' := 3) dX2_init_2 rfl rfl ?_
  refine s_aload_n (pc' := 4) dX2_init_3 rfl rfl ?_
  refine s_iload (pc' := 6) dX2_init_4 rfl rfl ?_
  refine s_iload (pc' := 8) dX2_init_6 rfl rfl ?_
  refine s_iload (pc' := 10) dX2_init_8 rfl rfl ?_
  refine s_iload (pc' := 12) dX2_init_10 rfl rfl ?_
  refine s_callI (pc' := 15) (As := [.int _, .int _, .ref _, .int _, .int _, .int _, .int _]) dX2_init_12 rfl mk_X6_init ml_X2_3 im_X6_init rfl rfl rfl rfl ⟨Nat.le_of_ble_eq_true rfl, Nat.le_of_ble_eq_true rfl, Nat.le_of_ble_eq_true rfl, Nat.le_of_ble_eq_true rfl⟩ (Nat.le_of_ble_eq_true rfl) (c_X6_init_2 h94 ha hS ?_)
  refine s_aload_n (pc' := 16) dX2_init_15 rfl rfl ?_
  refine s_iload_n (pc' := 17) dX2_init_16 rfl rfl ?_
  refine t_putI (pc' := 20) dX2_init_17 rfl (Sh.dy (by decide) ha hS) (by decide) fa_X2_9_2 (Or.inr ⟨rfl, rfl, rfl⟩) rfl rfl rfl ?_
  exact s_vret dX2_init_20 rfl (by decide) (by decide) hk
set_option maxHeartbeats 200000 in
theorem c_X2_init_1 {N : Nat} {S : Nat → Nat × Nat} {I : Nat → Nat → Int32} {J : Nat → Nat → Int64} {Q : Nat → Nat → Option Nat} {κ : Option Value → HP → Prop} {a : Nat} (h94 : 94 ≤ a) (ha : a < N) (hS : S a = (2, 0)) {t : Nat} {nu aim more told by_ : Int32} (hk : κ none (N, S, up2 (riI I a 3 nu aim more told by_) a 10 1, J, up2 Q a 2 (some t))) : CT E1 M_X2_init [.ref a, .int nu, .ref t, .int 1, .int aim, .int more, .int told, .int by_] (N, S, I, J, Q) κ := by
  refine ofSP mk_X2_init (Nat.le_of_ble_eq_true rfl) (L := [.ref _, .int _, .ref _, .int _, .int _, .int _, .int _, .int _]) rfl ?_
  refine s_aload_n (pc' := 1) dX2_init_0 rfl rfl ?_
  refine s_iconst (pc' := 2) (v := 3) dX2_init_1 rfl (by decide) ?_
  refine s_iload_n (pc' := 3) dX2_init_2 rfl rfl ?_
  refine s_aload_n (pc' := 4) dX2_init_3 rfl rfl ?_
  refine s_iload (pc' := 6) dX2_init_4 rfl rfl ?_
  refine s_iload (pc' := 8) dX2_init_6 rfl rfl ?_
  refine s_iload (pc' := 10) dX2_init_8 rfl rfl ?_
  refine s_iload (pc' := 12) dX2_init_10 rfl rfl ?_
  refine s_callI (pc' := 15) (As := [.int _, .int _, .ref _, .int _, .int _, .int _, .int _]) dX2_init_12 rfl mk_X6_init ml_X2_3 im_X6_init rfl rfl rfl rfl ⟨Nat.le_of_ble_eq_true rfl, Nat.le_of_ble_eq_true rfl, Nat.le_of_ble_eq_true rfl, Nat.le_of_ble_eq_true rfl⟩ (Nat.le_of_ble_eq_true rfl) (c_X6_init_2 h94 ha hS ?_)
  refine s_aload_n (pc' := 16) dX2_init_15 rfl rfl ?_
  refine s_iload_n (pc' := 17) dX2_init_16 rfl rfl ?_
  refine t_putI (pc' := 20) dX2_init_17 rfl (Sh.dy (by decide) ha hS) (by decide) fa_X2_9_2 (Or.inr ⟨rfl, rfl, rfl⟩) rfl rfl rfl ?_
  exact s_vret dX2_init_20 rfl (by decide) (by decide) hk
set_option maxHeartbeats 200000 in
theorem c_X3_init {N : Nat} {S : Nat → Nat × Nat} {I : Nat → Nat → Int32} {J : Nat → Nat → Int64} {Q : Nat → Nat → Option Nat} {κ : Option Value → HP → Prop} {a : Nat} (h94 : 94 ≤ a) (ha : a < N) (hS : S a = (3, 0)) {t : Nat} {nu aim more : Int32} (hk : κ none (N, S, riI I a 4 nu aim more 0 (-1), J, up2 Q a 2 (some t))) : CT E1 M_X3_init [.ref a, .int nu, .ref t, .int aim, .int more] (N, S, I, J, Q) κ := by
  refine ofSP mk_X3_init (Nat.le_of_ble_eq_true rfl) (L := [.ref _, .int _, .ref _, .int _, .int _]) rfl ?_
  refine s_aload_n (pc' := 1) dX3_init_0 rfl rfl ?_
  refine s_iconst (pc' := 2) (v := 4) dX3_init_1 rfl (by decide) ?_
  refine s_iload_n (pc' := 3) dX3_init_2 rfl rfl ?_
  refine s_aload_n (pc' := 4) dX3_init_3 rfl rfl ?_
  refine s_iload_n (pc' := 5) dX3_init_4 rfl rfl ?_
  refine s_iload (pc' := 7) dX3_init_5 rfl rfl ?_
  refine s_iconst (pc' := 8) (v := 0) dX3_init_7 rfl (by decide) ?_
  refine s_iconst (pc' := 9) (v := -1) dX3_init_8 rfl (by decide) ?_
  refine s_callI (pc' := 12) (As := [.int _, .int _, .ref _, .int _, .int _, .int _, .int _]) dX3_init_9 rfl mk_X6_init ml_X3_3 im_X6_init rfl rfl rfl rfl ⟨Nat.le_of_ble_eq_true rfl, Nat.le_of_ble_eq_true rfl, Nat.le_of_ble_eq_true rfl, Nat.le_of_ble_eq_true rfl⟩ (Nat.le_of_ble_eq_true rfl) (c_X6_init_3 h94 ha hS ?_)
  exact s_vret dX3_init_12 rfl (by decide) (by decide) hk
set_option maxHeartbeats 200000 in
theorem c_X4_init_4 {N : Nat} {S : Nat → Nat × Nat} {I : Nat → Nat → Int32} {J : Nat → Nat → Int64} {Q : Nat → Nat → Option Nat} {κ : Option Value → HP → Prop} {a : Nat} (h94 : 94 ≤ a) (ha : a < N) (hS : S a = (4, 0)) {t : Nat} {kind nu aim more : Int32} (hk : κ none (N, S, riI I a kind nu aim more 0 (-1), J, up2 Q a 2 (some t))) : CT E1 M_X4_init [.ref a, .int kind, .int nu, .ref t, .int aim, .int more] (N, S, I, J, Q) κ := by
  refine ofSP mk_X4_init (Nat.le_of_ble_eq_true rfl) (L := [.ref _, .int _, .int _, .ref _, .int _, .int _]) rfl ?_
  refine s_aload_n (pc' := 1) dX4_init_0 rfl rfl ?_
  refine s_iload_n (pc' := 2) dX4_init_1 rfl rfl ?_
  refine s_iload_n (pc' := 3) dX4_init_2 rfl rfl ?_
  refine s_aload_n (pc' := 4) dX4_init_3 rfl rfl ?_
  refine s_iload (pc' := 6) dX4_init_4 rfl rfl ?_
  refine s_iload (pc' := 8) dX4_init_6 rfl rfl ?_
  refine s_iconst (pc' := 9) (v := 0) dX4_init_8 rfl (by decide) ?_
  refine s_iconst (pc' := 10) (v := -1) dX4_init_9 rfl (by decide) ?_
  refine s_callI (pc' := 13) (As := [.int _, .int _, .ref _, .int _, .int _, .int _, .int _]) dX4_init_10 rfl mk_X6_init ml_X4_3 im_X6_init rfl rfl rfl rfl ⟨Nat.le_of_ble_eq_true rfl, Nat.le_of_ble_eq_true rfl, Nat.le_of_ble_eq_true rfl, Nat.le_of_ble_eq_true rfl⟩ (Nat.le_of_ble_eq_true rfl) (c_X6_init_4 h94 ha hS ?_)
  exact s_vret dX4_init_13 rfl (by decide) (by decide) hk
set_option maxHeartbeats 200000 in
theorem c_X4_init_0 {N : Nat} {S : Nat → Nat × Nat} {I : Nat → Nat → Int32} {J : Nat → Nat → Int64} {Q : Nat → Nat → Option Nat} {κ : Option Value → HP → Prop} {a : Nat} (h94 : 94 ≤ a) (ha : a < N) (hS : S a = (0, 0)) {t : Nat} {kind nu aim more : Int32} (hk : κ none (N, S, riI I a kind nu aim more 0 (-1), J, up2 Q a 2 (some t))) : CT E1 M_X4_init [.ref a, .int kind, .int nu, .ref t, .int aim, .int more] (N, S, I, J, Q) κ := by
  refine ofSP mk_X4_init (Nat.le_of_ble_eq_true rfl) (L := [.ref _, .int _, .int _, .ref _, .int _, .int _]) rfl ?_
  refine s_aload_n (pc' := 1) dX4_init_0 rfl rfl ?_
  refine s_iload_n (pc' := 2) dX4_init_1 rfl rfl ?_
  refine s_iload_n (pc' := 3) dX4_init_2 rfl rfl ?_
  refine s_aload_n (pc' := 4) dX4_init_3 rfl rfl ?_
  refine s_iload (pc' := 6) dX4_init_4 rfl rfl ?_
  refine s_iload (pc' := 8) dX4_init_6 rfl rfl ?_
  refine s_iconst (pc' := 9) (v := 0) dX4_init_8 rfl (by decide) ?_
  refine s_iconst (pc' := 10) (v := -1) dX4_init_9 rfl (by decide) ?_
  refine s_callI (pc' := 13) (As := [.int _, .int _, .ref _, .int _, .int _, .int _, .int _]) dX4_init_10 rfl mk_X6_init ml_X4_3 im_X6_init rfl rfl rfl rfl ⟨Nat.le_of_ble_eq_true rfl, Nat.le_of_ble_eq_true rfl, Nat.le_of_ble_eq_true rfl, Nat.le_of_ble_eq_true rfl⟩ (Nat.le_of_ble_eq_true rfl) (c_X6_init_0 h94 ha hS ?_)
  exact s_vret dX4_init_13 rfl (by decide) (by decide) hk
set_option maxHeartbeats 200000 in
theorem c_X0_init {N : Nat} {S : Nat → Nat × Nat} {I : Nat → Nat → Int32} {J : Nat → Nat → Int64} {Q : Nat → Nat → Option Nat} {κ : Option Value → HP → Prop} {a : Nat} (h94 : 94 ≤ a) (ha : a < N) (hS : S a = (0, 0)) {t : Nat} {nu aim more : Int32} (hk : κ none (N, S, riI I a 6 nu aim more 0 (-1), J, up2 Q a 2 (some t))) : CT E1 M_X0_init [.ref a, .int nu, .ref t, .int aim, .int more] (N, S, I, J, Q) κ := by
  refine ofSP mk_X0_init (Nat.le_of_ble_eq_true rfl) (L := [.ref _, .int _, .ref _, .int _, .int _]) rfl ?_
  refine s_aload_n (pc' := 1) dX0_init_0 rfl rfl ?_
  refine s_bipush (pc' := 3) (v := 6) dX0_init_1 rfl (by decide) ?_
  refine s_iload_n (pc' := 4) dX0_init_3 rfl rfl ?_
  refine s_aload_n (pc' := 5) dX0_init_4 rfl rfl ?_
  refine s_iload_n (pc' := 6) dX0_init_5 rfl rfl ?_
  refine s_iload (pc' := 8) dX0_init_6 rfl rfl ?_
  refine s_callI (pc' := 11) (As := [.int _, .int _, .ref _, .int _, .int _]) dX0_init_8 rfl mk_X4_init ml_X0_3 im_X4_init rfl rfl rfl rfl ⟨Nat.le_of_ble_eq_true rfl, Nat.le_of_ble_eq_true rfl, Nat.le_of_ble_eq_true rfl, Nat.le_of_ble_eq_true rfl⟩ (Nat.le_of_ble_eq_true rfl) (c_X4_init_0 h94 ha hS ?_)
  exact s_vret dX0_init_11 rfl (by decide) (by decide) hk
set_option maxHeartbeats 200000 in
theorem l_X8_addNeeds2 {N : Nat} {S : Nat → Nat × Nat} {I : Nat → Nat → Int32} {J : Nat → Nat → Int64} {Q : Nat → Nat → Option Nat} {κ : Option Value → HP → Prop} {nv w : Nat} {rd : Int32} (h10 : I 1 0 = nI nv) (hn : nv ≤ 10) (hw : w < nv) {mo : Int32} (hmo : (∀ u, bt mo u = true ↔ bt rd u = true ∨ ∃ z, z < nv ∧ bt rd z = true ∧ bt (I 7 z) u = true)) (hk : ∀ I', (∀ c, c ≠ 7 → I' c = I c) → (∀ v, v < nv → ∀ u, (bt (I' 7 v) u = true ↔ bt (I 7 v) u = true ∨ ((v = w ∨ bt (I 7 v) w = true) ∧ (bt rd u = true ∨ ∃ z, z < nv ∧ bt rd z = true ∧ bt (I 7 z) u = true)))) → κ none (N, S, I', J, Q)) : ∀ d : Nat, ∀ k I', k + d = nv → ((∀ c, c ≠ 7 → I' c = I c) ∧ (∀ v, v < k → I' 7 v = if v = w ∨ bt (I 7 v) w = true then I 7 v ||| mo else I 7 v) ∧ ∀ v, k ≤ v → I' 7 v = I 7 v) → SP E1 M_X8_addNeeds κ 52 [.ref 1, .int (nI w), .int rd, .int mo, .int (nI k)] [] (N, S, I', J, Q) 0 0 := by
  intro d
  induction d with
  | zero =>
    intro k I' hd g
    obtain rfl : k = nv := by omega
    have e10 : I' 1 0 = nI k := by rw [g.1 1 (by decide)]; exact h10
    refine s_iload (pc' := 54) dX8_addNeeds_52 rfl rfl ?_
    refine s_aload_n (pc' := 55) dX8_addNeeds_54 rfl rfl ?_
    refine t_getI (pc' := 58) dX8_addNeeds_55 rfl sh_1 (by decide) fa_X8_9_8 rfl ?_
    refine s_icmpgeT (tgt := 98) dX8_addNeeds_58 (by decide) (by rw [e10]; exact Int32.le_refl _) ?_
    exact s_vret dX8_addNeeds_98 rfl (by decide) (by decide) (by
      refine hk I' g.1 (fun v hv u => ?_)
      rw [g.2.1 v hv]
      by_cases z : v = w ∨ bt (I 7 v) w = true
      · rw [if_pos z, bt_orI, hmo u]; exact ⟨fun y => y.imp id (fun q => ⟨z, q⟩), fun y => y.imp id (fun q => q.2)⟩
      · rw [if_neg z]; exact ⟨Or.inl, fun y => y.resolve_right (fun q => z q.1)⟩)
  | succ d ih =>
    intro k I' hd g
    have e10 : I' 1 0 = nI nv := by rw [g.1 1 (by decide)]; exact h10
    refine s_iload (pc' := 54) dX8_addNeeds_52 rfl rfl ?_
    refine s_aload_n (pc' := 55) dX8_addNeeds_54 rfl rfl ?_
    refine t_getI (pc' := 58) dX8_addNeeds_55 rfl sh_1 (by decide) fa_X8_9_8 rfl ?_
    refine s_icmpgeF (pc' := 61) (tgt := 98) dX8_addNeeds_58 (by decide) rfl (by rw [e10]; exact nI_ge (by omega) (by omega)) ?_
    refine s_iload (pc' := 63) dX8_addNeeds_61 rfl rfl ?_
    refine s_iload_n (pc' := 64) dX8_addNeeds_63 rfl rfl ?_
    refine s_icmpeq (pc' := 67) (tgt := 81) dX8_addNeeds_64 (by decide) rfl (fun c64 => ?_) (fun c64 => ?_)
    · refine s_aload_n (pc' := 82) dX8_addNeeds_81 rfl rfl ?_
      refine s_getS (pc' := 85) (b := 7) dX8_addNeeds_82 rfl (by decide) rfl (by decide) fa_X8_31_8 rfl rfl ?_
      refine s_iload (pc' := 87) dX8_addNeeds_85 rfl rfl ?_
      refine s_dup2 (pc' := 88) dX8_addNeeds_87 rfl rfl rfl ?_
      refine t_iald (pc' := 89) dX8_addNeeds_88 rfl sh_7 rfl (by omega) ?_
      refine s_iload_n (pc' := 90) dX8_addNeeds_89 rfl rfl ?_
      refine s_ior (pc' := 91) dX8_addNeeds_90 rfl ?_
      refine t_iast (pc' := 92) dX8_addNeeds_91 rfl sh_7 rfl (by omega) ?_
      refine t_iinc (pc' := 95) (v := nI (k + 1)) (L' := [.ref 1, .int _, .int _, .int _, .int _]) dX8_addNeeds_92 rfl rfl (nI_inc k) rfl ?_
      refine s_goto (tgt := 52) dX8_addNeeds_95 (by decide) ?_
      refine ih (k + 1) _ (by omega) ⟨fun c hc => by rw [up2_o hc]; exact g.1 c hc, fun v hv => ?_, fun v hv => by rw [up2_e (by omega)]; exact g.2.2 v (by omega)⟩
      by_cases e : v = k
      · rw [e, up2_s, if_pos (Or.inl (ixe c64 (by omega) (by omega))), g.2.2 k (Nat.le_refl _)]
      · rw [up2_e e]; exact g.2.1 v (by omega)
    · refine s_aload_n (pc' := 68) dX8_addNeeds_67 rfl rfl ?_
      refine s_getS (pc' := 71) (b := 7) dX8_addNeeds_68 rfl (by decide) rfl (by decide) fa_X8_31_8 rfl rfl ?_
      refine s_iload (pc' := 73) dX8_addNeeds_71 rfl rfl ?_
      refine t_iald (pc' := 74) dX8_addNeeds_73 rfl sh_7 rfl (by omega) ?_
      refine s_iload_n (pc' := 75) dX8_addNeeds_74 rfl rfl ?_
      refine s_callSN (pc' := 78) (As := [.int _, .int _]) dX8_addNeeds_75 rfl mk_X11_hasBit mn_X8_84 sm_X11_hasBit rfl rfl ⟨Nat.le_of_ble_eq_true rfl, Nat.le_of_ble_eq_true rfl, Nat.le_of_ble_eq_true rfl, Nat.le_of_ble_eq_true rfl⟩ (Nat.le_of_ble_eq_true rfl) (e_hasBit (j := w) rfl (by omega) (fun b75 => ?_) (fun b75 => ?_))
      · refine s_ifeqF (pc' := 81) (tgt := 92) dX8_addNeeds_78 (by decide) rfl (by decide) ?_
        refine s_aload_n (pc' := 82) dX8_addNeeds_81 rfl rfl ?_
        refine s_getS (pc' := 85) (b := 7) dX8_addNeeds_82 rfl (by decide) rfl (by decide) fa_X8_31_8 rfl rfl ?_
        refine s_iload (pc' := 87) dX8_addNeeds_85 rfl rfl ?_
        refine s_dup2 (pc' := 88) dX8_addNeeds_87 rfl rfl rfl ?_
        refine t_iald (pc' := 89) dX8_addNeeds_88 rfl sh_7 rfl (by omega) ?_
        refine s_iload_n (pc' := 90) dX8_addNeeds_89 rfl rfl ?_
        refine s_ior (pc' := 91) dX8_addNeeds_90 rfl ?_
        refine t_iast (pc' := 92) dX8_addNeeds_91 rfl sh_7 rfl (by omega) ?_
        refine t_iinc (pc' := 95) (v := nI (k + 1)) (L' := [.ref 1, .int _, .int _, .int _, .int _]) dX8_addNeeds_92 rfl rfl (nI_inc k) rfl ?_
        refine s_goto (tgt := 52) dX8_addNeeds_95 (by decide) ?_
        refine ih (k + 1) _ (by omega) ⟨fun c hc => by rw [up2_o hc]; exact g.1 c hc, fun v hv => ?_, fun v hv => by rw [up2_e (by omega)]; exact g.2.2 v (by omega)⟩
        by_cases e : v = k
        · rw [e, up2_s, if_pos (Or.inr (by rw [← g.2.2 k (Nat.le_refl _)]; exact b75)), g.2.2 k (Nat.le_refl _)]
        · rw [up2_e e]; exact g.2.1 v (by omega)
      · refine s_ifeqT (tgt := 92) dX8_addNeeds_78 (by decide) (by decide) ?_
        refine t_iinc (pc' := 95) (v := nI (k + 1)) (L' := [.ref 1, .int _, .int _, .int _, .int _]) dX8_addNeeds_92 rfl rfl (nI_inc k) rfl ?_
        refine s_goto (tgt := 52) dX8_addNeeds_95 (by decide) ?_
        refine ih (k + 1) I' (by omega) ⟨g.1, fun v hv => ?_, fun v hv => g.2.2 v (by omega)⟩
        by_cases e : v = k
        · rw [g.2.2 k (Nat.le_refl _)] at b75
          rw [e, g.2.2 k (Nat.le_refl _), if_neg (fun z => z.elim (fun y => c64 (by rw [y])) (fun y => by rw [b75] at y; cases y))]
        · exact g.2.1 v (by omega)
set_option maxHeartbeats 200000 in
theorem l_X8_addNeeds1 {N : Nat} {S : Nat → Nat × Nat} {I : Nat → Nat → Int32} {J : Nat → Nat → Int64} {Q : Nat → Nat → Option Nat} {κ : Option Value → HP → Prop} {nv w : Nat} {rd : Int32} (h10 : I 1 0 = nI nv) (hn : nv ≤ 10) (hw : w < nv) (hk : ∀ I', (∀ c, c ≠ 7 → I' c = I c) → (∀ v, v < nv → ∀ u, (bt (I' 7 v) u = true ↔ bt (I 7 v) u = true ∨ ((v = w ∨ bt (I 7 v) w = true) ∧ (bt rd u = true ∨ ∃ z, z < nv ∧ bt rd z = true ∧ bt (I 7 z) u = true)))) → κ none (N, S, I', J, Q)) : ∀ d : Nat, ∀ k mo, k + d = nv → (∀ u, bt mo u = true ↔ bt rd u = true ∨ ∃ z, z < k ∧ bt rd z = true ∧ bt (I 7 z) u = true) → SP E1 M_X8_addNeeds κ 15 [.ref 1, .int (nI w), .int rd, .int mo, .int (nI k)] [] (N, S, I, J, Q) 0 0 := by
  intro d
  induction d with
  | zero =>
    intro k mo hd g
    obtain rfl : k = nv := by omega
    refine s_iload (pc' := 17) dX8_addNeeds_15 rfl rfl ?_
    refine s_aload_n (pc' := 18) dX8_addNeeds_17 rfl rfl ?_
    refine t_getI (pc' := 21) dX8_addNeeds_18 rfl sh_1 (by decide) fa_X8_9_8 rfl ?_
    refine s_icmpgeT (tgt := 49) dX8_addNeeds_21 (by decide) (by rw [h10]; exact Int32.le_refl _) ?_
    refine s_iconst (pc' := 50) (v := 0) dX8_addNeeds_49 rfl (by decide) ?_
    refine t_istore (pc' := 52) (L' := [.ref 1, .int _, .int _, .int _, .int _]) dX8_addNeeds_50 rfl (Nat.le_of_ble_eq_true rfl) rfl ?_
    exact l_X8_addNeeds2 h10 hn hw g hk k 0 I (by omega) ⟨fun _ _ => rfl, fun _ h => absurd h (Nat.not_lt_zero _), fun _ _ => rfl⟩
  | succ d ih =>
    intro k mo hd g
    refine s_iload (pc' := 17) dX8_addNeeds_15 rfl rfl ?_
    refine s_aload_n (pc' := 18) dX8_addNeeds_17 rfl rfl ?_
    refine t_getI (pc' := 21) dX8_addNeeds_18 rfl sh_1 (by decide) fa_X8_9_8 rfl ?_
    refine s_icmpgeF (pc' := 24) (tgt := 49) dX8_addNeeds_21 (by decide) rfl (by rw [h10]; exact nI_ge (by omega) (by omega)) ?_
    refine s_iload_n (pc' := 25) dX8_addNeeds_24 rfl rfl ?_
    refine s_iload (pc' := 27) dX8_addNeeds_25 rfl rfl ?_
    refine s_callSN (pc' := 30) (As := [.int _, .int _]) dX8_addNeeds_27 rfl mk_X11_hasBit mn_X8_84 sm_X11_hasBit rfl rfl ⟨Nat.le_of_ble_eq_true rfl, Nat.le_of_ble_eq_true rfl, Nat.le_of_ble_eq_true rfl, Nat.le_of_ble_eq_true rfl⟩ (Nat.le_of_ble_eq_true rfl) (e_hasBit (j := k) rfl (by omega) (fun b27 => ?_) (fun b27 => ?_))
    · refine s_ifeqF (pc' := 33) (tgt := 43) dX8_addNeeds_30 (by decide) rfl (by decide) ?_
      refine s_iload_n (pc' := 34) dX8_addNeeds_33 rfl rfl ?_
      refine s_aload_n (pc' := 35) dX8_addNeeds_34 rfl rfl ?_
      refine s_getS (pc' := 38) (b := 7) dX8_addNeeds_35 rfl (by decide) rfl (by decide) fa_X8_31_8 rfl rfl ?_
      refine s_iload (pc' := 40) dX8_addNeeds_38 rfl rfl ?_
      refine t_iald (pc' := 41) dX8_addNeeds_40 rfl sh_7 rfl (by omega) ?_
      refine s_ior (pc' := 42) dX8_addNeeds_41 rfl ?_
      refine t_istore_n (pc' := 43) (L' := [.ref 1, .int _, .int _, .int _, .int _]) dX8_addNeeds_42 rfl (Nat.le_of_ble_eq_true rfl) rfl ?_
      refine t_iinc (pc' := 46) (v := nI (k + 1)) (L' := [.ref 1, .int _, .int _, .int _, .int _]) dX8_addNeeds_43 rfl rfl (nI_inc k) rfl ?_
      refine s_goto (tgt := 15) dX8_addNeeds_46 (by decide) ?_
      refine ih (k + 1) _ (by omega) (fun u => ?_)
      rw [bt_orI, g u]
      constructor
      · rintro ((z | ⟨z, z1, z2⟩) | z)
        · exact Or.inl z
        · exact Or.inr ⟨z, by omega, z2⟩
        · exact Or.inr ⟨k, by omega, b27, z⟩
      · rintro (z | ⟨z, z1, z2, z3⟩)
        · exact Or.inl (Or.inl z)
        · by_cases e : z = k
          · rw [e] at z3; exact Or.inr z3
          · exact Or.inl (Or.inr ⟨z, by omega, z2, z3⟩)
    · refine s_ifeqT (tgt := 43) dX8_addNeeds_30 (by decide) (by decide) ?_
      refine t_iinc (pc' := 46) (v := nI (k + 1)) (L' := [.ref 1, .int _, .int _, .int _, .int _]) dX8_addNeeds_43 rfl rfl (nI_inc k) rfl ?_
      refine s_goto (tgt := 15) dX8_addNeeds_46 (by decide) ?_
      refine ih (k + 1) mo (by omega) (fun u => ?_)
      rw [g u]
      constructor
      · rintro (z | ⟨z, z1, z2⟩)
        · exact Or.inl z
        · exact Or.inr ⟨z, by omega, z2⟩
      · rintro (z | ⟨z, z1, z2, z3⟩)
        · exact Or.inl z
        · by_cases e : z = k
          · rw [e, b27] at z2; cases z2
          · exact Or.inr ⟨z, by omega, z2, z3⟩
set_option maxHeartbeats 200000 in
theorem c_X8_addNeeds {N : Nat} {S : Nat → Nat × Nat} {I : Nat → Nat → Int32} {J : Nat → Nat → Int64} {Q : Nat → Nat → Option Nat} {κ : Option Value → HP → Prop} {nv w : Nat} {rd : Int32} (h10 : I 1 0 = nI nv) (hn : nv ≤ 10) (hw : w < nv) (hk : ∀ I', ANI I I' nv w rd → κ none (N, S, I', J, Q)) : CT E1 M_X8_addNeeds [.ref 1, .int (nI w), .int rd] (N, S, I, J, Q) κ := by
  refine ofSP mk_X8_addNeeds (Nat.le_of_ble_eq_true rfl) (L := [.ref 1, .int _, .int _, .retAddr _, .retAddr _]) rfl ?_
  refine s_aload_n (pc' := 1) dX8_addNeeds_0 rfl rfl ?_
  refine s_getS (pc' := 4) (b := 6) dX8_addNeeds_1 rfl (by decide) rfl (by decide) fa_X8_28_8 rfl rfl ?_
  refine s_iload_n (pc' := 5) dX8_addNeeds_4 rfl rfl ?_
  refine s_dup2 (pc' := 6) dX8_addNeeds_5 rfl rfl rfl ?_
  refine t_iald (pc' := 7) dX8_addNeeds_6 rfl sh_6 rfl (by omega) ?_
  refine s_iload_n (pc' := 8) dX8_addNeeds_7 rfl rfl ?_
  refine s_ior (pc' := 9) dX8_addNeeds_8 rfl ?_
  refine t_iast (pc' := 10) dX8_addNeeds_9 rfl sh_6 rfl (by omega) ?_
  refine s_iload_n (pc' := 11) dX8_addNeeds_10 rfl rfl ?_
  refine t_istore_n (pc' := 12) (L' := [.ref 1, .int _, .int _, .int _, .retAddr _]) dX8_addNeeds_11 rfl (Nat.le_of_ble_eq_true rfl) rfl ?_
  refine s_iconst (pc' := 13) (v := 0) dX8_addNeeds_12 rfl (by decide) ?_
  refine t_istore (pc' := 15) (L' := [.ref 1, .int _, .int _, .int _, .int _]) dX8_addNeeds_13 rfl (Nat.le_of_ble_eq_true rfl) rfl ?_
  refine l_X8_addNeeds1 (by rw [up2_d (by decide)]; exact h10) hn hw (fun I1 f1 g1 => hk I1 ⟨fun c a1 a2 => by rw [f1 c a2, up2_o a1], fun v hv => ?_, fun v hv u => ?_⟩) nv 0 rd (by omega) (fun u => ⟨Or.inl, fun z => z.elim id (fun ⟨y, y1, _⟩ => absurd y1 (Nat.not_lt_zero _))⟩)
  · rw [f1 6 (by decide)]
    by_cases e : v = w
    · rw [e, up2_s, if_pos rfl]
    · rw [up2_e e, if_neg e]
  · have q := g1 v hv u
    rw [up2_o (by decide)] at q
    exact q
