/-! ===== one more rule ===== -/
def rdS (how of b : Int32) : Int32 := (if 2 < how then (1 : Int32) <<< (of &&& 31) else 0) ||| (if b < 0 then 0 else (1 : Int32) <<< (b &&& 31))
/-- a rule as it is told (kind kn, aim, more, amount, by), and as it is kept -/
def RGO (nv nr : Nat) (how : Int32) (kn : Nat) (aim more amt by_ : Int32) (a ra so : Nat) (am b fa : Int32) : Prop :=
  aim = nI a ∧ a < 30 ∧ (kn ≤ 3 → a < nv) ∧ (kn = 4 → a < nr ∧ ¬ 2 < how) ∧ (4 < kn → a < 8) ∧ ra ≤ 9 ∧ so ≤ 20 ∧ more = nI (ra + 16 * so) ∧
  (kn ≤ 3 → am = amt ∧ inR amt (-1000) 1000 ∧ ((by_ = -1 ∧ b = -1 ∧ fa = 0) ∨ ∃ c f : Nat, c < nv ∧ 1 ≤ f ∧ f ≤ 9 ∧ by_ = nI (c + 16 * f) ∧ b = nI c ∧ fa = nI f)) ∧
  (3 < kn → am = 0 ∧ b = -1 ∧ fa = 0)
def NWD (D D' : Nat → Nat → Int32) (nr kn a ra so : Nat) (ty le am b fa how of num : Int32) : Prop :=
  (∀ i, i < 60 ∨ (71 < i ∧ i ≠ 75) → D' i = D i) ∧ (∀ j, j ≠ 1 → D' 75 j = D 75 j) ∧ D' 75 1 = nI (nr + 1) ∧ EQR D D' nr ∧ (D' 60 nr = nI kn ∧ D' 61 nr = nI a ∧ D' 62 nr = nI ra ∧ D' 63 nr = nI so ∧ D' 64 nr = ty ∧ D' 65 nr = le) ∧ D' 66 nr = am ∧ D' 67 nr = b ∧ D' 68 nr = fa ∧ D' 69 nr = how ∧ D' 70 nr = of ∧ D' 71 nr = num
def nwD (D : Nat → Nat → Int32) (nr : Nat) (k aim ra so ty le am b fa how of num : Int32) : Nat → Nat → Int32 :=
  up2 (up2 (up2 (up2 (up2 (up2 (up2 (up2 (up2 (up2 (up2 (up2 (up2 D 75 1 (nI (nr + 1))) 60 nr k) 61 nr aim) 62 nr ra) 63 nr so) 64 nr ty) 65 nr le) 66 nr am) 67 nr b) 68 nr fa) 69 nr how) 70 nr of) 71 nr num
/-- which kind has a type -/
def TYO (kn : Nat) (ty le : Int32) : Prop := (∃ t, t ≤ 5 ∧ ty = nI t ∧ (kn = 1 → 1 ≤ t) ∧ (kn ≠ 1 → t = 0)) ∧ (le = 0 ∨ le = 1)
section NR
variable {D D' : Nat → Nat → Int32} {nv nr ns kn a ra so a' ra' so' : Nat} {ty le am b fa how of num am' b' fa' aim more amt by_ : Int32}
set_option maxHeartbeats 400000 in
theorem nwD.nw : NWD D (nwD D nr (nI kn) (nI a) (nI ra) (nI so) ty le am b fa how of num) nr kn a ra so ty le am b fa how of num := by
  unfold nwD
  refine ⟨fun i hi => ?_, fun j hj => ?_, ?_, fun i i1 i2 r hr => ?_, ⟨?_, ?_, ?_, ?_, ?_, ?_⟩, ?_, ?_, ?_, ?_, ?_, ?_⟩
  · rw [up2_o (by omega), up2_o (by omega), up2_o (by omega), up2_o (by omega), up2_o (by omega), up2_o (by omega), up2_o (by omega), up2_o (by omega), up2_o (by omega), up2_o (by omega), up2_o (by omega), up2_o (by omega), up2_o (by omega)]
  · simp (disch := decide) only [up2_d]; exact up2_e hj
  · simp (disch := decide) only [up2_d, up2_s]
  · have e : r ≠ nr := by omega
    rw [up2_n (fun z => e z.2), up2_n (fun z => e z.2), up2_n (fun z => e z.2), up2_n (fun z => e z.2), up2_n (fun z => e z.2), up2_n (fun z => e z.2), up2_n (fun z => e z.2), up2_n (fun z => e z.2), up2_n (fun z => e z.2), up2_n (fun z => e z.2), up2_n (fun z => e z.2), up2_n (fun z => e z.2), up2_o (by omega)]
  all_goals simp (disch := decide) only [up2_d, up2_s]
theorem nI_dv {m : Nat} (hm : m < 2 ^ 31) : nI m / 16 = nI (m / 16) := pk_div (d := 16) hm (by decide) (by decide)
theorem nI_rm {m : Nat} (hm : m < 2 ^ 31) : nI m - nI m / 16 * 16 = nI (m % 16) := pk_rem (d := 16) hm (by decide) (by decide)
theorem nI_n0 {m : Nat} (hm : m < 2 ^ 31) : ¬ nI m < 0 := Int32.not_lt.mpr (nI_le (a := 0) (Nat.zero_le _) hm)
theorem nI_ir {m c d : Nat} (h1 : c ≤ m) (h2 : m ≤ d) (hd : d < 1000) : inR (nI m) c d := by unfold inR; rw [nI_toInt (by omega)]; omega
theorem nI_nm {m : Nat} (hm : m < 2 ^ 31) : nI m ≠ -1 := fun z => by
  have := nI_n0 hm; rw [z] at this; exact this (by decide)
/-- why a rule is refused as wrong -/
theorem RGO.f (h : RGO nv nr how kn aim more amt by_ a ra so am b fa) (hn : nv ≤ 10) : ¬ more < 0 ∧ inR (more - more / 16 * 16) 0 9 ∧ inR (more / 16) 0 20 ∧ (kn ≤ 3 → ∃ j, j < nv ∧ aim = nI j) ∧ (kn = 4 → ∃ j, j < nr ∧ aim = nI j) ∧ (4 < kn → ∃ j, j < 8 ∧ aim = nI j) ∧ (kn ≤ 3 → inR amt (-1000) 1000) ∧ (kn ≤ 3 → by_ ≠ -1 → ¬ by_ < 0 ∧ (∃ j, j < nv ∧ by_ - by_ / 16 * 16 = nI j) ∧ inR (by_ / 16) 1 9) ∧ (kn = 4 → ¬ 2 < how) := by
  obtain ⟨h1, -, h2, h3, h4, h5, h6, h7, h8, -⟩ := h
  rw [h7, nI_rm (by omega), nI_dv (by omega)]
  refine ⟨nI_n0 (by omega), nI_ir (c := 0) (Nat.zero_le _) (d := 9) (by omega) (by decide), nI_ir (c := 0) (Nat.zero_le _) (d := 20) (by omega) (by decide), fun z => ⟨a, h2 z, h1⟩, fun z => ⟨a, (h3 z).1, h1⟩, fun z => ⟨a, h4 z, h1⟩, fun z => (h8 z).2.1, fun z zb => ?_, fun z => (h3 z).2⟩
  obtain ⟨-, -, q | ⟨c, f, c1, c2, c3, c4, -⟩⟩ := h8 z
  · exact absurd q.1 zb
  · rw [c4, nI_rm (by omega), nI_dv (by omega)]
    exact ⟨nI_n0 (by omega), ⟨c, c1, by congr 1; omega⟩, nI_ir (c := 1) (d := 9) (by omega) (by omega) (by decide)⟩
theorem RGO.uq (h : RGO nv nr how kn aim more amt by_ a ra so am b fa) (h' : RGO nv nr how kn aim more amt by_ a' ra' so' am' b' fa') (hn : nv ≤ 10) : a' = a ∧ ra' = ra ∧ so' = so ∧ am' = am ∧ b' = b ∧ fa' = fa := by
  obtain ⟨h1, h1b, -, -, -, h5, h6, h7, h8, h9⟩ := h
  obtain ⟨g1, g1b, -, -, -, g5, g6, g7, g8, g9⟩ := h'
  have ea : a' = a := ixe (g1.symm.trans h1) (by omega) (by omega)
  have em := ixe (g7.symm.trans h7) (by omega) (by omega)
  refine ⟨ea, by omega, by omega, ?_⟩
  rcases Nat.lt_or_ge 3 kn with z | z
  · obtain ⟨x1, x2, x3⟩ := h9 z
    obtain ⟨y1, y2, y3⟩ := g9 z
    exact ⟨y1.trans x1.symm, y2.trans x2.symm, y3.trans x3.symm⟩
  · obtain ⟨x1, -, x2⟩ := h8 z
    obtain ⟨y1, -, y2⟩ := g8 z
    refine ⟨y1.trans x1.symm, ?_⟩
    rcases x2 with ⟨p1, p2, p3⟩ | ⟨c, f, c1, c2, c3, c4, c5, c6⟩
    · rcases y2 with ⟨q1, q2, q3⟩ | ⟨c, f, c1, c2, c3, c4, c5, c6⟩
      · exact ⟨q2.trans p2.symm, q3.trans p3.symm⟩
      · exact absurd (c4.symm.trans p1) (nI_nm (by omega))
    · rcases y2 with ⟨q1, q2, q3⟩ | ⟨c', f', d1, d2, d3, d4, d5, d6⟩
      · exact absurd (c4.symm.trans q1) (nI_nm (by omega))
      · have := ixe (d4.symm.trans c4) (by omega) (by omega)
        obtain ⟨rfl, rfl⟩ : c' = c ∧ f' = f := by omega
        exact ⟨d5.trans c5.symm, d6.trans c6.symm⟩
/-- how the model finds it -/
theorem RGO.mk (hn : nv ≤ 10) (hr : nr ≤ 30) (h0 : ¬ more < 0) (h1 : inR (more - more / 16 * 16) 0 9) (h2 : inR (more / 16) 0 20) {j : Nat} (ea : aim = nI j)
    (hj : (kn ≤ 3 ∧ j < nv ∧ inR amt (-1000) 1000 ∧ am = amt ∧ ((by_ = -1 ∧ b = -1 ∧ fa = 0) ∨ (¬ by_ < 0 ∧ (∃ c, c < nv ∧ by_ - by_ / 16 * 16 = nI c) ∧ inR (by_ / 16) 1 9 ∧ b = by_ - by_ / 16 * 16 ∧ fa = by_ / 16))) ∨ (3 < kn ∧ am = 0 ∧ b = -1 ∧ fa = 0 ∧ ((kn = 4 ∧ j < nr ∧ ¬ 2 < how) ∨ (4 < kn ∧ j < 8)))) :
    ∃ ra so, more - more / 16 * 16 = nI ra ∧ more / 16 = nI so ∧ RGO nv nr how kn aim more amt by_ j ra so am b fa := by
  obtain ⟨m, hm, rfl⟩ := nI_of h0
  rw [nI_rm hm] at h1 ⊢
  rw [nI_dv hm] at h2 ⊢
  unfold inR at h1 h2
  rw [nI_toInt (by omega)] at h1 h2
  refine ⟨m % 16, m / 16, rfl, rfl, ea, ?_, fun z => ?_, fun z => ?_, fun z => ?_, by omega, by omega, by congr 1; omega, fun z => ?_, fun z => ?_⟩
  · rcases hj with ⟨-, y, -⟩ | ⟨-, -, -, -, ⟨-, y, -⟩ | ⟨-, y⟩⟩ <;> omega
  · rcases hj with ⟨-, y, -⟩ | ⟨y, -⟩ <;> omega
  · rcases hj with ⟨y, -⟩ | ⟨-, -, -, -, ⟨-, y⟩ | ⟨y, -⟩⟩
    · omega
    · exact y
    · omega
  · rcases hj with ⟨y, -⟩ | ⟨-, -, -, -, ⟨y, -⟩ | ⟨-, y⟩⟩ <;> omega
  · rcases hj with ⟨-, -, y1, y2, y3⟩ | ⟨y, -⟩
    · refine ⟨y2, y1, y3.imp id ?_⟩
      rintro ⟨z0, ⟨c, c1, c2⟩, z1, z2, z3⟩
      obtain ⟨p, hp, rfl⟩ := nI_of z0
      rw [nI_dv hp] at z1 z3
      rw [nI_rm hp] at c2 z2
      unfold inR at z1
      rw [nI_toInt (by omega)] at z1
      have := (nI_eq (by omega) (by omega)).mp c2
      exact ⟨p % 16, p / 16, by omega, by omega, by omega, by congr 1; omega, z2, z3⟩
    · omega
  · rcases hj with ⟨y, -⟩ | ⟨-, y1, y2, y3, -⟩
    · omega
    · exact ⟨y1, y2, y3⟩
theorem NWD.dw (h : NWD D D' nr kn a ra so ty le am b fa how of num) (hW : DW D nv nr ns) (hr : nr < 30) (g : RGO nv nr how kn aim more amt by_ a ra so am b fa) (hk : kn ≤ 6) (ht : TW how of nv) (hy : TYO kn ty le) : DW D' nv (nr + 1) ns := by
  have hn := hW.nv
  obtain ⟨n1, n2, n3, n4, ⟨n60, n61, n62, n63, n64, n65⟩, n66, n67, n68, n69, n70, n71⟩ := h
  obtain ⟨q1, q2, q3, q4, q5⟩ := hW
  refine ⟨⟨q1.1, by omega, q1.2.2.1, by rw [n2 0 (by decide)]; exact q1.2.2.2.1, n3, by rw [n2 2 (by decide)]; exact q1.2.2.2.2.2⟩, fun r hr2 => ?_, fun v hv => ?_, fun k hk => ?_, ?_⟩
  · by_cases e : r = nr
    · obtain ⟨g1, g2, g3, g4, g5, g6, g7, g8, g9, g10⟩ := g
      obtain ⟨⟨t, t1, t2, t3, t4⟩, hl⟩ := hy
      obtain ⟨t5, t6, t7⟩ := ht
      rw [e, n60, n61, n62, n63, n64, n65, n66, n67, n68, n69, n70]
      have k4 : (nI kn < 4 ↔ kn < 4) := nI_ltI (b := 4) (by omega) (by decide)
      have k4e : (nI kn = 4 ↔ kn = 4) := nI_eq (b := 4) (by omega) (by decide)
      have k4g : (4 < nI kn ↔ 4 < kn) := nI_ltI (a := 4) (by decide) (by omega)
      have k1e : (nI kn = 1 ↔ kn = 1) := nI_eq (b := 1) (by omega) (by decide)
      refine ⟨⟨kn, hk, rfl⟩, ⟨a, g2, rfl, fun z => g3 (by have := k4.mp z; omega), fun z => (g4 (k4e.mp z)).1, fun z => g5 (k4g.mp z)⟩, ?_, ?_, ⟨ra, g6, rfl⟩, ⟨so, g7, rfl⟩, ⟨t, t1, t2, fun z => t3 (k1e.mp z)⟩, hl, ?_, ?_⟩
      · rcases t5 with z | z | z | z | z
        · exact Or.inl z
        · exact Or.inr (Or.inl ⟨Or.inl z, t6 (Or.inl z)⟩)
        · exact Or.inr (Or.inl ⟨Or.inr z, t6 (Or.inr z)⟩)
        · exact Or.inr (Or.inr ⟨Or.inl z, fun y => (g4 (k4e.mp y)).2 (by rw [z]; decide), t7 (by rw [z]; decide)⟩)
        · exact Or.inr (Or.inr ⟨Or.inr z, fun y => (g4 (k4e.mp y)).2 (by rw [z]; decide), t7 (by rw [z]; decide)⟩)
      · rcases Nat.lt_or_ge 3 kn with z | z
        · exact Or.inl (g10 z).2.1
        · rcases (g9 z).2.2 with y | ⟨c, f, c1, -, -, -, c5, -⟩
          · exact Or.inl y.2.1
          · exact Or.inr ⟨c, c1, c5⟩
      · rcases Nat.lt_or_ge 3 kn with z | z
        · rw [(g10 z).1]; unfold inR; decide
        · rw [(g9 z).1]; exact (g9 z).2.1
      · rcases Nat.lt_or_ge 3 kn with z | z
        · exact ⟨0, by decide, (g10 z).2.2⟩
        · rcases (g9 z).2.2 with y | ⟨c, f, c1, c2, c3, -, -, c6⟩
          · exact ⟨0, by decide, y.2.2⟩
          · exact ⟨f, c3, c6⟩
    · have hr3 : r < nr := by omega
      rw [n4 60 (by decide) (by decide) r hr3, n4 61 (by decide) (by decide) r hr3, n4 62 (by decide) (by decide) r hr3, n4 63 (by decide) (by decide) r hr3, n4 64 (by decide) (by decide) r hr3, n4 65 (by decide) (by decide) r hr3, n4 66 (by decide) (by decide) r hr3, n4 67 (by decide) (by decide) r hr3, n4 68 (by decide) (by decide) r hr3, n4 69 (by decide) (by decide) r hr3, n4 70 (by decide) (by decide) r hr3]
      exact q2 r hr3
  · rw [n1 55 (by decide), n1 56 (by decide), n1 57 (by decide), n1 58 (by decide), n1 59 (by decide)]; exact q3 v hv
  · rw [n1 72 (by decide), n1 73 (by decide), n1 74 (by decide)]; exact q4 k hk
  · rw [n2 3 (by decide), n2 4 (by decide), n2 5 (by decide), n2 6 (by decide)]; exact q5
theorem NWD.nds (h : NWD D D' nr kn a ra so ty le am b fa how of num) (hk : kn ≤ 6) (ha : a < 30) {v : Nat} (hv : v < 1000) : nd D' (nr + 1) v = if kn ≤ 3 ∧ v = a then nd D nr v ||| rdS how of b else nd D nr v := by
  obtain ⟨n1, n2, n3, n4, ⟨n60, n61, -⟩, -, n67, -, n69, n70, -⟩ := h
  rw [nd, n4.ndf]
  unfold rb
  rw [n60, n61, n67, n69, n70]
  by_cases z : kn ≤ 3 ∧ v = a
  · rw [if_pos z, if_pos ⟨nI_le (b := 3) z.1 (by decide), by rw [z.2]⟩]; rfl
  · rw [if_neg z, if_neg (fun y => z ⟨(nI_leI (b := 3) (by omega) (by decide)).mp y.1, (ixe y.2 (by omega) hv).symm⟩)]
theorem NWD.t64 (h : NWD D D' nr kn a ra so ty le am b fa how of num) (hk : kn ≤ 6) (hy : TYO kn ty le) (ht : T64 D nr) : T64 D' (nr + 1) := fun r hr z => by
  by_cases e : r = nr
  · obtain ⟨-, -, -, -, ⟨n60, -, -, -, n64, -⟩, -⟩ := h
    obtain ⟨⟨t, t1, t2, t3, t4⟩, -⟩ := hy
    rw [e, n60] at z
    rw [e, n64, t2, t4 (fun y => z (by rw [y]; rfl))]; rfl
  · rw [h.2.2.2.1 60 (by decide) (by decide) r (by omega)] at z
    rw [h.2.2.2.1 64 (by decide) (by decide) r (by omega)]; exact ht r (by omega) z
/-- the needs with one rule more -/
def ED (D : Nat → Nat → Int32) (nr w : Nat) (rd : Int32) (D' : Nat → Nat → Int32) : Prop := ∀ v, v < 1000 → nd D' (nr + 1) v = if v = w then nd D nr v ||| rd else nd D nr v
theorem fmx (f : Nat → Nat) : ∀ m, ∃ K, ∀ u, u < m → f u < K
  | 0 => ⟨0, fun _ h => absurd h (Nat.not_lt_zero _)⟩
  | m + 1 => by
    obtain ⟨K, hK⟩ := fmx f m
    refine ⟨K + f m + 1, fun u hu => ?_⟩
    by_cases e : u = m
    · rw [e]; omega
    · have := hK u (by omega); omega
theorem ED.ac {w : Nat} {rd : Int32} (h : ED D nr w rd D') (R : RKP D nv nr w) (hA : AC D nv nr) (hd : ∀ v, v < 10 → bt rd v = true → dst D nr w v = 100) : AC D' nv (nr + 1) := by
  obtain ⟨rk, hA⟩ := hA
  obtain ⟨K, hK⟩ := fmx rk nv
  have hn := R.1
  classical
  refine ⟨fun v => if ∃ L, PT D nr w L v then rk v + K else rk v, fun v hv u hu hb => ?_⟩
  rw [h v (by omega)] at hb
  show (if ∃ L, PT D nr w L u then rk u + K else rk u) < if ∃ L, PT D nr w L v then rk v + K else rk v
  have old : bt (nd D nr v) u = true → (if ∃ L, PT D nr w L u then rk u + K else rk u) < if ∃ L, PT D nr w L v then rk v + K else rk v := fun y => by
    have lt := hA v hv u hu y
    by_cases z : ∃ L, PT D nr w L u
    · obtain ⟨L, z2⟩ := z
      rw [if_pos ⟨L, z2⟩, if_pos ⟨L + 1, u, by omega, y, z2⟩]; omega
    · rw [if_neg z]
      split <;> omega
  by_cases e : v = w
  · rw [if_pos e, bt_orI] at hb
    rcases hb with y | y
    · exact old y
    · have no : ¬ ∃ L, PT D nr w L u := fun ⟨L, z⟩ => by
        have := hd u (by omega) y
        rcases R.c (v := u) (by omega) with ⟨-, q⟩ | ⟨q, -⟩
        · exact q L z
        · omega
      rw [if_neg no, if_pos ⟨0, e⟩]
      have := hK u hu
      omega
  · rw [if_neg e] at hb; exact old hb
theorem ED.rc {w : Nat} {rd : Int32} (h : ED D nr w rd D') (hW : DW D nv nr ns) (hw : w < nv) (hrd : ∀ u, bt rd u = true → u < nv) {v u : Nat} (hv : v < nv) : RC D' (nr + 1) v u ↔ RC D nr v u ∨ ((v = w ∨ RC D nr v w) ∧ (bt rd u = true ∨ ∃ z, bt rd z = true ∧ RC D nr z u)) := by
  have hn := hW.nv
  have ed : ∀ x y, x < nv → (bt (nd D' (nr + 1) x) y = true ↔ bt (nd D nr x) y = true ∨ (x = w ∧ bt rd y = true)) := fun x y hx => by
    rw [h x (by omega)]
    by_cases e : x = w
    · rw [if_pos e, bt_orI]; exact ⟨fun z => z.imp id (fun q => ⟨e, q⟩), fun z => z.imp id (fun q => q.2)⟩
    · rw [if_neg e]; exact ⟨Or.inl, fun z => z.resolve_right (fun q => e q.1)⟩
  constructor
  · intro H
    suffices key : u < nv ∧ (RC D nr v u ∨ ((v = w ∨ RC D nr v w) ∧ (bt rd u = true ∨ ∃ z, bt rd z = true ∧ RC D nr z u))) from key.2
    induction H with
    | single e =>
      rcases (ed v _ hv).mp e with z | ⟨z1, z2⟩
      · exact ⟨RC.lt hW (RC.one z), Or.inl (RC.one z)⟩
      · exact ⟨hrd _ z2, Or.inr ⟨Or.inl z1, Or.inl z2⟩⟩
    | tail _ e ih =>
      obtain ⟨ih1, ih2⟩ := ih
      rcases (ed _ _ ih1).mp e with z | ⟨z1, z2⟩
      · refine ⟨RC.lt hW (RC.one z), ?_⟩
        rcases ih2 with y | ⟨y1, y2 | ⟨x, x1, x2⟩⟩
        · exact Or.inl (y.tl z)
        · exact Or.inr ⟨y1, Or.inr ⟨_, y2, RC.one z⟩⟩
        · exact Or.inr ⟨y1, Or.inr ⟨x, x1, x2.tl z⟩⟩
      · refine ⟨hrd _ z2, Or.inr ⟨?_, Or.inl z2⟩⟩
        rw [z1] at ih2
        rcases ih2 with y | ⟨y1, -⟩
        · exact Or.inr y
        · exact y1
  · have mono : ∀ {x y : Nat}, x < nv → RC D nr x y → RC D' (nr + 1) x y := fun {x y} hx H => by
      induction H with
      | single e => exact RC.one ((ed x _ hx).mpr (Or.inl e))
      | tail p e ih => exact ih.tl ((ed _ _ (RC.lt hW p)).mpr (Or.inl e))
    rintro (z | ⟨z1, z2⟩)
    · exact mono hv z
    · have toU : RC D' (nr + 1) w u := by
        rcases z2 with y | ⟨x, x1, x2⟩
        · exact RC.one ((ed w u hw).mpr (Or.inr ⟨rfl, y⟩))
        · exact RC.tr (RC.one ((ed w x hw).mpr (Or.inr ⟨rfl, x1⟩))) (mono (hrd x x1) x2)
      rcases z1 with y | y
      · rw [y]; exact toU
      · exact (mono hv y).tr toU
end NR
