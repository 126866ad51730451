theorem so_m2 {so : Nat} (h : so ≤ 3) : nI so - 1 = 1 ↔ nI so = 2 := by
  rcases (show so = 0 ∨ so = 1 ∨ so = 2 ∨ so = 3 by omega) with rfl | rfl | rfl | rfl <;> decide
set_option maxHeartbeats 400000 in
theorem j_forge {n : Nat} (hn6 : n < 600) {h : HP} {κ : Option Value → HP → Prop} {wh m x : Int32} (H : INV n h) (hk : ∀ v h2, JM M_X12_forge [.ref 54, .int wh, .int m, .int x] n (.int v) h2 → κ (some (.int v)) h2) : CT E1 M_X11_forge [.ref 0, .int wh, .int m, .int x] h κ := by
  obtain ⟨N, S, I, J, Q⟩ := h
  obtain ⟨D, nv, nr, ns, ad, td, e, H⟩ := H
  replace H : INVd n N S I J Q D nv nr ns ad td e := H
  obtain ⟨md, hm, hmd⟩ := H.md
  have X := H.2.2.1
  have M0 := H.m0
  have hn10 := X.2.1.nv
  have hn30 := X.2.1.nr
  have hs10 := X.2.1.ns
  have he1 := H.2.2.2.1
  have he : e + 1 < 2 ^ 30 := by omega
  obtain ⟨-, -, -, -, -, -, -, -, a10⟩ := H.2.2.2.2.2.2.2.1
  have hq : ∀ s, s < 4 → Q 46 s = some (47 + s) := fun s hs => (a10 s hs).1
  have hS : ∀ s, s < 4 → I 52 s = nI (I 92 s).toNatClampNeg ∧ (I 92 s).toNatClampNeg ≤ 40 := fun s hs => by
    obtain ⟨-, -, ⟨z, z1, z2, z3⟩, -⟩ := a10 s hs
    rw [z2, nI_clamp (by omega)]; exact ⟨z3, z1⟩
  have hso : ∀ s, s < 4 → (I 51 s = -1 ↔ I 91 s = 0) ∧ (I 51 s = 0 ↔ I 91 s = 1) ∧ (I 51 s = 1 ↔ I 91 s = 2) := fun s hs => by
    obtain ⟨-, ⟨so, so1, so2, so3⟩, -, -⟩ := a10 s hs
    rw [so2, so3]; exact ⟨(so_m1 so1).1, (so_m1 so1).2, so_m2 so1⟩
  have hcl : ∀ s, s < 4 → ∀ i, i < 40 → I (47 + s) i = I 93 (40 * s + i) := fun s hs i hi => ((a10 s hs).2.2.2 i hi).1
  have hS2 : ∀ v : Int32, ∀ s, s < 4 → (up2 I 0 5 v) 92 s = nI (I 92 s).toNatClampNeg ∧ (I 92 s).toNatClampNeg ≤ 40 := fun v s hs => by
    obtain ⟨-, -, ⟨z, z1, z2, z3⟩, -⟩ := a10 s hs
    rw [up2_d (by decide), z2, nI_clamp (by omega)]; exact ⟨rfl, z1⟩
  refine c_X11_forge X hq (sz := fun s => (I 92 s).toNatClampNeg) hS hso hcl (fun b => hk _ _ (fun κ2 h2 => ?_)) (fun w hw ew nr1 xr => hk _ _ (fun κ2 h2 => ?_))
  · exact c_X12_forge (H.mod0 WQ.rf) (sz := fun s => (I 92 s).toNatClampNeg) (hS2 1) (fun _ => h2 _ H.rf) (fun w hw ew nr1 xr => by
      exfalso
      rcases b with z2 | z2 | z2
      · exact z2 (by rw [ew]; exact nI_in2 (n := 6) (by omega) (by decide))
      · exact z2 nr1
      · exact z2 xr)
  · refine c_X12_forge (H.mod0 WQ.rf) (sz := fun s => (I 92 s).toNatClampNeg) (hS2 _) (fun b => ?_) (fun w2 hw2 ew2 _ _ => ?_)
    · exfalso
      rcases b with z2 | z2 | z2
      · exact z2 (by rw [ew]; exact nI_in2 (n := 6) (by omega) (by decide))
      · exact z2 nr1
      · exact z2 xr
    obtain rfl : w2 = w := ixe (ew2.symm.trans ew) (by omega) (by omega)
    rw [up2_o (by decide : 91 ≠ 0), up2_o (by decide : 93 ≠ 0)]
    exact h2 _ H.rf
