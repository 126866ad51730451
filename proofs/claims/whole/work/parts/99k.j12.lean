set_option maxHeartbeats 400000 in
theorem j_chance {n : Nat} (hn6 : n < 600) {h : HP} {κ : Option Value → HP → Prop} {x u0 b0 w : Int32} (H : INV n h) (hk : ∀ v h2, JM M_X12_chance [.ref 54, .int x, .int u0, .int b0, .int w] n (.long v) h2 → κ (some (.long v)) h2) : CT E1 M_X11_chance [.ref 0, .int x, .int u0, .int b0, .int w] h κ := by
  obtain ⟨N, S, I, J, Q⟩ := h
  obtain ⟨D, nv, nr, ns, ad, td, e, H⟩ := H
  replace H : INVd n N S I J Q D nv nr ns ad td e := H
  obtain ⟨md, hm, hmd⟩ := H.md
  have X := H.2.2.1
  have M0 := H.m0
  have hn10 := X.2.1.nv
  have hn30 := X.2.1.nr
  have hs10 := X.2.1.ns
  have he1 := H.2.2.2.1
  have he : e + 1 < 2 ^ 30 := by omega
  refine c_X11_chance X hm hmd (fun b => hk _ _ (fun κ2 h2 => ?_)) (fun v hv ev k55 c s c1 c2 s1 s2 e57 e58 q hq eq J2 fj I1 J1 Q1 w1 X1 => hk _ _ (fun κ2 h2 => ?_))
  · refine c_X12_chance M0 hm hmd (fun _ => h2 _ (H.q WQ.rf X (MQu.rf M0))) (fun v hv ev k55 c s c1 c2 s1 s2 e57 e58 q hq eq => ?_)
    · exfalso
      rcases b with z | z
      · exact z v hv ev k55
      · exact z (by rw [eq]; exact nI_ir (c := 0) (d := 1) (Nat.zero_le _) (by omega) (by decide))
  · have H2 := H.j fj
    refine c_X12_chance (H2.mod w1) hm hmd (fun b => ?_) (fun v2 hv2 ev2 _ c' s' d1 d2 t1 t2 g57 g58 q2 hq2 eq2 I2 J3 m2 => ?_)
    · exfalso
      rcases b with z | z
      · exact z v hv ev k55
      · exact z (by rw [eq]; exact nI_ir (c := 0) (d := 1) (Nat.zero_le _) (by omega) (by decide))
    · obtain rfl : v2 = v := ixe (ev2.symm.trans ev) (by omega) (by omega)
      obtain rfl : q2 = q := ixe (eq2.symm.trans eq) (by omega) (by omega)
      obtain rfl : c' = c := ixe (g57.symm.trans e57) (by omega) (by omega)
      obtain rfl : s' = s := ixe (g58.symm.trans e58) (by omega) (by omega)
      exact h2 _ (H2.q w1 X1 m2)
