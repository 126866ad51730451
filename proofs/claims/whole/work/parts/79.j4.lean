set_option maxHeartbeats 400000 in
theorem j_test {n : Nat} (hn6 : n < 600) {h : HP} {κ : Option Value → HP → Prop} {w u0 : Int32} (H : INV n h) (hk : ∀ v h2, JM M_X12_test [.ref 54, .int w, .int u0] n (.int v) h2 → κ (some (.int v)) h2) : CT E1 M_X11_test [.ref 0, .int w, .int u0] h κ := by
  obtain ⟨N, S, I, J, Q⟩ := h
  obtain ⟨D, nv, nr, ns, ad, td, e, H⟩ := H
  replace H : INVd n N S I J Q D nv nr ns ad td e := H
  obtain ⟨md, hm, hmd⟩ := H.md
  have X := H.2.2.1
  have M0 := H.m0
  have hn10 := X.2.1.nv
  have hn30 := X.2.1.nr
  have hs10 := X.2.1.ns
  have he1 := H.2.2.2.1
  have he : e + 1 < 2 ^ 30 := by omega
  obtain ⟨-, -, -, -, -, ⟨s42, s42b, s42c⟩, -⟩ := H.2.2.2.2.2.2.2.1
  have h94 := H.1
  refine c_X11_test (fun z => hk _ _ (fun κ2 h2 => ?_)) (fun z => hk _ _ (fun κ2 h2 => ?_)) (fun z j hj ej => hk _ _ (fun κ2 h2 => ?_))
  · exact c_X12_test (fun _ => h2 _ H.rf) (fun q1 q2 => by
      exfalso
      rcases z with z | ⟨z1, z2⟩
      · exact z q1
      · obtain ⟨j, j1, j2⟩ := q2 z1; exact z2 j j1 j2)
  · refine c_X12_test (fun q => ?_) (fun q1 q2 => h2 _ ?_)
    · exfalso
      rcases q with q | ⟨q, -⟩
      · exact q (by rw [z]; exact ⟨by decide, by decide⟩)
      · exact q z
    · refine H.tst (I1 := up2 I 0 5 0) ⟨Nat.le_refl _, fun _ _ => rfl, fun a a1 a2 => up2_o (by omega), fun a a1 a2 => up2_o (by omega)⟩ (fun j hj => up2_e hj) (fun a a1 a2 => up2_o a1) (fun a a1 a2 => up2_o a1) (fun a ha => ?_) (fun j j1 j2 j3 j4 => ?_) ?_ ⟨42, up2_s, ?_⟩ ?_
      · rw [up2_o ha, up2_o ha, up2_o ha]
      · rw [up2_e j1, up2_e j3, up2_e j2]
      · rw [up2_s, up2_d (by decide), up2_d (by decide), up2_d (by decide), up2_s]
      · rw [up2_e (by decide), up2_e (by decide), up2_s, z]
        refine ⟨Or.inl rfl, s42, s42b, ?_, fun q => absurd rfl q, fun q => absurd q (by decide)⟩
        rw [up2_d (by decide), up2_d (by decide), up2_d (by decide), up2_d (by decide)]; exact s42c
      · rw [up2_e (by decide), up2_e (by decide), up2_s, z]
        exact ⟨by unfold hk5; decide, fun q => absurd q (by decide), fun q => absurd q (by decide)⟩
  · have hw0 : w ≠ 0 := fun q => by rw [q] at z; exact absurd z (by decide)
    refine c_X12_test (fun q => ?_) (fun q1 q2 => h2 _ ?_)
    · exfalso
      rcases q with q | ⟨-, q⟩
      · refine q ?_
        rcases z with z | z <;> rw [z] <;> exact ⟨by decide, by decide⟩
      · exact q j hj ej
    · have n2 : ¬ (2 : Int32) < w := by rcases z with z | z <;> rw [z] <;> decide
      refine H.tst (I1 := up2 (up2 (up2 (up2 (zI I N) N 0 w) N 1 u0) N 2 0) 0 5 0) (Gr.new h94) (fun j hj => ?_) (fun a a1 a2 => ?_) (fun a a1 a2 => ?_) (fun a ha => ?_) (fun j j1 j2 j3 j4 => ?_) ?_ ⟨N, up2_s, ?_⟩ ?_
      · rw [up2_e hj, up2_o (by omega), up2_o (by omega), up2_o (by omega), zI_o (by omega)]
      · rw [up2_o (by omega), up2_o (by omega), up2_o (by omega), up2_o (by omega), zI_o (by omega)]
      · rw [up2_o (by omega), zQ_o (by omega)]
      · rw [up2_o ha, up2_o ha, up2_o ha]
      · rw [up2_e j1, up2_e j3, up2_e j2]
      · rw [up2_s, up2_d (by decide), up2_d (by decide), up2_d (by decide), up2_s]
      · rw [up2_e (by decide), up2_e (by decide), up2_s, up2_e (by decide), up2_s]
        refine ⟨Or.inr h94, Nat.lt_succ_self _, nS_s, ?_, fun _ => ?_, fun q => absurd q n2⟩
        · rw [up2_d (by omega), up2_d (by omega), up2_d (by omega), up2_d (by omega), up2_e (by decide), up2_e (by decide), up2_s]
        · rw [up2_d (by omega), up2_d (by omega), up2_d (by omega), up2_d (by omega), up2_e (by decide), up2_s]
      · rw [up2_e (by decide), up2_e (by decide), up2_s, up2_e (by decide), up2_s]
        exact ⟨by unfold hk5; rcases z with z | z <;> rw [z] <;> decide, fun _ => ⟨j, hj, ej⟩, fun q => absurd q n2⟩
set_option maxHeartbeats 400000 in
theorem j_testValue {n : Nat} (hn6 : n < 600) {h : HP} {κ : Option Value → HP → Prop} {u0 b m : Int32} (H : INV n h) (hk : ∀ v h2, JM M_X12_testValue [.ref 54, .int u0, .int b, .int m] n (.int v) h2 → κ (some (.int v)) h2) : CT E1 M_X11_testValue [.ref 0, .int u0, .int b, .int m] h κ := by
  obtain ⟨N, S, I, J, Q⟩ := h
  obtain ⟨D, nv, nr, ns, ad, td, e, H⟩ := H
  replace H : INVd n N S I J Q D nv nr ns ad td e := H
  obtain ⟨md, hm, hmd⟩ := H.md
  have X := H.2.2.1
  have M0 := H.m0
  have hn10 := X.2.1.nv
  have hn30 := X.2.1.nr
  have hs10 := X.2.1.ns
  have he1 := H.2.2.2.1
  have he : e + 1 < 2 ^ 30 := by omega
  have h94 := H.1
  refine c_X11_testValue X.1.xv hn10 (fun z => hk _ _ (fun κ2 h2 => ?_)) (fun j hj ej mr => hk _ _ (fun κ2 h2 => ?_))
  · have d0 : DA (up2 I 0 5 1) D := H.2.1.up (by decide)
    exact c_X12_testValue (X.2.1.vn d0) hn10 (fun _ => h2 _ H.rf) (fun j hj ej mr => by
      exfalso
      rcases z with z | z
      · exact z j hj ej
      · exact z mr)
  · have e75 : (up2 (up2 (up2 (up2 (zI I N) N 0 (if b = 0 then 3 else 4)) N 1 (nI j)) N 2 m) 0 5 0) 75 0 = nI nv := by
      rw [up2_d (by decide), up2_d (by omega), up2_d (by omega), up2_d (by omega), zI_o (by omega)]; exact X.2.1.vn H.2.1
    refine c_X12_testValue e75 hn10 (fun z => ?_) (fun j2 hj2 ej2 _ => h2 _ ?_)
    · exfalso
      rcases z with z | z
      · exact z j hj ej
      · exact z mr
    · obtain rfl : j2 = j := ixe (ej2.symm.trans ej) (by omega) (by omega)
      refine H.tst (I1 := up2 (up2 (up2 (up2 (zI I N) N 0 (if b = 0 then 3 else 4)) N 1 (nI j2)) N 2 m) 0 5 0) (Gr.new h94) (fun j hj => ?_) (fun a a1 a2 => ?_) (fun a a1 a2 => ?_) (fun a ha => ?_) (fun j k1 k2 k3 k4 => ?_) ?_ ⟨N, up2_s, ?_⟩ ?_
      · rw [up2_e hj, up2_o (by omega), up2_o (by omega), up2_o (by omega), zI_o (by omega)]
      · rw [up2_o (by omega), up2_o (by omega), up2_o (by omega), up2_o (by omega), zI_o (by omega)]
      · rw [up2_o (by omega), zQ_o (by omega)]
      · rw [up2_o ha, up2_o ha, up2_o ha, up2_o ha]
      · rw [up2_e k1, up2_e k4, up2_e k3, up2_e k2]
      · rw [up2_s, up2_d (by decide), up2_d (by decide), up2_d (by decide), up2_d (by decide), up2_s]
      · rw [up2_e (by decide), up2_e (by decide), up2_e (by decide), up2_s, up2_e (by decide), up2_e (by decide), up2_s, up2_e (by decide), up2_s]
        refine ⟨Or.inr h94, Nat.lt_succ_self _, nS_s, ?_, fun _ => ?_, fun _ => ?_⟩
        · rw [up2_d (by omega), up2_d (by omega), up2_d (by omega), up2_d (by omega), up2_d (by omega), up2_e (by decide), up2_e (by decide), up2_s]
        · rw [up2_d (by omega), up2_d (by omega), up2_d (by omega), up2_d (by omega), up2_d (by omega), up2_e (by decide), up2_s]
        · rw [up2_d (by omega), up2_d (by omega), up2_d (by omega), up2_d (by omega), up2_d (by omega), up2_s]
      · rw [up2_e (by decide), up2_e (by decide), up2_e (by decide), up2_s, up2_e (by decide), up2_e (by decide), up2_s]
        refine ⟨?_, fun q => ?_, fun _ => ⟨j2, hj2, rfl⟩⟩
        · unfold hk5; by_cases eb : b = 0 <;> simp [eb]
        · exfalso
          by_cases eb : b = 0
          · rw [if_pos eb] at q; exact absurd q (by decide)
          · rw [if_neg eb] at q; exact absurd q (by decide)
