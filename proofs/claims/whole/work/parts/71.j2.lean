theorem j_valueTold {n : Nat} {h : HP} {κ : Option Value → HP → Prop} {x y : Int32} (H : INV n h) (hk : ∀ v h2, JM M_X12_valueTold [.ref 54, .int x, .int y] n (.int v) h2 → κ (some (.int v)) h2) : CT E1 M_X11_valueTold [.ref 0, .int x, .int y] h κ := by
  obtain ⟨N, S, I, J, Q⟩ := h
  obtain ⟨D, nv, nr, ns, ad, td, e, H⟩ := H
  replace H : INVd n N S I J Q D nv nr ns ad td e := H
  obtain ⟨md, hm, hmd⟩ := H.md
  have X := H.2.2.1
  have M0 := H.m0
  have hn10 := X.2.1.nv
  have hn30 := X.2.1.nr
  have bad : ∀ j k : Nat, j < nv → k ≤ 5 → x = nI j → y = nI k → ((∀ j, j < nv → x ≠ nI j) ∨ ¬ inR y 0 5) → False := fun j k hj hk1 ex ew b => by
    rcases b with z | z
    · exact z j hj ex
    · exact z (by rw [ew]; exact nI_in2 (n := 5) hk1 (by decide))
  have nw : ∀ a b : Nat, a ≤ 5 → b ≤ 5 → y = nI a → y = nI b → a = b := fun a b ha hb e1 e2 => ixe (e1.symm.trans e2) (by omega) (by omega)
  
  refine c_X11_valueTold X hm hmd (fun b => hk _ _ (fun κ2 h2 => ?_)) (fun v hv ev u hu eu => hk _ _ (fun κ2 h2 => ?_)) (fun v hv ev eu I1 J1 Q1 w1 X1 => hk _ _ (fun κ2 h2 => ?_))
  · exact c_X12_valueTold M0 hm hmd (fun _ => h2 _ (H.q WQ.rf X (MQu.rf M0))) (fun v hv ev u hu eu => (bad v u hv (by omega) ev eu b).elim) (fun v hv ev eu => (bad v 5 hv (by omega) ev eu b).elim)
  · refine c_X12_valueTold M0 hm hmd (fun b => (bad v u hv (by omega) ev eu b).elim) (fun v2 hv2 ev2 u2 hu2 eu2 => ?_) (fun v2 hv2 ev2 eu2 => absurd (nw u 5 (by omega) (by decide) eu eu2) (by omega))
    obtain rfl : v2 = v := ixe (ev2.symm.trans ev) (by omega) (by omega)
    obtain rfl : u2 = u := nw u2 u (by omega) (by omega) eu2 eu
    exact h2 _ (H.q WQ.rf X (MQu.rf M0))
  · refine c_X12_valueTold (H.mod w1) hm hmd (fun b => (bad v 5 hv (by omega) ev eu b).elim) (fun v2 hv2 ev2 u2 hu2 eu2 => absurd (nw u2 5 (by omega) (by decide) eu2 eu) (by omega)) (fun v2 hv2 ev2 eu2 I2 J2 m2 => ?_)
    obtain rfl : v2 = v := ixe (ev2.symm.trans ev) (by omega) (by omega)
    exact h2 _ (H.q w1 X1 m2)
theorem j_ruleTold {n : Nat} {h : HP} {κ : Option Value → HP → Prop} {x y : Int32} (H : INV n h) (hk : ∀ v h2, JM M_X12_ruleTold [.ref 54, .int x, .int y] n (.int v) h2 → κ (some (.int v)) h2) : CT E1 M_X11_ruleTold [.ref 0, .int x, .int y] h κ := by
  obtain ⟨N, S, I, J, Q⟩ := h
  obtain ⟨D, nv, nr, ns, ad, td, e, H⟩ := H
  replace H : INVd n N S I J Q D nv nr ns ad td e := H
  obtain ⟨md, hm, hmd⟩ := H.md
  have X := H.2.2.1
  have M0 := H.m0
  have hn10 := X.2.1.nv
  have hn30 := X.2.1.nr
  have bad : ∀ j k : Nat, j < nr → k ≤ 8 → x = nI j → y = nI k → ((∀ j, j < nr → x ≠ nI j) ∨ ¬ inR y 0 8) → False := fun j k hj hk1 ex ew b => by
    rcases b with z | z
    · exact z j hj ex
    · exact z (by rw [ew]; exact nI_in2 (n := 8) hk1 (by decide))
  have nw : ∀ a b : Nat, a ≤ 8 → b ≤ 8 → y = nI a → y = nI b → a = b := fun a b ha hb e1 e2 => ixe (e1.symm.trans e2) (by omega) (by omega)
  
  refine c_X11_ruleTold X hm hmd H.2.2.2.2.2.2.1 (fun b => hk _ _ (fun κ2 h2 => ?_)) (fun v hv ev u hu eu => hk _ _ (fun κ2 h2 => ?_)) (fun v hv ev u hu1 hu2 eu I1 J1 Q1 w1 X1 => hk _ _ (fun κ2 h2 => ?_))
  · exact c_X12_ruleTold M0 hm hmd (fun _ => h2 _ (H.q WQ.rf X (MQu.rf M0))) (fun v hv ev u hu eu => (bad v u hv (by omega) ev eu b).elim) (fun v hv ev u hu hu2 eu => (bad v u hv (by omega) ev eu b).elim)
  · refine c_X12_ruleTold M0 hm hmd (fun b => (bad v u hv (by omega) ev eu b).elim) (fun v2 hv2 ev2 u2 hu2 eu2 => ?_) (fun v2 hv2 ev2 u2 hu2 hu3 eu2 => absurd (nw u u2 (by omega) (by omega) eu eu2) (by omega))
    obtain rfl : v2 = v := ixe (ev2.symm.trans ev) (by omega) (by omega)
    obtain rfl : u2 = u := nw u2 u (by omega) (by omega) eu2 eu
    exact h2 _ (H.q WQ.rf X (MQu.rf M0))
  · refine c_X12_ruleTold (H.mod w1) hm hmd (fun b => (bad v u hv (by omega) ev eu b).elim) (fun v2 hv2 ev2 u2 hu2 eu2 => absurd (nw u2 u (by omega) (by omega) eu2 eu) (by omega)) (fun v2 hv2 ev2 u2 hu2 hu3 eu2 I2 J2 m2 => ?_)
    obtain rfl : v2 = v := ixe (ev2.symm.trans ev) (by omega) (by omega)
    obtain rfl : u2 = u := nw u2 u (by omega) (by omega) eu2 eu
    exact h2 _ (H.q w1 X1 m2)
theorem j_count {n : Nat} {h : HP} {κ : Option Value → HP → Prop} {x : Int32} (H : INV n h) (hk : ∀ v h2, JM M_X12_count [.ref 54, .int x] n (.int v) h2 → κ (some (.int v)) h2) : CT E1 M_X11_count [.ref 0, .int x] h κ := by
  obtain ⟨N, S, I, J, Q⟩ := h
  obtain ⟨D, nv, nr, ns, ad, td, e, H⟩ := H
  replace H : INVd n N S I J Q D nv nr ns ad td e := H
  obtain ⟨md, hm, hmd⟩ := H.md
  have X := H.2.2.1
  have M0 := H.m0
  have hn10 := X.2.1.nv
  have hn30 := X.2.1.nr
  have nw : ∀ a b : Nat, a ≤ 8 → b ≤ 8 → x = nI a → x = nI b → a = b := fun a b ha hb e1 e2 => ixe (e1.symm.trans e2) (by omega) (by omega)
  refine c_X11_count X hm hmd (fun u hu ew => hk _ _ (fun κ2 h2 => ?_)) (fun ew => hk _ _ (fun κ2 h2 => ?_)) (fun ew => hk _ _ (fun κ2 h2 => ?_)) (fun ew => hk _ _ (fun κ2 h2 => ?_)) (fun ew I1 J1 Q1 w1 X1 => hk _ _ (fun κ2 h2 => ?_)) (fun ew => hk _ _ (fun κ2 h2 => ?_)) (fun ew => hk _ _ (fun κ2 h2 => ?_)) (fun b => hk _ _ (fun κ2 h2 => ?_))
  · refine c_X12_count M0 hm hmd (fun u2 hu2 e2 => ?_) (fun e2 => absurd (nw u 3 (by omega) (by decide) ew e2) (by omega)) (fun e2 => absurd (nw u 4 (by omega) (by decide) ew e2) (by omega)) (fun e2 => absurd (nw u 5 (by omega) (by decide) ew e2) (by omega)) (fun e2 => absurd (nw u 6 (by omega) (by decide) ew e2) (by omega)) (fun e2 => absurd (nw u 7 (by omega) (by decide) ew e2) (by omega)) (fun e2 => absurd (nw u 8 (by omega) (by decide) ew e2) (by omega)) (fun b => (b u (by omega) ew).elim)
    obtain rfl : u2 = u := nw u2 u (by omega) (by omega) e2 ew
    exact h2 _ (H.q WQ.rf X (MQu.rf M0))
  · refine c_X12_count M0 hm hmd (fun u2 hu2 e2 => absurd (nw 3 u2 (by omega) (by omega) ew e2) (by omega)) (fun e2 => ?_) (fun e2 => absurd (nw 3 4 (by omega) (by decide) ew e2) (by omega)) (fun e2 => absurd (nw 3 5 (by omega) (by decide) ew e2) (by omega)) (fun e2 => absurd (nw 3 6 (by omega) (by decide) ew e2) (by omega)) (fun e2 => absurd (nw 3 7 (by omega) (by decide) ew e2) (by omega)) (fun e2 => absurd (nw 3 8 (by omega) (by decide) ew e2) (by omega)) (fun b => (b 3 (by omega) ew).elim)
    exact h2 _ (H.q WQ.rf X (MQu.rf M0))
  · refine c_X12_count M0 hm hmd (fun u2 hu2 e2 => absurd (nw 4 u2 (by omega) (by omega) ew e2) (by omega)) (fun e2 => absurd (nw 4 3 (by omega) (by decide) ew e2) (by omega)) (fun e2 => ?_) (fun e2 => absurd (nw 4 5 (by omega) (by decide) ew e2) (by omega)) (fun e2 => absurd (nw 4 6 (by omega) (by decide) ew e2) (by omega)) (fun e2 => absurd (nw 4 7 (by omega) (by decide) ew e2) (by omega)) (fun e2 => absurd (nw 4 8 (by omega) (by decide) ew e2) (by omega)) (fun b => (b 4 (by omega) ew).elim)
    exact h2 _ (H.q WQ.rf X (MQu.rf M0))
  · refine c_X12_count M0 hm hmd (fun u2 hu2 e2 => absurd (nw 5 u2 (by omega) (by omega) ew e2) (by omega)) (fun e2 => absurd (nw 5 3 (by omega) (by decide) ew e2) (by omega)) (fun e2 => absurd (nw 5 4 (by omega) (by decide) ew e2) (by omega)) (fun e2 => ?_) (fun e2 => absurd (nw 5 6 (by omega) (by decide) ew e2) (by omega)) (fun e2 => absurd (nw 5 7 (by omega) (by decide) ew e2) (by omega)) (fun e2 => absurd (nw 5 8 (by omega) (by decide) ew e2) (by omega)) (fun b => (b 5 (by omega) ew).elim)
    exact h2 _ (H.q WQ.rf X (MQu.rf M0))
  · refine c_X12_count (H.mod w1) hm hmd (fun u2 hu2 e2 => absurd (nw 6 u2 (by omega) (by omega) ew e2) (by omega)) (fun e2 => absurd (nw 6 3 (by omega) (by decide) ew e2) (by omega)) (fun e2 => absurd (nw 6 4 (by omega) (by decide) ew e2) (by omega)) (fun e2 => absurd (nw 6 5 (by omega) (by decide) ew e2) (by omega)) (fun e2 I2 J2 m2 => ?_) (fun e2 => absurd (nw 6 7 (by omega) (by decide) ew e2) (by omega)) (fun e2 => absurd (nw 6 8 (by omega) (by decide) ew e2) (by omega)) (fun b => (b 6 (by omega) ew).elim)
    exact h2 _ (H.q w1 X1 m2)
  · refine c_X12_count M0 hm hmd (fun u2 hu2 e2 => absurd (nw 7 u2 (by omega) (by omega) ew e2) (by omega)) (fun e2 => absurd (nw 7 3 (by omega) (by decide) ew e2) (by omega)) (fun e2 => absurd (nw 7 4 (by omega) (by decide) ew e2) (by omega)) (fun e2 => absurd (nw 7 5 (by omega) (by decide) ew e2) (by omega)) (fun e2 => absurd (nw 7 6 (by omega) (by decide) ew e2) (by omega)) (fun e2 => ?_) (fun e2 => absurd (nw 7 8 (by omega) (by decide) ew e2) (by omega)) (fun b => (b 7 (by omega) ew).elim)
    rw [← H.2.2.2.2.2.2.2.1.2.2.2.2.2.2.2.1.1]
    exact h2 _ (H.q WQ.rf X (MQu.rf M0))
  · refine c_X12_count M0 hm hmd (fun u2 hu2 e2 => absurd (nw 8 u2 (by omega) (by omega) ew e2) (by omega)) (fun e2 => absurd (nw 8 3 (by omega) (by decide) ew e2) (by omega)) (fun e2 => absurd (nw 8 4 (by omega) (by decide) ew e2) (by omega)) (fun e2 => absurd (nw 8 5 (by omega) (by decide) ew e2) (by omega)) (fun e2 => absurd (nw 8 6 (by omega) (by decide) ew e2) (by omega)) (fun e2 => absurd (nw 8 7 (by omega) (by decide) ew e2) (by omega)) (fun e2 => ?_) (fun b => (b 8 (by omega) ew).elim)
    rw [← H.2.2.2.2.2.2.2.1.2.2.2.2.2.2.1.1]
    exact h2 _ (H.q WQ.rf X (MQu.rf M0))
  · exact c_X12_count M0 hm hmd (fun u hu e2 => (b u (by omega) e2).elim) (fun e2 => (b 3 (by decide) e2).elim) (fun e2 => (b 4 (by decide) e2).elim) (fun e2 => (b 5 (by decide) e2).elim) (fun e2 => (b 6 (by decide) e2).elim) (fun e2 => (b 7 (by decide) e2).elim) (fun e2 => (b 8 (by decide) e2).elim) (fun _ => h2 _ (H.q WQ.rf X (MQu.rf M0)))
theorem j_ring {n : Nat} {h : HP} {κ : Option Value → HP → Prop} {x : Int32} (H : INV n h) (hk : ∀ v h2, JM M_X12_ring [.ref 54, .int x] n (.int v) h2 → κ (some (.int v)) h2) : CT E1 M_X11_ring [.ref 0, .int x] h κ := by
  obtain ⟨N, S, I, J, Q⟩ := h
  obtain ⟨D, nv, nr, ns, ad, td, e, H⟩ := H
  replace H : INVd n N S I J Q D nv nr ns ad td e := H
  obtain ⟨md, hm, hmd⟩ := H.md
  have X := H.2.2.1
  have M0 := H.m0
  have hn10 := X.2.1.nv
  have hn30 := X.2.1.nr
  obtain ⟨r1, kk, hk10, hkk, hr⟩ := H.2.2.2.2.2.2.2.1.2.2.2.2.2.2.1
  refine c_X11_ring (r1.trans hkk) hk10 (fun j hj ej => hk _ _ (fun κ2 h2 => ?_)) (fun b => hk _ _ (fun κ2 h2 => ?_))
  · refine c_X12_ring hkk hk10 (fun j2 hj2 ej2 => ?_) (fun b => (b j hj ej).elim)
    obtain rfl : j2 = j := ixe (ej2.symm.trans ej) (by omega) (by omega)
    rw [← hr j2 hj2]
    exact h2 _ (H.q WQ.rf X (MQu.rf M0))
  · exact c_X12_ring hkk hk10 (fun j hj ej => (b j hj ej).elim) (fun _ => h2 _ (H.q WQ.rf X (MQu.rf M0)))
theorem j_trace {n : Nat} {h : HP} {κ : Option Value → HP → Prop} {x : Int32} (H : INV n h) (hk : ∀ v h2, JM M_X12_trace [.ref 54, .int x] n (.int v) h2 → κ (some (.int v)) h2) : CT E1 M_X11_trace [.ref 0, .int x] h κ := by
  obtain ⟨N, S, I, J, Q⟩ := h
  obtain ⟨D, nv, nr, ns, ad, td, e, H⟩ := H
  replace H : INVd n N S I J Q D nv nr ns ad td e := H
  obtain ⟨md, hm, hmd⟩ := H.md
  have X := H.2.2.1
  have M0 := H.m0
  have hn10 := X.2.1.nv
  have hn30 := X.2.1.nr
  obtain ⟨r1, kk, hk50, hkk, hr⟩ := H.2.2.2.2.2.2.2.1.2.2.2.2.2.2.2.1
  refine c_X11_trace (r1.trans hkk) hk50 (fun j hj ej => hk _ _ (fun κ2 h2 => ?_)) (fun b => hk _ _ (fun κ2 h2 => ?_))
  · refine c_X12_trace hkk hk50 (fun j2 hj2 ej2 => ?_) (fun b => (b j hj ej).elim)
    obtain rfl : j2 = j := ixe (ej2.symm.trans ej) (by omega) (by omega)
    rw [← hr j2 hj2]
    exact h2 _ (H.q WQ.rf X (MQu.rf M0))
  · exact c_X12_trace hkk hk50 (fun j hj ej => (b j hj ej).elim) (fun _ => h2 _ (H.q WQ.rf X (MQu.rf M0)))
theorem j_status {n : Nat} {h : HP} {κ : Option Value → HP → Prop} (H : INV n h) (hk : ∀ v h2, JM M_X12_status [.ref 54] n (.int v) h2 → κ (some (.int v)) h2) : CT E1 M_X11_status [.ref 0] h κ := by
  obtain ⟨N, S, I, J, Q⟩ := h
  obtain ⟨D, nv, nr, ns, ad, td, e, H⟩ := H
  replace H : INVd n N S I J Q D nv nr ns ad td e := H
  obtain ⟨md, hm, hmd⟩ := H.md
  have X := H.2.2.1
  have M0 := H.m0
  have hn10 := X.2.1.nv
  have hn30 := X.2.1.nr
  refine c_X11_status (hk _ _ (fun κ2 h2 => c_X12_status ?_))
  rw [← H.2.2.2.2.2.2.2.1.1]
  exact h2 _ (H.q WQ.rf X (MQu.rf M0))
