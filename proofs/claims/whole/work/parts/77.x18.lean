set_option maxHeartbeats 200000 in
theorem c_X11_make {N : Nat} {S : Nat → Nat × Nat} {I : Nat → Nat → Int32} {J : Nat → Nat → Int64} {Q : Nat → Nat → Option Nat} {κ : Option Value → HP → Prop} {D : Nat → Nat → Int32} {nv nr ns : Nat} {ad td : Nat → Nat} {e : Nat} (X : XB N S I J Q D nv nr ns ad td e) {md : Nat} (hm : D 75 3 = nI md) (hmd : md < 256) {v b : Int32} (hb : b = 0 ∨ b = 1) (k1 : (∀ j, j < 8 → v ≠ nI j) → κ (some (.int (-1))) (N, S, up2 I 0 5 1, J, Q)) (k2 : ∀ j, j < 8 → v = nI j → bitI (nI md) (nI j) = (if b = 0 then 0 else 1) → κ (some (.int (-1))) (N, S, up2 I 0 5 3, J, Q)) (k3 : ∀ j, j < 8 → v = nI j → bitI (nI md) (nI j) ≠ (if b = 0 then 0 else 1) → ∀ m, m < 256 → nI md ^^^ ((1 : Int32) <<< (nI j &&& 31)) = nI m → XB N S (up2 I 1 14 (nI m)) J Q (up2 D 75 3 (nI m)) nv nr ns ad td e → κ (some (.int (bc (nI m) 8))) (N, S, up2 (up2 I 1 14 (nI m)) 0 5 0, J, Q)) : CT E1 M_X11_make [.ref 0, .int v, .int b] (N, S, I, J, Q) κ := by
  refine ofSP mk_X11_make (Nat.le_of_ble_eq_true rfl) (L := [.ref 0, .int _, .int _]) rfl ?_
  refine s_iload_n (pc' := 1) dX11_make_0 rfl rfl ?_
  refine s_callS (pc' := 4) (As := [.int _]) dX11_make_1 rfl mk_X11_isChoice ml_X11_103 sm_X11_isChoice rfl rfl ⟨Nat.le_of_ble_eq_true rfl, Nat.le_of_ble_eq_true rfl, Nat.le_of_ble_eq_true rfl, Nat.le_of_ble_eq_true rfl⟩ (Nat.le_of_ble_eq_true rfl) (c_X11_isChoice (fun j1 hj1 e1 => ?_) (fun n1 => ?_))
  · subst e1
    refine s_ifneT (tgt := 13) dX11_make_4 (by decide) (by decide) ?_
    refine s_aload_n (pc' := 14) dX11_make_13 rfl rfl ?_
    refine s_getS (pc' := 17) (b := 1) dX11_make_14 rfl (by decide) rfl (by decide) fa_X11_10_11 rfl rfl ?_
    refine t_getI (pc' := 20) dX11_make_17 rfl sh_1 (by decide) fa_X11_142_8 rfl ?_
    refine s_iload_n (pc' := 21) dX11_make_20 rfl rfl ?_
    rw [X.1.md, hm]
    refine s_callS (pc' := 24) (As := [.int _, .int _]) dX11_make_21 rfl mk_X11_hasBit ml_X11_145 sm_X11_hasBit rfl rfl ⟨Nat.le_of_ble_eq_true rfl, Nat.le_of_ble_eq_true rfl, Nat.le_of_ble_eq_true rfl, Nat.le_of_ble_eq_true rfl⟩ (Nat.le_of_ble_eq_true rfl) (c_X11_hasBit (fun h21 => ?_) (fun h21 => ?_))
    · refine s_iload_n (pc' := 25) dX11_make_24 rfl rfl ?_
      refine s_icmpne (pc' := 28) (tgt := 34) dX11_make_25 (by decide) rfl (fun c25 => ?_) (fun c25 => ?_)
      · have eb : b = 0 := hb.resolve_right (fun z => c25 z.symm)
        have hne : bitI (nI md) (nI j1) ≠ (if b = 0 then 0 else 1) := by rw [if_pos eb]; exact h21
        have hwb : wbi (nI md) (nI j1) b = nI (md ^^^ (1 <<< j1)) := by rw [wbi_0 eb, (mk_b md hmd j1 hj1).2 (bit_n0 h21)]; exact (mk_x md hmd j1 hj1).1
        refine s_aload_n (pc' := 35) dX11_make_34 rfl rfl ?_
        refine s_getS (pc' := 38) (b := 1) dX11_make_35 rfl (by decide) rfl (by decide) fa_X11_10_11 rfl rfl ?_
        refine s_aload_n (pc' := 39) dX11_make_38 rfl rfl ?_
        refine s_getS (pc' := 42) (b := 1) dX11_make_39 rfl (by decide) rfl (by decide) fa_X11_10_11 rfl rfl ?_
        refine t_getI (pc' := 45) dX11_make_42 rfl sh_1 (by decide) fa_X11_142_8 rfl ?_
        refine s_iload_n (pc' := 46) dX11_make_45 rfl rfl ?_
        refine s_iload_n (pc' := 47) dX11_make_46 rfl rfl ?_
        refine s_callS (pc' := 50) (As := [.int _, .int _, .int _]) dX11_make_47 rfl mk_X11_withBit ml_X11_109 sm_X11_withBit rfl rfl ⟨Nat.le_of_ble_eq_true rfl, Nat.le_of_ble_eq_true rfl, Nat.le_of_ble_eq_true rfl, Nat.le_of_ble_eq_true rfl⟩ (Nat.le_of_ble_eq_true rfl) (c_X11_withBit ?_)
        rw [X.1.md, hm, hwb]
        refine t_putI (pc' := 53) dX11_make_50 rfl sh_1 (by decide) fa_X11_142_8 (Or.inl rfl) rfl rfl rfl ?_
        refine s_aload_n (pc' := 54) dX11_make_53 rfl rfl ?_
        refine s_aload_n (pc' := 55) dX11_make_54 rfl rfl ?_
        refine s_getS (pc' := 58) (b := 1) dX11_make_55 rfl (by decide) rfl (by decide) fa_X11_10_11 rfl rfl ?_
        refine t_getI (pc' := 61) dX11_make_58 rfl sh_1 (by decide) fa_X11_142_8 rfl ?_
        rw [up2_s]
        refine s_callS (pc' := 64) (As := [.int _]) dX11_make_61 rfl mk_J6_bitCount_0f7a4 ml_X11_148 sm_J6_bitCount_0f7a4 rfl rfl ⟨Nat.le_of_ble_eq_true rfl, Nat.le_of_ble_eq_true rfl, Nat.le_of_ble_eq_true rfl, Nat.le_of_ble_eq_true rfl⟩ (Nat.le_of_ble_eq_true rfl) (c_J6_bitCount_0f7a4 (m := md ^^^ (1 <<< j1)) (by have := (mk_x md hmd j1 hj1).2; omega) ?_)
        refine s_callV (pc' := 67) (As := [.int _]) dX11_make_64 rfl mk_X11_done ml_X11_100 im_X11_done se_X11_X11_X11_done sh_0 (by decide) rfl rfl rfl ⟨Nat.le_of_ble_eq_true rfl, Nat.le_of_ble_eq_true rfl, Nat.le_of_ble_eq_true rfl, Nat.le_of_ble_eq_true rfl⟩ (Nat.le_of_ble_eq_true rfl) (c_X11_done ?_)
        exact s_iret dX11_make_67 rfl (by decide) (by decide) (by have q := k3 j1 hj1 rfl hne _ (mk_x md hmd j1 hj1).2 (mk_x md hmd j1 hj1).1 (X.mk (mk_x md hmd j1 hj1).2); rw [bc_pc _ (mk_x md hmd j1 hj1).2] at q; exact q)
      · have e25 := c25
        first | rw [ne_eq, Decidable.not_not] at e25 | skip
        refine s_aload_n (pc' := 29) dX11_make_28 rfl rfl ?_
        refine s_iconst (pc' := 30) (v := 3) dX11_make_29 rfl (by decide) ?_
        refine s_callV (pc' := 33) (As := [.int _]) dX11_make_30 rfl mk_X11_refused ml_X11_87 im_X11_refused se_X11_X11_X11_refused sh_0 (by decide) rfl rfl rfl ⟨Nat.le_of_ble_eq_true rfl, Nat.le_of_ble_eq_true rfl, Nat.le_of_ble_eq_true rfl, Nat.le_of_ble_eq_true rfl⟩ (Nat.le_of_ble_eq_true rfl) (c_X11_refused ?_)
        exact s_iret dX11_make_33 rfl (by decide) (by decide) (k2 j1 hj1 rfl (by rw [bit_n0 h21, if_neg (fun z => by rw [← e25] at z; exact absurd z (by decide))]))
    · refine s_iload_n (pc' := 25) dX11_make_24 rfl rfl ?_
      refine s_icmpne (pc' := 28) (tgt := 34) dX11_make_25 (by decide) rfl (fun c25 => ?_) (fun c25 => ?_)
      · have eb : ¬ b = 0 := fun z => c25 z.symm
        have hne : bitI (nI md) (nI j1) ≠ (if b = 0 then 0 else 1) := by rw [if_neg eb, h21]; decide
        have hwb : wbi (nI md) (nI j1) b = nI (md ^^^ (1 <<< j1)) := by rw [wbi_1 eb, (mk_b md hmd j1 hj1).1 h21]; exact (mk_x md hmd j1 hj1).1
        refine s_aload_n (pc' := 35) dX11_make_34 rfl rfl ?_
        refine s_getS (pc' := 38) (b := 1) dX11_make_35 rfl (by decide) rfl (by decide) fa_X11_10_11 rfl rfl ?_
        refine s_aload_n (pc' := 39) dX11_make_38 rfl rfl ?_
        refine s_getS (pc' := 42) (b := 1) dX11_make_39 rfl (by decide) rfl (by decide) fa_X11_10_11 rfl rfl ?_
        refine t_getI (pc' := 45) dX11_make_42 rfl sh_1 (by decide) fa_X11_142_8 rfl ?_
        refine s_iload_n (pc' := 46) dX11_make_45 rfl rfl ?_
        refine s_iload_n (pc' := 47) dX11_make_46 rfl rfl ?_
        refine s_callS (pc' := 50) (As := [.int _, .int _, .int _]) dX11_make_47 rfl mk_X11_withBit ml_X11_109 sm_X11_withBit rfl rfl ⟨Nat.le_of_ble_eq_true rfl, Nat.le_of_ble_eq_true rfl, Nat.le_of_ble_eq_true rfl, Nat.le_of_ble_eq_true rfl⟩ (Nat.le_of_ble_eq_true rfl) (c_X11_withBit ?_)
        rw [X.1.md, hm, hwb]
        refine t_putI (pc' := 53) dX11_make_50 rfl sh_1 (by decide) fa_X11_142_8 (Or.inl rfl) rfl rfl rfl ?_
        refine s_aload_n (pc' := 54) dX11_make_53 rfl rfl ?_
        refine s_aload_n (pc' := 55) dX11_make_54 rfl rfl ?_
        refine s_getS (pc' := 58) (b := 1) dX11_make_55 rfl (by decide) rfl (by decide) fa_X11_10_11 rfl rfl ?_
        refine t_getI (pc' := 61) dX11_make_58 rfl sh_1 (by decide) fa_X11_142_8 rfl ?_
        rw [up2_s]
        refine s_callS (pc' := 64) (As := [.int _]) dX11_make_61 rfl mk_J6_bitCount_0f7a4 ml_X11_148 sm_J6_bitCount_0f7a4 rfl rfl ⟨Nat.le_of_ble_eq_true rfl, Nat.le_of_ble_eq_true rfl, Nat.le_of_ble_eq_true rfl, Nat.le_of_ble_eq_true rfl⟩ (Nat.le_of_ble_eq_true rfl) (c_J6_bitCount_0f7a4 (m := md ^^^ (1 <<< j1)) (by have := (mk_x md hmd j1 hj1).2; omega) ?_)
        refine s_callV (pc' := 67) (As := [.int _]) dX11_make_64 rfl mk_X11_done ml_X11_100 im_X11_done se_X11_X11_X11_done sh_0 (by decide) rfl rfl rfl ⟨Nat.le_of_ble_eq_true rfl, Nat.le_of_ble_eq_true rfl, Nat.le_of_ble_eq_true rfl, Nat.le_of_ble_eq_true rfl⟩ (Nat.le_of_ble_eq_true rfl) (c_X11_done ?_)
        exact s_iret dX11_make_67 rfl (by decide) (by decide) (by have q := k3 j1 hj1 rfl hne _ (mk_x md hmd j1 hj1).2 (mk_x md hmd j1 hj1).1 (X.mk (mk_x md hmd j1 hj1).2); rw [bc_pc _ (mk_x md hmd j1 hj1).2] at q; exact q)
      · have e25 := c25
        first | rw [ne_eq, Decidable.not_not] at e25 | skip
        refine s_aload_n (pc' := 29) dX11_make_28 rfl rfl ?_
        refine s_iconst (pc' := 30) (v := 3) dX11_make_29 rfl (by decide) ?_
        refine s_callV (pc' := 33) (As := [.int _]) dX11_make_30 rfl mk_X11_refused ml_X11_87 im_X11_refused se_X11_X11_X11_refused sh_0 (by decide) rfl rfl rfl ⟨Nat.le_of_ble_eq_true rfl, Nat.le_of_ble_eq_true rfl, Nat.le_of_ble_eq_true rfl, Nat.le_of_ble_eq_true rfl⟩ (Nat.le_of_ble_eq_true rfl) (c_X11_refused ?_)
        exact s_iret dX11_make_33 rfl (by decide) (by decide) (k2 j1 hj1 rfl (by rw [h21, if_pos e25.symm]))
  · refine s_ifneF (pc' := 7) (tgt := 13) dX11_make_4 (by decide) rfl (by decide) ?_
    refine s_aload_n (pc' := 8) dX11_make_7 rfl rfl ?_
    refine s_iconst (pc' := 9) (v := 1) dX11_make_8 rfl (by decide) ?_
    refine s_callV (pc' := 12) (As := [.int _]) dX11_make_9 rfl mk_X11_refused ml_X11_87 im_X11_refused se_X11_X11_X11_refused sh_0 (by decide) rfl rfl rfl ⟨Nat.le_of_ble_eq_true rfl, Nat.le_of_ble_eq_true rfl, Nat.le_of_ble_eq_true rfl, Nat.le_of_ble_eq_true rfl⟩ (Nat.le_of_ble_eq_true rfl) (c_X11_refused ?_)
    exact s_iret dX11_make_12 rfl (by decide) (by decide) (k1 n1)
set_option maxHeartbeats 400000 in
theorem j_make {n : Nat} (hn6 : n < 600) {h : HP} {κ : Option Value → HP → Prop} {x b : Int32} (hb : b = 0 ∨ b = 1) (H : INV n h) (hk : ∀ v h2, JM M_X12_make [.ref 54, .int x, .int b] n (.int v) h2 → κ (some (.int v)) h2) : CT E1 M_X11_make [.ref 0, .int x, .int b] h κ := by
  obtain ⟨N, S, I, J, Q⟩ := h
  obtain ⟨D, nv, nr, ns, ad, td, e, H⟩ := H
  replace H : INVd n N S I J Q D nv nr ns ad td e := H
  obtain ⟨md, hm, hmd⟩ := H.md
  have X := H.2.2.1
  have M0 := H.m0
  have hn10 := X.2.1.nv
  have hn30 := X.2.1.nr
  have hs10 := X.2.1.ns
  have he1 := H.2.2.2.1
  have he : e + 1 < 2 ^ 30 := by omega
  refine c_X11_make X hm hmd hb (fun z => hk _ _ (fun κ2 h2 => ?_)) (fun j hj ej z => hk _ _ (fun κ2 h2 => ?_)) (fun j hj ej z m hm2 em X1 => hk _ _ (fun κ2 h2 => ?_))
  · exact c_X12_make (fun _ => h2 _ H.rf) (fun j hj ej _ => (z j hj ej).elim) (fun j hj ej _ => (z j hj ej).elim)
  · have d0 : DA (up2 I 0 5 3) D := H.2.1.up (by decide)
    refine c_X12_make (fun q => (q j hj ej).elim) (fun _ _ _ _ => h2 _ H.rf) (fun j2 hj2 ej2 q => absurd ?_ q)
    obtain rfl : j2 = j := ixe (ej2.symm.trans ej) (by omega) (by omega)
    rw [d0.a (by decide) (by decide), hm]; exact z
  · have d1 : DA (up2 (up2 I 1 14 (nI m)) 0 5 0) D := (H.2.1.up (by decide)).up (by decide)
    refine c_X12_make (fun q => (q j hj ej).elim) (fun j2 hj2 ej2 q => absurd ?_ z) (fun j2 hj2 ej2 _ => ?_)
    · obtain rfl : j2 = j := ixe (ej2.symm.trans ej) (by omega) (by omega)
      rw [d1.a (by decide) (by decide), hm] at q; exact q
    obtain rfl : j2 = j := ixe (ej2.symm.trans ej) (by omega) (by omega)
    rw [d1.a (by decide) (by decide), hm, em]
    refine h2 _ (H.ch (Nat.le_refl _) (X1.s0 (w := 0)) (by omega) (fun k hk => ?_) (fun a a1 a2 => ?_) (fun _ _ => rfl) (fun a ha => ?_) (fun _ _ => rfl) (fun k k1 k2 k3 k4 => ?_) ?_ (d1.u.up (by decide)) ?_ (fun v hv => by rw [up2_d (by decide)]; exact H.2.2.2.2.2.1.up v hv) (fun r hr z => by rw [up2_d (by decide)] at z ⊢; exact H.2.2.2.2.2.2.1 r hr z))
    · rw [up2_e hk, up2_o (by decide)]
    · rw [up2_o (by omega), up2_o (by omega)]
    · rw [up2_o (by omega), up2_o (by omega)]
    · rw [up2_e k1, up2_d (by decide)]
    · rw [up2_s, up2_d (by decide), up2_d (by decide), up2_s]
    · rw [up2_e (by decide), up2_d (by decide), up2_d (by decide), up2_d (by decide)]
      refine H.2.2.2.2.1.imp id (fun L => DE.u3.ldd (L.mv ?_ ?_ ?_ rfl))
      · rw [up2_o (by decide), up2_o (by decide), up2_o (by decide), up2_o (by decide)]
      · rw [up2_o (by decide), up2_o (by decide), up2_o (by decide), up2_o (by decide)]
      · rw [up2_o (by decide), up2_o (by decide), up2_o (by decide), up2_o (by decide)]
