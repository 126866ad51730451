set_option maxHeartbeats 200000 in
theorem acL_0_0 : acL 0 0 = [10] := by decide
set_option maxHeartbeats 200000 in
theorem acV_0_0 (k rk sc x : Int32) : acV 0 k rk sc x 0 = (x + rk) := by first | rfl | simp [acV, gvV, opV, pfV, ofV, ftV, ptV, tlV]
set_option maxHeartbeats 200000 in
theorem acL_0_1 : acL 0 1 = [11, 10] := by decide
set_option maxHeartbeats 200000 in
theorem acV_0_1 (k rk sc x : Int32) : acV 0 k rk sc x 1 = ((x + rk) * 2) := by first | rfl | simp [acV, gvV, opV, pfV, ofV, ftV, ptV, tlV]
set_option maxHeartbeats 200000 in
theorem acL_0_2 : acL 0 2 = [12] := by decide
set_option maxHeartbeats 200000 in
theorem acV_0_2 (k rk sc x : Int32) : acV 0 k rk sc x 2 = (x - sc) := by first | rfl | simp [acV, gvV, opV, pfV, ofV, ftV, ptV, tlV]
set_option maxHeartbeats 200000 in
theorem acL_0_3 : acL 0 3 = [13, 11, 10, 12] := by decide
set_option maxHeartbeats 200000 in
theorem acV_0_3 (k rk sc x : Int32) : acV 0 k rk sc x 3 = (((x + rk) * 2) ^^^ (x - sc)) := by first | rfl | simp [acV, gvV, opV, pfV, ofV, ftV, ptV, tlV]
set_option maxHeartbeats 200000 in
theorem acL_1_0 : acL 1 0 = [20, 10] := by decide
set_option maxHeartbeats 200000 in
theorem acV_1_0 (k rk sc x : Int32) : acV 1 k rk sc x 0 = ((x + rk) + k) := by first | rfl | simp [acV, gvV, opV, pfV, ofV, ftV, ptV, tlV]
set_option maxHeartbeats 200000 in
theorem acL_1_1 : acL 1 1 = [11, 20, 10] := by decide
set_option maxHeartbeats 200000 in
theorem acV_1_1 (k rk sc x : Int32) : acV 1 k rk sc x 1 = (((x + rk) + k) * 2) := by first | rfl | simp [acV, gvV, opV, pfV, ofV, ftV, ptV, tlV]
set_option maxHeartbeats 200000 in
theorem acL_1_2 : acL 1 2 = [12] := by decide
set_option maxHeartbeats 200000 in
theorem acV_1_2 (k rk sc x : Int32) : acV 1 k rk sc x 2 = (x - sc) := by first | rfl | simp [acV, gvV, opV, pfV, ofV, ftV, ptV, tlV]
set_option maxHeartbeats 200000 in
theorem acL_1_3 : acL 1 3 = [13, 11, 20, 10, 12] := by decide
set_option maxHeartbeats 200000 in
theorem acV_1_3 (k rk sc x : Int32) : acV 1 k rk sc x 3 = ((((x + rk) + k) * 2) ^^^ (x - sc)) := by first | rfl | simp [acV, gvV, opV, pfV, ofV, ftV, ptV, tlV]
set_option maxHeartbeats 200000 in
theorem acL_2_0 : acL 2 0 = [10] := by decide
set_option maxHeartbeats 200000 in
theorem acV_2_0 (k rk sc x : Int32) : acV 2 k rk sc x 0 = (x + rk) := by first | rfl | simp [acV, gvV, opV, pfV, ofV, ftV, ptV, tlV]
set_option maxHeartbeats 200000 in
theorem acL_2_1 : acL 2 1 = [30, 11, 10, 10] := by decide
set_option maxHeartbeats 200000 in
theorem acV_2_1 (k rk sc x : Int32) : acV 2 k rk sc x 1 = (((x + rk) * 2) - (x + rk)) := by first | rfl | simp [acV, gvV, opV, pfV, ofV, ftV, ptV, tlV]
set_option maxHeartbeats 200000 in
theorem acL_2_2 : acL 2 2 = [12] := by decide
set_option maxHeartbeats 200000 in
theorem acV_2_2 (k rk sc x : Int32) : acV 2 k rk sc x 2 = (x - sc) := by first | rfl | simp [acV, gvV, opV, pfV, ofV, ftV, ptV, tlV]
set_option maxHeartbeats 200000 in
theorem acL_2_3 : acL 2 3 = [13, 30, 11, 10, 10, 12] := by decide
set_option maxHeartbeats 200000 in
theorem acV_2_3 (k rk sc x : Int32) : acV 2 k rk sc x 3 = ((((x + rk) * 2) - (x + rk)) ^^^ (x - sc)) := by first | rfl | simp [acV, gvV, opV, pfV, ofV, ftV, ptV, tlV]
set_option maxHeartbeats 200000 in
theorem acL_3_0 : acL 3 0 = [10] := by decide
set_option maxHeartbeats 200000 in
theorem acV_3_0 (k rk sc x : Int32) : acV 3 k rk sc x 0 = (x + rk) := by first | rfl | simp [acV, gvV, opV, pfV, ofV, ftV, ptV, tlV]
set_option maxHeartbeats 200000 in
theorem acL_3_1 : acL 3 1 = [11, 10] := by decide
set_option maxHeartbeats 200000 in
theorem acV_3_1 (k rk sc x : Int32) : acV 3 k rk sc x 1 = ((x + rk) * 2) := by first | rfl | simp [acV, gvV, opV, pfV, ofV, ftV, ptV, tlV]
set_option maxHeartbeats 200000 in
theorem acL_3_2 : acL 3 2 = [12] := by decide
set_option maxHeartbeats 200000 in
theorem acV_3_2 (k rk sc x : Int32) : acV 3 k rk sc x 2 = (x - sc) := by first | rfl | simp [acV, gvV, opV, pfV, ofV, ftV, ptV, tlV]
set_option maxHeartbeats 200000 in
theorem acL_3_3 : acL 3 3 = [40, 12, 13, 11, 10, 12] := by decide
set_option maxHeartbeats 200000 in
theorem acV_3_3 (k rk sc x : Int32) : acV 3 k rk sc x 3 = ((x - sc) - ((((x + 1) + rk) * 2) ^^^ ((x + 1) - sc))) := by first | rfl | simp [acV, gvV, opV, pfV, ofV, ftV, ptV, tlV]
set_option maxHeartbeats 200000 in
theorem acL_4_0 : acL 4 0 = [10] := by decide
set_option maxHeartbeats 200000 in
theorem acV_4_0 (k rk sc x : Int32) : acV 4 k rk sc x 0 = (x + rk) := by first | rfl | simp [acV, gvV, opV, pfV, ofV, ftV, ptV, tlV]
set_option maxHeartbeats 200000 in
theorem acL_4_1 : acL 4 1 = [11, 10] := by decide
set_option maxHeartbeats 200000 in
theorem acV_4_1 (k rk sc x : Int32) : acV 4 k rk sc x 1 = ((x + rk) * 2) := by first | rfl | simp [acV, gvV, opV, pfV, ofV, ftV, ptV, tlV]
set_option maxHeartbeats 200000 in
theorem acL_4_2 : acL 4 2 = [50, 12] := by decide
set_option maxHeartbeats 200000 in
theorem acV_4_2 (k rk sc x : Int32) : acV 4 k rk sc x 2 = ((x - sc) * 3) := by first | rfl | simp [acV, gvV, opV, pfV, ofV, ftV, ptV, tlV]
set_option maxHeartbeats 200000 in
theorem acL_4_3 : acL 4 3 = [13, 11, 10, 50, 12] := by decide
set_option maxHeartbeats 200000 in
theorem acV_4_3 (k rk sc x : Int32) : acV 4 k rk sc x 3 = (((x + rk) * 2) ^^^ ((x - sc) * 3)) := by first | rfl | simp [acV, gvV, opV, pfV, ofV, ftV, ptV, tlV]
set_option maxHeartbeats 200000 in
theorem acL_5_0 : acL 5 0 = [10] := by decide
set_option maxHeartbeats 200000 in
theorem acV_5_0 (k rk sc x : Int32) : acV 5 k rk sc x 0 = (x + rk) := by first | rfl | simp [acV, gvV, opV, pfV, ofV, ftV, ptV, tlV]
set_option maxHeartbeats 200000 in
theorem acL_5_1 : acL 5 1 = [61, 11, 10] := by decide
set_option maxHeartbeats 200000 in
theorem acV_5_1 (k rk sc x : Int32) : acV 5 k rk sc x 1 = (((x - sc) + rk) * 2) := by first | rfl | simp [acV, gvV, opV, pfV, ofV, ftV, ptV, tlV]
set_option maxHeartbeats 200000 in
theorem acL_5_2 : acL 5 2 = [60, 12] := by decide
set_option maxHeartbeats 200000 in
theorem acV_5_2 (k rk sc x : Int32) : acV 5 k rk sc x 2 = ((x - sc) + rk) := by first | rfl | simp [acV, gvV, opV, pfV, ofV, ftV, ptV, tlV]
set_option maxHeartbeats 200000 in
theorem acL_5_3 : acL 5 3 = [13, 61, 11, 10, 60, 12] := by decide
set_option maxHeartbeats 200000 in
theorem acV_5_3 (k rk sc x : Int32) : acV 5 k rk sc x 3 = ((((x - sc) + rk) * 2) ^^^ ((x - sc) + rk)) := by first | rfl | simp [acV, gvV, opV, pfV, ofV, ftV, ptV, tlV]
set_option maxHeartbeats 200000 in
theorem acL_6_0 : acL 6 0 = [70, 10] := by decide
set_option maxHeartbeats 200000 in
theorem acV_6_0 (k rk sc x : Int32) : acV 6 k rk sc x 0 = ((x + rk) ^^^ 5) := by first | rfl | simp [acV, gvV, opV, pfV, ofV, ftV, ptV, tlV]
set_option maxHeartbeats 200000 in
theorem acL_6_1 : acL 6 1 = [71, 61, 11, 70, 10, 60, 12] := by decide
set_option maxHeartbeats 200000 in
theorem acV_6_1 (k rk sc x : Int32) : acV 6 k rk sc x 1 = (((((x - sc) + rk) ^^^ 5) * 2) + ((0 - sc) + rk)) := by first | rfl | simp [acV, gvV, opV, pfV, ofV, ftV, ptV, tlV]
set_option maxHeartbeats 200000 in
theorem acL_6_2 : acL 6 2 = [60, 12] := by decide
set_option maxHeartbeats 200000 in
theorem acV_6_2 (k rk sc x : Int32) : acV 6 k rk sc x 2 = ((x - sc) + rk) := by first | rfl | simp [acV, gvV, opV, pfV, ofV, ftV, ptV, tlV]
set_option maxHeartbeats 200000 in
theorem acL_6_3 : acL 6 3 = [13, 71, 61, 11, 70, 10, 60, 12, 60, 12] := by decide
set_option maxHeartbeats 200000 in
theorem acV_6_3 (k rk sc x : Int32) : acV 6 k rk sc x 3 = ((((((x - sc) + rk) ^^^ 5) * 2) + ((0 - sc) + rk)) ^^^ ((x - sc) + rk)) := by first | rfl | simp [acV, gvV, opV, pfV, ofV, ftV, ptV, tlV]
set_option maxHeartbeats 200000 in
theorem c_X11_act {N : Nat} {S : Nat → Nat × Nat} {I : Nat → Nat → Int32} {J : Nat → Nat → Int64} {Q : Nat → Nat → Option Nat} {κ : Option Value → HP → Prop} {D : Nat → Nat → Int32} {nv nr ns : Nat} {ad td : Nat → Nat} {e : Nat} (X : XB N S I J Q D nv nr ns ad td e) {x y z : Int32} (k1 : ((∀ j, j < nr → x ≠ nI j) ∨ ¬ inR y 0 3) → κ (some (.int (-1))) (N, S, up2 I 0 5 1, J, Q)) (k2 : ∀ r, r < nr → x = nI r → ∀ w, w < 4 → y = nI w → κ (some (.int (acV (D 60 r) (nI r) (D 62 r) (D 63 r) z w))) (N, S, apX (up2 (up2 I 45 0 0) 0 5 0) 0 (acL (D 60 r) w), J, Q)) : CT E1 M_X11_act [.ref 0, .int x, .int y, .int z] (N, S, I, J, Q) κ := by
  refine ofSP mk_X11_act (Nat.le_of_ble_eq_true rfl) (L := [.ref 0, .int _, .int _, .int _, .retAddr _]) rfl ?_
  refine s_aload_n (pc' := 1) dX11_act_0 rfl rfl ?_
  refine s_iload_n (pc' := 2) dX11_act_1 rfl rfl ?_
  refine s_callV (pc' := 5) (As := [.int _]) dX11_act_2 rfl mk_X11_ruleOrNull ml_X11_216 im_X11_ruleOrNull se_X11_X11_X11_ruleOrNull sh_0 (by decide) rfl rfl rfl ⟨Nat.le_of_ble_eq_true rfl, Nat.le_of_ble_eq_true rfl, Nat.le_of_ble_eq_true rfl, Nat.le_of_ble_eq_true rfl⟩ (Nat.le_of_ble_eq_true rfl) (c_X11_ruleOrNull X.1.xr X.2.1.nr (fun r hr => ⟨_, X.1.q hr⟩) (fun r a hr er ha => ?_) (fun nn => ?_))
  · obtain rfl : a = ad r := Option.some.inj (ha.symm.trans (X.1.q hr))
    subst er
    have R := X.1.ro hr
    refine t_astore (pc' := 7) (L' := [.ref 0, .int _, .int _, .int _, .ref _]) dX11_act_5 rfl (Nat.le_of_ble_eq_true rfl) rfl ?_
    refine s_aload (pc' := 9) dX11_act_7 rfl rfl ?_
    refine s_ifnull (pc' := 12) dX11_act_9 rfl ?_
    refine s_iload_n (pc' := 13) dX11_act_12 rfl rfl ?_
    refine s_iflt (pc' := 16) (tgt := 21) dX11_act_13 (by decide) rfl (fun c13 => ?_) (fun c13 => ?_)
    · refine s_aload_n (pc' := 22) dX11_act_21 rfl rfl ?_
      refine s_iconst (pc' := 23) (v := 1) dX11_act_22 rfl (by decide) ?_
      refine s_callV (pc' := 26) (As := [.int _]) dX11_act_23 rfl mk_X11_refused ml_X11_87 im_X11_refused se_X11_X11_X11_refused sh_0 (by decide) rfl rfl rfl ⟨Nat.le_of_ble_eq_true rfl, Nat.le_of_ble_eq_true rfl, Nat.le_of_ble_eq_true rfl, Nat.le_of_ble_eq_true rfl⟩ (Nat.le_of_ble_eq_true rfl) (c_X11_refused ?_)
      exact s_iret dX11_act_26 rfl (by decide) (by decide) (k1 (Or.inr (in_r1 (a := 0) (by decide) c13)))
    · refine s_iload_n (pc' := 17) dX11_act_16 rfl rfl ?_
      refine s_iconst (pc' := 18) (v := 3) dX11_act_17 rfl (by decide) ?_
      refine s_icmple (pc' := 21) (tgt := 27) dX11_act_18 (by decide) rfl (fun c18 => ?_) (fun c18 => ?_)
      · have iy : inR y 0 3 := in_r (a := 0) (b := 3) (by decide) (by decide) c13 c18
        have g94 := R.ge
        have e4 : (up2 (up2 I 45 0 0) 0 5 0) (ad r) 4 = D 62 r := by rw [up2_d (by omega), up2_d (by omega)]; exact R.f4
        have e5 : (up2 (up2 I 45 0 0) 0 5 0) (ad r) 5 = D 63 r := by rw [up2_d (by omega), up2_d (by omega)]; exact R.f5
        have e1 : (up2 (up2 I 45 0 0) 0 5 0) (ad r) 1 = nI r := by rw [up2_d (by omega), up2_d (by omega)]; exact R.f1
        have h45 : (up2 (up2 I 45 0 0) 0 5 0) 45 0 = nI 0 := by rw [up2_d (by decide), up2_s]; rfl
        refine s_aload_n (pc' := 28) dX11_act_27 rfl rfl ?_
        refine s_getS (pc' := 31) (b := 45) dX11_act_28 rfl (by decide) rfl (by decide) fa_X11_61_11 rfl rfl ?_
        refine s_iconst (pc' := 32) (v := 0) dX11_act_31 rfl (by decide) ?_
        refine s_iconst (pc' := 33) (v := 0) dX11_act_32 rfl (by decide) ?_
        refine t_iast (pc' := 34) (q := 0) dX11_act_33 rfl sh_45 rfl (by decide) ?_
        refine s_aload_n (pc' := 35) dX11_act_34 rfl rfl ?_
        refine s_iconst (pc' := 36) (v := 0) dX11_act_35 rfl (by decide) ?_
        refine t_putI (pc' := 39) dX11_act_36 rfl sh_0 (by decide) fa_X11_36_11 (Or.inl rfl) rfl rfl rfl ?_
        refine s_iload_n (pc' := 40) dX11_act_39 rfl rfl ?_
        obtain ⟨kw, hkw, ekw⟩ := in_n (show inR y 0 (3 : Nat) from iy)
        rcases (show kw = 0 ∨ kw = 1 ∨ kw = 2 ∨ kw = 3 by omega) with e6 | e6 | e6 | e6
        · rw [e6] at ekw
          refine s_tabIn (tgt := 68) (off := 28) dX11_act_40 (by rw [ekw]; decide) (by rw [ekw]; decide) (by rw [ekw]; rfl) (by decide) ?_
          refine s_aload (pc' := 70) dX11_act_68 rfl rfl ?_
          refine s_iload_n (pc' := 71) dX11_act_70 rfl rfl ?_
          refine s_aload_n (pc' := 72) dX11_act_71 rfl rfl ?_
          refine s_getS (pc' := 75) (b := 45) dX11_act_72 rfl (by decide) rfl (by decide) fa_X11_61_11 rfl rfl ?_
          rcases kc_all (D 60 r) with ⟨kk, kq⟩ | ⟨kk, kq⟩ | ⟨kk, kq⟩ | ⟨kk, kq⟩ | ⟨kk, kq⟩ | ⟨kk, kq⟩ | ⟨kk, kq⟩
          · have hs : ∀ {I' : Nat → Nat → Int32} {J' : Nat → Nat → Int64} {Q' : Nat → Nat → Option Nat}, Sh E1 (N, S, I', J', Q') (ad r) 6 0 := by
              intro I' J' Q'; have := R.sh (I' := I') (J' := J') (Q' := Q'); rw [kq] at this; exact this
            refine s_callU (pc' := 78) (ci := 6) (owner := RX6) (As := [.int _, .ref 45]) dX11_act_75 rfl mk_X6_give ml_X11_308 sw_X6_X6_give im_X6_give mk_X6_give.1 mk_X6_give.2.2.1 se_X6_X6_X6_give im_X6_give hs (by decide) rfl rfl ⟨Nat.le_of_ble_eq_true rfl, Nat.le_of_ble_eq_true rfl, Nat.le_of_ble_eq_true rfl, Nat.le_of_ble_eq_true rfl⟩ (Nat.le_of_ble_eq_true rfl) (c_X6_give_6 hs R.ge (t := 0) h45 (by omega) ?_)
            exact s_iret dX11_act_78 rfl (by decide) (by decide) (by have q2 := k2 r hr rfl 0 (by decide) ekw; rw [kk, acL_0_0, acV_0_0] at q2; simp only [e4, e5, e1]; exact q2)
          · have hs : ∀ {I' : Nat → Nat → Int32} {J' : Nat → Nat → Int64} {Q' : Nat → Nat → Option Nat}, Sh E1 (N, S, I', J', Q') (ad r) 10 0 := by
              intro I' J' Q'; have := R.sh (I' := I') (J' := J') (Q' := Q'); rw [kq] at this; exact this
            refine s_callU (pc' := 78) (ci := 10) (owner := RX6) (As := [.int _, .ref 45]) dX11_act_75 rfl mk_X10_give ml_X11_308 sw_X6_X6_give im_X6_give mk_X6_give.1 mk_X6_give.2.2.1 se_X10_X6_X10_give im_X10_give hs (by decide) rfl rfl ⟨Nat.le_of_ble_eq_true rfl, Nat.le_of_ble_eq_true rfl, Nat.le_of_ble_eq_true rfl, Nat.le_of_ble_eq_true rfl⟩ (Nat.le_of_ble_eq_true rfl) (c_X10_give_10 hs R.ge (t := 0) h45 (by omega) ?_)
            exact s_iret dX11_act_78 rfl (by decide) (by decide) (by have q2 := k2 r hr rfl 0 (by decide) ekw; rw [kk, acL_1_0, acV_1_0] at q2; simp only [e4, e5, e1]; exact q2)
          · have hs : ∀ {I' : Nat → Nat → Int32} {J' : Nat → Nat → Int64} {Q' : Nat → Nat → Option Nat}, Sh E1 (N, S, I', J', Q') (ad r) 7 0 := by
              intro I' J' Q'; have := R.sh (I' := I') (J' := J') (Q' := Q'); rw [kq] at this; exact this
            refine s_callU (pc' := 78) (ci := 7) (owner := RX6) (As := [.int _, .ref 45]) dX11_act_75 rfl mk_X6_give ml_X11_308 sw_X6_X6_give im_X6_give mk_X6_give.1 mk_X6_give.2.2.1 se_X7_X6_X6_give im_X6_give hs (by decide) rfl rfl ⟨Nat.le_of_ble_eq_true rfl, Nat.le_of_ble_eq_true rfl, Nat.le_of_ble_eq_true rfl, Nat.le_of_ble_eq_true rfl⟩ (Nat.le_of_ble_eq_true rfl) (c_X6_give_7 hs R.ge (t := 0) h45 (by omega) ?_)
            exact s_iret dX11_act_78 rfl (by decide) (by decide) (by have q2 := k2 r hr rfl 0 (by decide) ekw; rw [kk, acL_2_0, acV_2_0] at q2; simp only [e4, e5, e1]; exact q2)
          · have hs : ∀ {I' : Nat → Nat → Int32} {J' : Nat → Nat → Int64} {Q' : Nat → Nat → Option Nat}, Sh E1 (N, S, I', J', Q') (ad r) 2 0 := by
              intro I' J' Q'; have := R.sh (I' := I') (J' := J') (Q' := Q'); rw [kq] at this; exact this
            refine s_callU (pc' := 78) (ci := 2) (owner := RX6) (As := [.int _, .ref 45]) dX11_act_75 rfl mk_X6_give ml_X11_308 sw_X6_X6_give im_X6_give mk_X6_give.1 mk_X6_give.2.2.1 se_X2_X6_X6_give im_X6_give hs (by decide) rfl rfl ⟨Nat.le_of_ble_eq_true rfl, Nat.le_of_ble_eq_true rfl, Nat.le_of_ble_eq_true rfl, Nat.le_of_ble_eq_true rfl⟩ (Nat.le_of_ble_eq_true rfl) (c_X6_give_2 hs R.ge (t := 0) h45 (by omega) ?_)
            exact s_iret dX11_act_78 rfl (by decide) (by decide) (by have q2 := k2 r hr rfl 0 (by decide) ekw; rw [kk, acL_3_0, acV_3_0] at q2; simp only [e4, e5, e1]; exact q2)
          · have hs : ∀ {I' : Nat → Nat → Int32} {J' : Nat → Nat → Int64} {Q' : Nat → Nat → Option Nat}, Sh E1 (N, S, I', J', Q') (ad r) 3 0 := by
              intro I' J' Q'; have := R.sh (I' := I') (J' := J') (Q' := Q'); rw [kq] at this; exact this
            refine s_callU (pc' := 78) (ci := 3) (owner := RX6) (As := [.int _, .ref 45]) dX11_act_75 rfl mk_X6_give ml_X11_308 sw_X6_X6_give im_X6_give mk_X6_give.1 mk_X6_give.2.2.1 se_X3_X6_X6_give im_X6_give hs (by decide) rfl rfl ⟨Nat.le_of_ble_eq_true rfl, Nat.le_of_ble_eq_true rfl, Nat.le_of_ble_eq_true rfl, Nat.le_of_ble_eq_true rfl⟩ (Nat.le_of_ble_eq_true rfl) (c_X6_give_3 hs R.ge (t := 0) h45 (by omega) ?_)
            exact s_iret dX11_act_78 rfl (by decide) (by decide) (by have q2 := k2 r hr rfl 0 (by decide) ekw; rw [kk, acL_4_0, acV_4_0] at q2; simp only [e4, e5, e1]; exact q2)
          · have hs : ∀ {I' : Nat → Nat → Int32} {J' : Nat → Nat → Int64} {Q' : Nat → Nat → Option Nat}, Sh E1 (N, S, I', J', Q') (ad r) 4 0 := by
              intro I' J' Q'; have := R.sh (I' := I') (J' := J') (Q' := Q'); rw [kq] at this; exact this
            refine s_callU (pc' := 78) (ci := 4) (owner := RX6) (As := [.int _, .ref 45]) dX11_act_75 rfl mk_X6_give ml_X11_308 sw_X6_X6_give im_X6_give mk_X6_give.1 mk_X6_give.2.2.1 se_X4_X6_X6_give im_X6_give hs (by decide) rfl rfl ⟨Nat.le_of_ble_eq_true rfl, Nat.le_of_ble_eq_true rfl, Nat.le_of_ble_eq_true rfl, Nat.le_of_ble_eq_true rfl⟩ (Nat.le_of_ble_eq_true rfl) (c_X6_give_4 hs R.ge (t := 0) h45 (by omega) ?_)
            exact s_iret dX11_act_78 rfl (by decide) (by decide) (by have q2 := k2 r hr rfl 0 (by decide) ekw; rw [kk, acL_5_0, acV_5_0] at q2; simp only [e4, e5, e1]; exact q2)
          · replace kk : D 60 r = 6 := by
              obtain ⟨k, k1, k2⟩ := (X.2.1.2.1 r hr).1
              have hk6 : k = 6 := by
                rcases (show k = 0 ∨ k = 1 ∨ k = 2 ∨ k = 3 ∨ k = 4 ∨ k = 5 ∨ k = 6 by omega) with z | z | z | z | z | z | z
                · rw [z] at k2; exact absurd k2 kk.1
                · rw [z] at k2; exact absurd k2 kk.2.1
                · rw [z] at k2; exact absurd k2 kk.2.2.1
                · rw [z] at k2; exact absurd k2 kk.2.2.2.1
                · rw [z] at k2; exact absurd k2 kk.2.2.2.2.1
                · rw [z] at k2; exact absurd k2 kk.2.2.2.2.2
                · exact z
              rw [k2, hk6]; rfl
            have hs : ∀ {I' : Nat → Nat → Int32} {J' : Nat → Nat → Int64} {Q' : Nat → Nat → Option Nat}, Sh E1 (N, S, I', J', Q') (ad r) 0 0 := by
              intro I' J' Q'; have := R.sh (I' := I') (J' := J') (Q' := Q'); rw [kq] at this; exact this
            refine s_callU (pc' := 78) (ci := 0) (owner := RX6) (As := [.int _, .ref 45]) dX11_act_75 rfl mk_X0_give ml_X11_308 sw_X6_X6_give im_X6_give mk_X6_give.1 mk_X6_give.2.2.1 se_X0_X6_X0_give im_X0_give hs (by decide) rfl rfl ⟨Nat.le_of_ble_eq_true rfl, Nat.le_of_ble_eq_true rfl, Nat.le_of_ble_eq_true rfl, Nat.le_of_ble_eq_true rfl⟩ (Nat.le_of_ble_eq_true rfl) (c_X0_give_0 hs R.ge (t := 0) h45 (by omega) ?_)
            exact s_iret dX11_act_78 rfl (by decide) (by decide) (by have q2 := k2 r hr rfl 0 (by decide) ekw; rw [kk, acL_6_0, acV_6_0] at q2; simp only [e4, e5, e1]; exact q2)
        · rw [e6] at ekw
          refine s_tabIn (tgt := 79) (off := 39) dX11_act_40 (by rw [ekw]; decide) (by rw [ekw]; decide) (by rw [ekw]; rfl) (by decide) ?_
          refine s_aload (pc' := 81) dX11_act_79 rfl rfl ?_
          refine s_iload_n (pc' := 82) dX11_act_81 rfl rfl ?_
          refine s_aload_n (pc' := 83) dX11_act_82 rfl rfl ?_
          refine s_getS (pc' := 86) (b := 45) dX11_act_83 rfl (by decide) rfl (by decide) fa_X11_61_11 rfl rfl ?_
          rcases kc_all (D 60 r) with ⟨kk, kq⟩ | ⟨kk, kq⟩ | ⟨kk, kq⟩ | ⟨kk, kq⟩ | ⟨kk, kq⟩ | ⟨kk, kq⟩ | ⟨kk, kq⟩
          · have hs : ∀ {I' : Nat → Nat → Int32} {J' : Nat → Nat → Int64} {Q' : Nat → Nat → Option Nat}, Sh E1 (N, S, I', J', Q') (ad r) 6 0 := by
              intro I' J' Q'; have := R.sh (I' := I') (J' := J') (Q' := Q'); rw [kq] at this; exact this
            refine s_callU (pc' := 89) (ci := 6) (owner := RX6) (As := [.int _, .ref 45]) dX11_act_86 rfl mk_X6_fit ml_X11_312 sw_X6_X6_fit im_X6_fit mk_X6_fit.1 mk_X6_fit.2.2.1 se_X6_X6_X6_fit im_X6_fit hs (by decide) rfl rfl ⟨Nat.le_of_ble_eq_true rfl, Nat.le_of_ble_eq_true rfl, Nat.le_of_ble_eq_true rfl, Nat.le_of_ble_eq_true rfl⟩ (Nat.le_of_ble_eq_true rfl) (c_X6_fit_6 hs R.ge (t := 0) h45 (by omega) ?_)
            exact s_iret dX11_act_89 rfl (by decide) (by decide) (by have q2 := k2 r hr rfl 1 (by decide) ekw; rw [kk, acL_0_1, acV_0_1] at q2; simp only [e4, e5, e1]; exact q2)
          · have hs : ∀ {I' : Nat → Nat → Int32} {J' : Nat → Nat → Int64} {Q' : Nat → Nat → Option Nat}, Sh E1 (N, S, I', J', Q') (ad r) 10 0 := by
              intro I' J' Q'; have := R.sh (I' := I') (J' := J') (Q' := Q'); rw [kq] at this; exact this
            refine s_callU (pc' := 89) (ci := 10) (owner := RX6) (As := [.int _, .ref 45]) dX11_act_86 rfl mk_X6_fit ml_X11_312 sw_X6_X6_fit im_X6_fit mk_X6_fit.1 mk_X6_fit.2.2.1 se_X10_X6_X6_fit im_X6_fit hs (by decide) rfl rfl ⟨Nat.le_of_ble_eq_true rfl, Nat.le_of_ble_eq_true rfl, Nat.le_of_ble_eq_true rfl, Nat.le_of_ble_eq_true rfl⟩ (Nat.le_of_ble_eq_true rfl) (c_X6_fit_10 hs R.ge (t := 0) h45 (by omega) ?_)
            exact s_iret dX11_act_89 rfl (by decide) (by decide) (by have q2 := k2 r hr rfl 1 (by decide) ekw; rw [kk, acL_1_1, acV_1_1] at q2; simp only [e4, e5, e1]; exact q2)
          · have hs : ∀ {I' : Nat → Nat → Int32} {J' : Nat → Nat → Int64} {Q' : Nat → Nat → Option Nat}, Sh E1 (N, S, I', J', Q') (ad r) 7 0 := by
              intro I' J' Q'; have := R.sh (I' := I') (J' := J') (Q' := Q'); rw [kq] at this; exact this
            refine s_callU (pc' := 89) (ci := 7) (owner := RX6) (As := [.int _, .ref 45]) dX11_act_86 rfl mk_X7_fit ml_X11_312 sw_X6_X6_fit im_X6_fit mk_X6_fit.1 mk_X6_fit.2.2.1 se_X7_X6_X7_fit im_X7_fit hs (by decide) rfl rfl ⟨Nat.le_of_ble_eq_true rfl, Nat.le_of_ble_eq_true rfl, Nat.le_of_ble_eq_true rfl, Nat.le_of_ble_eq_true rfl⟩ (Nat.le_of_ble_eq_true rfl) (c_X7_fit_7 hs R.ge (t := 0) h45 (by omega) ?_)
            exact s_iret dX11_act_89 rfl (by decide) (by decide) (by have q2 := k2 r hr rfl 1 (by decide) ekw; rw [kk, acL_2_1, acV_2_1] at q2; simp only [e4, e5, e1]; exact q2)
          · have hs : ∀ {I' : Nat → Nat → Int32} {J' : Nat → Nat → Int64} {Q' : Nat → Nat → Option Nat}, Sh E1 (N, S, I', J', Q') (ad r) 2 0 := by
              intro I' J' Q'; have := R.sh (I' := I') (J' := J') (Q' := Q'); rw [kq] at this; exact this
            refine s_callU (pc' := 89) (ci := 2) (owner := RX6) (As := [.int _, .ref 45]) dX11_act_86 rfl mk_X6_fit ml_X11_312 sw_X6_X6_fit im_X6_fit mk_X6_fit.1 mk_X6_fit.2.2.1 se_X2_X6_X6_fit im_X6_fit hs (by decide) rfl rfl ⟨Nat.le_of_ble_eq_true rfl, Nat.le_of_ble_eq_true rfl, Nat.le_of_ble_eq_true rfl, Nat.le_of_ble_eq_true rfl⟩ (Nat.le_of_ble_eq_true rfl) (c_X6_fit_2 hs R.ge (t := 0) h45 (by omega) ?_)
            exact s_iret dX11_act_89 rfl (by decide) (by decide) (by have q2 := k2 r hr rfl 1 (by decide) ekw; rw [kk, acL_3_1, acV_3_1] at q2; simp only [e4, e5, e1]; exact q2)
          · have hs : ∀ {I' : Nat → Nat → Int32} {J' : Nat → Nat → Int64} {Q' : Nat → Nat → Option Nat}, Sh E1 (N, S, I', J', Q') (ad r) 3 0 := by
              intro I' J' Q'; have := R.sh (I' := I') (J' := J') (Q' := Q'); rw [kq] at this; exact this
            refine s_callU (pc' := 89) (ci := 3) (owner := RX6) (As := [.int _, .ref 45]) dX11_act_86 rfl mk_X6_fit ml_X11_312 sw_X6_X6_fit im_X6_fit mk_X6_fit.1 mk_X6_fit.2.2.1 se_X3_X6_X6_fit im_X6_fit hs (by decide) rfl rfl ⟨Nat.le_of_ble_eq_true rfl, Nat.le_of_ble_eq_true rfl, Nat.le_of_ble_eq_true rfl, Nat.le_of_ble_eq_true rfl⟩ (Nat.le_of_ble_eq_true rfl) (c_X6_fit_3 hs R.ge (t := 0) h45 (by omega) ?_)
            exact s_iret dX11_act_89 rfl (by decide) (by decide) (by have q2 := k2 r hr rfl 1 (by decide) ekw; rw [kk, acL_4_1, acV_4_1] at q2; simp only [e4, e5, e1]; exact q2)
          · have hs : ∀ {I' : Nat → Nat → Int32} {J' : Nat → Nat → Int64} {Q' : Nat → Nat → Option Nat}, Sh E1 (N, S, I', J', Q') (ad r) 4 0 := by
              intro I' J' Q'; have := R.sh (I' := I') (J' := J') (Q' := Q'); rw [kq] at this; exact this
            refine s_callU (pc' := 89) (ci := 4) (owner := RX6) (As := [.int _, .ref 45]) dX11_act_86 rfl mk_X4_fit ml_X11_312 sw_X6_X6_fit im_X6_fit mk_X6_fit.1 mk_X6_fit.2.2.1 se_X4_X6_X4_fit im_X4_fit hs (by decide) rfl rfl ⟨Nat.le_of_ble_eq_true rfl, Nat.le_of_ble_eq_true rfl, Nat.le_of_ble_eq_true rfl, Nat.le_of_ble_eq_true rfl⟩ (Nat.le_of_ble_eq_true rfl) (c_X4_fit_4 hs R.ge (t := 0) h45 (by omega) ?_)
            exact s_iret dX11_act_89 rfl (by decide) (by decide) (by have q2 := k2 r hr rfl 1 (by decide) ekw; rw [kk, acL_5_1, acV_5_1] at q2; simp only [e4, e5, e1]; exact q2)
          · replace kk : D 60 r = 6 := by
              obtain ⟨k, k1, k2⟩ := (X.2.1.2.1 r hr).1
              have hk6 : k = 6 := by
                rcases (show k = 0 ∨ k = 1 ∨ k = 2 ∨ k = 3 ∨ k = 4 ∨ k = 5 ∨ k = 6 by omega) with z | z | z | z | z | z | z
                · rw [z] at k2; exact absurd k2 kk.1
                · rw [z] at k2; exact absurd k2 kk.2.1
                · rw [z] at k2; exact absurd k2 kk.2.2.1
                · rw [z] at k2; exact absurd k2 kk.2.2.2.1
                · rw [z] at k2; exact absurd k2 kk.2.2.2.2.1
                · rw [z] at k2; exact absurd k2 kk.2.2.2.2.2
                · exact z
              rw [k2, hk6]; rfl
            have hs : ∀ {I' : Nat → Nat → Int32} {J' : Nat → Nat → Int64} {Q' : Nat → Nat → Option Nat}, Sh E1 (N, S, I', J', Q') (ad r) 0 0 := by
              intro I' J' Q'; have := R.sh (I' := I') (J' := J') (Q' := Q'); rw [kq] at this; exact this
            refine s_callU (pc' := 89) (ci := 0) (owner := RX6) (As := [.int _, .ref 45]) dX11_act_86 rfl mk_X0_fit ml_X11_312 sw_X6_X6_fit im_X6_fit mk_X6_fit.1 mk_X6_fit.2.2.1 se_X0_X6_X0_fit im_X0_fit hs (by decide) rfl rfl ⟨Nat.le_of_ble_eq_true rfl, Nat.le_of_ble_eq_true rfl, Nat.le_of_ble_eq_true rfl, Nat.le_of_ble_eq_true rfl⟩ (Nat.le_of_ble_eq_true rfl) (c_X0_fit_0 hs R.ge (t := 0) h45 (by omega) ?_)
            exact s_iret dX11_act_89 rfl (by decide) (by decide) (by have q2 := k2 r hr rfl 1 (by decide) ekw; rw [kk, acL_6_1, acV_6_1] at q2; simp only [e4, e5, e1]; exact q2)
        · rw [e6] at ekw
          refine s_tabIn (tgt := 90) (off := 50) dX11_act_40 (by rw [ekw]; decide) (by rw [ekw]; decide) (by rw [ekw]; rfl) (by decide) ?_
          refine s_aload (pc' := 92) dX11_act_90 rfl rfl ?_
          refine s_iload_n (pc' := 93) dX11_act_92 rfl rfl ?_
          refine s_aload_n (pc' := 94) dX11_act_93 rfl rfl ?_
          refine s_getS (pc' := 97) (b := 45) dX11_act_94 rfl (by decide) rfl (by decide) fa_X11_61_11 rfl rfl ?_
          rcases kc_all (D 60 r) with ⟨kk, kq⟩ | ⟨kk, kq⟩ | ⟨kk, kq⟩ | ⟨kk, kq⟩ | ⟨kk, kq⟩ | ⟨kk, kq⟩ | ⟨kk, kq⟩
          · have hs : ∀ {I' : Nat → Nat → Int32} {J' : Nat → Nat → Int64} {Q' : Nat → Nat → Option Nat}, Sh E1 (N, S, I', J', Q') (ad r) 6 0 := by
              intro I' J' Q'; have := R.sh (I' := I') (J' := J') (Q' := Q'); rw [kq] at this; exact this
            refine s_callU (pc' := 100) (ci := 6) (owner := RX6) (As := [.int _, .ref 45]) dX11_act_97 rfl mk_X6_open ml_X11_315 sw_X6_X6_open im_X6_open mk_X6_open.1 mk_X6_open.2.2.1 se_X6_X6_X6_open im_X6_open hs (by decide) rfl rfl ⟨Nat.le_of_ble_eq_true rfl, Nat.le_of_ble_eq_true rfl, Nat.le_of_ble_eq_true rfl, Nat.le_of_ble_eq_true rfl⟩ (Nat.le_of_ble_eq_true rfl) (c_X6_open_6 hs R.ge (t := 0) h45 (by omega) ?_)
            exact s_iret dX11_act_100 rfl (by decide) (by decide) (by have q2 := k2 r hr rfl 2 (by decide) ekw; rw [kk, acL_0_2, acV_0_2] at q2; simp only [e4, e5, e1]; exact q2)
          · have hs : ∀ {I' : Nat → Nat → Int32} {J' : Nat → Nat → Int64} {Q' : Nat → Nat → Option Nat}, Sh E1 (N, S, I', J', Q') (ad r) 10 0 := by
              intro I' J' Q'; have := R.sh (I' := I') (J' := J') (Q' := Q'); rw [kq] at this; exact this
            refine s_callU (pc' := 100) (ci := 10) (owner := RX6) (As := [.int _, .ref 45]) dX11_act_97 rfl mk_X6_open ml_X11_315 sw_X6_X6_open im_X6_open mk_X6_open.1 mk_X6_open.2.2.1 se_X10_X6_X6_open im_X6_open hs (by decide) rfl rfl ⟨Nat.le_of_ble_eq_true rfl, Nat.le_of_ble_eq_true rfl, Nat.le_of_ble_eq_true rfl, Nat.le_of_ble_eq_true rfl⟩ (Nat.le_of_ble_eq_true rfl) (c_X6_open_10 hs R.ge (t := 0) h45 (by omega) ?_)
            exact s_iret dX11_act_100 rfl (by decide) (by decide) (by have q2 := k2 r hr rfl 2 (by decide) ekw; rw [kk, acL_1_2, acV_1_2] at q2; simp only [e4, e5, e1]; exact q2)
          · have hs : ∀ {I' : Nat → Nat → Int32} {J' : Nat → Nat → Int64} {Q' : Nat → Nat → Option Nat}, Sh E1 (N, S, I', J', Q') (ad r) 7 0 := by
              intro I' J' Q'; have := R.sh (I' := I') (J' := J') (Q' := Q'); rw [kq] at this; exact this
            refine s_callU (pc' := 100) (ci := 7) (owner := RX6) (As := [.int _, .ref 45]) dX11_act_97 rfl mk_X6_open ml_X11_315 sw_X6_X6_open im_X6_open mk_X6_open.1 mk_X6_open.2.2.1 se_X7_X6_X6_open im_X6_open hs (by decide) rfl rfl ⟨Nat.le_of_ble_eq_true rfl, Nat.le_of_ble_eq_true rfl, Nat.le_of_ble_eq_true rfl, Nat.le_of_ble_eq_true rfl⟩ (Nat.le_of_ble_eq_true rfl) (c_X6_open_7 hs R.ge (t := 0) h45 (by omega) ?_)
            exact s_iret dX11_act_100 rfl (by decide) (by decide) (by have q2 := k2 r hr rfl 2 (by decide) ekw; rw [kk, acL_2_2, acV_2_2] at q2; simp only [e4, e5, e1]; exact q2)
          · have hs : ∀ {I' : Nat → Nat → Int32} {J' : Nat → Nat → Int64} {Q' : Nat → Nat → Option Nat}, Sh E1 (N, S, I', J', Q') (ad r) 2 0 := by
              intro I' J' Q'; have := R.sh (I' := I') (J' := J') (Q' := Q'); rw [kq] at this; exact this
            refine s_callU (pc' := 100) (ci := 2) (owner := RX6) (As := [.int _, .ref 45]) dX11_act_97 rfl mk_X6_open ml_X11_315 sw_X6_X6_open im_X6_open mk_X6_open.1 mk_X6_open.2.2.1 se_X2_X6_X6_open im_X6_open hs (by decide) rfl rfl ⟨Nat.le_of_ble_eq_true rfl, Nat.le_of_ble_eq_true rfl, Nat.le_of_ble_eq_true rfl, Nat.le_of_ble_eq_true rfl⟩ (Nat.le_of_ble_eq_true rfl) (c_X6_open_2 hs R.ge (t := 0) h45 (by omega) ?_)
            exact s_iret dX11_act_100 rfl (by decide) (by decide) (by have q2 := k2 r hr rfl 2 (by decide) ekw; rw [kk, acL_3_2, acV_3_2] at q2; simp only [e4, e5, e1]; exact q2)
          · have hs : ∀ {I' : Nat → Nat → Int32} {J' : Nat → Nat → Int64} {Q' : Nat → Nat → Option Nat}, Sh E1 (N, S, I', J', Q') (ad r) 3 0 := by
              intro I' J' Q'; have := R.sh (I' := I') (J' := J') (Q' := Q'); rw [kq] at this; exact this
            refine s_callU (pc' := 100) (ci := 3) (owner := RX6) (As := [.int _, .ref 45]) dX11_act_97 rfl mk_X3_open ml_X11_315 sw_X6_X6_open im_X6_open mk_X6_open.1 mk_X6_open.2.2.1 se_X3_X6_X3_open im_X3_open hs (by decide) rfl rfl ⟨Nat.le_of_ble_eq_true rfl, Nat.le_of_ble_eq_true rfl, Nat.le_of_ble_eq_true rfl, Nat.le_of_ble_eq_true rfl⟩ (Nat.le_of_ble_eq_true rfl) (c_X3_open_3 hs R.ge (t := 0) h45 (by omega) ?_)
            exact s_iret dX11_act_100 rfl (by decide) (by decide) (by have q2 := k2 r hr rfl 2 (by decide) ekw; rw [kk, acL_4_2, acV_4_2] at q2; simp only [e4, e5, e1]; exact q2)
          · have hs : ∀ {I' : Nat → Nat → Int32} {J' : Nat → Nat → Int64} {Q' : Nat → Nat → Option Nat}, Sh E1 (N, S, I', J', Q') (ad r) 4 0 := by
              intro I' J' Q'; have := R.sh (I' := I') (J' := J') (Q' := Q'); rw [kq] at this; exact this
            refine s_callU (pc' := 100) (ci := 4) (owner := RX6) (As := [.int _, .ref 45]) dX11_act_97 rfl mk_X4_open ml_X11_315 sw_X6_X6_open im_X6_open mk_X6_open.1 mk_X6_open.2.2.1 se_X4_X6_X4_open im_X4_open hs (by decide) rfl rfl ⟨Nat.le_of_ble_eq_true rfl, Nat.le_of_ble_eq_true rfl, Nat.le_of_ble_eq_true rfl, Nat.le_of_ble_eq_true rfl⟩ (Nat.le_of_ble_eq_true rfl) (c_X4_open_4 hs R.ge (t := 0) h45 (by omega) ?_)
            exact s_iret dX11_act_100 rfl (by decide) (by decide) (by have q2 := k2 r hr rfl 2 (by decide) ekw; rw [kk, acL_5_2, acV_5_2] at q2; simp only [e4, e5, e1]; exact q2)
          · replace kk : D 60 r = 6 := by
              obtain ⟨k, k1, k2⟩ := (X.2.1.2.1 r hr).1
              have hk6 : k = 6 := by
                rcases (show k = 0 ∨ k = 1 ∨ k = 2 ∨ k = 3 ∨ k = 4 ∨ k = 5 ∨ k = 6 by omega) with z | z | z | z | z | z | z
                · rw [z] at k2; exact absurd k2 kk.1
                · rw [z] at k2; exact absurd k2 kk.2.1
                · rw [z] at k2; exact absurd k2 kk.2.2.1
                · rw [z] at k2; exact absurd k2 kk.2.2.2.1
                · rw [z] at k2; exact absurd k2 kk.2.2.2.2.1
                · rw [z] at k2; exact absurd k2 kk.2.2.2.2.2
                · exact z
              rw [k2, hk6]; rfl
            have hs : ∀ {I' : Nat → Nat → Int32} {J' : Nat → Nat → Int64} {Q' : Nat → Nat → Option Nat}, Sh E1 (N, S, I', J', Q') (ad r) 0 0 := by
              intro I' J' Q'; have := R.sh (I' := I') (J' := J') (Q' := Q'); rw [kq] at this; exact this
            refine s_callU (pc' := 100) (ci := 0) (owner := RX6) (As := [.int _, .ref 45]) dX11_act_97 rfl mk_X4_open ml_X11_315 sw_X6_X6_open im_X6_open mk_X6_open.1 mk_X6_open.2.2.1 se_X0_X6_X4_open im_X4_open hs (by decide) rfl rfl ⟨Nat.le_of_ble_eq_true rfl, Nat.le_of_ble_eq_true rfl, Nat.le_of_ble_eq_true rfl, Nat.le_of_ble_eq_true rfl⟩ (Nat.le_of_ble_eq_true rfl) (c_X4_open_0 hs R.ge (t := 0) h45 (by omega) ?_)
            exact s_iret dX11_act_100 rfl (by decide) (by decide) (by have q2 := k2 r hr rfl 2 (by decide) ekw; rw [kk, acL_6_2, acV_6_2] at q2; simp only [e4, e5, e1]; exact q2)
        · rw [e6] at ekw
          refine s_tabOut (tgt := 101) dX11_act_40 (by rw [ekw]; decide) (by decide) ?_
          refine s_aload (pc' := 103) dX11_act_101 rfl rfl ?_
          refine s_iload_n (pc' := 104) dX11_act_103 rfl rfl ?_
          refine s_aload_n (pc' := 105) dX11_act_104 rfl rfl ?_
          refine s_getS (pc' := 108) (b := 45) dX11_act_105 rfl (by decide) rfl (by decide) fa_X11_61_11 rfl rfl ?_
          rcases kc_all (D 60 r) with ⟨kk, kq⟩ | ⟨kk, kq⟩ | ⟨kk, kq⟩ | ⟨kk, kq⟩ | ⟨kk, kq⟩ | ⟨kk, kq⟩ | ⟨kk, kq⟩
          · have hs : ∀ {I' : Nat → Nat → Int32} {J' : Nat → Nat → Int64} {Q' : Nat → Nat → Option Nat}, Sh E1 (N, S, I', J', Q') (ad r) 6 0 := by
              intro I' J' Q'; have := R.sh (I' := I') (J' := J') (Q' := Q'); rw [kq] at this; exact this
            refine s_callU (pc' := 111) (ci := 6) (owner := RX6) (As := [.int _, .ref 45]) dX11_act_108 rfl mk_X6_tell ml_X11_318 sw_X6_X6_tell im_X6_tell mk_X6_tell.1 mk_X6_tell.2.2.1 se_X6_X6_X6_tell im_X6_tell hs (by decide) rfl rfl ⟨Nat.le_of_ble_eq_true rfl, Nat.le_of_ble_eq_true rfl, Nat.le_of_ble_eq_true rfl, Nat.le_of_ble_eq_true rfl⟩ (Nat.le_of_ble_eq_true rfl) (c_X6_tell_6 hs R.ge (t := 0) h45 (by omega) ?_)
            exact s_iret dX11_act_111 rfl (by decide) (by decide) (by have q2 := k2 r hr rfl 3 (by decide) ekw; rw [kk, acL_0_3, acV_0_3] at q2; simp only [e4, e5, e1]; exact q2)
          · have hs : ∀ {I' : Nat → Nat → Int32} {J' : Nat → Nat → Int64} {Q' : Nat → Nat → Option Nat}, Sh E1 (N, S, I', J', Q') (ad r) 10 0 := by
              intro I' J' Q'; have := R.sh (I' := I') (J' := J') (Q' := Q'); rw [kq] at this; exact this
            refine s_callU (pc' := 111) (ci := 10) (owner := RX6) (As := [.int _, .ref 45]) dX11_act_108 rfl mk_X6_tell ml_X11_318 sw_X6_X6_tell im_X6_tell mk_X6_tell.1 mk_X6_tell.2.2.1 se_X10_X6_X6_tell im_X6_tell hs (by decide) rfl rfl ⟨Nat.le_of_ble_eq_true rfl, Nat.le_of_ble_eq_true rfl, Nat.le_of_ble_eq_true rfl, Nat.le_of_ble_eq_true rfl⟩ (Nat.le_of_ble_eq_true rfl) (c_X6_tell_10 hs R.ge (t := 0) h45 (by omega) ?_)
            exact s_iret dX11_act_111 rfl (by decide) (by decide) (by have q2 := k2 r hr rfl 3 (by decide) ekw; rw [kk, acL_1_3, acV_1_3] at q2; simp only [e4, e5, e1]; exact q2)
          · have hs : ∀ {I' : Nat → Nat → Int32} {J' : Nat → Nat → Int64} {Q' : Nat → Nat → Option Nat}, Sh E1 (N, S, I', J', Q') (ad r) 7 0 := by
              intro I' J' Q'; have := R.sh (I' := I') (J' := J') (Q' := Q'); rw [kq] at this; exact this
            refine s_callU (pc' := 111) (ci := 7) (owner := RX6) (As := [.int _, .ref 45]) dX11_act_108 rfl mk_X6_tell ml_X11_318 sw_X6_X6_tell im_X6_tell mk_X6_tell.1 mk_X6_tell.2.2.1 se_X7_X6_X6_tell im_X6_tell hs (by decide) rfl rfl ⟨Nat.le_of_ble_eq_true rfl, Nat.le_of_ble_eq_true rfl, Nat.le_of_ble_eq_true rfl, Nat.le_of_ble_eq_true rfl⟩ (Nat.le_of_ble_eq_true rfl) (c_X6_tell_7 hs R.ge (t := 0) h45 (by omega) ?_)
            exact s_iret dX11_act_111 rfl (by decide) (by decide) (by have q2 := k2 r hr rfl 3 (by decide) ekw; rw [kk, acL_2_3, acV_2_3] at q2; simp only [e4, e5, e1]; exact q2)
          · have hs : ∀ {I' : Nat → Nat → Int32} {J' : Nat → Nat → Int64} {Q' : Nat → Nat → Option Nat}, Sh E1 (N, S, I', J', Q') (ad r) 2 0 := by
              intro I' J' Q'; have := R.sh (I' := I') (J' := J') (Q' := Q'); rw [kq] at this; exact this
            refine s_callU (pc' := 111) (ci := 2) (owner := RX6) (As := [.int _, .ref 45]) dX11_act_108 rfl mk_X2_tell ml_X11_318 sw_X6_X6_tell im_X6_tell mk_X6_tell.1 mk_X6_tell.2.2.1 se_X2_X6_X2_tell im_X2_tell hs (by decide) rfl rfl ⟨Nat.le_of_ble_eq_true rfl, Nat.le_of_ble_eq_true rfl, Nat.le_of_ble_eq_true rfl, Nat.le_of_ble_eq_true rfl⟩ (Nat.le_of_ble_eq_true rfl) (c_X2_tell_2 hs R.ge (t := 0) h45 (by omega) ?_)
            exact s_iret dX11_act_111 rfl (by decide) (by decide) (by have q2 := k2 r hr rfl 3 (by decide) ekw; rw [kk, acL_3_3, acV_3_3] at q2; simp only [e4, e5, e1]; exact q2)
          · have hs : ∀ {I' : Nat → Nat → Int32} {J' : Nat → Nat → Int64} {Q' : Nat → Nat → Option Nat}, Sh E1 (N, S, I', J', Q') (ad r) 3 0 := by
              intro I' J' Q'; have := R.sh (I' := I') (J' := J') (Q' := Q'); rw [kq] at this; exact this
            refine s_callU (pc' := 111) (ci := 3) (owner := RX6) (As := [.int _, .ref 45]) dX11_act_108 rfl mk_X6_tell ml_X11_318 sw_X6_X6_tell im_X6_tell mk_X6_tell.1 mk_X6_tell.2.2.1 se_X3_X6_X6_tell im_X6_tell hs (by decide) rfl rfl ⟨Nat.le_of_ble_eq_true rfl, Nat.le_of_ble_eq_true rfl, Nat.le_of_ble_eq_true rfl, Nat.le_of_ble_eq_true rfl⟩ (Nat.le_of_ble_eq_true rfl) (c_X6_tell_3 hs R.ge (t := 0) h45 (by omega) ?_)
            exact s_iret dX11_act_111 rfl (by decide) (by decide) (by have q2 := k2 r hr rfl 3 (by decide) ekw; rw [kk, acL_4_3, acV_4_3] at q2; simp only [e4, e5, e1]; exact q2)
          · have hs : ∀ {I' : Nat → Nat → Int32} {J' : Nat → Nat → Int64} {Q' : Nat → Nat → Option Nat}, Sh E1 (N, S, I', J', Q') (ad r) 4 0 := by
              intro I' J' Q'; have := R.sh (I' := I') (J' := J') (Q' := Q'); rw [kq] at this; exact this
            refine s_callU (pc' := 111) (ci := 4) (owner := RX6) (As := [.int _, .ref 45]) dX11_act_108 rfl mk_X6_tell ml_X11_318 sw_X6_X6_tell im_X6_tell mk_X6_tell.1 mk_X6_tell.2.2.1 se_X4_X6_X6_tell im_X6_tell hs (by decide) rfl rfl ⟨Nat.le_of_ble_eq_true rfl, Nat.le_of_ble_eq_true rfl, Nat.le_of_ble_eq_true rfl, Nat.le_of_ble_eq_true rfl⟩ (Nat.le_of_ble_eq_true rfl) (c_X6_tell_4 hs R.ge (t := 0) h45 (by omega) ?_)
            exact s_iret dX11_act_111 rfl (by decide) (by decide) (by have q2 := k2 r hr rfl 3 (by decide) ekw; rw [kk, acL_5_3, acV_5_3] at q2; simp only [e4, e5, e1]; exact q2)
          · replace kk : D 60 r = 6 := by
              obtain ⟨k, k1, k2⟩ := (X.2.1.2.1 r hr).1
              have hk6 : k = 6 := by
                rcases (show k = 0 ∨ k = 1 ∨ k = 2 ∨ k = 3 ∨ k = 4 ∨ k = 5 ∨ k = 6 by omega) with z | z | z | z | z | z | z
                · rw [z] at k2; exact absurd k2 kk.1
                · rw [z] at k2; exact absurd k2 kk.2.1
                · rw [z] at k2; exact absurd k2 kk.2.2.1
                · rw [z] at k2; exact absurd k2 kk.2.2.2.1
                · rw [z] at k2; exact absurd k2 kk.2.2.2.2.1
                · rw [z] at k2; exact absurd k2 kk.2.2.2.2.2
                · exact z
              rw [k2, hk6]; rfl
            have hs : ∀ {I' : Nat → Nat → Int32} {J' : Nat → Nat → Int64} {Q' : Nat → Nat → Option Nat}, Sh E1 (N, S, I', J', Q') (ad r) 0 0 := by
              intro I' J' Q'; have := R.sh (I' := I') (J' := J') (Q' := Q'); rw [kq] at this; exact this
            refine s_callU (pc' := 111) (ci := 0) (owner := RX6) (As := [.int _, .ref 45]) dX11_act_108 rfl mk_X6_tell ml_X11_318 sw_X6_X6_tell im_X6_tell mk_X6_tell.1 mk_X6_tell.2.2.1 se_X0_X6_X6_tell im_X6_tell hs (by decide) rfl rfl ⟨Nat.le_of_ble_eq_true rfl, Nat.le_of_ble_eq_true rfl, Nat.le_of_ble_eq_true rfl, Nat.le_of_ble_eq_true rfl⟩ (Nat.le_of_ble_eq_true rfl) (c_X6_tell_0 hs R.ge (t := 0) h45 (by omega) ?_)
            exact s_iret dX11_act_111 rfl (by decide) (by decide) (by have q2 := k2 r hr rfl 3 (by decide) ekw; rw [kk, acL_6_3, acV_6_3] at q2; simp only [e4, e5, e1]; exact q2)
      · refine s_aload_n (pc' := 22) dX11_act_21 rfl rfl ?_
        refine s_iconst (pc' := 23) (v := 1) dX11_act_22 rfl (by decide) ?_
        refine s_callV (pc' := 26) (As := [.int _]) dX11_act_23 rfl mk_X11_refused ml_X11_87 im_X11_refused se_X11_X11_X11_refused sh_0 (by decide) rfl rfl rfl ⟨Nat.le_of_ble_eq_true rfl, Nat.le_of_ble_eq_true rfl, Nat.le_of_ble_eq_true rfl, Nat.le_of_ble_eq_true rfl⟩ (Nat.le_of_ble_eq_true rfl) (c_X11_refused ?_)
        exact s_iret dX11_act_26 rfl (by decide) (by decide) (k1 (Or.inr (in_r2 (b := 3) (by decide) c18)))
  · refine t_astoreN (pc' := 7) (L' := [.ref 0, .int _, .int _, .int _, .null]) dX11_act_5 rfl (Nat.le_of_ble_eq_true rfl) rfl ?_
    refine s_aloadN (pc' := 9) dX11_act_7 rfl rfl ?_
    refine s_ifnullN (tgt := 21) dX11_act_9 (by decide) ?_
    refine s_aload_n (pc' := 22) dX11_act_21 rfl rfl ?_
    refine s_iconst (pc' := 23) (v := 1) dX11_act_22 rfl (by decide) ?_
    refine s_callV (pc' := 26) (As := [.int _]) dX11_act_23 rfl mk_X11_refused ml_X11_87 im_X11_refused se_X11_X11_X11_refused sh_0 (by decide) rfl rfl rfl ⟨Nat.le_of_ble_eq_true rfl, Nat.le_of_ble_eq_true rfl, Nat.le_of_ble_eq_true rfl, Nat.le_of_ble_eq_true rfl⟩ (Nat.le_of_ble_eq_true rfl) (c_X11_refused ?_)
    exact s_iret dX11_act_26 rfl (by decide) (by decide) (k1 (Or.inl nn))
