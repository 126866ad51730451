set_option maxHeartbeats 400000 in
/-- only the new object is other -/
def NEW (N : Nat) (I I1 : Nat → Nat → Int32) (Q Q1 : Nat → Nat → Option Nat) : Prop := (∀ d, d ≠ N → I1 d = I d) ∧ (∀ d, d ≠ N → Q1 d = Q d)
theorem NEW.gr {N : Nat} {S : Nat → Nat × Nat} {I I1 : Nat → Nat → Int32} {Q Q1 : Nat → Nat → Option Nat} {k : Nat × Nat} (h : NEW N I I1 Q Q1) : Gr N S I Q (N + 1) (nS S N k) I1 Q1 :=
  ⟨Nat.le_succ _, fun a ha => nS_o (by omega), fun a _ ha => h.1 a (by omega), fun a _ ha => h.2 a (by omega)⟩
theorem XB.new {N : Nat} {S : Nat → Nat × Nat} {I I1 : Nat → Nat → Int32} {J : Nat → Nat → Int64} {Q Q1 : Nat → Nat → Option Nat} {D : Nat → Nat → Int32} {nv nr ns e : Nat} {ad td : Nat → Nat} {k : Nat × Nat} (X : XB N S I J Q D nv nr ns ad td e) (h94 : 94 ≤ N) (h : NEW N I I1 Q Q1) : XB (N + 1) (nS S N k) I1 J Q1 D nv nr ns ad td e :=
  X.gr h.gr (fun a _ a2 => h.1 a (by omega)) (fun _ _ => rfl) (h.2 8 (by omega))
theorem ty0 {kn : Nat} {le : Int32} (h : kn ≠ 1) (hl : le = 0 ∨ le = 1) : TYO kn 0 le := ⟨⟨0, by decide, rfl, fun z => absurd z h, fun _ => rfl⟩, hl⟩
theorem ty1 {ty : Int32} (h : inR ty 1 5) : TYO 1 ty 0 := by
  obtain ⟨j, j1, j2, rfl⟩ := in_nI (a := 1) (b := 5) h (by decide)
  exact ⟨⟨j, j2, rfl, fun _ => j1, fun z => absurd rfl z⟩, Or.inl rfl⟩
set_option maxHeartbeats 200000 in
theorem c_X11_rule {N : Nat} {S : Nat → Nat × Nat} {I : Nat → Nat → Int32} {J : Nat → Nat → Int64} {Q : Nat → Nat → Option Nat} {κ : Option Value → HP → Prop} {D : Nat → Nat → Int32} {nv nr ns : Nat} {ad td : Nat → Nat} {e : Nat} (X : XB N S I J Q D nv nr ns ad td e) (he : e + 1 < 2 ^ 30) (h94 : 94 ≤ N) {t : Nat} {how of num : Int32} (hq7 : Q 0 7 = some t) (T : TO N S I t how of num) (tw : TW how of nv) {aim more amt by_ : Int32} {kind : Int32} (k0 : (¬ inR kind 0 7 ∨ kind = 1) → κ (some (.int (-1))) (N, S, up2 I 0 5 1, J, Q)) (k1 : ∀ kn le, RLK kind kn le → (∀ a ra so am b fa, ¬ RGO nv nr how kn aim more amt by_ a ra so am b fa) → κ (some (.int (-1))) (N, S, up2 I 0 5 1, J, Q)) (k2 : ∀ kn le, RLK kind kn le → ∀ a ra so am b fa, RGO nv nr how kn aim more amt by_ a ra so am b fa → nr = 30 → ∀ ci I1 Q1, ci = kc (nI kn) → NEW N I I1 Q Q1 → κ (some (.int (-1))) (N + 1, nS S N (ci, 0), up2 I1 0 5 2, J, Q1)) (k3 : ∀ kn le, RLK kind kn le → ∀ a ra so am b fa, RGO nv nr how kn aim more amt by_ a ra so am b fa → nr < 30 → kn ≤ 3 → ∀ m r, MNR D nr a (rdS how of b) m → RNG D nr a (rdS how of b) m r → ∀ ci I1 Q1, ci = kc (nI kn) → NEW N I I1 Q Q1 → ∀ I', (∀ d, d ≠ 43 → d ≠ 44 → I' d = I1 d) → (∀ i, i ≤ m → I' 43 i = nI (r i)) → κ (some (.int (-1))) (N + 1, nS S N (ci, 0), up2 (up2 I' 0 10 (nI (m + 1))) 0 5 4, J, Q1)) (k4 : ∀ kn le, RLK kind kn le → ∀ a ra so am b fa, RGO nv nr how kn aim more amt by_ a ra so am b fa → nr < 30 → (kn ≤ 3 → ∀ v, v < 10 → bt (rdS how of b) v = true → dst D nr a v = 100) → ∀ ci I1 Q1, ci = kc (nI kn) → NEW N I I1 Q Q1 → ∀ I', (∀ d, (d = 0 ∨ 11 < d) → d ≠ 23 → d ≠ 29 → d ≠ 30 → d ≠ 31 → d ≠ 44 → I' d = I1 d) → XB (N + 1) (nS S N (ci, 0)) I' J (up2 Q1 8 nr (some N)) (nwD D nr (nI kn) (nI a) (nI ra) (nI so) 0 le am b fa how of num) nv (nr + 1) ns (fu ad nr N) (fu td nr t) (e + 1) → κ (some (.int (nI nr))) (N + 1, nS S N (ci, 0), up2 I' 0 5 0, J, up2 Q1 8 nr (some N))) : CT E1 M_X11_rule [.ref 0, .int kind, .int aim, .int more, .int amt, .int by_] (N, S, I, J, Q) κ := by
  refine ofSP mk_X11_rule (Nat.le_of_ble_eq_true rfl) (L := [.ref 0, .int _, .int _, .int _, .int _, .int _]) rfl ?_
  refine s_iload_n (pc' := 1) dX11_rule_0 rfl rfl ?_
  refine s_iflt (pc' := 4) (tgt := 29) dX11_rule_1 (by decide) rfl (fun c1 => ?_) (fun c1 => ?_)
  · refine s_aload_n (pc' := 30) dX11_rule_29 rfl rfl ?_
    refine s_iconst (pc' := 31) (v := 1) dX11_rule_30 rfl (by decide) ?_
    refine s_callV (pc' := 34) (As := [.int _]) dX11_rule_31 rfl mk_X11_refused ml_X11_87 im_X11_refused se_X11_X11_X11_refused sh_0 (by decide) rfl rfl rfl ⟨Nat.le_of_ble_eq_true rfl, Nat.le_of_ble_eq_true rfl, Nat.le_of_ble_eq_true rfl, Nat.le_of_ble_eq_true rfl⟩ (Nat.le_of_ble_eq_true rfl) (c_X11_refused ?_)
    exact s_iret dX11_rule_34 rfl (by decide) (by decide) (k0 (Or.inl (fun q => inR_nlt2 (a := 0) q (by decide) c1)))
  · refine s_iload_n (pc' := 5) dX11_rule_4 rfl rfl ?_
    refine s_iconst (pc' := 6) (v := 1) dX11_rule_5 rfl (by decide) ?_
    refine s_icmpeq (pc' := 9) (tgt := 29) dX11_rule_6 (by decide) rfl (fun c6 => ?_) (fun c6 => ?_)
    · refine s_aload_n (pc' := 30) dX11_rule_29 rfl rfl ?_
      refine s_iconst (pc' := 31) (v := 1) dX11_rule_30 rfl (by decide) ?_
      refine s_callV (pc' := 34) (As := [.int _]) dX11_rule_31 rfl mk_X11_refused ml_X11_87 im_X11_refused se_X11_X11_X11_refused sh_0 (by decide) rfl rfl rfl ⟨Nat.le_of_ble_eq_true rfl, Nat.le_of_ble_eq_true rfl, Nat.le_of_ble_eq_true rfl, Nat.le_of_ble_eq_true rfl⟩ (Nat.le_of_ble_eq_true rfl) (c_X11_refused ?_)
      exact s_iret dX11_rule_34 rfl (by decide) (by decide) (k0 (Or.inr c6))
    · refine s_iload_n (pc' := 10) dX11_rule_9 rfl rfl ?_
      refine s_bipush (pc' := 12) (v := 7) dX11_rule_10 rfl (by decide) ?_
      refine s_icmpgt (pc' := 15) (tgt := 29) dX11_rule_12 (by decide) rfl (fun c12 => ?_) (fun c12 => ?_)
      · refine s_aload_n (pc' := 30) dX11_rule_29 rfl rfl ?_
        refine s_iconst (pc' := 31) (v := 1) dX11_rule_30 rfl (by decide) ?_
        refine s_callV (pc' := 34) (As := [.int _]) dX11_rule_31 rfl mk_X11_refused ml_X11_87 im_X11_refused se_X11_X11_X11_refused sh_0 (by decide) rfl rfl rfl ⟨Nat.le_of_ble_eq_true rfl, Nat.le_of_ble_eq_true rfl, Nat.le_of_ble_eq_true rfl, Nat.le_of_ble_eq_true rfl⟩ (Nat.le_of_ble_eq_true rfl) (c_X11_refused ?_)
        exact s_iret dX11_rule_34 rfl (by decide) (by decide) (k0 (Or.inl (fun q => inR_nlt (b := 7) q (by decide) c12)))
      · obtain ⟨j, j0, j7, rfl⟩ := in_nI (a := 0) (b := 7) (inR_ok (a := 0) (b := 7) (by decide) (by decide) c1 c12) (by decide)
        have j1 : j ≠ 1 := fun z => c6 (by rw [z]; rfl)
        have hn := X.2.1.nv
        rcases (show j = 0 ∨ j = 2 ∨ j = 3 ∨ j = 4 ∨ j = 5 ∨ j = 6 ∨ j = 7 by omega) with rfl | rfl | rfl | rfl | rfl | rfl | rfl
        · refine s_aload_n (pc' := 16) dX11_rule_15 rfl rfl ?_
          refine s_iload_n (pc' := 17) dX11_rule_16 rfl rfl ?_
          refine s_iload_n (pc' := 18) dX11_rule_17 rfl rfl ?_
          refine s_iload_n (pc' := 19) dX11_rule_18 rfl rfl ?_
          refine s_iload (pc' := 21) dX11_rule_19 rfl rfl ?_
          refine s_iload (pc' := 23) dX11_rule_21 rfl rfl ?_
          refine s_callV (pc' := 26) (As := [.int _, .int _, .int _, .int _, .int _]) dX11_rule_23 rfl mk_X11_canBeRule ml_X11_116 im_X11_canBeRule se_X11_X11_X11_canBeRule sh_0 (by decide) rfl rfl rfl ⟨Nat.le_of_ble_eq_true rfl, Nat.le_of_ble_eq_true rfl, Nat.le_of_ble_eq_true rfl, Nat.le_of_ble_eq_true rfl⟩ (Nat.le_of_ble_eq_true rfl) (c_X11_canBeRule_v X hq7 T tw (kn := 0) (by decide) (kd := nI 0) (by decide) (fun a ra so am b fa g => ?_) (fun z => ?_))
          · refine s_ifneT (tgt := 35) dX11_rule_26 (by decide) (by decide) ?_
            refine s_aload_n (pc' := 36) dX11_rule_35 rfl rfl ?_
            refine s_aload_n (pc' := 37) dX11_rule_36 rfl rfl ?_
            refine s_iload_n (pc' := 38) dX11_rule_37 rfl rfl ?_
            refine s_iload_n (pc' := 39) dX11_rule_38 rfl rfl ?_
            refine s_iload_n (pc' := 40) dX11_rule_39 rfl rfl ?_
            refine s_iload (pc' := 42) dX11_rule_40 rfl rfl ?_
            refine s_iload (pc' := 44) dX11_rule_42 rfl rfl ?_
            refine s_callV (pc' := 47) (As := [.int _, .int _, .int _, .int _, .int _]) dX11_rule_44 rfl mk_X11_ruleOf ml_X11_120 im_X11_ruleOf se_X11_X11_X11_ruleOf sh_0 (by decide) rfl rfl rfl ⟨Nat.le_of_ble_eq_true rfl, Nat.le_of_ble_eq_true rfl, Nat.le_of_ble_eq_true rfl, Nat.le_of_ble_eq_true rfl⟩ (Nat.le_of_ble_eq_true rfl) (c_X11_ruleOf_0 h94 X.1.xr hq7 T hn (D' := (nwD D nr (nI 0) (nI a) (nI ra) (nI so) 0 0 am b fa how of num)) nwD.nw g (fun I1 Q1 f1 q1 R1 => ?_))
            refine s_callV (pc' := 50) (As := [.ref _]) dX11_rule_47 rfl mk_X11_entered ml_X11_124 im_X11_entered se_X11_X11_X11_entered sh_0 (by decide) rfl rfl rfl ⟨Nat.le_of_ble_eq_true rfl, Nat.le_of_ble_eq_true rfl, Nat.le_of_ble_eq_true rfl, Nat.le_of_ble_eq_true rfl⟩ (Nat.le_of_ble_eq_true rfl) (c_X11_entered_v (X.new h94 ⟨f1, q1⟩) he (D' := (nwD D nr (nI 0) (nI a) (nI ra) (nI so) 0 0 am b fa how of num)) nwD.nw g (by decide) R1 tw (ty0 (by decide) (Or.inl rfl)) (by decide) (fun e30 => ?_) (fun n30 h3 m r hm hrg I2 f2 g2 => ?_) (fun n30 hno I2 f2 X2 => ?_))
            · exact s_iret dX11_rule_50 rfl (by decide) (by decide) (k2 0 0 (Or.inr ⟨by decide, by decide, rfl, rfl⟩) a ra so am b fa g e30 _ I1 Q1 (by decide) ⟨f1, q1⟩)
            · exact s_iret dX11_rule_50 rfl (by decide) (by decide) (k3 0 0 (Or.inr ⟨by decide, by decide, rfl, rfl⟩) a ra so am b fa g n30 h3 m r hm hrg _ I1 Q1 (by decide) ⟨f1, q1⟩ I2 f2 g2)
            · exact s_iret dX11_rule_50 rfl (by decide) (by decide) (k4 0 0 (Or.inr ⟨by decide, by decide, rfl, rfl⟩) a ra so am b fa g n30 hno _ I1 Q1 (by decide) ⟨f1, q1⟩ I2 f2 X2)
          · refine s_ifneF (pc' := 29) (tgt := 35) dX11_rule_26 (by decide) rfl (by decide) ?_
            refine s_aload_n (pc' := 30) dX11_rule_29 rfl rfl ?_
            refine s_iconst (pc' := 31) (v := 1) dX11_rule_30 rfl (by decide) ?_
            refine s_callV (pc' := 34) (As := [.int _]) dX11_rule_31 rfl mk_X11_refused ml_X11_87 im_X11_refused se_X11_X11_X11_refused sh_0 (by decide) rfl rfl rfl ⟨Nat.le_of_ble_eq_true rfl, Nat.le_of_ble_eq_true rfl, Nat.le_of_ble_eq_true rfl, Nat.le_of_ble_eq_true rfl⟩ (Nat.le_of_ble_eq_true rfl) (c_X11_refused ?_)
            exact s_iret dX11_rule_34 rfl (by decide) (by decide) (k1 0 0 (Or.inr ⟨by decide, by decide, rfl, rfl⟩) z)
        · refine s_aload_n (pc' := 16) dX11_rule_15 rfl rfl ?_
          refine s_iload_n (pc' := 17) dX11_rule_16 rfl rfl ?_
          refine s_iload_n (pc' := 18) dX11_rule_17 rfl rfl ?_
          refine s_iload_n (pc' := 19) dX11_rule_18 rfl rfl ?_
          refine s_iload (pc' := 21) dX11_rule_19 rfl rfl ?_
          refine s_iload (pc' := 23) dX11_rule_21 rfl rfl ?_
          refine s_callV (pc' := 26) (As := [.int _, .int _, .int _, .int _, .int _]) dX11_rule_23 rfl mk_X11_canBeRule ml_X11_116 im_X11_canBeRule se_X11_X11_X11_canBeRule sh_0 (by decide) rfl rfl rfl ⟨Nat.le_of_ble_eq_true rfl, Nat.le_of_ble_eq_true rfl, Nat.le_of_ble_eq_true rfl, Nat.le_of_ble_eq_true rfl⟩ (Nat.le_of_ble_eq_true rfl) (c_X11_canBeRule_v X hq7 T tw (kn := 2) (by decide) (kd := nI 2) (by decide) (fun a ra so am b fa g => ?_) (fun z => ?_))
          · refine s_ifneT (tgt := 35) dX11_rule_26 (by decide) (by decide) ?_
            refine s_aload_n (pc' := 36) dX11_rule_35 rfl rfl ?_
            refine s_aload_n (pc' := 37) dX11_rule_36 rfl rfl ?_
            refine s_iload_n (pc' := 38) dX11_rule_37 rfl rfl ?_
            refine s_iload_n (pc' := 39) dX11_rule_38 rfl rfl ?_
            refine s_iload_n (pc' := 40) dX11_rule_39 rfl rfl ?_
            refine s_iload (pc' := 42) dX11_rule_40 rfl rfl ?_
            refine s_iload (pc' := 44) dX11_rule_42 rfl rfl ?_
            refine s_callV (pc' := 47) (As := [.int _, .int _, .int _, .int _, .int _]) dX11_rule_44 rfl mk_X11_ruleOf ml_X11_120 im_X11_ruleOf se_X11_X11_X11_ruleOf sh_0 (by decide) rfl rfl rfl ⟨Nat.le_of_ble_eq_true rfl, Nat.le_of_ble_eq_true rfl, Nat.le_of_ble_eq_true rfl, Nat.le_of_ble_eq_true rfl⟩ (Nat.le_of_ble_eq_true rfl) (c_X11_ruleOf_2 h94 X.1.xr hq7 T hn (D' := (nwD D nr (nI 2) (nI a) (nI ra) (nI so) 0 0 am b fa how of num)) nwD.nw g (fun I1 Q1 f1 q1 R1 => ?_))
            refine s_callV (pc' := 50) (As := [.ref _]) dX11_rule_47 rfl mk_X11_entered ml_X11_124 im_X11_entered se_X11_X11_X11_entered sh_0 (by decide) rfl rfl rfl ⟨Nat.le_of_ble_eq_true rfl, Nat.le_of_ble_eq_true rfl, Nat.le_of_ble_eq_true rfl, Nat.le_of_ble_eq_true rfl⟩ (Nat.le_of_ble_eq_true rfl) (c_X11_entered_v (X.new h94 ⟨f1, q1⟩) he (D' := (nwD D nr (nI 2) (nI a) (nI ra) (nI so) 0 0 am b fa how of num)) nwD.nw g (by decide) R1 tw (ty0 (by decide) (Or.inl rfl)) (by decide) (fun e30 => ?_) (fun n30 h3 m r hm hrg I2 f2 g2 => ?_) (fun n30 hno I2 f2 X2 => ?_))
            · exact s_iret dX11_rule_50 rfl (by decide) (by decide) (k2 2 0 (Or.inr ⟨by decide, by decide, rfl, rfl⟩) a ra so am b fa g e30 _ I1 Q1 (by decide) ⟨f1, q1⟩)
            · exact s_iret dX11_rule_50 rfl (by decide) (by decide) (k3 2 0 (Or.inr ⟨by decide, by decide, rfl, rfl⟩) a ra so am b fa g n30 h3 m r hm hrg _ I1 Q1 (by decide) ⟨f1, q1⟩ I2 f2 g2)
            · exact s_iret dX11_rule_50 rfl (by decide) (by decide) (k4 2 0 (Or.inr ⟨by decide, by decide, rfl, rfl⟩) a ra so am b fa g n30 hno _ I1 Q1 (by decide) ⟨f1, q1⟩ I2 f2 X2)
          · refine s_ifneF (pc' := 29) (tgt := 35) dX11_rule_26 (by decide) rfl (by decide) ?_
            refine s_aload_n (pc' := 30) dX11_rule_29 rfl rfl ?_
            refine s_iconst (pc' := 31) (v := 1) dX11_rule_30 rfl (by decide) ?_
            refine s_callV (pc' := 34) (As := [.int _]) dX11_rule_31 rfl mk_X11_refused ml_X11_87 im_X11_refused se_X11_X11_X11_refused sh_0 (by decide) rfl rfl rfl ⟨Nat.le_of_ble_eq_true rfl, Nat.le_of_ble_eq_true rfl, Nat.le_of_ble_eq_true rfl, Nat.le_of_ble_eq_true rfl⟩ (Nat.le_of_ble_eq_true rfl) (c_X11_refused ?_)
            exact s_iret dX11_rule_34 rfl (by decide) (by decide) (k1 2 0 (Or.inr ⟨by decide, by decide, rfl, rfl⟩) z)
        · refine s_aload_n (pc' := 16) dX11_rule_15 rfl rfl ?_
          refine s_iload_n (pc' := 17) dX11_rule_16 rfl rfl ?_
          refine s_iload_n (pc' := 18) dX11_rule_17 rfl rfl ?_
          refine s_iload_n (pc' := 19) dX11_rule_18 rfl rfl ?_
          refine s_iload (pc' := 21) dX11_rule_19 rfl rfl ?_
          refine s_iload (pc' := 23) dX11_rule_21 rfl rfl ?_
          refine s_callV (pc' := 26) (As := [.int _, .int _, .int _, .int _, .int _]) dX11_rule_23 rfl mk_X11_canBeRule ml_X11_116 im_X11_canBeRule se_X11_X11_X11_canBeRule sh_0 (by decide) rfl rfl rfl ⟨Nat.le_of_ble_eq_true rfl, Nat.le_of_ble_eq_true rfl, Nat.le_of_ble_eq_true rfl, Nat.le_of_ble_eq_true rfl⟩ (Nat.le_of_ble_eq_true rfl) (c_X11_canBeRule_v X hq7 T tw (kn := 3) (by decide) (kd := nI 3) (by decide) (fun a ra so am b fa g => ?_) (fun z => ?_))
          · refine s_ifneT (tgt := 35) dX11_rule_26 (by decide) (by decide) ?_
            refine s_aload_n (pc' := 36) dX11_rule_35 rfl rfl ?_
            refine s_aload_n (pc' := 37) dX11_rule_36 rfl rfl ?_
            refine s_iload_n (pc' := 38) dX11_rule_37 rfl rfl ?_
            refine s_iload_n (pc' := 39) dX11_rule_38 rfl rfl ?_
            refine s_iload_n (pc' := 40) dX11_rule_39 rfl rfl ?_
            refine s_iload (pc' := 42) dX11_rule_40 rfl rfl ?_
            refine s_iload (pc' := 44) dX11_rule_42 rfl rfl ?_
            refine s_callV (pc' := 47) (As := [.int _, .int _, .int _, .int _, .int _]) dX11_rule_44 rfl mk_X11_ruleOf ml_X11_120 im_X11_ruleOf se_X11_X11_X11_ruleOf sh_0 (by decide) rfl rfl rfl ⟨Nat.le_of_ble_eq_true rfl, Nat.le_of_ble_eq_true rfl, Nat.le_of_ble_eq_true rfl, Nat.le_of_ble_eq_true rfl⟩ (Nat.le_of_ble_eq_true rfl) (c_X11_ruleOf_3 h94 X.1.xr hq7 T hn (D' := (nwD D nr (nI 3) (nI a) (nI ra) (nI so) 0 0 am b fa how of num)) nwD.nw g (fun I1 Q1 f1 q1 R1 => ?_))
            refine s_callV (pc' := 50) (As := [.ref _]) dX11_rule_47 rfl mk_X11_entered ml_X11_124 im_X11_entered se_X11_X11_X11_entered sh_0 (by decide) rfl rfl rfl ⟨Nat.le_of_ble_eq_true rfl, Nat.le_of_ble_eq_true rfl, Nat.le_of_ble_eq_true rfl, Nat.le_of_ble_eq_true rfl⟩ (Nat.le_of_ble_eq_true rfl) (c_X11_entered_v (X.new h94 ⟨f1, q1⟩) he (D' := (nwD D nr (nI 3) (nI a) (nI ra) (nI so) 0 0 am b fa how of num)) nwD.nw g (by decide) R1 tw (ty0 (by decide) (Or.inl rfl)) (by decide) (fun e30 => ?_) (fun n30 h3 m r hm hrg I2 f2 g2 => ?_) (fun n30 hno I2 f2 X2 => ?_))
            · exact s_iret dX11_rule_50 rfl (by decide) (by decide) (k2 3 0 (Or.inr ⟨by decide, by decide, rfl, rfl⟩) a ra so am b fa g e30 _ I1 Q1 (by decide) ⟨f1, q1⟩)
            · exact s_iret dX11_rule_50 rfl (by decide) (by decide) (k3 3 0 (Or.inr ⟨by decide, by decide, rfl, rfl⟩) a ra so am b fa g n30 h3 m r hm hrg _ I1 Q1 (by decide) ⟨f1, q1⟩ I2 f2 g2)
            · exact s_iret dX11_rule_50 rfl (by decide) (by decide) (k4 3 0 (Or.inr ⟨by decide, by decide, rfl, rfl⟩) a ra so am b fa g n30 hno _ I1 Q1 (by decide) ⟨f1, q1⟩ I2 f2 X2)
          · refine s_ifneF (pc' := 29) (tgt := 35) dX11_rule_26 (by decide) rfl (by decide) ?_
            refine s_aload_n (pc' := 30) dX11_rule_29 rfl rfl ?_
            refine s_iconst (pc' := 31) (v := 1) dX11_rule_30 rfl (by decide) ?_
            refine s_callV (pc' := 34) (As := [.int _]) dX11_rule_31 rfl mk_X11_refused ml_X11_87 im_X11_refused se_X11_X11_X11_refused sh_0 (by decide) rfl rfl rfl ⟨Nat.le_of_ble_eq_true rfl, Nat.le_of_ble_eq_true rfl, Nat.le_of_ble_eq_true rfl, Nat.le_of_ble_eq_true rfl⟩ (Nat.le_of_ble_eq_true rfl) (c_X11_refused ?_)
            exact s_iret dX11_rule_34 rfl (by decide) (by decide) (k1 3 0 (Or.inr ⟨by decide, by decide, rfl, rfl⟩) z)
        · refine s_aload_n (pc' := 16) dX11_rule_15 rfl rfl ?_
          refine s_iload_n (pc' := 17) dX11_rule_16 rfl rfl ?_
          refine s_iload_n (pc' := 18) dX11_rule_17 rfl rfl ?_
          refine s_iload_n (pc' := 19) dX11_rule_18 rfl rfl ?_
          refine s_iload (pc' := 21) dX11_rule_19 rfl rfl ?_
          refine s_iload (pc' := 23) dX11_rule_21 rfl rfl ?_
          refine s_callV (pc' := 26) (As := [.int _, .int _, .int _, .int _, .int _]) dX11_rule_23 rfl mk_X11_canBeRule ml_X11_116 im_X11_canBeRule se_X11_X11_X11_canBeRule sh_0 (by decide) rfl rfl rfl ⟨Nat.le_of_ble_eq_true rfl, Nat.le_of_ble_eq_true rfl, Nat.le_of_ble_eq_true rfl, Nat.le_of_ble_eq_true rfl⟩ (Nat.le_of_ble_eq_true rfl) (c_X11_canBeRule_4 X hq7 T tw (fun a ra so am b fa g => ?_) (fun z => ?_))
          · refine s_ifneT (tgt := 35) dX11_rule_26 (by decide) (by decide) ?_
            refine s_aload_n (pc' := 36) dX11_rule_35 rfl rfl ?_
            refine s_aload_n (pc' := 37) dX11_rule_36 rfl rfl ?_
            refine s_iload_n (pc' := 38) dX11_rule_37 rfl rfl ?_
            refine s_iload_n (pc' := 39) dX11_rule_38 rfl rfl ?_
            refine s_iload_n (pc' := 40) dX11_rule_39 rfl rfl ?_
            refine s_iload (pc' := 42) dX11_rule_40 rfl rfl ?_
            refine s_iload (pc' := 44) dX11_rule_42 rfl rfl ?_
            refine s_callV (pc' := 47) (As := [.int _, .int _, .int _, .int _, .int _]) dX11_rule_44 rfl mk_X11_ruleOf ml_X11_120 im_X11_ruleOf se_X11_X11_X11_ruleOf sh_0 (by decide) rfl rfl rfl ⟨Nat.le_of_ble_eq_true rfl, Nat.le_of_ble_eq_true rfl, Nat.le_of_ble_eq_true rfl, Nat.le_of_ble_eq_true rfl⟩ (Nat.le_of_ble_eq_true rfl) (c_X11_ruleOf_4 h94 X.1.xr hq7 T hn (D' := (nwD D nr (nI 4) (nI a) (nI ra) (nI so) 0 0 am b fa how of num)) nwD.nw g (fun I1 Q1 f1 q1 R1 => ?_))
            refine s_callV (pc' := 50) (As := [.ref _]) dX11_rule_47 rfl mk_X11_entered ml_X11_124 im_X11_entered se_X11_X11_X11_entered sh_0 (by decide) rfl rfl rfl ⟨Nat.le_of_ble_eq_true rfl, Nat.le_of_ble_eq_true rfl, Nat.le_of_ble_eq_true rfl, Nat.le_of_ble_eq_true rfl⟩ (Nat.le_of_ble_eq_true rfl) (c_X11_entered_n (X.new h94 ⟨f1, q1⟩) he (D' := (nwD D nr (nI 4) (nI a) (nI ra) (nI so) 0 0 am b fa how of num)) nwD.nw g (by decide) R1 tw (ty0 (by decide) (Or.inl rfl)) (by decide) (fun e30 => ?_) (fun n30 hno I2 f2 X2 => ?_))
            · exact s_iret dX11_rule_50 rfl (by decide) (by decide) (k2 4 0 (Or.inr ⟨by decide, by decide, rfl, rfl⟩) a ra so am b fa g e30 _ I1 Q1 (by decide) ⟨f1, q1⟩)
            · exact s_iret dX11_rule_50 rfl (by decide) (by decide) (k4 4 0 (Or.inr ⟨by decide, by decide, rfl, rfl⟩) a ra so am b fa g n30 hno _ I1 Q1 (by decide) ⟨f1, q1⟩ I2 f2 X2)
          · refine s_ifneF (pc' := 29) (tgt := 35) dX11_rule_26 (by decide) rfl (by decide) ?_
            refine s_aload_n (pc' := 30) dX11_rule_29 rfl rfl ?_
            refine s_iconst (pc' := 31) (v := 1) dX11_rule_30 rfl (by decide) ?_
            refine s_callV (pc' := 34) (As := [.int _]) dX11_rule_31 rfl mk_X11_refused ml_X11_87 im_X11_refused se_X11_X11_X11_refused sh_0 (by decide) rfl rfl rfl ⟨Nat.le_of_ble_eq_true rfl, Nat.le_of_ble_eq_true rfl, Nat.le_of_ble_eq_true rfl, Nat.le_of_ble_eq_true rfl⟩ (Nat.le_of_ble_eq_true rfl) (c_X11_refused ?_)
            exact s_iret dX11_rule_34 rfl (by decide) (by decide) (k1 4 0 (Or.inr ⟨by decide, by decide, rfl, rfl⟩) z)
        · refine s_aload_n (pc' := 16) dX11_rule_15 rfl rfl ?_
          refine s_iload_n (pc' := 17) dX11_rule_16 rfl rfl ?_
          refine s_iload_n (pc' := 18) dX11_rule_17 rfl rfl ?_
          refine s_iload_n (pc' := 19) dX11_rule_18 rfl rfl ?_
          refine s_iload (pc' := 21) dX11_rule_19 rfl rfl ?_
          refine s_iload (pc' := 23) dX11_rule_21 rfl rfl ?_
          refine s_callV (pc' := 26) (As := [.int _, .int _, .int _, .int _, .int _]) dX11_rule_23 rfl mk_X11_canBeRule ml_X11_116 im_X11_canBeRule se_X11_X11_X11_canBeRule sh_0 (by decide) rfl rfl rfl ⟨Nat.le_of_ble_eq_true rfl, Nat.le_of_ble_eq_true rfl, Nat.le_of_ble_eq_true rfl, Nat.le_of_ble_eq_true rfl⟩ (Nat.le_of_ble_eq_true rfl) (c_X11_canBeRule_5 X hq7 T tw (fun a ra so am b fa g => ?_) (fun z => ?_))
          · refine s_ifneT (tgt := 35) dX11_rule_26 (by decide) (by decide) ?_
            refine s_aload_n (pc' := 36) dX11_rule_35 rfl rfl ?_
            refine s_aload_n (pc' := 37) dX11_rule_36 rfl rfl ?_
            refine s_iload_n (pc' := 38) dX11_rule_37 rfl rfl ?_
            refine s_iload_n (pc' := 39) dX11_rule_38 rfl rfl ?_
            refine s_iload_n (pc' := 40) dX11_rule_39 rfl rfl ?_
            refine s_iload (pc' := 42) dX11_rule_40 rfl rfl ?_
            refine s_iload (pc' := 44) dX11_rule_42 rfl rfl ?_
            refine s_callV (pc' := 47) (As := [.int _, .int _, .int _, .int _, .int _]) dX11_rule_44 rfl mk_X11_ruleOf ml_X11_120 im_X11_ruleOf se_X11_X11_X11_ruleOf sh_0 (by decide) rfl rfl rfl ⟨Nat.le_of_ble_eq_true rfl, Nat.le_of_ble_eq_true rfl, Nat.le_of_ble_eq_true rfl, Nat.le_of_ble_eq_true rfl⟩ (Nat.le_of_ble_eq_true rfl) (c_X11_ruleOf_5 h94 X.1.xr hq7 T hn (D' := (nwD D nr (nI 5) (nI a) (nI ra) (nI so) 0 0 am b fa how of num)) nwD.nw g (fun I1 Q1 f1 q1 R1 => ?_))
            refine s_callV (pc' := 50) (As := [.ref _]) dX11_rule_47 rfl mk_X11_entered ml_X11_124 im_X11_entered se_X11_X11_X11_entered sh_0 (by decide) rfl rfl rfl ⟨Nat.le_of_ble_eq_true rfl, Nat.le_of_ble_eq_true rfl, Nat.le_of_ble_eq_true rfl, Nat.le_of_ble_eq_true rfl⟩ (Nat.le_of_ble_eq_true rfl) (c_X11_entered_n (X.new h94 ⟨f1, q1⟩) he (D' := (nwD D nr (nI 5) (nI a) (nI ra) (nI so) 0 0 am b fa how of num)) nwD.nw g (by decide) R1 tw (ty0 (by decide) (Or.inl rfl)) (by decide) (fun e30 => ?_) (fun n30 hno I2 f2 X2 => ?_))
            · exact s_iret dX11_rule_50 rfl (by decide) (by decide) (k2 5 0 (Or.inr ⟨by decide, by decide, rfl, rfl⟩) a ra so am b fa g e30 _ I1 Q1 (by decide) ⟨f1, q1⟩)
            · exact s_iret dX11_rule_50 rfl (by decide) (by decide) (k4 5 0 (Or.inr ⟨by decide, by decide, rfl, rfl⟩) a ra so am b fa g n30 hno _ I1 Q1 (by decide) ⟨f1, q1⟩ I2 f2 X2)
          · refine s_ifneF (pc' := 29) (tgt := 35) dX11_rule_26 (by decide) rfl (by decide) ?_
            refine s_aload_n (pc' := 30) dX11_rule_29 rfl rfl ?_
            refine s_iconst (pc' := 31) (v := 1) dX11_rule_30 rfl (by decide) ?_
            refine s_callV (pc' := 34) (As := [.int _]) dX11_rule_31 rfl mk_X11_refused ml_X11_87 im_X11_refused se_X11_X11_X11_refused sh_0 (by decide) rfl rfl rfl ⟨Nat.le_of_ble_eq_true rfl, Nat.le_of_ble_eq_true rfl, Nat.le_of_ble_eq_true rfl, Nat.le_of_ble_eq_true rfl⟩ (Nat.le_of_ble_eq_true rfl) (c_X11_refused ?_)
            exact s_iret dX11_rule_34 rfl (by decide) (by decide) (k1 5 0 (Or.inr ⟨by decide, by decide, rfl, rfl⟩) z)
        · refine s_aload_n (pc' := 16) dX11_rule_15 rfl rfl ?_
          refine s_iload_n (pc' := 17) dX11_rule_16 rfl rfl ?_
          refine s_iload_n (pc' := 18) dX11_rule_17 rfl rfl ?_
          refine s_iload_n (pc' := 19) dX11_rule_18 rfl rfl ?_
          refine s_iload (pc' := 21) dX11_rule_19 rfl rfl ?_
          refine s_iload (pc' := 23) dX11_rule_21 rfl rfl ?_
          refine s_callV (pc' := 26) (As := [.int _, .int _, .int _, .int _, .int _]) dX11_rule_23 rfl mk_X11_canBeRule ml_X11_116 im_X11_canBeRule se_X11_X11_X11_canBeRule sh_0 (by decide) rfl rfl rfl ⟨Nat.le_of_ble_eq_true rfl, Nat.le_of_ble_eq_true rfl, Nat.le_of_ble_eq_true rfl, Nat.le_of_ble_eq_true rfl⟩ (Nat.le_of_ble_eq_true rfl) (c_X11_canBeRule_6 X hq7 T tw (fun a ra so am b fa g => ?_) (fun z => ?_))
          · refine s_ifneT (tgt := 35) dX11_rule_26 (by decide) (by decide) ?_
            refine s_aload_n (pc' := 36) dX11_rule_35 rfl rfl ?_
            refine s_aload_n (pc' := 37) dX11_rule_36 rfl rfl ?_
            refine s_iload_n (pc' := 38) dX11_rule_37 rfl rfl ?_
            refine s_iload_n (pc' := 39) dX11_rule_38 rfl rfl ?_
            refine s_iload_n (pc' := 40) dX11_rule_39 rfl rfl ?_
            refine s_iload (pc' := 42) dX11_rule_40 rfl rfl ?_
            refine s_iload (pc' := 44) dX11_rule_42 rfl rfl ?_
            refine s_callV (pc' := 47) (As := [.int _, .int _, .int _, .int _, .int _]) dX11_rule_44 rfl mk_X11_ruleOf ml_X11_120 im_X11_ruleOf se_X11_X11_X11_ruleOf sh_0 (by decide) rfl rfl rfl ⟨Nat.le_of_ble_eq_true rfl, Nat.le_of_ble_eq_true rfl, Nat.le_of_ble_eq_true rfl, Nat.le_of_ble_eq_true rfl⟩ (Nat.le_of_ble_eq_true rfl) (c_X11_ruleOf_6 h94 X.1.xr hq7 T hn (D' := (nwD D nr (nI 6) (nI a) (nI ra) (nI so) 0 0 am b fa how of num)) nwD.nw g (fun I1 Q1 f1 q1 R1 => ?_))
            refine s_callV (pc' := 50) (As := [.ref _]) dX11_rule_47 rfl mk_X11_entered ml_X11_124 im_X11_entered se_X11_X11_X11_entered sh_0 (by decide) rfl rfl rfl ⟨Nat.le_of_ble_eq_true rfl, Nat.le_of_ble_eq_true rfl, Nat.le_of_ble_eq_true rfl, Nat.le_of_ble_eq_true rfl⟩ (Nat.le_of_ble_eq_true rfl) (c_X11_entered_n (X.new h94 ⟨f1, q1⟩) he (D' := (nwD D nr (nI 6) (nI a) (nI ra) (nI so) 0 0 am b fa how of num)) nwD.nw g (by decide) R1 tw (ty0 (by decide) (Or.inl rfl)) (by decide) (fun e30 => ?_) (fun n30 hno I2 f2 X2 => ?_))
            · exact s_iret dX11_rule_50 rfl (by decide) (by decide) (k2 6 0 (Or.inr ⟨by decide, by decide, rfl, rfl⟩) a ra so am b fa g e30 _ I1 Q1 (by decide) ⟨f1, q1⟩)
            · exact s_iret dX11_rule_50 rfl (by decide) (by decide) (k4 6 0 (Or.inr ⟨by decide, by decide, rfl, rfl⟩) a ra so am b fa g n30 hno _ I1 Q1 (by decide) ⟨f1, q1⟩ I2 f2 X2)
          · refine s_ifneF (pc' := 29) (tgt := 35) dX11_rule_26 (by decide) rfl (by decide) ?_
            refine s_aload_n (pc' := 30) dX11_rule_29 rfl rfl ?_
            refine s_iconst (pc' := 31) (v := 1) dX11_rule_30 rfl (by decide) ?_
            refine s_callV (pc' := 34) (As := [.int _]) dX11_rule_31 rfl mk_X11_refused ml_X11_87 im_X11_refused se_X11_X11_X11_refused sh_0 (by decide) rfl rfl rfl ⟨Nat.le_of_ble_eq_true rfl, Nat.le_of_ble_eq_true rfl, Nat.le_of_ble_eq_true rfl, Nat.le_of_ble_eq_true rfl⟩ (Nat.le_of_ble_eq_true rfl) (c_X11_refused ?_)
            exact s_iret dX11_rule_34 rfl (by decide) (by decide) (k1 6 0 (Or.inr ⟨by decide, by decide, rfl, rfl⟩) z)
        · refine s_aload_n (pc' := 16) dX11_rule_15 rfl rfl ?_
          refine s_iload_n (pc' := 17) dX11_rule_16 rfl rfl ?_
          refine s_iload_n (pc' := 18) dX11_rule_17 rfl rfl ?_
          refine s_iload_n (pc' := 19) dX11_rule_18 rfl rfl ?_
          refine s_iload (pc' := 21) dX11_rule_19 rfl rfl ?_
          refine s_iload (pc' := 23) dX11_rule_21 rfl rfl ?_
          refine s_callV (pc' := 26) (As := [.int _, .int _, .int _, .int _, .int _]) dX11_rule_23 rfl mk_X11_canBeRule ml_X11_116 im_X11_canBeRule se_X11_X11_X11_canBeRule sh_0 (by decide) rfl rfl rfl ⟨Nat.le_of_ble_eq_true rfl, Nat.le_of_ble_eq_true rfl, Nat.le_of_ble_eq_true rfl, Nat.le_of_ble_eq_true rfl⟩ (Nat.le_of_ble_eq_true rfl) (c_X11_canBeRule_v X hq7 T tw (kn := 3) (by decide) (kd := nI 7) (by decide) (fun a ra so am b fa g => ?_) (fun z => ?_))
          · refine s_ifneT (tgt := 35) dX11_rule_26 (by decide) (by decide) ?_
            refine s_aload_n (pc' := 36) dX11_rule_35 rfl rfl ?_
            refine s_aload_n (pc' := 37) dX11_rule_36 rfl rfl ?_
            refine s_iload_n (pc' := 38) dX11_rule_37 rfl rfl ?_
            refine s_iload_n (pc' := 39) dX11_rule_38 rfl rfl ?_
            refine s_iload_n (pc' := 40) dX11_rule_39 rfl rfl ?_
            refine s_iload (pc' := 42) dX11_rule_40 rfl rfl ?_
            refine s_iload (pc' := 44) dX11_rule_42 rfl rfl ?_
            refine s_callV (pc' := 47) (As := [.int _, .int _, .int _, .int _, .int _]) dX11_rule_44 rfl mk_X11_ruleOf ml_X11_120 im_X11_ruleOf se_X11_X11_X11_ruleOf sh_0 (by decide) rfl rfl rfl ⟨Nat.le_of_ble_eq_true rfl, Nat.le_of_ble_eq_true rfl, Nat.le_of_ble_eq_true rfl, Nat.le_of_ble_eq_true rfl⟩ (Nat.le_of_ble_eq_true rfl) (c_X11_ruleOf_7 h94 X.1.xr hq7 T hn (D' := (nwD D nr (nI 3) (nI a) (nI ra) (nI so) 0 1 am b fa how of num)) nwD.nw g (fun I1 Q1 f1 q1 R1 => ?_))
            refine s_callV (pc' := 50) (As := [.ref _]) dX11_rule_47 rfl mk_X11_entered ml_X11_124 im_X11_entered se_X11_X11_X11_entered sh_0 (by decide) rfl rfl rfl ⟨Nat.le_of_ble_eq_true rfl, Nat.le_of_ble_eq_true rfl, Nat.le_of_ble_eq_true rfl, Nat.le_of_ble_eq_true rfl⟩ (Nat.le_of_ble_eq_true rfl) (c_X11_entered_v (X.new h94 ⟨f1, q1⟩) he (D' := (nwD D nr (nI 3) (nI a) (nI ra) (nI so) 0 1 am b fa how of num)) nwD.nw g (by decide) R1 tw (ty0 (by decide) (Or.inr rfl)) (by decide) (fun e30 => ?_) (fun n30 h3 m r hm hrg I2 f2 g2 => ?_) (fun n30 hno I2 f2 X2 => ?_))
            · exact s_iret dX11_rule_50 rfl (by decide) (by decide) (k2 3 1 (Or.inl ⟨rfl, rfl, rfl⟩) a ra so am b fa g e30 _ I1 Q1 (by decide) ⟨f1, q1⟩)
            · exact s_iret dX11_rule_50 rfl (by decide) (by decide) (k3 3 1 (Or.inl ⟨rfl, rfl, rfl⟩) a ra so am b fa g n30 h3 m r hm hrg _ I1 Q1 (by decide) ⟨f1, q1⟩ I2 f2 g2)
            · exact s_iret dX11_rule_50 rfl (by decide) (by decide) (k4 3 1 (Or.inl ⟨rfl, rfl, rfl⟩) a ra so am b fa g n30 hno _ I1 Q1 (by decide) ⟨f1, q1⟩ I2 f2 X2)
          · refine s_ifneF (pc' := 29) (tgt := 35) dX11_rule_26 (by decide) rfl (by decide) ?_
            refine s_aload_n (pc' := 30) dX11_rule_29 rfl rfl ?_
            refine s_iconst (pc' := 31) (v := 1) dX11_rule_30 rfl (by decide) ?_
            refine s_callV (pc' := 34) (As := [.int _]) dX11_rule_31 rfl mk_X11_refused ml_X11_87 im_X11_refused se_X11_X11_X11_refused sh_0 (by decide) rfl rfl rfl ⟨Nat.le_of_ble_eq_true rfl, Nat.le_of_ble_eq_true rfl, Nat.le_of_ble_eq_true rfl, Nat.le_of_ble_eq_true rfl⟩ (Nat.le_of_ble_eq_true rfl) (c_X11_refused ?_)
            exact s_iret dX11_rule_34 rfl (by decide) (by decide) (k1 3 1 (Or.inl ⟨rfl, rfl, rfl⟩) z)
set_option maxHeartbeats 200000 in
theorem c_X11_typed {N : Nat} {S : Nat → Nat × Nat} {I : Nat → Nat → Int32} {J : Nat → Nat → Int64} {Q : Nat → Nat → Option Nat} {κ : Option Value → HP → Prop} {D : Nat → Nat → Int32} {nv nr ns : Nat} {ad td : Nat → Nat} {e : Nat} (X : XB N S I J Q D nv nr ns ad td e) (he : e + 1 < 2 ^ 30) (h94 : 94 ≤ N) {t : Nat} {how of num : Int32} (hq7 : Q 0 7 = some t) (T : TO N S I t how of num) (tw : TW how of nv) {aim more amt by_ : Int32} {ty : Int32} (k0 : ¬ inR ty 1 5 → κ (some (.int (-1))) (N, S, up2 I 0 5 1, J, Q)) (k1 : inR ty 1 5 → (∀ a ra so am b fa, ¬ RGO nv nr how 1 aim more amt by_ a ra so am b fa) → κ (some (.int (-1))) (N, S, up2 I 0 5 1, J, Q)) (k2 : inR ty 1 5 → ∀ a ra so am b fa, RGO nv nr how 1 aim more amt by_ a ra so am b fa → nr = 30 → ∀ ci I1 Q1, ci = kc (nI 1) → NEW N I I1 Q Q1 → κ (some (.int (-1))) (N + 1, nS S N (ci, 0), up2 I1 0 5 2, J, Q1)) (k3 : inR ty 1 5 → ∀ a ra so am b fa, RGO nv nr how 1 aim more amt by_ a ra so am b fa → nr < 30 → 1 ≤ 3 → ∀ m r, MNR D nr a (rdS how of b) m → RNG D nr a (rdS how of b) m r → ∀ ci I1 Q1, ci = kc (nI 1) → NEW N I I1 Q Q1 → ∀ I', (∀ d, d ≠ 43 → d ≠ 44 → I' d = I1 d) → (∀ i, i ≤ m → I' 43 i = nI (r i)) → κ (some (.int (-1))) (N + 1, nS S N (ci, 0), up2 (up2 I' 0 10 (nI (m + 1))) 0 5 4, J, Q1)) (k4 : inR ty 1 5 → ∀ a ra so am b fa, RGO nv nr how 1 aim more amt by_ a ra so am b fa → nr < 30 → (1 ≤ 3 → ∀ v, v < 10 → bt (rdS how of b) v = true → dst D nr a v = 100) → ∀ ci I1 Q1, ci = kc (nI 1) → NEW N I I1 Q Q1 → ∀ I', (∀ d, (d = 0 ∨ 11 < d) → d ≠ 23 → d ≠ 29 → d ≠ 30 → d ≠ 31 → d ≠ 44 → I' d = I1 d) → XB (N + 1) (nS S N (ci, 0)) I' J (up2 Q1 8 nr (some N)) (nwD D nr (nI 1) (nI a) (nI ra) (nI so) ty 0 am b fa how of num) nv (nr + 1) ns (fu ad nr N) (fu td nr t) (e + 1) → κ (some (.int (nI nr))) (N + 1, nS S N (ci, 0), up2 I' 0 5 0, J, up2 Q1 8 nr (some N))) : CT E1 M_X11_typed [.ref 0, .int ty, .int aim, .int more, .int amt, .int by_] (N, S, I, J, Q) κ := by
  refine ofSP mk_X11_typed (Nat.le_of_ble_eq_true rfl) (L := [.ref 0, .int _, .int _, .int _, .int _, .int _]) rfl ?_
  have hn := X.2.1.nv
  refine s_iload_n (pc' := 1) dX11_typed_0 rfl rfl ?_
  refine s_callS (pc' := 4) (As := [.int _]) dX11_typed_1 rfl mk_X11_isType ml_X11_128 sm_X11_isType rfl rfl ⟨Nat.le_of_ble_eq_true rfl, Nat.le_of_ble_eq_true rfl, Nat.le_of_ble_eq_true rfl, Nat.le_of_ble_eq_true rfl⟩ (Nat.le_of_ble_eq_true rfl) (c_X11_isType (fun i1 => ?_) (fun i1 => ?_))
  · refine s_ifeqF (pc' := 7) (tgt := 21) dX11_typed_4 (by decide) rfl (by decide) ?_
    refine s_aload_n (pc' := 8) dX11_typed_7 rfl rfl ?_
    refine s_iconst (pc' := 9) (v := 1) dX11_typed_8 rfl (by decide) ?_
    refine s_iload_n (pc' := 10) dX11_typed_9 rfl rfl ?_
    refine s_iload_n (pc' := 11) dX11_typed_10 rfl rfl ?_
    refine s_iload (pc' := 13) dX11_typed_11 rfl rfl ?_
    refine s_iload (pc' := 15) dX11_typed_13 rfl rfl ?_
    refine s_callV (pc' := 18) (As := [.int _, .int _, .int _, .int _, .int _]) dX11_typed_15 rfl mk_X11_canBeRule ml_X11_116 im_X11_canBeRule se_X11_X11_X11_canBeRule sh_0 (by decide) rfl rfl rfl ⟨Nat.le_of_ble_eq_true rfl, Nat.le_of_ble_eq_true rfl, Nat.le_of_ble_eq_true rfl, Nat.le_of_ble_eq_true rfl⟩ (Nat.le_of_ble_eq_true rfl) (c_X11_canBeRule_v X hq7 T tw (kn := 1) (by decide) (kd := 1) (by decide) (fun a ra so am b fa g => ?_) (fun z => ?_))
    · refine s_ifneT (tgt := 27) dX11_typed_18 (by decide) (by decide) ?_
      refine s_aload_n (pc' := 28) dX11_typed_27 rfl rfl ?_
      refine s_new (pc' := 31) (ci := 10) dX11_typed_28 rfl (by decide) cl_X11_131 ib_X10 in_X10 (Nat.le_of_ble_eq_true rfl) (Nat.le_of_ble_eq_true rfl) ?_
      refine s_dup (pc' := 32) dX11_typed_31 rfl rfl ?_
      refine s_aload_n (pc' := 33) dX11_typed_32 rfl rfl ?_
      refine s_getS (pc' := 36) (b := 1) dX11_typed_33 rfl (by decide) rfl (by decide) fa_X11_10_11 rfl rfl ?_
      refine t_getI (pc' := 39) dX11_typed_36 rfl sh_1 (by decide) fa_X11_133_8 rfl ?_
      rw [zI_o (by omega), X.1.xr]
      refine s_aload_n (pc' := 40) dX11_typed_39 rfl rfl ?_
      refine t_getR (pc' := 43) dX11_typed_40 rfl sh_0 (by decide) fa_X11_48_11 rfl (by rw [zQ_o (by omega)]; exact hq7) ?_
      refine s_iload_n (pc' := 44) dX11_typed_43 rfl rfl ?_
      refine s_iload_n (pc' := 45) dX11_typed_44 rfl rfl ?_
      refine s_iload_n (pc' := 46) dX11_typed_45 rfl rfl ?_
      refine s_iload (pc' := 48) dX11_typed_46 rfl rfl ?_
      refine s_iload (pc' := 50) dX11_typed_48 rfl rfl ?_
      refine s_callI (pc' := 53) (As := [.int _, .ref _, .int _, .int _, .int _, .int _, .int _]) dX11_typed_50 rfl mk_X10_init ml_X11_136 im_X10_init rfl rfl rfl rfl ⟨Nat.le_of_ble_eq_true rfl, Nat.le_of_ble_eq_true rfl, Nat.le_of_ble_eq_true rfl, Nat.le_of_ble_eq_true rfl⟩ (Nat.le_of_ble_eq_true rfl) (c_X10_init h94 (Nat.lt_succ_self _) nS_s ?_)
      obtain ⟨I1, hI1⟩ : ∃ Y, Y = up2 (riI (zI I N) N 1 (nI nr) aim more amt by_) N 10 ty := ⟨_, rfl⟩
      obtain ⟨Q1, hQ1⟩ : ∃ Y, Y = up2 (zQ Q N) N 2 (some t) := ⟨_, rfl⟩
      have f1 : ∀ d, d ≠ N → I1 d = I d := fun d hd => by rw [hI1, up2_o hd, riI_o hd, zI_o hd]
      have q1 : ∀ d, d ≠ N → Q1 d = Q d := fun d hd => by rw [hQ1, up2_o hd, zQ_o hd]
      have R1 : RO (N + 1) (nS S N (10, 0)) I1 Q1 (nwD D nr (nI 1) (nI a) (nI ra) (nI so) ty 0 am b fa how of num) nr N t := RO.new nwD.nw g (by decide) hn h94 T (by decide) f1 (fun j hj => by rw [hI1]; exact up2_e (by omega)) (fun _ => by rw [hI1, up2_s]) (fun z => absurd z (by decide)) (by rw [hQ1, up2_s])
      rw [← hI1, ← hQ1]
      refine s_callV (pc' := 56) (As := [.ref _]) dX11_typed_53 rfl mk_X11_entered ml_X11_124 im_X11_entered se_X11_X11_X11_entered sh_0 (by decide) rfl rfl rfl ⟨Nat.le_of_ble_eq_true rfl, Nat.le_of_ble_eq_true rfl, Nat.le_of_ble_eq_true rfl, Nat.le_of_ble_eq_true rfl⟩ (Nat.le_of_ble_eq_true rfl) (c_X11_entered_v (X.new h94 ⟨f1, q1⟩) he (D' := (nwD D nr (nI 1) (nI a) (nI ra) (nI so) ty 0 am b fa how of num)) nwD.nw g (by decide) R1 tw (ty1 i1) (by decide) (fun e30 => ?_) (fun n30 h3 m r hm hrg I2 f2 g2 => ?_) (fun n30 hno I2 f2 X2 => ?_))
      · exact s_iret dX11_typed_56 rfl (by decide) (by decide) (k2 i1 a ra so am b fa g e30 _ I1 Q1 (by decide) ⟨f1, q1⟩)
      · exact s_iret dX11_typed_56 rfl (by decide) (by decide) (k3 i1 a ra so am b fa g n30 h3 m r hm hrg _ I1 Q1 (by decide) ⟨f1, q1⟩ I2 f2 g2)
      · exact s_iret dX11_typed_56 rfl (by decide) (by decide) (k4 i1 a ra so am b fa g n30 hno _ I1 Q1 (by decide) ⟨f1, q1⟩ I2 f2 X2)
    · refine s_ifneF (pc' := 21) (tgt := 27) dX11_typed_18 (by decide) rfl (by decide) ?_
      refine s_aload_n (pc' := 22) dX11_typed_21 rfl rfl ?_
      refine s_iconst (pc' := 23) (v := 1) dX11_typed_22 rfl (by decide) ?_
      refine s_callV (pc' := 26) (As := [.int _]) dX11_typed_23 rfl mk_X11_refused ml_X11_87 im_X11_refused se_X11_X11_X11_refused sh_0 (by decide) rfl rfl rfl ⟨Nat.le_of_ble_eq_true rfl, Nat.le_of_ble_eq_true rfl, Nat.le_of_ble_eq_true rfl, Nat.le_of_ble_eq_true rfl⟩ (Nat.le_of_ble_eq_true rfl) (c_X11_refused ?_)
      exact s_iret dX11_typed_26 rfl (by decide) (by decide) (k1 i1 z)
  · refine s_ifeqT (tgt := 21) dX11_typed_4 (by decide) (by decide) ?_
    refine s_aload_n (pc' := 22) dX11_typed_21 rfl rfl ?_
    refine s_iconst (pc' := 23) (v := 1) dX11_typed_22 rfl (by decide) ?_
    refine s_callV (pc' := 26) (As := [.int _]) dX11_typed_23 rfl mk_X11_refused ml_X11_87 im_X11_refused se_X11_X11_X11_refused sh_0 (by decide) rfl rfl rfl ⟨Nat.le_of_ble_eq_true rfl, Nat.le_of_ble_eq_true rfl, Nat.le_of_ble_eq_true rfl, Nat.le_of_ble_eq_true rfl⟩ (Nat.le_of_ble_eq_true rfl) (c_X11_refused ?_)
    exact s_iret dX11_typed_26 rfl (by decide) (by decide) (k0 i1)
set_option maxHeartbeats 400000 in
theorem shl16 (x : Int32) : x <<< ((4 : Int32) &&& 31) = 16 * x := by
  apply Int32.toBitVec_inj.mp
  apply BitVec.eq_of_toNat_eq
  rw [pk_shl x _ 4 (by decide), Int32.toBitVec_mul, BitVec.toNat_mul, Nat.mul_comm]
  rfl
theorem z3 {p z : Nat} (hp : p < 2 ^ 31) (hz : z ≤ 40) : nI p ≤ nI z - 3 ↔ p + 3 ≤ z := by
  rw [Int32.le_iff_toInt_le, Int32.toInt_sub, nI_toInt hp, nI_toInt (by omega), show (3 : Int32).toInt = 3 by decide, Int.bmod_eq_of_le (by omega) (by omega)]
  omega
set_option maxHeartbeats 200000 in
theorem c_X11_row {N : Nat} {S : Nat → Nat × Nat} {I : Nat → Nat → Int32} {J : Nat → Nat → Int64} {Q : Nat → Nat → Option Nat} {κ : Option Value → HP → Prop} {D : Nat → Nat → Int32} {nv nr ns : Nat} {ad td : Nat → Nat} {e : Nat} (X : XB N S I J Q D nv nr ns ad td e) (he : e + 1 < 2 ^ 30) (h94 : 94 ≤ N) {t : Nat} {how of num : Int32} (hq7 : Q 0 7 = some t) (T : TO N S I t how of num) (tw : TW how of nv) {sh srt i : Int32} (hq : ∀ s, s < 4 → Q 46 s = some (47 + s)) (hS : ∀ s, s < 4 → ∃ z, z ≤ 40 ∧ I 52 s = nI z) (k1 : ((∀ s, s < 4 → sh ≠ nI s) ∨ ¬ inR srt 0 2) → κ (some (.int (-1))) (N, S, up2 I 0 5 1, J, Q)) (k2 : ∀ s, s < 4 → sh = nI s → inR srt 0 2 → nr = 30 → κ (some (.int (-1))) (N, S, up2 I 0 5 2, J, Q)) (k3 : ∀ s, s < 4 → sh = nI s → inR srt 0 2 → nr < 30 → I 51 s = -1 → κ (some (.int (-1))) (N, S, up2 I 0 5 10, J, Q)) (k4 : ∀ s, s < 4 → sh = nI s → inR srt 0 2 → nr < 30 → I 51 s ≠ -1 → I 51 s ≠ srt → κ (some (.int (-1))) (N, S, up2 I 0 5 11, J, Q)) (k5 : ∀ s, s < 4 → sh = nI s → inR srt 0 2 → nr < 30 → I 51 s ≠ -1 → I 51 s = srt → ∀ z, z ≤ 40 → I 52 s = nI z → (∀ p, p + 3 ≤ z → i ≠ nI p) → κ (some (.int (-1))) (N, S, up2 I 0 5 12, J, Q)) (k6 : ∀ s, s < 4 → sh = nI s → inR srt 0 2 → nr < 30 → I 51 s ≠ -1 → I 51 s = srt → ∀ z, z ≤ 40 → I 52 s = nI z → ∀ p, p + 3 ≤ z → i = nI p → (∀ a ra so am b fa, ¬ RGO nv nr how 0 (I (47 + s) p) (16 * I (47 + s) (p + 2)) (I (47 + s) (p + 1)) (-1) a ra so am b fa) → κ (some (.int (-1))) (N, S, up2 I 0 5 3, J, Q)) (k7 : ∀ s, s < 4 → sh = nI s → inR srt 0 2 → nr < 30 → I 51 s ≠ -1 → I 51 s = srt → ∀ z, z ≤ 40 → I 52 s = nI z → ∀ p, p + 3 ≤ z → i = nI p → ∀ a ra so am b fa, RGO nv nr how 0 (I (47 + s) p) (16 * I (47 + s) (p + 2)) (I (47 + s) (p + 1)) (-1) a ra so am b fa → ∀ m r, MNR D nr a (rdS how of b) m → RNG D nr a (rdS how of b) m r → ∀ ci I1 Q1, ci = kc (nI 0) → NEW N I I1 Q Q1 → ∀ I', (∀ d, d ≠ 43 → d ≠ 44 → I' d = I1 d) → (∀ i, i ≤ m → I' 43 i = nI (r i)) → κ (some (.int (-1))) (N + 1, nS S N (ci, 0), up2 (up2 I' 0 10 (nI (m + 1))) 0 5 4, J, Q1)) (k8 : ∀ s, s < 4 → sh = nI s → inR srt 0 2 → nr < 30 → I 51 s ≠ -1 → I 51 s = srt → ∀ z, z ≤ 40 → I 52 s = nI z → ∀ p, p + 3 ≤ z → i = nI p → ∀ a ra so am b fa, RGO nv nr how 0 (I (47 + s) p) (16 * I (47 + s) (p + 2)) (I (47 + s) (p + 1)) (-1) a ra so am b fa → (∀ v, v < 10 → bt (rdS how of b) v = true → dst D nr a v = 100) → ∀ ci I1 Q1, ci = kc (nI 0) → NEW N I I1 Q Q1 → ∀ I', (∀ d, (d = 0 ∨ 11 < d) → d ≠ 23 → d ≠ 29 → d ≠ 30 → d ≠ 31 → d ≠ 44 → I' d = I1 d) → XB (N + 1) (nS S N (ci, 0)) I' J (up2 Q1 8 nr (some N)) (nwD D nr (nI 0) (nI a) (nI ra) (nI so) 0 0 am b fa how of num) nv (nr + 1) ns (fu ad nr N) (fu td nr t) (e + 1) → κ (some (.int (nI nr))) (N + 1, nS S N (ci, 0), up2 I' 0 5 0, J, up2 Q1 8 nr (some N))) : CT E1 M_X11_row [.ref 0, .int sh, .int srt, .int i] (N, S, I, J, Q) κ := by
  refine ofSP mk_X11_row (Nat.le_of_ble_eq_true rfl) (L := [.ref 0, .int _, .int _, .int _, .retAddr _, .retAddr _, .retAddr _]) rfl ?_
  have hn := X.2.1.nv
  refine s_iload_n (pc' := 1) dX11_row_0 rfl rfl ?_
  refine s_callS (pc' := 4) (As := [.int _]) dX11_row_1 rfl mk_X11_isRow ml_X11_321 sm_X11_isRow rfl rfl ⟨Nat.le_of_ble_eq_true rfl, Nat.le_of_ble_eq_true rfl, Nat.le_of_ble_eq_true rfl, Nat.le_of_ble_eq_true rfl⟩ (Nat.le_of_ble_eq_true rfl) (c_X11_isRow (fun s hs es => ?_) (fun n1 => ?_))
  · subst es
    refine s_ifeqF (pc' := 7) (tgt := 14) dX11_row_4 (by decide) rfl (by decide) ?_
    refine s_iload_n (pc' := 8) dX11_row_7 rfl rfl ?_
    refine s_callS (pc' := 11) (As := [.int _]) dX11_row_8 rfl mk_X11_isSort ml_X11_324 sm_X11_isSort rfl rfl ⟨Nat.le_of_ble_eq_true rfl, Nat.le_of_ble_eq_true rfl, Nat.le_of_ble_eq_true rfl, Nat.le_of_ble_eq_true rfl⟩ (Nat.le_of_ble_eq_true rfl) (c_X11_isSort (fun i8 => ?_) (fun i8 => ?_))
    · refine s_ifneT (tgt := 20) dX11_row_11 (by decide) (by decide) ?_
      obtain ⟨z, hz1, hz2⟩ := hS s hs
      refine s_aload_n (pc' := 21) dX11_row_20 rfl rfl ?_
      refine s_getS (pc' := 24) (b := 1) dX11_row_21 rfl (by decide) rfl (by decide) fa_X11_10_11 rfl rfl ?_
      refine t_getI (pc' := 27) dX11_row_24 rfl sh_1 (by decide) fa_X11_133_8 rfl ?_
      refine s_bipush (pc' := 29) (v := 30) dX11_row_27 rfl (by decide) ?_
      refine s_icmplt (pc' := 32) (tgt := 38) dX11_row_29 (by decide) rfl (fun c29 => ?_) (fun c29 => ?_)
      · have n30 : nr < 30 := by rw [X.1.xr] at c29; exact (nI_ltI (b := 30) (by have := X.2.1.nr; omega) (by decide)).mp c29
        refine s_aload_n (pc' := 39) dX11_row_38 rfl rfl ?_
        refine s_getS (pc' := 42) (b := 51) dX11_row_39 rfl (by decide) rfl (by decide) fa_X11_69_11 rfl rfl ?_
        refine s_iload_n (pc' := 43) dX11_row_42 rfl rfl ?_
        refine t_iald (pc' := 44) dX11_row_43 rfl sh_51 rfl hs ?_
        refine s_iconst (pc' := 45) (v := -1) dX11_row_44 rfl (by decide) ?_
        refine s_icmpne (pc' := 48) (tgt := 55) dX11_row_45 (by decide) rfl (fun c45 => ?_) (fun c45 => ?_)
        · refine s_aload_n (pc' := 56) dX11_row_55 rfl rfl ?_
          refine s_getS (pc' := 59) (b := 51) dX11_row_56 rfl (by decide) rfl (by decide) fa_X11_69_11 rfl rfl ?_
          refine s_iload_n (pc' := 60) dX11_row_59 rfl rfl ?_
          refine t_iald (pc' := 61) dX11_row_60 rfl sh_51 rfl hs ?_
          refine s_iload_n (pc' := 62) dX11_row_61 rfl rfl ?_
          refine s_icmpeq (pc' := 65) (tgt := 72) dX11_row_62 (by decide) rfl (fun c62 => ?_) (fun c62 => ?_)
          · refine s_iload_n (pc' := 73) dX11_row_72 rfl rfl ?_
            refine s_iflt (pc' := 76) (tgt := 88) dX11_row_73 (by decide) rfl (fun c73 => ?_) (fun c73 => ?_)
            · refine s_aload_n (pc' := 89) dX11_row_88 rfl rfl ?_
              refine s_bipush (pc' := 91) (v := 12) dX11_row_89 rfl (by decide) ?_
              refine s_callV (pc' := 94) (As := [.int _]) dX11_row_91 rfl mk_X11_refused ml_X11_87 im_X11_refused se_X11_X11_X11_refused sh_0 (by decide) rfl rfl rfl ⟨Nat.le_of_ble_eq_true rfl, Nat.le_of_ble_eq_true rfl, Nat.le_of_ble_eq_true rfl, Nat.le_of_ble_eq_true rfl⟩ (Nat.le_of_ble_eq_true rfl) (c_X11_refused ?_)
              exact s_iret dX11_row_94 rfl (by decide) (by decide) (k5 s hs rfl i8 n30 c45 (by first | exact c62 | exact Decidable.not_not.mp c62) z hz1 hz2 (fun p hp e0 => nI_n0 (m := p) (by omega) (by rw [← e0]; exact c73)))
            · obtain ⟨p, hp31, rfl⟩ := nI_of c73
              refine s_iload_n (pc' := 77) dX11_row_76 rfl rfl ?_
              refine s_aload_n (pc' := 78) dX11_row_77 rfl rfl ?_
              refine s_getS (pc' := 81) (b := 52) dX11_row_78 rfl (by decide) rfl (by decide) fa_X11_72_11 rfl rfl ?_
              refine s_iload_n (pc' := 82) dX11_row_81 rfl rfl ?_
              refine t_iald (pc' := 83) dX11_row_82 rfl sh_52 rfl hs ?_
              refine s_iconst (pc' := 84) (v := 3) dX11_row_83 rfl (by decide) ?_
              refine s_isub (pc' := 85) dX11_row_84 rfl ?_
              refine s_icmple (pc' := 88) (tgt := 95) dX11_row_85 (by decide) rfl (fun c85 => ?_) (fun c85 => ?_)
              · have hp3 : p + 3 ≤ z := by rw [hz2] at c85; exact (z3 hp31 hz1).mp c85
                refine s_aload_n (pc' := 96) dX11_row_95 rfl rfl ?_
                refine s_getS (pc' := 99) (b := 46) dX11_row_96 rfl (by decide) rfl (by decide) fa_X11_66_11 rfl rfl ?_
                refine s_iload_n (pc' := 100) dX11_row_99 rfl rfl ?_
                refine t_aald (pc' := 101) dX11_row_100 rfl (Or.inr rfl) sh_46 rfl hs (hq s hs) ?_
                refine s_iload_n (pc' := 102) dX11_row_101 rfl rfl ?_
                refine t_iald (pc' := 103) dX11_row_102 rfl (sh_47s hs) rfl (by omega) ?_
                refine t_istore (pc' := 105) (L' := [.ref 0, .int _, .int _, .int _, .int _, .retAddr _, .retAddr _]) dX11_row_103 rfl (Nat.le_of_ble_eq_true rfl) rfl ?_
                refine s_aload_n (pc' := 106) dX11_row_105 rfl rfl ?_
                refine s_getS (pc' := 109) (b := 46) dX11_row_106 rfl (by decide) rfl (by decide) fa_X11_66_11 rfl rfl ?_
                refine s_iload_n (pc' := 110) dX11_row_109 rfl rfl ?_
                refine t_aald (pc' := 111) dX11_row_110 rfl (Or.inr rfl) sh_46 rfl hs (hq s hs) ?_
                refine s_iload_n (pc' := 112) dX11_row_111 rfl rfl ?_
                refine s_iconst (pc' := 113) (v := 1) dX11_row_112 rfl (by decide) ?_
                refine s_iadd (pc' := 114) dX11_row_113 rfl ?_
                refine t_iald (pc' := 115) (q := p + 1) dX11_row_114 rfl (sh_47s hs) (nI_1 p) (by omega) ?_
                refine t_istore (pc' := 117) (L' := [.ref 0, .int _, .int _, .int _, .int _, .int _, .retAddr _]) dX11_row_115 rfl (Nat.le_of_ble_eq_true rfl) rfl ?_
                refine s_aload_n (pc' := 118) dX11_row_117 rfl rfl ?_
                refine s_getS (pc' := 121) (b := 46) dX11_row_118 rfl (by decide) rfl (by decide) fa_X11_66_11 rfl rfl ?_
                refine s_iload_n (pc' := 122) dX11_row_121 rfl rfl ?_
                refine t_aald (pc' := 123) dX11_row_122 rfl (Or.inr rfl) sh_46 rfl hs (hq s hs) ?_
                refine s_iload_n (pc' := 124) dX11_row_123 rfl rfl ?_
                refine s_iconst (pc' := 125) (v := 2) dX11_row_124 rfl (by decide) ?_
                refine s_iadd (pc' := 126) dX11_row_125 rfl ?_
                refine t_iald (pc' := 127) (q := p + 2) dX11_row_126 rfl (sh_47s hs) (nI_add p 2) (by omega) ?_
                refine t_istore (pc' := 129) (L' := [.ref 0, .int _, .int _, .int _, .int _, .int _, .int _]) dX11_row_127 rfl (Nat.le_of_ble_eq_true rfl) rfl ?_
                refine s_aload_n (pc' := 130) dX11_row_129 rfl rfl ?_
                refine s_iconst (pc' := 131) (v := 0) dX11_row_130 rfl (by decide) ?_
                refine s_iload (pc' := 133) dX11_row_131 rfl rfl ?_
                refine s_iload (pc' := 135) dX11_row_133 rfl rfl ?_
                refine s_iconst (pc' := 136) (v := 4) dX11_row_135 rfl (by decide) ?_
                refine s_ishl (pc' := 137) dX11_row_136 rfl ?_
                refine s_iload (pc' := 139) dX11_row_137 rfl rfl ?_
                refine s_iconst (pc' := 140) (v := -1) dX11_row_139 rfl (by decide) ?_
                refine s_callV (pc' := 143) (As := [.int _, .int _, .int _, .int _, .int _]) dX11_row_140 rfl mk_X11_canBeRule ml_X11_116 im_X11_canBeRule se_X11_X11_X11_canBeRule sh_0 (by decide) rfl rfl rfl ⟨Nat.le_of_ble_eq_true rfl, Nat.le_of_ble_eq_true rfl, Nat.le_of_ble_eq_true rfl, Nat.le_of_ble_eq_true rfl⟩ (Nat.le_of_ble_eq_true rfl) (c_X11_canBeRule_v X hq7 T tw (kn := 0) (by decide) (kd := 0) (by decide) (fun a ra so am b fa g => ?_) (fun z0 => ?_))
                · refine s_ifneT (tgt := 152) dX11_row_143 (by decide) (by decide) ?_
                  refine s_aload_n (pc' := 153) dX11_row_152 rfl rfl ?_
                  refine s_new (pc' := 156) (ci := 6) dX11_row_153 rfl (by decide) cl_X11_221 ib_X6 in_X6 (Nat.le_of_ble_eq_true rfl) (Nat.le_of_ble_eq_true rfl) ?_
                  refine s_dup (pc' := 157) dX11_row_156 rfl rfl ?_
                  refine s_iconst (pc' := 158) (v := 0) dX11_row_157 rfl (by decide) ?_
                  refine s_aload_n (pc' := 159) dX11_row_158 rfl rfl ?_
                  refine s_getS (pc' := 162) (b := 1) dX11_row_159 rfl (by decide) rfl (by decide) fa_X11_10_11 rfl rfl ?_
                  refine t_getI (pc' := 165) dX11_row_162 rfl sh_1 (by decide) fa_X11_133_8 rfl ?_
                  rw [zI_o (by omega), X.1.xr]
                  refine s_aload_n (pc' := 166) dX11_row_165 rfl rfl ?_
                  refine t_getR (pc' := 169) dX11_row_166 rfl sh_0 (by decide) fa_X11_48_11 rfl (by rw [zQ_o (by omega)]; exact hq7) ?_
                  refine s_iload (pc' := 171) dX11_row_169 rfl rfl ?_
                  refine s_iload (pc' := 173) dX11_row_171 rfl rfl ?_
                  refine s_iconst (pc' := 174) (v := 4) dX11_row_173 rfl (by decide) ?_
                  refine s_ishl (pc' := 175) dX11_row_174 rfl ?_
                  refine s_iload (pc' := 177) dX11_row_175 rfl rfl ?_
                  refine s_iconst (pc' := 178) (v := -1) dX11_row_177 rfl (by decide) ?_
                  refine s_callI (pc' := 181) (As := [.int _, .int _, .ref _, .int _, .int _, .int _, .int _]) dX11_row_178 rfl mk_X6_init ml_X11_333 im_X6_init rfl rfl rfl rfl ⟨Nat.le_of_ble_eq_true rfl, Nat.le_of_ble_eq_true rfl, Nat.le_of_ble_eq_true rfl, Nat.le_of_ble_eq_true rfl⟩ (Nat.le_of_ble_eq_true rfl) (c_X6_init_6 h94 (Nat.lt_succ_self _) nS_s ?_)
                  obtain ⟨I1, hI1⟩ : ∃ Y, Y = riI (zI I N) N 0 (nI nr) (I (47 + s) p) (I (47 + s) (p + 2) <<< ((4 : Int32) &&& 31)) (I (47 + s) (p + 1)) (-1) := ⟨_, rfl⟩
                  obtain ⟨Q1, hQ1⟩ : ∃ Y, Y = up2 (zQ Q N) N 2 (some t) := ⟨_, rfl⟩
                  have f1 : ∀ d, d ≠ N → I1 d = I d := fun d hd => by rw [hI1, riI_o hd, zI_o hd]
                  have q1 : ∀ d, d ≠ N → Q1 d = Q d := fun d hd => by rw [hQ1, up2_o hd, zQ_o hd]
                  have R1 : RO (N + 1) (nS S N (6, 0)) I1 Q1 (nwD D nr (nI 0) (nI a) (nI ra) (nI so) 0 0 am b fa how of num) nr N t := RO.new nwD.nw g (by decide) hn h94 T (by decide) f1 (fun j hj => by rw [hI1]; rfl) (fun z => absurd z (by decide)) (fun z => absurd z (by decide)) (by rw [hQ1, up2_s])
                  rw [← hI1, ← hQ1]
                  refine s_callV (pc' := 184) (As := [.ref _]) dX11_row_181 rfl mk_X11_entered ml_X11_124 im_X11_entered se_X11_X11_X11_entered sh_0 (by decide) rfl rfl rfl ⟨Nat.le_of_ble_eq_true rfl, Nat.le_of_ble_eq_true rfl, Nat.le_of_ble_eq_true rfl, Nat.le_of_ble_eq_true rfl⟩ (Nat.le_of_ble_eq_true rfl) (c_X11_entered_v (X.new h94 ⟨f1, q1⟩) he (D' := (nwD D nr (nI 0) (nI a) (nI ra) (nI so) 0 0 am b fa how of num)) nwD.nw g (by decide) R1 tw (ty0 (by decide) (Or.inl rfl)) (by decide) (fun e30 => ?_) (fun n30 h3 m r hm hrg I2 f2 g2 => ?_) (fun n30 hno I2 f2 X2 => ?_))
                  · exact s_iret dX11_row_184 rfl (by decide) (by decide) (absurd e30 (by omega))
                  · exact s_iret dX11_row_184 rfl (by decide) (by decide) (k7 s hs rfl i8 n30 c45 (by first | exact c62 | exact Decidable.not_not.mp c62) z hz1 hz2 p hp3 rfl a ra so am b fa (by rw [← shl16 (I (47 + s) (p + 2))]; exact g) m r hm hrg _ I1 Q1 (by decide) ⟨f1, q1⟩ I2 f2 g2)
                  · exact s_iret dX11_row_184 rfl (by decide) (by decide) (k8 s hs rfl i8 n30 c45 (by first | exact c62 | exact Decidable.not_not.mp c62) z hz1 hz2 p hp3 rfl a ra so am b fa (by rw [← shl16 (I (47 + s) (p + 2))]; exact g) (hno (by decide)) _ I1 Q1 (by decide) ⟨f1, q1⟩ I2 f2 X2)
                · refine s_ifneF (pc' := 146) (tgt := 152) dX11_row_143 (by decide) rfl (by decide) ?_
                  refine s_aload_n (pc' := 147) dX11_row_146 rfl rfl ?_
                  refine s_iconst (pc' := 148) (v := 3) dX11_row_147 rfl (by decide) ?_
                  refine s_callV (pc' := 151) (As := [.int _]) dX11_row_148 rfl mk_X11_refused ml_X11_87 im_X11_refused se_X11_X11_X11_refused sh_0 (by decide) rfl rfl rfl ⟨Nat.le_of_ble_eq_true rfl, Nat.le_of_ble_eq_true rfl, Nat.le_of_ble_eq_true rfl, Nat.le_of_ble_eq_true rfl⟩ (Nat.le_of_ble_eq_true rfl) (c_X11_refused ?_)
                  exact s_iret dX11_row_151 rfl (by decide) (by decide) (k6 s hs rfl i8 n30 c45 (by first | exact c62 | exact Decidable.not_not.mp c62) z hz1 hz2 p hp3 rfl (by rw [← shl16 (I (47 + s) (p + 2))]; exact z0))
              · refine s_aload_n (pc' := 89) dX11_row_88 rfl rfl ?_
                refine s_bipush (pc' := 91) (v := 12) dX11_row_89 rfl (by decide) ?_
                refine s_callV (pc' := 94) (As := [.int _]) dX11_row_91 rfl mk_X11_refused ml_X11_87 im_X11_refused se_X11_X11_X11_refused sh_0 (by decide) rfl rfl rfl ⟨Nat.le_of_ble_eq_true rfl, Nat.le_of_ble_eq_true rfl, Nat.le_of_ble_eq_true rfl, Nat.le_of_ble_eq_true rfl⟩ (Nat.le_of_ble_eq_true rfl) (c_X11_refused ?_)
                exact s_iret dX11_row_94 rfl (by decide) (by decide) (k5 s hs rfl i8 n30 c45 (by first | exact c62 | exact Decidable.not_not.mp c62) z hz1 hz2 (fun p2 hp2 e2 => by obtain rfl := (nI_eq hp31 (by omega)).mp e2; exact c85 (by rw [hz2]; exact (z3 hp31 hz1).mpr hp2)))
          · refine s_aload_n (pc' := 66) dX11_row_65 rfl rfl ?_
            refine s_bipush (pc' := 68) (v := 11) dX11_row_66 rfl (by decide) ?_
            refine s_callV (pc' := 71) (As := [.int _]) dX11_row_68 rfl mk_X11_refused ml_X11_87 im_X11_refused se_X11_X11_X11_refused sh_0 (by decide) rfl rfl rfl ⟨Nat.le_of_ble_eq_true rfl, Nat.le_of_ble_eq_true rfl, Nat.le_of_ble_eq_true rfl, Nat.le_of_ble_eq_true rfl⟩ (Nat.le_of_ble_eq_true rfl) (c_X11_refused ?_)
            exact s_iret dX11_row_71 rfl (by decide) (by decide) (k4 s hs rfl i8 n30 c45 c62)
        · refine s_aload_n (pc' := 49) dX11_row_48 rfl rfl ?_
          refine s_bipush (pc' := 51) (v := 10) dX11_row_49 rfl (by decide) ?_
          refine s_callV (pc' := 54) (As := [.int _]) dX11_row_51 rfl mk_X11_refused ml_X11_87 im_X11_refused se_X11_X11_X11_refused sh_0 (by decide) rfl rfl rfl ⟨Nat.le_of_ble_eq_true rfl, Nat.le_of_ble_eq_true rfl, Nat.le_of_ble_eq_true rfl, Nat.le_of_ble_eq_true rfl⟩ (Nat.le_of_ble_eq_true rfl) (c_X11_refused ?_)
          exact s_iret dX11_row_54 rfl (by decide) (by decide) (k3 s hs rfl i8 n30 (by first | exact c45 | exact Decidable.not_not.mp c45))
      · refine s_aload_n (pc' := 33) dX11_row_32 rfl rfl ?_
        refine s_iconst (pc' := 34) (v := 2) dX11_row_33 rfl (by decide) ?_
        refine s_callV (pc' := 37) (As := [.int _]) dX11_row_34 rfl mk_X11_refused ml_X11_87 im_X11_refused se_X11_X11_X11_refused sh_0 (by decide) rfl rfl rfl ⟨Nat.le_of_ble_eq_true rfl, Nat.le_of_ble_eq_true rfl, Nat.le_of_ble_eq_true rfl, Nat.le_of_ble_eq_true rfl⟩ (Nat.le_of_ble_eq_true rfl) (c_X11_refused ?_)
        exact s_iret dX11_row_37 rfl (by decide) (by decide) (k2 s hs rfl i8 (Nat.le_antisymm X.2.1.nr (Nat.le_of_not_lt (fun q => c29 (by rw [X.1.xr]; exact nI_lt (b := 30) q (by decide))))))
    · refine s_ifneF (pc' := 14) (tgt := 20) dX11_row_11 (by decide) rfl (by decide) ?_
      refine s_aload_n (pc' := 15) dX11_row_14 rfl rfl ?_
      refine s_iconst (pc' := 16) (v := 1) dX11_row_15 rfl (by decide) ?_
      refine s_callV (pc' := 19) (As := [.int _]) dX11_row_16 rfl mk_X11_refused ml_X11_87 im_X11_refused se_X11_X11_X11_refused sh_0 (by decide) rfl rfl rfl ⟨Nat.le_of_ble_eq_true rfl, Nat.le_of_ble_eq_true rfl, Nat.le_of_ble_eq_true rfl, Nat.le_of_ble_eq_true rfl⟩ (Nat.le_of_ble_eq_true rfl) (c_X11_refused ?_)
      exact s_iret dX11_row_19 rfl (by decide) (by decide) (k1 (Or.inr i8))
  · refine s_ifeqT (tgt := 14) dX11_row_4 (by decide) (by decide) ?_
    refine s_aload_n (pc' := 15) dX11_row_14 rfl rfl ?_
    refine s_iconst (pc' := 16) (v := 1) dX11_row_15 rfl (by decide) ?_
    refine s_callV (pc' := 19) (As := [.int _]) dX11_row_16 rfl mk_X11_refused ml_X11_87 im_X11_refused se_X11_X11_X11_refused sh_0 (by decide) rfl rfl rfl ⟨Nat.le_of_ble_eq_true rfl, Nat.le_of_ble_eq_true rfl, Nat.le_of_ble_eq_true rfl, Nat.le_of_ble_eq_true rfl⟩ (Nat.le_of_ble_eq_true rfl) (c_X11_refused ?_)
    exact s_iret dX11_row_19 rfl (by decide) (by decide) (k1 (Or.inl n1))
