/-! ===== a rule is entered: the class ===== -/
section EN
variable {N : Nat} {S : Nat → Nat × Nat} {I I' : Nat → Nat → Int32} {Q Q' : Nat → Nat → Option Nat} {D D' : Nat → Nat → Int32} {nv nr ns kn a ra so t c : Nat} {ty le am b fa how of num aim more amt by_ : Int32} {ad td : Nat → Nat}
theorem rdS_lt (tw : TW how of nv) (hn : nv ≤ 10) (hb : b = -1 ∨ ∃ c, c < nv ∧ b = nI c) {u : Nat} (h : bt (rdS how of b) u = true) : u < nv := by
  have hu := bt_lt h
  unfold rdS at h
  rw [bt_orI] at h
  rcases h with h | h
  · by_cases z : 2 < how
    · obtain ⟨o, o1, o2⟩ := tw.2.2 z
      rw [if_pos z, o2, bt_one (by omega) hu, decide_eq_true_iff] at h
      omega
    · rw [if_neg z, b_0] at h; cases h
  · rcases hb with z | ⟨c, c1, c2⟩
    · rw [z, if_pos (by decide), b_0] at h; cases h
    · rw [c2, if_neg (nI_n0 (by omega)), bt_one (by omega) hu, decide_eq_true_iff] at h
      omega
theorem RGO.by (g : RGO nv nr how kn aim more amt by_ a ra so am b fa) : b = -1 ∨ ∃ c, c < nv ∧ b = nI c := by
  obtain ⟨g1, g2, g3, g4, g5, g6, g7, g8, g9, g10⟩ := g
  rcases Nat.lt_or_ge 3 kn with z | z
  · exact Or.inl (g10 z).2.1
  · rcases (g9 z).2.2 with y | ⟨c, f, c1, -, -, -, c5, -⟩
    · exact Or.inl y.2.1
    · exact Or.inr ⟨c, c1, c5⟩
theorem RGO.bn (g : RGO nv nr how kn aim more amt by_ a ra so am b fa) (hn : nv ≤ 10) : b = -1 ∨ ¬ b < 0 := g.by.imp id (fun ⟨c, c1, c2⟩ => by rw [c2]; exact nI_n0 (by omega))
theorem NWD.ed (h : NWD D D' nr kn a ra so ty le am b fa how of num) (hk : kn ≤ 6) (ha : a < 30) (h3 : kn ≤ 3) : ED D nr a (rdS how of b) D' := fun v hv => by
  rw [h.nds hk ha hv]
  by_cases e : v = a
  · rw [if_pos ⟨h3, e⟩, if_pos e]
  · rw [if_neg (fun z => e z.2), if_neg e]
theorem NWD.nd0 (h : NWD D D' nr kn a ra so ty le am b fa how of num) (hk : kn ≤ 6) (h3 : 3 < kn) : CHeroSheetLaw_law_r7408_42258b.nd D' (nr + 1) = CHeroSheetLaw_law_r7408_42258b.nd D nr := by
  funext v
  rw [nd_s0 (fun z => by have := z.1; rw [h.2.2.2.2.1.1] at this; have := (nI_leI (b := 3) (by omega) (by decide)).mp this; omega), h.2.2.2.1.ndf]
theorem NWD.f6 (h : NWD D D' nr kn a ra so ty le am b fa how of num) (hk : kn ≤ 6) (R : RO N S I Q D' nr c t) : I c 6 = if kn ≤ 3 then nI a else -1 := by
  rw [R.f6, h.2.2.2.2.1.1, h.2.2.2.2.1.2.1]
  have k3 : (nI kn ≤ 3 ↔ kn ≤ 3) := nI_leI (b := 3) (by omega) (by decide)
  by_cases z : kn ≤ 3
  · rw [if_pos z, if_pos (k3.mpr z)]
  · rw [if_neg z, if_neg (fun y => z (k3.mp y))]
theorem ANI.xs (an : ANI (up2 I 1 7 (nI (nr + 1))) I' nv a (rdS how of b)) (X : XS N S I Q D nv nr ns ad td 0) (h : NWD D D' nr kn a ra so ty le am b fa how of num) (hk : kn ≤ 6) (hn : nv ≤ 10) (h3 : kn ≤ 3) (ha : a < 30) (R : RO N S I Q D' nr c t) : XS N S I' (up2 Q 8 nr (some c)) D' nv (nr + 1) ns (fu ad nr c) (fu td nr t) 0 := by
  have ed := h.ed hk ha h3
  refine X.nw h R (fun j hj => ?_) ?_ (fun d hd => ?_) (fun v hv => ?_) rfl (fun d hd => up2_o (by omega))
  · rw [an.1 1 (by decide) (by decide), up2_e hj]
  · rw [an.1 1 (by decide) (by decide), up2_s]
  · rw [an.1 d (by omega) (by omega), up2_o (by omega)]
  · rw [an.2.1 v hv, up2_o (by decide), ed v (by omega), show I 6 v = _ from (X.2.1 v hv).2.2.2.2]
theorem ANI.nt (an : ANI (up2 I 1 7 (nI (nr + 1))) I' nv a (rdS how of b)) (hW : DW D nv nr ns) (hN : NT I D nv nr 0) (h : NWD D D' nr kn a ra so ty le am b fa how of num) (hk : kn ≤ 6) (h3 : kn ≤ 3) (ha : a < nv) (hrd : ∀ u, bt (rdS how of b) u = true → u < nv) : NT I' D' nv (nr + 1) 0 := by
  have hn := hW.nv
  have ed := h.ed hk (by omega) h3
  intro v hv u
  have q := an.2.2 v hv u
  rw [up2_o (by decide)] at q
  rw [show I' (0 + 7) = I' 7 from rfl, q, ed.rc hW ha hrd hv]
  have e : ∀ x, x < nv → ∀ y, (bt (I 7 x) y = true ↔ RC D nr x y) := fun x hx y => hN x hx y
  rw [e v hv u, e v hv a]
  constructor
  · rintro (z | ⟨z1, z2 | ⟨x, x1, x2, x3⟩⟩)
    · exact Or.inl z
    · exact Or.inr ⟨z1, Or.inl z2⟩
    · exact Or.inr ⟨z1, Or.inr ⟨x, x2, (e x x1 u).mp x3⟩⟩
  · rintro (z | ⟨z1, z2 | ⟨x, x2, x3⟩⟩)
    · exact Or.inl z
    · exact Or.inr ⟨z1, Or.inl z2⟩
    · exact Or.inr ⟨z1, Or.inr ⟨x, hrd x x2, x2, (e x (hrd x x2) u).mpr x3⟩⟩
theorem NWD.xs0 (X : XS N S I Q D nv nr ns ad td 0) (h : NWD D D' nr kn a ra so ty le am b fa how of num) (hk : kn ≤ 6) (h3 : 3 < kn) (R : RO N S I Q D' nr c t) : XS N S (up2 I 1 7 (nI (nr + 1))) (up2 Q 8 nr (some c)) D' nv (nr + 1) ns (fu ad nr c) (fu td nr t) 0 := by
  refine X.nw h R (fun j hj => up2_e hj) up2_s (fun d hd => up2_o (by omega)) (fun v hv => ?_) rfl (fun d hd => up2_o (by omega))
  rw [up2_o (by decide), h.nd0 hk h3]; exact (X.2.1 v hv).2.2.2.2
theorem NWD.nt0 (h : NWD D D' nr kn a ra so ty le am b fa how of num) (hk : kn ≤ 6) (h3 : 3 < kn) (hN : NT I D nv nr 0) : NT (up2 I 1 7 (nI (nr + 1))) D' nv (nr + 1) 0 := by
  unfold NT RC
  rw [h.nd0 hk h3, up2_o (by decide)]
  exact hN
theorem NWD.ac0 (h : NWD D D' nr kn a ra so ty le am b fa how of num) (hk : kn ≤ 6) (h3 : 3 < kn) (hA : AC D nv nr) : AC D' nv (nr + 1) := by
  unfold AC; rw [h.nd0 hk h3]; exact hA
end EN
set_option maxHeartbeats 200000 in
theorem c_X8_addRule_v {N : Nat} {S : Nat → Nat × Nat} {I : Nat → Nat → Int32} {J : Nat → Nat → Int64} {Q : Nat → Nat → Option Nat} {κ : Option Value → HP → Prop} {D : Nat → Nat → Int32} {nv nr ns : Nat} {ad td : Nat → Nat} (X : XS N S I Q D nv nr ns ad td 0) (hW : DW D nv nr ns) {D' : Nat → Nat → Int32} {kn a ra so t c : Nat} {ty le am b fa how of num aim more amt by_ : Int32} (h : NWD D D' nr kn a ra so ty le am b fa how of num) (g : RGO nv nr how kn aim more amt by_ a ra so am b fa) (hk6 : kn ≤ 6) (hN : NT I D nv nr 0) (R : RO N S I Q D' nr c t) (hr : nr < 30) (h3 : kn ≤ 3) (tw : TW how of nv) (hk : ∀ I', (∀ d, d ≠ 1 → d ≠ 6 → d ≠ 7 → I' d = I d) → XS N S I' (up2 Q 8 nr (some c)) D' nv (nr + 1) ns (fu ad nr c) (fu td nr t) 0 → NT I' D' nv (nr + 1) 0 → κ none (N, S, I', J, (up2 Q 8 nr (some c)))) : CT E1 M_X8_addRule [.ref 1, .ref c] (N, S, I, J, Q) κ := by
  refine ofSP mk_X8_addRule (Nat.le_of_ble_eq_true rfl) (L := [.ref 1, .ref _]) rfl ?_
  have hr7 := X.xr
  have hn := hW.nv
  refine s_aload_n (pc' := 1) dX8_addRule_0 rfl rfl ?_
  refine s_getS (pc' := 4) (b := 8) dX8_addRule_1 rfl (by decide) rfl (by decide) fa_X8_39_8 rfl rfl ?_
  refine s_aload_n (pc' := 5) dX8_addRule_4 rfl rfl ?_
  refine t_getI (pc' := 8) dX8_addRule_5 rfl sh_1 (by decide) fa_X8_34_8 rfl ?_
  refine s_aload_n (pc' := 9) dX8_addRule_8 rfl rfl ?_
  refine t_aast (pc' := 10) (q := nr) dX8_addRule_9 rfl sh_8 hr7 hr R.sh (kc_rk _) (fun _ _ => rfl) ?_
  refine s_aload_n (pc' := 11) dX8_addRule_10 rfl rfl ?_
  refine s_dup (pc' := 12) dX8_addRule_11 rfl rfl ?_
  refine t_getI (pc' := 15) dX8_addRule_12 rfl sh_1 (by decide) fa_X8_34_8 rfl ?_
  rw [hr7]
  refine s_iconst (pc' := 16) (v := 1) dX8_addRule_15 rfl (by decide) ?_
  refine s_iadd (pc' := 17) dX8_addRule_16 rfl ?_
  rw [nI_1]
  refine t_putI (pc' := 20) dX8_addRule_17 rfl sh_1 (by decide) fa_X8_34_8 (Or.inl rfl) rfl rfl rfl ?_
  refine s_aload_n (pc' := 21) dX8_addRule_20 rfl rfl ?_
  refine t_getI (pc' := 24) (j := 6) dX8_addRule_21 rfl R.sh (rk_lt (kc_rk _)) (fr_X8_73 (kc_rk _)) (by rw [rk_ft (kc_rk _) (by decide)]; rfl) ?_
  rw [up2_d (by have := R.ge; omega), h.f6 hk6 R, if_pos h3]
  refine s_iconst (pc' := 25) (v := -1) dX8_addRule_24 rfl (by decide) ?_
  refine s_icmpeqF (pc' := 28) (tgt := 40) dX8_addRule_25 (by decide) rfl (nI_nm (by have := g.2.1; omega)) ?_
  refine s_aload_n (pc' := 29) dX8_addRule_28 rfl rfl ?_
  refine s_aload_n (pc' := 30) dX8_addRule_29 rfl rfl ?_
  refine t_getI (pc' := 33) (j := 6) dX8_addRule_30 rfl R.sh (rk_lt (kc_rk _)) (fr_X8_73 (kc_rk _)) (by rw [rk_ft (kc_rk _) (by decide)]; rfl) ?_
  rw [up2_d (by have := R.ge; omega), h.f6 hk6 R, if_pos h3]
  refine s_aload_n (pc' := 34) dX8_addRule_33 rfl rfl ?_
  refine s_callU (pc' := 37) (owner := RX6) (As := []) dX8_addRule_34 rfl mk_X6_readBits ml_X8_76 sw_X6_X6_readBits im_X6_readBits mk_X6_readBits.1 mk_X6_readBits.2.2.1 (sel_readBits (kc_rk _)) im_X6_readBits R.sh (rk_lt (kc_rk _)) rfl rfl ⟨Nat.le_of_ble_eq_true rfl, Nat.le_of_ble_eq_true rfl, Nat.le_of_ble_eq_true rfl, Nat.le_of_ble_eq_true rfl⟩ (Nat.le_of_ble_eq_true rfl) (c_X6_readBits (D := D') (r := nr) (R.mv (fun d hd => up2_o (by omega)) (fun d hd => up2_o (by omega))) (by rw [h.2.2.2.2.2.2.2.2.1]; exact tw.1) (by rw [h.2.2.2.2.2.2.1]; exact g.bn hn) ?_)
  rw [h.rb]
  refine s_callV (pc' := 40) (As := [.int _, .int _]) dX8_addRule_37 rfl mk_X8_addNeeds ml_X8_80 im_X8_addNeeds se_X8_X8_X8_addNeeds sh_1 (by decide) rfl rfl rfl ⟨Nat.le_of_ble_eq_true rfl, Nat.le_of_ble_eq_true rfl, Nat.le_of_ble_eq_true rfl, Nat.le_of_ble_eq_true rfl⟩ (Nat.le_of_ble_eq_true rfl) (c_X8_addNeeds (nv := nv) (w := a) (by rw [up2_e (by decide)]; exact X.xv) hn (g.2.2.1 h3) (fun I1 an => ?_))
  exact s_vret dX8_addRule_40 rfl (by decide) (by decide) (hk I1 (fun d d1 d2 d3 => by rw [an.1 d d2 d3, up2_o d1]) (an.xs X h hk6 hn h3 g.2.1 R) (an.nt hW hN h hk6 h3 (g.2.2.1 h3) (fun u hu => rdS_lt tw hn g.by hu)))
set_option maxHeartbeats 200000 in
theorem c_X8_addRule_n {N : Nat} {S : Nat → Nat × Nat} {I : Nat → Nat → Int32} {J : Nat → Nat → Int64} {Q : Nat → Nat → Option Nat} {κ : Option Value → HP → Prop} {D : Nat → Nat → Int32} {nv nr ns : Nat} {ad td : Nat → Nat} (X : XS N S I Q D nv nr ns ad td 0) (hW : DW D nv nr ns) {D' : Nat → Nat → Int32} {kn a ra so t c : Nat} {ty le am b fa how of num aim more amt by_ : Int32} (h : NWD D D' nr kn a ra so ty le am b fa how of num) (g : RGO nv nr how kn aim more amt by_ a ra so am b fa) (hk6 : kn ≤ 6) (hN : NT I D nv nr 0) (R : RO N S I Q D' nr c t) (hr : nr < 30) (h3 : 3 < kn) (tw : TW how of nv) (hk : ∀ I', (∀ d, d ≠ 1 → d ≠ 6 → d ≠ 7 → I' d = I d) → XS N S I' (up2 Q 8 nr (some c)) D' nv (nr + 1) ns (fu ad nr c) (fu td nr t) 0 → NT I' D' nv (nr + 1) 0 → κ none (N, S, I', J, (up2 Q 8 nr (some c)))) : CT E1 M_X8_addRule [.ref 1, .ref c] (N, S, I, J, Q) κ := by
  refine ofSP mk_X8_addRule (Nat.le_of_ble_eq_true rfl) (L := [.ref 1, .ref _]) rfl ?_
  have hr7 := X.xr
  have hn := hW.nv
  refine s_aload_n (pc' := 1) dX8_addRule_0 rfl rfl ?_
  refine s_getS (pc' := 4) (b := 8) dX8_addRule_1 rfl (by decide) rfl (by decide) fa_X8_39_8 rfl rfl ?_
  refine s_aload_n (pc' := 5) dX8_addRule_4 rfl rfl ?_
  refine t_getI (pc' := 8) dX8_addRule_5 rfl sh_1 (by decide) fa_X8_34_8 rfl ?_
  refine s_aload_n (pc' := 9) dX8_addRule_8 rfl rfl ?_
  refine t_aast (pc' := 10) (q := nr) dX8_addRule_9 rfl sh_8 hr7 hr R.sh (kc_rk _) (fun _ _ => rfl) ?_
  refine s_aload_n (pc' := 11) dX8_addRule_10 rfl rfl ?_
  refine s_dup (pc' := 12) dX8_addRule_11 rfl rfl ?_
  refine t_getI (pc' := 15) dX8_addRule_12 rfl sh_1 (by decide) fa_X8_34_8 rfl ?_
  rw [hr7]
  refine s_iconst (pc' := 16) (v := 1) dX8_addRule_15 rfl (by decide) ?_
  refine s_iadd (pc' := 17) dX8_addRule_16 rfl ?_
  rw [nI_1]
  refine t_putI (pc' := 20) dX8_addRule_17 rfl sh_1 (by decide) fa_X8_34_8 (Or.inl rfl) rfl rfl rfl ?_
  refine s_aload_n (pc' := 21) dX8_addRule_20 rfl rfl ?_
  refine t_getI (pc' := 24) (j := 6) dX8_addRule_21 rfl R.sh (rk_lt (kc_rk _)) (fr_X8_73 (kc_rk _)) (by rw [rk_ft (kc_rk _) (by decide)]; rfl) ?_
  rw [up2_d (by have := R.ge; omega), h.f6 hk6 R, if_neg (by omega)]
  refine s_iconst (pc' := 25) (v := -1) dX8_addRule_24 rfl (by decide) ?_
  refine s_icmpeqT (tgt := 40) dX8_addRule_25 (by decide) rfl ?_
  exact s_vret dX8_addRule_40 rfl (by decide) (by decide) (hk _ (fun d d1 _ _ => up2_o d1) (h.xs0 X hk6 h3 R) (h.nt0 hk6 h3 hN))
set_option maxHeartbeats 200000 in
theorem c_X11_entered_v {N : Nat} {S : Nat → Nat × Nat} {I : Nat → Nat → Int32} {J : Nat → Nat → Int64} {Q : Nat → Nat → Option Nat} {κ : Option Value → HP → Prop} {D : Nat → Nat → Int32} {nv nr ns : Nat} {ad td : Nat → Nat} {e : Nat} (X : XB N S I J Q D nv nr ns ad td e) (he : e + 1 < 2 ^ 30) {D' : Nat → Nat → Int32} {kn a ra so t c : Nat} {ty le am b fa how of num aim more amt by_ : Int32} (h : NWD D D' nr kn a ra so ty le am b fa how of num) (g : RGO nv nr how kn aim more amt by_ a ra so am b fa) (hk6 : kn ≤ 6) (R : RO N S I Q D' nr c t) (tw : TW how of nv) (hy : TYO kn ty le) (h3 : kn ≤ 3) (k1 : nr = 30 → κ (some (.int (-1))) (N, S, up2 I 0 5 2, J, Q)) (k2 : nr < 30 → kn ≤ 3 → ∀ m r, MNR D nr a (rdS how of b) m → RNG D nr a (rdS how of b) m r → ∀ I', (∀ d, d ≠ 43 → d ≠ 44 → I' d = I d) → (∀ i, i ≤ m → I' 43 i = nI (r i)) → κ (some (.int (-1))) (N, S, up2 (up2 I' 0 10 (nI (m + 1))) 0 5 4, J, Q)) (k3 : nr < 30 → (kn ≤ 3 → ∀ v, v < 10 → bt (rdS how of b) v = true → dst D nr a v = 100) → ∀ I', (∀ d, (d = 0 ∨ 11 < d) → d ≠ 23 → d ≠ 29 → d ≠ 30 → d ≠ 31 → d ≠ 44 → I' d = I d) → XB N S I' J (up2 Q 8 nr (some c)) D' nv (nr + 1) ns (fu ad nr c) (fu td nr t) (e + 1) → κ (some (.int (nI nr))) (N, S, up2 I' 0 5 0, J, (up2 Q 8 nr (some c)))) : CT E1 M_X11_entered [.ref 0, .ref c] (N, S, I, J, Q) κ := by
  refine ofSP mk_X11_entered (Nat.le_of_ble_eq_true rfl) (L := [.ref 0, .ref _]) rfl ?_
  have hn := X.2.1.nv
  have ha30 := g.2.1
  refine s_aload_n (pc' := 1) dX11_entered_0 rfl rfl ?_
  refine s_getS (pc' := 4) (b := 1) dX11_entered_1 rfl (by decide) rfl (by decide) fa_X11_10_11 rfl rfl ?_
  refine t_getI (pc' := 7) dX11_entered_4 rfl sh_1 (by decide) fa_X11_133_8 rfl ?_
  refine s_bipush (pc' := 9) (v := 30) dX11_entered_7 rfl (by decide) ?_
  refine s_icmplt (pc' := 12) (tgt := 18) dX11_entered_9 (by decide) rfl (fun c9 => ?_) (fun c9 => ?_)
  · have n30 : nr < 30 := by rw [X.1.xr] at c9; exact (nI_ltI (b := 30) (by have := X.2.1.nr; omega) (by decide)).mp c9
    have W2 := h.dw X.2.1 n30 g hk6 tw hy
    refine s_aload_n (pc' := 19) dX11_entered_18 rfl rfl ?_
    refine t_getI (pc' := 22) (j := 6) dX11_entered_19 rfl R.sh (rk_lt (kc_rk _)) (fr_X11_250 (kc_rk _)) (by rw [rk_ft (kc_rk _) (by decide)]; rfl) ?_
    rw [h.f6 hk6 R, if_pos h3]
    refine s_iconst (pc' := 23) (v := -1) dX11_entered_22 rfl (by decide) ?_
    refine s_icmpeqF (pc' := 26) (tgt := 47) dX11_entered_23 (by decide) rfl (nI_nm (by omega)) ?_
    refine s_aload_n (pc' := 27) dX11_entered_26 rfl rfl ?_
    refine s_aload_n (pc' := 28) dX11_entered_27 rfl rfl ?_
    refine t_getI (pc' := 31) (j := 6) dX11_entered_28 rfl R.sh (rk_lt (kc_rk _)) (fr_X11_250 (kc_rk _)) (by rw [rk_ft (kc_rk _) (by decide)]; rfl) ?_
    rw [h.f6 hk6 R, if_pos h3]
    refine s_aload_n (pc' := 32) dX11_entered_31 rfl rfl ?_
    refine s_callU (pc' := 35) (owner := RX6) (As := []) dX11_entered_32 rfl mk_X6_readBits ml_X11_387 sw_X6_X6_readBits im_X6_readBits mk_X6_readBits.1 mk_X6_readBits.2.2.1 (sel_readBits (kc_rk _)) im_X6_readBits R.sh (rk_lt (kc_rk _)) rfl rfl ⟨Nat.le_of_ble_eq_true rfl, Nat.le_of_ble_eq_true rfl, Nat.le_of_ble_eq_true rfl, Nat.le_of_ble_eq_true rfl⟩ (Nat.le_of_ble_eq_true rfl) (c_X6_readBits (D := D') (r := nr) R (by rw [h.2.2.2.2.2.2.2.2.1]; exact tw.1) (by rw [h.2.2.2.2.2.2.1]; exact g.bn hn) ?_)
    rw [h.rb]
    obtain ⟨ord, st, har⟩ := X.2.2.2.2.1
    have rk := RKP.of X.2.1 har (g.2.2.1 h3)
    refine s_callV (pc' := 38) (As := [.int _, .int _]) dX11_entered_35 rfl mk_X11_closesRing ml_X11_388 im_X11_closesRing se_X11_X11_X11_closesRing sh_0 (by decide) rfl rfl rfl ⟨Nat.le_of_ble_eq_true rfl, Nat.le_of_ble_eq_true rfl, Nat.le_of_ble_eq_true rfl, Nat.le_of_ble_eq_true rfl⟩ (Nat.le_of_ble_eq_true rfl) (c_X11_closesRing rk X.1.xv (fun v hv => (X.1.2.1 v hv).2.2.2.2) (fun hno I1 f1 => ?_) (fun m r hm hrg I1 f1 g43 => ?_))
    · refine s_ifeqT (tgt := 47) dX11_entered_38 (by decide) (by decide) ?_
      refine s_aload_n (pc' := 48) dX11_entered_47 rfl rfl ?_
      refine s_getS (pc' := 51) (b := 1) dX11_entered_48 rfl (by decide) rfl (by decide) fa_X11_10_11 rfl rfl ?_
      refine s_aload_n (pc' := 52) dX11_entered_51 rfl rfl ?_
      refine s_callV (pc' := 55) (As := [.ref _]) dX11_entered_52 rfl mk_X8_addRule ml_X11_391 im_X8_addRule se_X8_X8_X8_addRule sh_1 (by decide) rfl rfl rfl ⟨Nat.le_of_ble_eq_true rfl, Nat.le_of_ble_eq_true rfl, Nat.le_of_ble_eq_true rfl, Nat.le_of_ble_eq_true rfl⟩ (Nat.le_of_ble_eq_true rfl) (c_X8_addRule_v (X.1.mv (fun d d1 d2 _ => f1 d (by omega)) rfl (fun d hd => f1 d (by omega)) (fun _ _ => rfl)) X.2.1 h g hk6 (fun v hv u => by rw [f1 (0 + 7) (by decide)]; exact X.2.2.2.1 v hv u) (R.mv (fun d hd => f1 d (by omega)) (fun _ _ => rfl)) n30 h3 tw (fun I2 f2 X2 T2 => ?_))
      refine s_aload_n (pc' := 56) dX11_entered_55 rfl rfl ?_
      refine s_getS (pc' := 59) (b := 23) dX11_entered_56 rfl (by decide) rfl (by decide) fa_X11_24_11 rfl rfl ?_
      refine s_callV (pc' := 62) (As := []) dX11_entered_59 rfl mk_X1_forget ml_X11_97 im_X1_forget se_X1_X1_X1_forget sh_23 (by decide) rfl rfl rfl ⟨Nat.le_of_ble_eq_true rfl, Nat.le_of_ble_eq_true rfl, Nat.le_of_ble_eq_true rfl, Nat.le_of_ble_eq_true rfl⟩ (Nat.le_of_ble_eq_true rfl) (c_X1_forget X2 W2 ((h.ed hk6 ha30 h3).ac rk X.2.2.1 hno) T2 (by rw [show I2 31 = I 31 from (by rw [f2 31 (by decide) (by decide) (by decide), f1 31 (by decide)])]; exact X.2.2.2.2.2.1) (J0 := J) (e := e) (BK.hd X.2.2.2.2.2.2 (by rw [f2 23 (by decide) (by decide) (by decide), f1 23 (by decide)]) (by rw [f2 36 (by decide) (by decide) (by decide), f1 36 (by decide)]) (by rw [f2 37 (by decide) (by decide) (by decide), f1 37 (by decide)])) he (fun I3 f3 X3 => ?_))
      refine s_aload_n (pc' := 63) dX11_entered_62 rfl rfl ?_
      refine s_aload_n (pc' := 64) dX11_entered_63 rfl rfl ?_
      refine t_getI (pc' := 67) (j := 1) dX11_entered_64 rfl R.sh (rk_lt (kc_rk _)) (fr_X11_395 (kc_rk _)) (by rw [rk_ft (kc_rk _) (by decide)]; rfl) ?_
      rw [show I3 c 1 = nI nr from by rw [f3 c (by have := R.ge; omega) (by have := R.ge; omega) (by have := R.ge; omega) (by have := R.ge; omega), f2 c (by have := R.ge; omega) (by have := R.ge; omega) (by have := R.ge; omega), f1 c (by have := R.ge; omega)]; exact R.f1]
      refine s_callV (pc' := 70) (As := [.int _]) dX11_entered_67 rfl mk_X11_done ml_X11_100 im_X11_done se_X11_X11_X11_done sh_0 (by decide) rfl rfl rfl ⟨Nat.le_of_ble_eq_true rfl, Nat.le_of_ble_eq_true rfl, Nat.le_of_ble_eq_true rfl, Nat.le_of_ble_eq_true rfl⟩ (Nat.le_of_ble_eq_true rfl) (c_X11_done ?_)
      exact s_iret dX11_entered_70 rfl (by decide) (by decide) (k3 n30 (fun _ => hno) I3 (fun d d0 d1 d2 d3 d4 d5 => by rw [f3 d d1 d2 d3 d4, f2 d (by omega) (by omega) (by omega), f1 d d5]) X3)
    · refine s_ifeqF (pc' := 41) (tgt := 47) dX11_entered_38 (by decide) rfl (by decide) ?_
      refine s_aload_n (pc' := 42) dX11_entered_41 rfl rfl ?_
      refine s_iconst (pc' := 43) (v := 4) dX11_entered_42 rfl (by decide) ?_
      refine s_callV (pc' := 46) (As := [.int _]) dX11_entered_43 rfl mk_X11_refused ml_X11_87 im_X11_refused se_X11_X11_X11_refused sh_0 (by decide) rfl rfl rfl ⟨Nat.le_of_ble_eq_true rfl, Nat.le_of_ble_eq_true rfl, Nat.le_of_ble_eq_true rfl, Nat.le_of_ble_eq_true rfl⟩ (Nat.le_of_ble_eq_true rfl) (c_X11_refused ?_)
      exact s_iret dX11_entered_46 rfl (by decide) (by decide) (k2 n30 h3 m r hm hrg I1 f1 g43)
  · refine s_aload_n (pc' := 13) dX11_entered_12 rfl rfl ?_
    refine s_iconst (pc' := 14) (v := 2) dX11_entered_13 rfl (by decide) ?_
    refine s_callV (pc' := 17) (As := [.int _]) dX11_entered_14 rfl mk_X11_refused ml_X11_87 im_X11_refused se_X11_X11_X11_refused sh_0 (by decide) rfl rfl rfl ⟨Nat.le_of_ble_eq_true rfl, Nat.le_of_ble_eq_true rfl, Nat.le_of_ble_eq_true rfl, Nat.le_of_ble_eq_true rfl⟩ (Nat.le_of_ble_eq_true rfl) (c_X11_refused ?_)
    exact s_iret dX11_entered_17 rfl (by decide) (by decide) (k1 (Nat.le_antisymm X.2.1.nr (Nat.le_of_not_lt (fun z => c9 (by rw [X.1.xr]; exact nI_lt (b := 30) z (by decide))))))
set_option maxHeartbeats 200000 in
theorem c_X11_entered_n {N : Nat} {S : Nat → Nat × Nat} {I : Nat → Nat → Int32} {J : Nat → Nat → Int64} {Q : Nat → Nat → Option Nat} {κ : Option Value → HP → Prop} {D : Nat → Nat → Int32} {nv nr ns : Nat} {ad td : Nat → Nat} {e : Nat} (X : XB N S I J Q D nv nr ns ad td e) (he : e + 1 < 2 ^ 30) {D' : Nat → Nat → Int32} {kn a ra so t c : Nat} {ty le am b fa how of num aim more amt by_ : Int32} (h : NWD D D' nr kn a ra so ty le am b fa how of num) (g : RGO nv nr how kn aim more amt by_ a ra so am b fa) (hk6 : kn ≤ 6) (R : RO N S I Q D' nr c t) (tw : TW how of nv) (hy : TYO kn ty le) (h3 : 3 < kn) (k1 : nr = 30 → κ (some (.int (-1))) (N, S, up2 I 0 5 2, J, Q)) (k3 : nr < 30 → (kn ≤ 3 → ∀ v, v < 10 → bt (rdS how of b) v = true → dst D nr a v = 100) → ∀ I', (∀ d, (d = 0 ∨ 11 < d) → d ≠ 23 → d ≠ 29 → d ≠ 30 → d ≠ 31 → d ≠ 44 → I' d = I d) → XB N S I' J (up2 Q 8 nr (some c)) D' nv (nr + 1) ns (fu ad nr c) (fu td nr t) (e + 1) → κ (some (.int (nI nr))) (N, S, up2 I' 0 5 0, J, (up2 Q 8 nr (some c)))) : CT E1 M_X11_entered [.ref 0, .ref c] (N, S, I, J, Q) κ := by
  refine ofSP mk_X11_entered (Nat.le_of_ble_eq_true rfl) (L := [.ref 0, .ref _]) rfl ?_
  have hn := X.2.1.nv
  have ha30 := g.2.1
  refine s_aload_n (pc' := 1) dX11_entered_0 rfl rfl ?_
  refine s_getS (pc' := 4) (b := 1) dX11_entered_1 rfl (by decide) rfl (by decide) fa_X11_10_11 rfl rfl ?_
  refine t_getI (pc' := 7) dX11_entered_4 rfl sh_1 (by decide) fa_X11_133_8 rfl ?_
  refine s_bipush (pc' := 9) (v := 30) dX11_entered_7 rfl (by decide) ?_
  refine s_icmplt (pc' := 12) (tgt := 18) dX11_entered_9 (by decide) rfl (fun c9 => ?_) (fun c9 => ?_)
  · have n30 : nr < 30 := by rw [X.1.xr] at c9; exact (nI_ltI (b := 30) (by have := X.2.1.nr; omega) (by decide)).mp c9
    have W2 := h.dw X.2.1 n30 g hk6 tw hy
    refine s_aload_n (pc' := 19) dX11_entered_18 rfl rfl ?_
    refine t_getI (pc' := 22) (j := 6) dX11_entered_19 rfl R.sh (rk_lt (kc_rk _)) (fr_X11_250 (kc_rk _)) (by rw [rk_ft (kc_rk _) (by decide)]; rfl) ?_
    rw [h.f6 hk6 R, if_neg (by omega)]
    refine s_iconst (pc' := 23) (v := -1) dX11_entered_22 rfl (by decide) ?_
    refine s_icmpeqT (tgt := 47) dX11_entered_23 (by decide) rfl ?_
    refine s_aload_n (pc' := 48) dX11_entered_47 rfl rfl ?_
    refine s_getS (pc' := 51) (b := 1) dX11_entered_48 rfl (by decide) rfl (by decide) fa_X11_10_11 rfl rfl ?_
    refine s_aload_n (pc' := 52) dX11_entered_51 rfl rfl ?_
    refine s_callV (pc' := 55) (As := [.ref _]) dX11_entered_52 rfl mk_X8_addRule ml_X11_391 im_X8_addRule se_X8_X8_X8_addRule sh_1 (by decide) rfl rfl rfl ⟨Nat.le_of_ble_eq_true rfl, Nat.le_of_ble_eq_true rfl, Nat.le_of_ble_eq_true rfl, Nat.le_of_ble_eq_true rfl⟩ (Nat.le_of_ble_eq_true rfl) (c_X8_addRule_n X.1 X.2.1 h g hk6 X.2.2.2.1 R n30 h3 tw (fun I2 f2 X2 T2 => ?_))
    refine s_aload_n (pc' := 56) dX11_entered_55 rfl rfl ?_
    refine s_getS (pc' := 59) (b := 23) dX11_entered_56 rfl (by decide) rfl (by decide) fa_X11_24_11 rfl rfl ?_
    refine s_callV (pc' := 62) (As := []) dX11_entered_59 rfl mk_X1_forget ml_X11_97 im_X1_forget se_X1_X1_X1_forget sh_23 (by decide) rfl rfl rfl ⟨Nat.le_of_ble_eq_true rfl, Nat.le_of_ble_eq_true rfl, Nat.le_of_ble_eq_true rfl, Nat.le_of_ble_eq_true rfl⟩ (Nat.le_of_ble_eq_true rfl) (c_X1_forget X2 W2 (h.ac0 hk6 h3 X.2.2.1) T2 (by rw [show I2 31 = I 31 from (by rw [f2 31 (by decide) (by decide) (by decide)])]; exact X.2.2.2.2.2.1) (J0 := J) (e := e) (BK.hd X.2.2.2.2.2.2 (by rw [f2 23 (by decide) (by decide) (by decide)]) (by rw [f2 36 (by decide) (by decide) (by decide)]) (by rw [f2 37 (by decide) (by decide) (by decide)])) he (fun I3 f3 X3 => ?_))
    refine s_aload_n (pc' := 63) dX11_entered_62 rfl rfl ?_
    refine s_aload_n (pc' := 64) dX11_entered_63 rfl rfl ?_
    refine t_getI (pc' := 67) (j := 1) dX11_entered_64 rfl R.sh (rk_lt (kc_rk _)) (fr_X11_395 (kc_rk _)) (by rw [rk_ft (kc_rk _) (by decide)]; rfl) ?_
    rw [show I3 c 1 = nI nr from by rw [f3 c (by have := R.ge; omega) (by have := R.ge; omega) (by have := R.ge; omega) (by have := R.ge; omega), f2 c (by have := R.ge; omega) (by have := R.ge; omega) (by have := R.ge; omega)]; exact R.f1]
    refine s_callV (pc' := 70) (As := [.int _]) dX11_entered_67 rfl mk_X11_done ml_X11_100 im_X11_done se_X11_X11_X11_done sh_0 (by decide) rfl rfl rfl ⟨Nat.le_of_ble_eq_true rfl, Nat.le_of_ble_eq_true rfl, Nat.le_of_ble_eq_true rfl, Nat.le_of_ble_eq_true rfl⟩ (Nat.le_of_ble_eq_true rfl) (c_X11_done ?_)
    exact s_iret dX11_entered_70 rfl (by decide) (by decide) (k3 n30 (fun z => absurd z (by omega)) I3 (fun d d0 d1 d2 d3 d4 d5 => by rw [f3 d d1 d2 d3 d4, f2 d (by omega) (by omega) (by omega)]) X3)
  · refine s_aload_n (pc' := 13) dX11_entered_12 rfl rfl ?_
    refine s_iconst (pc' := 14) (v := 2) dX11_entered_13 rfl (by decide) ?_
    refine s_callV (pc' := 17) (As := [.int _]) dX11_entered_14 rfl mk_X11_refused ml_X11_87 im_X11_refused se_X11_X11_X11_refused sh_0 (by decide) rfl rfl rfl ⟨Nat.le_of_ble_eq_true rfl, Nat.le_of_ble_eq_true rfl, Nat.le_of_ble_eq_true rfl, Nat.le_of_ble_eq_true rfl⟩ (Nat.le_of_ble_eq_true rfl) (c_X11_refused ?_)
    exact s_iret dX11_entered_17 rfl (by decide) (by decide) (k1 (Nat.le_antisymm X.2.1.nr (Nat.le_of_not_lt (fun z => c9 (by rw [X.1.xr]; exact nI_lt (b := 30) z (by decide))))))
