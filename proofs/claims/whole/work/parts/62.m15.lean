theorem LDM.rd {I : Nat → Nat → Int32} {D : Nat → Nat → Int32} {nv nr ns go k c : Nat} (F : LDM I D nv nr ns go k) (hk : k < 256) (hc : c < 8) (hx : bt (nI (255 - k)) c = false) : wib (255 - k) c < 256 ∧ wib (255 - k) c ≠ 255 - k ∧ I 87 (wib (255 - k) c) = b2 (ldF D nv nr ns go k (wib (255 - k) c)) := by
  have h := wib_ix (255 - k) (by omega) c hc
  have h2 := h.2.2 hx
  exact ⟨h.2.1, by omega, F _ (by omega) h.2.1⟩
theorem lfv {D : Nat → Nat → Int32} {nv nr ns go k : Nat} (hk : k < 256) (hw : nI (255 - k) &&& (nI go ^^^ (-1)) = 0) (hl : LW D nv nr ns (255 - k) = true) : wv D nv nr ns go (255 - k) (ldF D nv nr ns go k) 8 = ldF D nv nr ns go (k + 1) (255 - k) := by
  rw [ldF_s hk, decide_eq_true hw, Bool.true_and, hl, Bool.and_true]
  unfold wv
  rw [hl, Bool.and_true]
theorem lfz {D : Nat → Nat → Int32} {nv nr ns go k : Nat} (hk : k < 256) (hgo : go < 256) (h : ¬ (nI (255 - k) &&& (nI go ^^^ (-1)) = 0 ∧ LW D nv nr ns (255 - k) = true)) : ldF D nv nr ns go (k + 1) (255 - k) = (decide (255 - k = go) && LW D nv nr ns (255 - k)) := by
  rw [ldF_s hk]
  by_cases hl : LW D nv nr ns (255 - k) = true
  · have hn : ¬ nI (255 - k) &&& (nI go ^^^ (-1)) = 0 := fun z => h ⟨z, hl⟩
    have hne : ¬ 255 - k = go := fun e => hn (by rw [e]; exact sub_bits.mpr (fun i _ hb => hb))
    rw [decide_eq_false hn, decide_eq_false hne, Bool.false_and, Bool.false_and]
  · have hl2 : LW D nv nr ns (255 - k) = false := by simpa using hl
    rw [hl2, Bool.and_false, Bool.and_false, Bool.and_false]
theorem l_X12_way1 {N : Nat} {S : Nat → Nat × Nat} {I : Nat → Nat → Int32} {J : Nat → Nat → Int64} {Q : Nat → Nat → Option Nat} {κ : Option Value → HP → Prop}  {D : Nat → Nat → Int32} {nv nr ns : Nat} {go k : Nat} (hgo : go < 256) (hk2 : k < 256) (F : LDM I D nv nr ns go k) {ii : Int32} (hk : SP E1 M_X12_way κ 152 [.ref 54, .int (nI go), .int ii, .int (nI (255 - k)), .retAddr 0, .retAddr 0, .retAddr 0] [] (N, S, up2 I 87 (255 - k) (b2 (wv D nv nr ns go (255 - k) (ldF D nv nr ns go k) 8)), J, Q) 0 0) : ∀ d : Nat, ∀ c, c + d = 8 → SP E1 M_X12_way κ 86 [.ref 54, .int (nI go), .int ii, .int (nI (255 - k)), .int (nI c), .retAddr 0, .retAddr 0] [] (N, S, up2 I 87 (255 - k) (b2 (wv D nv nr ns go (255 - k) (ldF D nv nr ns go k) c)), J, Q) 0 0 := by
  intro d
  induction d with
  | zero =>
    intro c hd
    obtain rfl : c = 8 := by omega
    refine s_iload (pc' := 88) dX12_way_86 rfl rfl ?_
    refine s_bipush (pc' := 90) (v := 8) dX12_way_88 rfl (by decide) ?_
    refine s_icmpgeT (tgt := 152) dX12_way_90 (by decide) (by decide) ?_
    exact s_fg [4] rfl hk
  | succ d ih =>
    intro c hd
    refine s_iload (pc' := 88) dX12_way_86 rfl rfl ?_
    refine s_bipush (pc' := 90) (v := 8) dX12_way_88 rfl (by decide) ?_
    refine s_icmpgeF (pc' := 93) (tgt := 152) dX12_way_90 (by decide) rfl (nI_ge (b := 8) (by omega) (by decide)) ?_
    refine s_aload_n (pc' := 94) dX12_way_93 rfl rfl ?_
    refine s_getS (pc' := 97) (b := 87) dX12_way_94 rfl (by decide) rfl (by decide) fa_X12_108_12 rfl rfl ?_
    refine s_iload_n (pc' := 98) dX12_way_97 rfl rfl ?_
    refine s_aload_n (pc' := 99) dX12_way_98 rfl rfl ?_
    refine s_getS (pc' := 102) (b := 87) dX12_way_99 rfl (by decide) rfl (by decide) fa_X12_108_12 rfl rfl ?_
    refine s_iload_n (pc' := 103) dX12_way_102 rfl rfl ?_
    refine t_zald (pc' := 104) dX12_way_103 rfl sh_87 rfl (by omega) ?_
    refine s_ifne (pc' := 107) (tgt := 140) dX12_way_104 (by decide) rfl (fun c104 => ?_) (fun c104 => ?_)
    · refine s_iconst (pc' := 141) (v := 1) dX12_way_140 rfl (by decide) ?_
      refine s_goto (tgt := 145) dX12_way_141 (by decide) ?_
      refine t_zast (pc' := 146) dX12_way_145 rfl sh_87 rfl (by omega) rfl ?_
      refine t_iinc (pc' := 149) (v := nI (c + 1)) (L' := [.ref 54, .int _, .int _, .int _, .int _, .retAddr _, .retAddr _]) dX12_way_146 rfl rfl (nI_inc c) rfl ?_
      refine s_goto (tgt := 86) dX12_way_149 (by decide) ?_
      rw [up2_s] at c104
      refine s_eq rfl rfl ?_ (ih (c + 1) (by omega))
      rw [up2_uu, wv_s, b2_1 c104, Bool.true_or]; try rfl
    · refine s_iload_n (pc' := 108) dX12_way_107 rfl rfl ?_
      refine s_iload (pc' := 110) dX12_way_108 rfl rfl ?_
      refine s_ishr (pc' := 111) dX12_way_110 rfl ?_
      refine s_iconst (pc' := 112) (v := 1) dX12_way_111 rfl (by decide) ?_
      refine s_iand (pc' := 113) dX12_way_112 rfl ?_
      refine s_iconst (pc' := 114) (v := 1) dX12_way_113 rfl (by decide) ?_
      refine s_icmpne (pc' := 117) (tgt := 144) dX12_way_114 (by decide) rfl (fun c114 => ?_) (fun c114 => ?_)
      · refine s_iconst (pc' := 145) (v := 0) dX12_way_144 rfl (by decide) ?_
        refine t_zast (pc' := 146) dX12_way_145 rfl sh_87 rfl (by omega) rfl ?_
        refine t_iinc (pc' := 149) (v := nI (c + 1)) (L' := [.ref 54, .int _, .int _, .int _, .int _, .retAddr _, .retAddr _]) dX12_way_146 rfl rfl (nI_inc c) rfl ?_
        refine s_goto (tgt := 86) dX12_way_149 (by decide) ?_
        rw [up2_s] at c104
        have hw0 := b2_0 (by simpa using c104)
        have hg : bt (nI go) c = false := bitI_f (by omega) c114
        refine s_eq rfl rfl ?_ (ih (c + 1) (by omega))
        rw [up2_uu, wv_s, hw0, show nxB go (255 - k) (ldF D nv nr ns go k) c = false by unfold nxB; rw [nx_bit (by omega), hg]; rfl]; try rfl
      · refine s_iload_n (pc' := 118) dX12_way_117 rfl rfl ?_
        refine s_iload (pc' := 120) dX12_way_118 rfl rfl ?_
        refine s_ishr (pc' := 121) dX12_way_120 rfl ?_
        refine s_iconst (pc' := 122) (v := 1) dX12_way_121 rfl (by decide) ?_
        refine s_iand (pc' := 123) dX12_way_122 rfl ?_
        refine s_ifne (pc' := 126) (tgt := 144) dX12_way_123 (by decide) rfl (fun c123 => ?_) (fun c123 => ?_)
        · refine s_iconst (pc' := 145) (v := 0) dX12_way_144 rfl (by decide) ?_
          refine t_zast (pc' := 146) dX12_way_145 rfl sh_87 rfl (by omega) rfl ?_
          refine t_iinc (pc' := 149) (v := nI (c + 1)) (L' := [.ref 54, .int _, .int _, .int _, .int _, .retAddr _, .retAddr _]) dX12_way_146 rfl rfl (nI_inc c) rfl ?_
          refine s_goto (tgt := 86) dX12_way_149 (by decide) ?_
          rw [up2_s] at c104
          have hw0 := b2_0 (by simpa using c104)
          have hg : bt (nI go) c = true := (bitI_1 (by omega)).mp (by simpa [bitI] using c114)
          have hx : bt (nI (255 - k)) c = true := bitI_b (by omega) c123
          refine s_eq rfl rfl ?_ (ih (c + 1) (by omega))
          rw [up2_uu, wv_s, hw0, show nxB go (255 - k) (ldF D nv nr ns go k) c = false by unfold nxB; rw [nx_bit (by omega), hx, Bool.not_true, Bool.and_false]; rfl]; try rfl
        · have hx : bt (nI (255 - k)) c = false := (bitI_0 (by omega)).mp (by simpa [bitI] using c123)
          have hr := F.rd hk2 (by omega) hx
          refine s_aload_n (pc' := 127) dX12_way_126 rfl rfl ?_
          refine s_getS (pc' := 130) (b := 87) dX12_way_127 rfl (by decide) rfl (by decide) fa_X12_108_12 rfl rfl ?_
          refine s_iload_n (pc' := 131) dX12_way_130 rfl rfl ?_
          refine s_iconst (pc' := 132) (v := 1) dX12_way_131 rfl (by decide) ?_
          refine s_iload (pc' := 134) dX12_way_132 rfl rfl ?_
          refine s_ishl (pc' := 135) dX12_way_134 rfl ?_
          refine s_ior (pc' := 136) dX12_way_135 rfl ?_
          refine t_zald (pc' := 137) (q := wib (255 - k) c) dX12_way_136 rfl sh_87 (wib_ix (255 - k) (by omega) c (by omega)).1 hr.1 ?_
          refine s_ifeq (pc' := 140) (tgt := 144) dX12_way_137 (by decide) rfl (fun c137 => ?_) (fun c137 => ?_)
          · refine s_iconst (pc' := 145) (v := 0) dX12_way_144 rfl (by decide) ?_
            refine t_zast (pc' := 146) dX12_way_145 rfl sh_87 rfl (by omega) rfl ?_
            refine t_iinc (pc' := 149) (v := nI (c + 1)) (L' := [.ref 54, .int _, .int _, .int _, .int _, .retAddr _, .retAddr _]) dX12_way_146 rfl rfl (nI_inc c) rfl ?_
            refine s_goto (tgt := 86) dX12_way_149 (by decide) ?_
            rw [up2_s] at c104
            have hw0 := b2_0 (by simpa using c104)
            have hg : bt (nI go) c = true := (bitI_1 (by omega)).mp (by simpa [bitI] using c114)
            rw [up2_e hr.2.1, hr.2.2] at c137
            refine s_eq rfl rfl ?_ (ih (c + 1) (by omega))
            rw [up2_uu, wv_s, hw0, show nxB go (255 - k) (ldF D nv nr ns go k) c = false by unfold nxB; rw [b2_0 c137, Bool.and_false]]; try rfl
          · refine s_iconst (pc' := 141) (v := 1) dX12_way_140 rfl (by decide) ?_
            refine s_goto (tgt := 145) dX12_way_141 (by decide) ?_
            refine t_zast (pc' := 146) dX12_way_145 rfl sh_87 rfl (by omega) rfl ?_
            refine t_iinc (pc' := 149) (v := nI (c + 1)) (L' := [.ref 54, .int _, .int _, .int _, .int _, .retAddr _, .retAddr _]) dX12_way_146 rfl rfl (nI_inc c) rfl ?_
            refine s_goto (tgt := 86) dX12_way_149 (by decide) ?_
            rw [up2_s] at c104
            have hw0 := b2_0 (by simpa using c104)
            have hg : bt (nI go) c = true := (bitI_1 (by omega)).mp (by simpa [bitI] using c114)
            rw [up2_e hr.2.1, hr.2.2] at c137
            refine s_eq rfl rfl ?_ (ih (c + 1) (by omega))
            rw [up2_uu, wv_s, hw0, show nxB go (255 - k) (ldF D nv nr ns go k) c = true by unfold nxB; rw [nx_bit (by omega), hg, hx, b2_1 c137]; rfl]; try rfl
theorem l_X12_way2 {N : Nat} {S : Nat → Nat × Nat} {I : Nat → Nat → Int32} {J : Nat → Nat → Int64} {Q : Nat → Nat → Option Nat} {κ : Option Value → HP → Prop}  {D : Nat → Nat → Int32} {nv nr ns : Nat} (G1 : LDG I J D nv nr ns) {go : Nat} (hgo : go < 256) {ii : Int32} (hk : ∀ I', (∀ a, a ≠ 87 → I' a = I a) → (∀ b, b < 256 → I' 87 b = b2 (LQ D nv nr ns go b)) → SP E1 M_X12_way κ 158 [.ref 54, .int (nI go), .int ii, .retAddr 0, .retAddr 0, .retAddr 0, .retAddr 0] [] (N, S, I', J, Q) 0 0) : ∀ d : Nat, ∀ k I', k + d = 256 → (∀ a, a ≠ 87 → I' a = I a) → LDM I' D nv nr ns go k → SP E1 M_X12_way κ 34 [.ref 54, .int (nI go), .int ii, .int (nI (256 - k) - 1), .retAddr 0, .retAddr 0, .retAddr 0] [] (N, S, I', J, Q) 0 0 := by
  intro d
  induction d with
  | zero =>
    intro k I' hd hI F
    obtain rfl : k = 256 := by omega
    refine s_iload_n (pc' := 35) dX12_way_34 rfl rfl ?_
    refine s_ifltT (tgt := 158) dX12_way_35 (by decide) (by decide) ?_
    exact s_fg [3] rfl (hk I' hI (fun b hb => F b (by omega) hb))
  | succ d ih =>
    intro k I' hd hI F
    rw [show 256 - k = (255 - k) + 1 by omega, nI_pred]
    refine s_iload_n (pc' := 35) dX12_way_34 rfl rfl ?_
    refine s_ifltF (pc' := 38) (tgt := 158) dX12_way_35 (by decide) rfl (nI_pos (by omega)) ?_
    refine s_aload_n (pc' := 39) dX12_way_38 rfl rfl ?_
    refine s_getS (pc' := 42) (b := 87) dX12_way_39 rfl (by decide) rfl (by decide) fa_X12_108_12 rfl rfl ?_
    refine s_iload_n (pc' := 43) dX12_way_42 rfl rfl ?_
    refine s_iload_n (pc' := 44) dX12_way_43 rfl rfl ?_
    refine s_iload_n (pc' := 45) dX12_way_44 rfl rfl ?_
    refine s_icmpne (pc' := 48) (tgt := 61) dX12_way_45 (by decide) rfl (fun c45 => ?_) (fun c45 => ?_)
    · refine s_iconst (pc' := 62) (v := 0) dX12_way_61 rfl (by decide) ?_
      refine t_zast (pc' := 63) dX12_way_62 rfl sh_87 rfl (by omega) rfl ?_
      refine s_iload_n (pc' := 64) dX12_way_63 rfl rfl ?_
      refine s_iload_n (pc' := 65) dX12_way_64 rfl rfl ?_
      refine s_iconst (pc' := 66) (v := -1) dX12_way_65 rfl (by decide) ?_
      refine s_ixor (pc' := 67) dX12_way_66 rfl ?_
      refine s_iand (pc' := 68) dX12_way_67 rfl ?_
      refine s_ifne (pc' := 71) (tgt := 152) dX12_way_68 (by decide) rfl (fun c68 => ?_) (fun c68 => ?_)
      · have e83 := (G1 (255 - k) (by omega)).2.2
        rw [← hI 83 (by decide)] at e83
        have e0 : (decide (255 - k = go) && LW D nv nr ns (255 - k)) = false := by rw [decide_eq_false (fun z => c45 (by rw [z])), Bool.false_and]
        have hz : ¬ (nI (255 - k) &&& (nI go ^^^ (-1)) = 0 ∧ LW D nv nr ns (255 - k) = true) := fun z => c68 z.1
        refine t_iinc (pc' := 155) (v := nI (255 - k) - 1) (L' := [.ref 54, .int _, .int _, .int _, .retAddr _, .retAddr _, .retAddr _]) dX12_way_152 rfl rfl (dec1 _) rfl ?_
        refine s_goto (tgt := 34) dX12_way_155 (by decide) ?_
        refine s_fg [] (by rw [show 256 - (k + 1) = 255 - k by omega]; rfl) (ih (k + 1) _ (by omega) (fun a ha => by rw [up2_o ha]; exact hI a ha) (F.st (by omega) ?_))
        rw [lfz (by omega) hgo hz, e0]
        rfl
      · refine s_aload_n (pc' := 72) dX12_way_71 rfl rfl ?_
        refine s_getS (pc' := 75) (b := 83) dX12_way_72 rfl (by decide) rfl (by decide) fa_X12_95_12 rfl rfl ?_
        refine s_iload_n (pc' := 76) dX12_way_75 rfl rfl ?_
        refine t_zald (pc' := 77) dX12_way_76 rfl sh_83 rfl (by omega) ?_
        refine s_ifne (pc' := 80) (tgt := 83) dX12_way_77 (by decide) rfl (fun c77 => ?_) (fun c77 => ?_)
        · refine s_iconst (pc' := 84) (v := 0) dX12_way_83 rfl (by decide) ?_
          refine t_istore (pc' := 86) (L' := [.ref 54, .int _, .int _, .int _, .int _, .retAddr _, .retAddr _]) dX12_way_84 rfl (Nat.le_of_ble_eq_true rfl) rfl ?_
          have e83 := (G1 (255 - k) (by omega)).2.2
          rw [← hI 83 (by decide)] at e83
          rw [up2_d (by decide), e83] at c77
          have hl : LW D nv nr ns (255 - k) = true := b2_1 (by simpa using c77)
          have hw : nI (255 - k) &&& (nI go ^^^ (-1)) = 0 := by simpa using c68
          refine s_eq rfl rfl ?_ (l_X12_way1 (N := N) (S := S) (I := I') (J := J) (Q := Q) hgo (show k < 256 by omega) F ?_ 8 0 rfl)
          · unfold wv; rw [decide_eq_false (fun z => c45 (by rw [z])), Bool.false_and]; simp [lf, b2]
          refine t_iinc (pc' := 155) (v := nI (255 - k) - 1) (L' := [.ref 54, .int _, .int _, .int _, .retAddr _, .retAddr _, .retAddr _]) dX12_way_152 rfl rfl (dec1 _) rfl ?_
          refine s_goto (tgt := 34) dX12_way_155 (by decide) ?_
          refine s_fg [] (by rw [show 256 - (k + 1) = 255 - k by omega]; rfl) (ih (k + 1) _ (by omega) (fun a ha => by rw [up2_o ha]; exact hI a ha) (F.st (by omega) ?_))
          rw [lfv (by omega) hw hl]
        · refine s_goto (tgt := 152) dX12_way_80 (by decide) ?_
          have e83 := (G1 (255 - k) (by omega)).2.2
          rw [← hI 83 (by decide)] at e83
          have e0 : (decide (255 - k = go) && LW D nv nr ns (255 - k)) = false := by rw [decide_eq_false (fun z => c45 (by rw [z])), Bool.false_and]
          rw [up2_d (by decide), e83] at c77
          have hz : ¬ (nI (255 - k) &&& (nI go ^^^ (-1)) = 0 ∧ LW D nv nr ns (255 - k) = true) := fun z => by
            have hl0 : LW D nv nr ns (255 - k) = false := b2_0 (by simpa using c77)
            have z2 := z.2
            rw [hl0] at z2; cases z2
          refine t_iinc (pc' := 155) (v := nI (255 - k) - 1) (L' := [.ref 54, .int _, .int _, .int _, .retAddr _, .retAddr _, .retAddr _]) dX12_way_152 rfl rfl (dec1 _) rfl ?_
          refine s_goto (tgt := 34) dX12_way_155 (by decide) ?_
          refine s_fg [] (by rw [show 256 - (k + 1) = 255 - k by omega]; rfl) (ih (k + 1) _ (by omega) (fun a ha => by rw [up2_o ha]; exact hI a ha) (F.st (by omega) ?_))
          rw [lfz (by omega) hgo hz, e0]
          rfl
    · refine s_aload_n (pc' := 49) dX12_way_48 rfl rfl ?_
      refine s_getS (pc' := 52) (b := 83) dX12_way_49 rfl (by decide) rfl (by decide) fa_X12_95_12 rfl rfl ?_
      refine s_iload_n (pc' := 53) dX12_way_52 rfl rfl ?_
      refine t_zald (pc' := 54) dX12_way_53 rfl sh_83 rfl (by omega) ?_
      refine s_ifeq (pc' := 57) (tgt := 61) dX12_way_54 (by decide) rfl (fun c54 => ?_) (fun c54 => ?_)
      · refine s_iconst (pc' := 62) (v := 0) dX12_way_61 rfl (by decide) ?_
        refine t_zast (pc' := 63) dX12_way_62 rfl sh_87 rfl (by omega) rfl ?_
        refine s_iload_n (pc' := 64) dX12_way_63 rfl rfl ?_
        refine s_iload_n (pc' := 65) dX12_way_64 rfl rfl ?_
        refine s_iconst (pc' := 66) (v := -1) dX12_way_65 rfl (by decide) ?_
        refine s_ixor (pc' := 67) dX12_way_66 rfl ?_
        refine s_iand (pc' := 68) dX12_way_67 rfl ?_
        refine s_ifne (pc' := 71) (tgt := 152) dX12_way_68 (by decide) rfl (fun c68 => ?_) (fun c68 => ?_)
        · have e83 := (G1 (255 - k) (by omega)).2.2
          rw [← hI 83 (by decide)] at e83
          rw [e83] at c54
          have e0 : (decide (255 - k = go) && LW D nv nr ns (255 - k)) = false := by rw [b2_0 c54, Bool.and_false]
          have hz : ¬ (nI (255 - k) &&& (nI go ^^^ (-1)) = 0 ∧ LW D nv nr ns (255 - k) = true) := fun z => c68 z.1
          refine t_iinc (pc' := 155) (v := nI (255 - k) - 1) (L' := [.ref 54, .int _, .int _, .int _, .retAddr _, .retAddr _, .retAddr _]) dX12_way_152 rfl rfl (dec1 _) rfl ?_
          refine s_goto (tgt := 34) dX12_way_155 (by decide) ?_
          refine s_fg [] (by rw [show 256 - (k + 1) = 255 - k by omega]; rfl) (ih (k + 1) _ (by omega) (fun a ha => by rw [up2_o ha]; exact hI a ha) (F.st (by omega) ?_))
          rw [lfz (by omega) hgo hz, e0]
          rfl
        · refine s_aload_n (pc' := 72) dX12_way_71 rfl rfl ?_
          refine s_getS (pc' := 75) (b := 83) dX12_way_72 rfl (by decide) rfl (by decide) fa_X12_95_12 rfl rfl ?_
          refine s_iload_n (pc' := 76) dX12_way_75 rfl rfl ?_
          refine t_zald (pc' := 77) dX12_way_76 rfl sh_83 rfl (by omega) ?_
          refine s_ifne (pc' := 80) (tgt := 83) dX12_way_77 (by decide) rfl (fun c77 => ?_) (fun c77 => ?_)
          · refine s_iconst (pc' := 84) (v := 0) dX12_way_83 rfl (by decide) ?_
            refine t_istore (pc' := 86) (L' := [.ref 54, .int _, .int _, .int _, .int _, .retAddr _, .retAddr _]) dX12_way_84 rfl (Nat.le_of_ble_eq_true rfl) rfl ?_
            have e83 := (G1 (255 - k) (by omega)).2.2
            rw [← hI 83 (by decide)] at e83
            rw [up2_d (by decide), e83] at c77
            have hl : LW D nv nr ns (255 - k) = true := b2_1 (by simpa using c77)
            have hw : nI (255 - k) &&& (nI go ^^^ (-1)) = 0 := by simpa using c68
            refine s_eq rfl rfl ?_ (l_X12_way1 (N := N) (S := S) (I := I') (J := J) (Q := Q) hgo (show k < 256 by omega) F ?_ 8 0 rfl)
            · unfold wv; rw [show LW D nv nr ns (255 - k) = false from b2_0 (by rw [e83] at c54; exact c54), Bool.and_false]; simp [lf, b2]
            refine t_iinc (pc' := 155) (v := nI (255 - k) - 1) (L' := [.ref 54, .int _, .int _, .int _, .retAddr _, .retAddr _, .retAddr _]) dX12_way_152 rfl rfl (dec1 _) rfl ?_
            refine s_goto (tgt := 34) dX12_way_155 (by decide) ?_
            refine s_fg [] (by rw [show 256 - (k + 1) = 255 - k by omega]; rfl) (ih (k + 1) _ (by omega) (fun a ha => by rw [up2_o ha]; exact hI a ha) (F.st (by omega) ?_))
            rw [lfv (by omega) hw hl]
          · refine s_goto (tgt := 152) dX12_way_80 (by decide) ?_
            have e83 := (G1 (255 - k) (by omega)).2.2
            rw [← hI 83 (by decide)] at e83
            rw [e83] at c54
            have e0 : (decide (255 - k = go) && LW D nv nr ns (255 - k)) = false := by rw [b2_0 c54, Bool.and_false]
            rw [up2_d (by decide), e83] at c77
            have hz : ¬ (nI (255 - k) &&& (nI go ^^^ (-1)) = 0 ∧ LW D nv nr ns (255 - k) = true) := fun z => by
              have hl0 : LW D nv nr ns (255 - k) = false := b2_0 (by simpa using c77)
              have z2 := z.2
              rw [hl0] at z2; cases z2
            refine t_iinc (pc' := 155) (v := nI (255 - k) - 1) (L' := [.ref 54, .int _, .int _, .int _, .retAddr _, .retAddr _, .retAddr _]) dX12_way_152 rfl rfl (dec1 _) rfl ?_
            refine s_goto (tgt := 34) dX12_way_155 (by decide) ?_
            refine s_fg [] (by rw [show 256 - (k + 1) = 255 - k by omega]; rfl) (ih (k + 1) _ (by omega) (fun a ha => by rw [up2_o ha]; exact hI a ha) (F.st (by omega) ?_))
            rw [lfz (by omega) hgo hz, e0]
            rfl
      · refine s_iconst (pc' := 58) (v := 1) dX12_way_57 rfl (by decide) ?_
        refine s_goto (tgt := 62) dX12_way_58 (by decide) ?_
        refine t_zast (pc' := 63) dX12_way_62 rfl sh_87 rfl (by omega) rfl ?_
        refine s_iload_n (pc' := 64) dX12_way_63 rfl rfl ?_
        refine s_iload_n (pc' := 65) dX12_way_64 rfl rfl ?_
        refine s_iconst (pc' := 66) (v := -1) dX12_way_65 rfl (by decide) ?_
        refine s_ixor (pc' := 67) dX12_way_66 rfl ?_
        refine s_iand (pc' := 68) dX12_way_67 rfl ?_
        refine s_ifne (pc' := 71) (tgt := 152) dX12_way_68 (by decide) rfl (fun c68 => ?_) (fun c68 => ?_)
        · have e83 := (G1 (255 - k) (by omega)).2.2
          rw [← hI 83 (by decide)] at e83
          rw [e83] at c54
          have e0 : (decide (255 - k = go) && LW D nv nr ns (255 - k)) = true := by rw [b2_1 c54, decide_eq_true ((nI_eq (by omega) (by omega)).mp (by simpa using c45)), Bool.true_and]
          have hz : ¬ (nI (255 - k) &&& (nI go ^^^ (-1)) = 0 ∧ LW D nv nr ns (255 - k) = true) := fun z => c68 z.1
          refine t_iinc (pc' := 155) (v := nI (255 - k) - 1) (L' := [.ref 54, .int _, .int _, .int _, .retAddr _, .retAddr _, .retAddr _]) dX12_way_152 rfl rfl (dec1 _) rfl ?_
          refine s_goto (tgt := 34) dX12_way_155 (by decide) ?_
          refine s_fg [] (by rw [show 256 - (k + 1) = 255 - k by omega]; rfl) (ih (k + 1) _ (by omega) (fun a ha => by rw [up2_o ha]; exact hI a ha) (F.st (by omega) ?_))
          rw [lfz (by omega) hgo hz, e0]
          rfl
        · refine s_aload_n (pc' := 72) dX12_way_71 rfl rfl ?_
          refine s_getS (pc' := 75) (b := 83) dX12_way_72 rfl (by decide) rfl (by decide) fa_X12_95_12 rfl rfl ?_
          refine s_iload_n (pc' := 76) dX12_way_75 rfl rfl ?_
          refine t_zald (pc' := 77) dX12_way_76 rfl sh_83 rfl (by omega) ?_
          refine s_ifne (pc' := 80) (tgt := 83) dX12_way_77 (by decide) rfl (fun c77 => ?_) (fun c77 => ?_)
          · refine s_iconst (pc' := 84) (v := 0) dX12_way_83 rfl (by decide) ?_
            refine t_istore (pc' := 86) (L' := [.ref 54, .int _, .int _, .int _, .int _, .retAddr _, .retAddr _]) dX12_way_84 rfl (Nat.le_of_ble_eq_true rfl) rfl ?_
            have e83 := (G1 (255 - k) (by omega)).2.2
            rw [← hI 83 (by decide)] at e83
            rw [up2_d (by decide), e83] at c77
            have hl : LW D nv nr ns (255 - k) = true := b2_1 (by simpa using c77)
            have hw : nI (255 - k) &&& (nI go ^^^ (-1)) = 0 := by simpa using c68
            refine s_eq rfl rfl ?_ (l_X12_way1 (N := N) (S := S) (I := I') (J := J) (Q := Q) hgo (show k < 256 by omega) F ?_ 8 0 rfl)
            · unfold wv; rw [decide_eq_true ((nI_eq (by omega) (by omega)).mp (by simpa using c45)), hl, Bool.true_and]; simp [lf, b2]
            refine t_iinc (pc' := 155) (v := nI (255 - k) - 1) (L' := [.ref 54, .int _, .int _, .int _, .retAddr _, .retAddr _, .retAddr _]) dX12_way_152 rfl rfl (dec1 _) rfl ?_
            refine s_goto (tgt := 34) dX12_way_155 (by decide) ?_
            refine s_fg [] (by rw [show 256 - (k + 1) = 255 - k by omega]; rfl) (ih (k + 1) _ (by omega) (fun a ha => by rw [up2_o ha]; exact hI a ha) (F.st (by omega) ?_))
            rw [lfv (by omega) hw hl]
          · refine s_goto (tgt := 152) dX12_way_80 (by decide) ?_
            have e83 := (G1 (255 - k) (by omega)).2.2
            rw [← hI 83 (by decide)] at e83
            rw [e83] at c54
            have e0 : (decide (255 - k = go) && LW D nv nr ns (255 - k)) = true := by rw [b2_1 c54, decide_eq_true ((nI_eq (by omega) (by omega)).mp (by simpa using c45)), Bool.true_and]
            rw [up2_d (by decide), e83] at c77
            have hz : ¬ (nI (255 - k) &&& (nI go ^^^ (-1)) = 0 ∧ LW D nv nr ns (255 - k) = true) := fun z => by
              have hl0 : LW D nv nr ns (255 - k) = false := b2_0 (by simpa using c77)
              have z2 := z.2
              rw [hl0] at z2; cases z2
            refine t_iinc (pc' := 155) (v := nI (255 - k) - 1) (L' := [.ref 54, .int _, .int _, .int _, .retAddr _, .retAddr _, .retAddr _]) dX12_way_152 rfl rfl (dec1 _) rfl ?_
            refine s_goto (tgt := 34) dX12_way_155 (by decide) ?_
            refine s_fg [] (by rw [show 256 - (k + 1) = 255 - k by omega]; rfl) (ih (k + 1) _ (by omega) (fun a ha => by rw [up2_o ha]; exact hI a ha) (F.st (by omega) ?_))
            rw [lfz (by omega) hgo hz, e0]
            rfl
theorem bitI_nf {x : Int32} {j : Nat} (hj : j < 31) (h : ¬ bitI x (nI j) = 1) : bt x j = false := bitI_f hj h
theorem l_X12_way3 {N : Nat} {S : Nat → Nat × Nat} {I : Nat → Nat → Int32} {J : Nat → Nat → Int64} {Q : Nat → Nat → Option Nat} {κ : Option Value → HP → Prop}  {D : Nat → Nat → Int32} {nv nr ns go n : Nat} (hgo : go < 256) (hn : n < pcn (nI go)) (h0 : LQ D nv nr ns go 0 = true) (R : ∀ b, b < 256 → I 87 b = b2 (LQ D nv nr ns go b)) {k : Nat} (hkn : k ≤ n) {la : Int32} (hk : SP E1 M_X12_way κ 225 [.ref 54, .int (nI go), .int (nI n), .int (nI (atq D nv nr ns go k)), .int la, .int (nI k), .int (nI (lf (nxB go (atq D nv nr ns go k) (LQ D nv nr ns go)) 8))] [] (N, S, I, J, Q) 0 0) : ∀ d : Nat, ∀ c, c + d = (lf (nxB go (atq D nv nr ns go k) (LQ D nv nr ns go)) 8) → SP E1 M_X12_way κ 186 [.ref 54, .int (nI go), .int (nI n), .int (nI (atq D nv nr ns go k)), .int la, .int (nI k), .int (nI c)] [] (N, S, I, J, Q) 0 0 := by
  intro d
  induction d with
  | zero =>
    intro c hd
    have hw := way_ex h0 hn k hkn
    obtain rfl : c = (lf (nxB go (atq D nv nr ns go k) (LQ D nv nr ns go)) 8) := by omega
    have hq := (lf_spec (nxB go (atq D nv nr ns go k) (LQ D nv nr ns go)) 8).2 hw.2
    obtain ⟨q1, q2, q3⟩ := nx_true (by omega) hq
    refine s_iload_n (pc' := 187) dX12_way_186 rfl rfl ?_
    refine s_iload (pc' := 189) dX12_way_187 rfl rfl ?_
    refine s_ishr (pc' := 190) dX12_way_189 rfl ?_
    refine s_iconst (pc' := 191) (v := 1) dX12_way_190 rfl (by decide) ?_
    refine s_iand (pc' := 192) dX12_way_191 rfl ?_
    refine s_ifeqF (pc' := 195) (tgt := 219) dX12_way_192 (by decide) rfl (fun z => by have y := (bitI_0 (by omega)).mp z; rw [q1] at y; cases y) ?_
    refine s_iload_n (pc' := 196) dX12_way_195 rfl rfl ?_
    refine s_iload (pc' := 198) dX12_way_196 rfl rfl ?_
    refine s_ishr (pc' := 199) dX12_way_198 rfl ?_
    refine s_iconst (pc' := 200) (v := 1) dX12_way_199 rfl (by decide) ?_
    refine s_iand (pc' := 201) dX12_way_200 rfl ?_
    refine s_iconst (pc' := 202) (v := 1) dX12_way_201 rfl (by decide) ?_
    refine s_icmpeqF (pc' := 205) (tgt := 219) dX12_way_202 (by decide) rfl (fun z => by have y := (bitI_1 (by omega)).mp z; rw [q2] at y; cases y) ?_
    refine s_aload_n (pc' := 206) dX12_way_205 rfl rfl ?_
    refine s_getS (pc' := 209) (b := 87) dX12_way_206 rfl (by decide) rfl (by decide) fa_X12_108_12 rfl rfl ?_
    refine s_iload_n (pc' := 210) dX12_way_209 rfl rfl ?_
    refine s_iconst (pc' := 211) (v := 1) dX12_way_210 rfl (by decide) ?_
    refine s_iload (pc' := 213) dX12_way_211 rfl rfl ?_
    refine s_ishl (pc' := 214) dX12_way_213 rfl ?_
    refine s_ior (pc' := 215) dX12_way_214 rfl ?_
    refine t_zald (pc' := 216) (q := wib (atq D nv nr ns go k) (lf (nxB go (atq D nv nr ns go k) (LQ D nv nr ns go)) 8)) dX12_way_215 rfl sh_87 (wib_ix _ hw.1.1 _ hw.2).1 (wib_ix _ hw.1.1 _ hw.2).2.1 ?_
    refine s_ifneT (tgt := 225) dX12_way_216 (by decide) (by rw [R _ (wib_ix _ hw.1.1 _ hw.2).2.1, q3]; decide) ?_
    exact hk
  | succ d ih =>
    intro c hd
    have hw := way_ex h0 hn k hkn
    have hno : nxB go (atq D nv nr ns go k) (LQ D nv nr ns go) c = false := (lf_spec (nxB go (atq D nv nr ns go k) (LQ D nv nr ns go)) 8).1 c (by omega)
    refine s_iload_n (pc' := 187) dX12_way_186 rfl rfl ?_
    refine s_iload (pc' := 189) dX12_way_187 rfl rfl ?_
    refine s_ishr (pc' := 190) dX12_way_189 rfl ?_
    refine s_iconst (pc' := 191) (v := 1) dX12_way_190 rfl (by decide) ?_
    refine s_iand (pc' := 192) dX12_way_191 rfl ?_
    refine s_ifeq (pc' := 195) (tgt := 219) dX12_way_192 (by decide) rfl (fun c192 => ?_) (fun c192 => ?_)
    · refine t_iinc (pc' := 222) (v := nI (c + 1)) (L' := [.ref 54, .int _, .int _, .int _, .int _, .int _, .int _]) dX12_way_219 rfl rfl (nI_inc c) rfl ?_
      refine s_goto (tgt := 186) dX12_way_222 (by decide) ?_
      exact ih (c + 1) (by omega)
    · refine s_iload_n (pc' := 196) dX12_way_195 rfl rfl ?_
      refine s_iload (pc' := 198) dX12_way_196 rfl rfl ?_
      refine s_ishr (pc' := 199) dX12_way_198 rfl ?_
      refine s_iconst (pc' := 200) (v := 1) dX12_way_199 rfl (by decide) ?_
      refine s_iand (pc' := 201) dX12_way_200 rfl ?_
      refine s_iconst (pc' := 202) (v := 1) dX12_way_201 rfl (by decide) ?_
      refine s_icmpeq (pc' := 205) (tgt := 219) dX12_way_202 (by decide) rfl (fun c202 => ?_) (fun c202 => ?_)
      · refine t_iinc (pc' := 222) (v := nI (c + 1)) (L' := [.ref 54, .int _, .int _, .int _, .int _, .int _, .int _]) dX12_way_219 rfl rfl (nI_inc c) rfl ?_
        refine s_goto (tgt := 186) dX12_way_222 (by decide) ?_
        exact ih (c + 1) (by omega)
      · have hrd := R _ (wib_ix _ hw.1.1 c (by omega)).2.1
        refine s_aload_n (pc' := 206) dX12_way_205 rfl rfl ?_
        refine s_getS (pc' := 209) (b := 87) dX12_way_206 rfl (by decide) rfl (by decide) fa_X12_108_12 rfl rfl ?_
        refine s_iload_n (pc' := 210) dX12_way_209 rfl rfl ?_
        refine s_iconst (pc' := 211) (v := 1) dX12_way_210 rfl (by decide) ?_
        refine s_iload (pc' := 213) dX12_way_211 rfl rfl ?_
        refine s_ishl (pc' := 214) dX12_way_213 rfl ?_
        refine s_ior (pc' := 215) dX12_way_214 rfl ?_
        refine t_zald (pc' := 216) (q := wib (atq D nv nr ns go k) c) dX12_way_215 rfl sh_87 (wib_ix _ hw.1.1 c (by omega)).1 (wib_ix _ hw.1.1 c (by omega)).2.1 ?_
        refine s_ifne (pc' := 219) (tgt := 225) dX12_way_216 (by decide) rfl (fun c216 => ?_) (fun c216 => ?_)
        · exfalso
          have : nxB go (atq D nv nr ns go k) (LQ D nv nr ns go) c = true := by unfold nxB; rw [nx_bit (by omega), bitI_b (by omega) c192, bitI_nf (by omega) c202, show LQ D nv nr ns go (wib (atq D nv nr ns go k) c) = true from b2_1 (by rw [← hrd]; exact c216)]; rfl
          rw [hno] at this; cases this
        · refine t_iinc (pc' := 222) (v := nI (c + 1)) (L' := [.ref 54, .int _, .int _, .int _, .int _, .int _, .int _]) dX12_way_219 rfl rfl (nI_inc c) rfl ?_
          refine s_goto (tgt := 186) dX12_way_222 (by decide) ?_
          exact ih (c + 1) (by omega)
theorem l_X12_way4 {N : Nat} {S : Nat → Nat × Nat} {I : Nat → Nat → Int32} {J : Nat → Nat → Int64} {Q : Nat → Nat → Option Nat} {κ : Option Value → HP → Prop}  {D : Nat → Nat → Int32} {nv nr ns go n : Nat} (hgo : go < 256) (hn : n < pcn (nI go)) (h0 : LQ D nv nr ns go 0 = true) (R : ∀ b, b < 256 → I 87 b = b2 (LQ D nv nr ns go b)) (hk : κ (some (.int (nI (lf (nxB go (atq D nv nr ns go n) (LQ D nv nr ns go)) 8)))) (N, S, I, J, Q)) : ∀ d : Nat, ∀ k, k + d = n + 1 → SP E1 M_X12_way κ 177 [.ref 54, .int (nI go), .int (nI n), .int (nI (atq D nv nr ns go k)), .int (if k = 0 then (-1) else nI (lf (nxB go (atq D nv nr ns go (k - 1)) (LQ D nv nr ns go)) 8)), .int (nI k), .retAddr 0] [] (N, S, I, J, Q) 0 0 := by
  intro d
  induction d with
  | zero =>
    intro k hd
    obtain rfl : k = n + 1 := by omega
    have hp : pcn (nI go) ≤ 10 := cntB_le _ _
    rw [if_neg (by omega), show n + 1 - 1 = n by omega]
    refine s_iload (pc' := 179) dX12_way_177 rfl rfl ?_
    refine s_iload_n (pc' := 180) dX12_way_179 rfl rfl ?_
    refine s_icmpgtT (tgt := 242) dX12_way_180 (by decide) (nI_lt (by omega) (by omega)) ?_
    refine s_iload (pc' := 244) dX12_way_242 rfl rfl ?_
    exact s_iret dX12_way_244 rfl (by decide) (by decide) hk
  | succ d ih =>
    intro k hd
    have hp : pcn (nI go) ≤ 10 := cntB_le _ _
    have hw := way_ex h0 hn k (by omega)
    refine s_iload (pc' := 179) dX12_way_177 rfl rfl ?_
    refine s_iload_n (pc' := 180) dX12_way_179 rfl rfl ?_
    refine s_icmpgtF (pc' := 183) (tgt := 242) dX12_way_180 (by decide) rfl (nI_nlt (by omega) (by omega)) ?_
    refine s_iconst (pc' := 184) (v := 0) dX12_way_183 rfl (by decide) ?_
    refine t_istore (pc' := 186) (L' := [.ref 54, .int _, .int _, .int _, .int _, .int _, .int _]) dX12_way_184 rfl (Nat.le_of_ble_eq_true rfl) rfl ?_
    refine l_X12_way3 hgo hn h0 R (k := k) (by omega) ?_ (lf (nxB go (atq D nv nr ns go k) (LQ D nv nr ns go)) 8) 0 (by omega)
    refine s_iload_n (pc' := 226) dX12_way_225 rfl rfl ?_
    refine s_iconst (pc' := 227) (v := 1) dX12_way_226 rfl (by decide) ?_
    refine s_iload (pc' := 229) dX12_way_227 rfl rfl ?_
    refine s_ishl (pc' := 230) dX12_way_229 rfl ?_
    refine s_ior (pc' := 231) dX12_way_230 rfl ?_
    refine t_istore_n (pc' := 232) (L' := [.ref 54, .int _, .int _, .int _, .int _, .int _, .int _]) dX12_way_231 rfl (Nat.le_of_ble_eq_true rfl) rfl ?_
    refine s_iload (pc' := 234) dX12_way_232 rfl rfl ?_
    refine t_istore (pc' := 236) (L' := [.ref 54, .int _, .int _, .int _, .int _, .int _, .int _]) dX12_way_234 rfl (Nat.le_of_ble_eq_true rfl) rfl ?_
    refine t_iinc (pc' := 239) (v := nI (k + 1)) (L' := [.ref 54, .int _, .int _, .int _, .int _, .int _, .int _]) dX12_way_236 rfl rfl (nI_inc k) rfl ?_
    refine s_goto (tgt := 177) dX12_way_239 (by decide) ?_
    refine s_fg [6] ?_ (ih (k + 1) (by omega))
    rw [if_neg (show ¬ k + 1 = 0 by omega), show k + 1 - 1 = k by omega, show nI (atq D nv nr ns go k) ||| ((1 : Int32) <<< (nI (lf (nxB go (atq D nv nr ns go k) (LQ D nv nr ns go)) 8) &&& 31)) = nI (atq D nv nr ns go (k + 1)) from (wib_ix _ hw.1.1 _ hw.2).1]; rfl
theorem MQu.s87 {I I' I2 : Nat → Nat → Int32} {J J' : Nat → Nat → Int64} {D : Nat → Nat → Int32} {nv nr ns : Nat} (h : MQu I I' J J' D nv nr ns) (h2 : ∀ a, a ≠ 87 → I2 a = I' a) : MQu I I2 J J' D nv nr ns :=
  ⟨fun i a1 a2 a3 => by rw [h2 i (by omega)]; exact h.1 i a1 a2 a3, fun j a1 a2 a3 => by rw [h2 54 (by decide)]; exact h.2.1 j a1 a2 a3, h.2.2.1, by
    rw [h2 54 (by decide)]
    refine h.2.2.2.imp id (fun L b hb => ?_)
    obtain ⟨⟨q1, q2, q3⟩, q4⟩ := L b hb
    exact ⟨⟨by rw [h2 81 (by decide)]; exact q1, q2, by rw [h2 82 (by decide)]; exact q3⟩, by rw [h2 83 (by decide), h2 82 (by decide)]; exact q4⟩⟩
theorem c_X12_way {N : Nat} {S : Nat → Nat × Nat} {I : Nat → Nat → Int32} {J : Nat → Nat → Int64} {Q : Nat → Nat → Option Nat} {κ : Option Value → HP → Prop} {D : Nat → Nat → Int32} {nv nr ns md : Nat} (M : MOD I J D nv nr ns) (hm : D 75 3 = nI md) (hmd : md < 256) {x y : Int32} (k1 : ((∀ j, j < 256 → x ≠ nI j) ∨ (∃ go, go < 256 ∧ x = nI go ∧ ∀ n, n < pcn (nI go) → y ≠ nI n)) → κ (some (.int (-1))) (N, S, I, J, Q)) (k2 : ∀ go n, go < 256 → n < pcn (nI go) → x = nI go → y = nI n → LQ D nv nr ns go 0 = false → ∀ I' J', MQu I I' J J' D nv nr ns → κ (some (.int (-1))) (N, S, I', J', Q)) (k3 : ∀ go n, go < 256 → n < pcn (nI go) → x = nI go → y = nI n → LQ D nv nr ns go 0 = true → ∀ I' J', MQu I I' J J' D nv nr ns → κ (some (.int (nI (lf (nxB go (atq D nv nr ns go n) (LQ D nv nr ns go)) 8)))) (N, S, I', J', Q)) : CT E1 M_X12_way [.ref 54, .int x, .int y] (N, S, I, J, Q) κ := by
  refine ofSP mk_X12_way (Nat.le_of_ble_eq_true rfl) (L := [.ref 54, .int _, .int _, .retAddr _, .retAddr _, .retAddr _, .retAddr _]) rfl ?_
  refine s_aload_n (pc' := 1) dX12_way_0 rfl rfl ?_
  refine s_iload_n (pc' := 2) dX12_way_1 rfl rfl ?_
  refine s_callV (pc' := 5) (As := [.int _]) dX12_way_2 rfl mk_X12_isSet ml_X12_287 im_X12_isSet se_X12_X12_X12_isSet sh_54 (by decide) rfl rfl rfl ⟨Nat.le_of_ble_eq_true rfl, Nat.le_of_ble_eq_true rfl, Nat.le_of_ble_eq_true rfl, Nat.le_of_ble_eq_true rfl⟩ (Nat.le_of_ble_eq_true rfl) (c_X12_isSet (fun j2 hj2 e2 => ?_) (fun n2 => ?_))
  · refine s_ifeqF (pc' := 8) (tgt := 24) dX12_way_5 (by decide) rfl (by decide) ?_
    subst e2
    refine s_iload_n (pc' := 9) dX12_way_8 rfl rfl ?_
    refine s_i2l (pc' := 10) dX12_way_9 rfl ?_
    refine s_lconst (pc' := 11) (v := 0) dX12_way_10 rfl (by decide) ?_
    refine s_iload_n (pc' := 12) dX12_way_11 rfl rfl ?_
    refine s_callS (pc' := 15) (As := [.int _]) dX12_way_12 rfl mk_X12_bits ml_X12_203 sm_X12_bits rfl rfl ⟨Nat.le_of_ble_eq_true rfl, Nat.le_of_ble_eq_true rfl, Nat.le_of_ble_eq_true rfl, Nat.le_of_ble_eq_true rfl⟩ (Nat.le_of_ble_eq_true rfl) (c_X12_bits ?_)
    refine s_iconst (pc' := 16) (v := 1) dX12_way_15 rfl (by decide) ?_
    refine s_isub (pc' := 17) dX12_way_16 rfl ?_
    refine s_i2l (pc' := 18) dX12_way_17 rfl ?_
    refine s_callS (pc' := 21) (As := [.long _, .long _, .long _]) dX12_way_18 rfl mk_X12_isIn ml_X12_135 sm_X12_isIn rfl rfl ⟨Nat.le_of_ble_eq_true rfl, Nat.le_of_ble_eq_true rfl, Nat.le_of_ble_eq_true rfl, Nat.le_of_ble_eq_true rfl⟩ (Nat.le_of_ble_eq_true rfl) (c_isInR (a' := 0) (b' := (pcn (nI j2) : Int) - 1) rfl (by rw [bc_pc j2 hj2]; exact nI_m1l (by have : pcn (nI j2) ≤ 10 := cntB_le _ _; omega)) (fun i18 => ?_) (fun i18 => ?_))
    · refine s_ifneT (tgt := 26) dX12_way_21 (by decide) (by decide) ?_
      refine s_aload_n (pc' := 27) dX12_way_26 rfl rfl ?_
      refine s_callV (pc' := 30) (As := []) dX12_way_27 rfl mk_X12_lay ml_X12_208 im_X12_lay se_X12_X12_X12_lay sh_54 (by decide) rfl rfl rfl ⟨Nat.le_of_ble_eq_true rfl, Nat.le_of_ble_eq_true rfl, Nat.le_of_ble_eq_true rfl, Nat.le_of_ble_eq_true rfl⟩ (Nat.le_of_ble_eq_true rfl) (e_lay M (fun I1 J1 h1 => ?_))
      have hD1 := h1.1.da M.1
      have G1 := h1.2.2.2.g M.2.1 M.2.2.1
      have e75 : I1 75 3 = nI md := by rw [hD1 75 (by decide) (by decide)]; exact hm
      refine s_sipush (pc' := 33) (v := 255) dX12_way_30 rfl (by decide) ?_
      refine t_istore_n (pc' := 34) (L' := [.ref 54, .int _, .int _, .int _, .retAddr _, .retAddr _, .retAddr _]) dX12_way_33 rfl (Nat.le_of_ble_eq_true rfl) rfl ?_
      obtain ⟨n, hn, en⟩ := inR_ix i18
      subst en
      exact l_X12_way2 G1 hj2 (fun I2 hI2 R2 => by
        refine s_aload_n (pc' := 159) dX12_way_158 rfl rfl ?_
        refine s_getS (pc' := 162) (b := 87) dX12_way_159 rfl (by decide) rfl (by decide) fa_X12_108_12 rfl rfl ?_
        refine s_iconst (pc' := 163) (v := 0) dX12_way_162 rfl (by decide) ?_
        refine t_zald (pc' := 164) (q := 0) dX12_way_163 rfl sh_87 rfl (by decide) ?_
        refine s_ifne (pc' := 167) (tgt := 169) dX12_way_164 (by decide) rfl (fun c164 => ?_) (fun c164 => ?_)
        · refine s_iconst (pc' := 170) (v := 0) dX12_way_169 rfl (by decide) ?_
          refine t_istore_n (pc' := 171) (L' := [.ref 54, .int _, .int _, .int _, .retAddr _, .retAddr _, .retAddr _]) dX12_way_170 rfl (Nat.le_of_ble_eq_true rfl) rfl ?_
          refine s_iconst (pc' := 172) (v := -1) dX12_way_171 rfl (by decide) ?_
          refine t_istore (pc' := 174) (L' := [.ref 54, .int _, .int _, .int _, .int _, .retAddr _, .retAddr _]) dX12_way_172 rfl (Nat.le_of_ble_eq_true rfl) rfl ?_
          refine s_iconst (pc' := 175) (v := 0) dX12_way_174 rfl (by decide) ?_
          refine t_istore (pc' := 177) (L' := [.ref 54, .int _, .int _, .int _, .int _, .int _, .retAddr _]) dX12_way_175 rfl (Nat.le_of_ble_eq_true rfl) rfl ?_
          have h0 : LQ D nv nr ns j2 0 = true := b2_1 (by rw [← R2 0 (by decide)]; exact c164)
          exact l_X12_way4 hj2 hn h0 R2 (k3 j2 n hj2 hn rfl rfl h0 I2 J1 (h1.mq.s87 hI2)) (n + 1) 0 (by omega)
        · refine s_iconst (pc' := 168) (v := -1) dX12_way_167 rfl (by decide) ?_
          exact s_iret dX12_way_168 rfl (by decide) (by decide) (k2 j2 n hj2 hn rfl rfl (b2_0 (by rw [← R2 0 (by decide)]; simpa using c164)) I2 J1 (h1.mq.s87 hI2))
        ) 256 0 I1 rfl (fun _ _ => rfl) (fun b h1 h2 => by omega)
    · refine s_ifneF (pc' := 24) (tgt := 26) dX12_way_21 (by decide) rfl (by decide) ?_
      refine s_iconst (pc' := 25) (v := -1) dX12_way_24 rfl (by decide) ?_
      exact s_iret dX12_way_25 rfl (by decide) (by decide) (k1 (Or.inr ⟨j2, hj2, rfl, fun n hn e => i18 (by rw [e]; unfold inR; rw [nI_toInt (by have : pcn (nI j2) ≤ 10 := cntB_le _ _; omega)]; omega)⟩))
  · refine s_ifeqT (tgt := 24) dX12_way_5 (by decide) (by decide) ?_
    refine s_iconst (pc' := 25) (v := -1) dX12_way_24 rfl (by decide) ?_
    exact s_iret dX12_way_25 rfl (by decide) (by decide) (k1 (Or.inl n2))
