set_option maxHeartbeats 200000 in
theorem l_X12_isRing_w {N : Nat} {S : Nat → Nat × Nat} {I : Nat → Nat → Int32} {J : Nat → Nat → Int64} {Q : Nat → Nat → Option Nat} {κ : Option Value → HP → Prop} {D : Nat → Nat → Int32} {nv nr w : Nat} {rd : Int32} (R : RKP D nv nr w) {I1 : Nat → Nat → Int32} {m q x : Nat} {r : Nat → Nat} (g : RGI I I1 D nr w rd m q r) (hr : r q < 10) (hm : m ≤ 9) (hq : q < m) (x10 : x < 10) (hx : bt (ed D nr w rd (r q)) x = true) (hx1 : dst D nr w x = m - q) (hx2 : ∀ u, u < x → ¬ (bt (ed D nr w rd (r q)) u = true ∧ dst D nr w u = m - q)) (hk : SP E1 M_X12_isRing κ 283 [.ref 54, .int (nI w), .int rd, .int (nI m), .int (nI (q + 1)), .int (nI x)] [] (N, S, I1, J, Q) 0 0) : ∀ d : Nat, ∀ v, v + d = x → SP E1 M_X12_isRing κ 238 [.ref 54, .int (nI w), .int rd, .int (nI m), .int (nI (q + 1)), .int (nI v)] [] (N, S, I1, J, Q) 0 0 := by
  intro d
  induction d with
  | zero =>
    intro v hd
    obtain rfl : v = x := by omega
    have b1 := (bitI_1 (x := ed D nr w rd (r q)) (j := v) (by omega)).mpr hx
    refine s_aload_n (pc' := 239) dX12_isRing_238 rfl rfl ?_
    refine s_getS (pc' := 242) (b := 77) dX12_isRing_239 rfl (by decide) rfl (by decide) fa_X12_76_12 rfl rfl ?_
    refine s_aload_n (pc' := 243) dX12_isRing_242 rfl rfl ?_
    refine s_getS (pc' := 246) (b := 79) dX12_isRing_243 rfl (by decide) rfl (by decide) fa_X12_82_12 rfl rfl ?_
    refine s_iload (pc' := 248) dX12_isRing_246 rfl rfl ?_
    refine s_iconst (pc' := 249) (v := 1) dX12_isRing_248 rfl (by decide) ?_
    refine s_isub (pc' := 250) dX12_isRing_249 rfl ?_
    refine t_iald (pc' := 251) (q := q) dX12_isRing_250 rfl sh_79 (nI_p1 q) (by omega) ?_
    refine t_iald (pc' := 252) (q := r q) dX12_isRing_251 rfl sh_77 (g.2.2.2.2.2 q (Nat.le_refl _)) hr ?_
    refine s_iload (pc' := 254) dX12_isRing_252 rfl rfl ?_
    refine s_ishr (pc' := 255) dX12_isRing_254 rfl ?_
    refine s_iconst (pc' := 256) (v := 1) dX12_isRing_255 rfl (by decide) ?_
    refine s_iand (pc' := 257) dX12_isRing_256 rfl ?_
    refine s_ifeqF (pc' := 260) (tgt := 277) dX12_isRing_257 (by decide) rfl (by rw [g.2.2.2.1 (r q) hr]; exact fun z => absurd (b1.symm.trans z) (by decide)) ?_
    refine s_aload_n (pc' := 261) dX12_isRing_260 rfl rfl ?_
    refine s_getS (pc' := 264) (b := 78) dX12_isRing_261 rfl (by decide) rfl (by decide) fa_X12_79_12 rfl rfl ?_
    refine s_iload (pc' := 266) dX12_isRing_264 rfl rfl ?_
    refine t_iald (pc' := 267) dX12_isRing_266 rfl sh_78 rfl (by omega) ?_
    refine s_aload_n (pc' := 268) dX12_isRing_267 rfl rfl ?_
    refine t_getI (pc' := 271) dX12_isRing_268 rfl sh_54 (by decide) fa_X12_200_12 rfl ?_
    refine s_iload (pc' := 273) dX12_isRing_271 rfl rfl ?_
    refine s_isub (pc' := 274) dX12_isRing_273 rfl ?_
    refine s_icmpeqT (tgt := 283) dX12_isRing_274 (by decide) (by rw [g.2.2.2.2.1 v (by omega), g.2.2.1, nI_sb (by omega), hx1]) ?_
    exact hk
  | succ d ih =>
    intro v hd
    have nx := hx2 v (by omega)
    refine s_aload_n (pc' := 239) dX12_isRing_238 rfl rfl ?_
    refine s_getS (pc' := 242) (b := 77) dX12_isRing_239 rfl (by decide) rfl (by decide) fa_X12_76_12 rfl rfl ?_
    refine s_aload_n (pc' := 243) dX12_isRing_242 rfl rfl ?_
    refine s_getS (pc' := 246) (b := 79) dX12_isRing_243 rfl (by decide) rfl (by decide) fa_X12_82_12 rfl rfl ?_
    refine s_iload (pc' := 248) dX12_isRing_246 rfl rfl ?_
    refine s_iconst (pc' := 249) (v := 1) dX12_isRing_248 rfl (by decide) ?_
    refine s_isub (pc' := 250) dX12_isRing_249 rfl ?_
    refine t_iald (pc' := 251) (q := q) dX12_isRing_250 rfl sh_79 (nI_p1 q) (by omega) ?_
    refine t_iald (pc' := 252) (q := r q) dX12_isRing_251 rfl sh_77 (g.2.2.2.2.2 q (Nat.le_refl _)) hr ?_
    refine s_iload (pc' := 254) dX12_isRing_252 rfl rfl ?_
    refine s_ishr (pc' := 255) dX12_isRing_254 rfl ?_
    refine s_iconst (pc' := 256) (v := 1) dX12_isRing_255 rfl (by decide) ?_
    refine s_iand (pc' := 257) dX12_isRing_256 rfl ?_
    refine s_ifeq (pc' := 260) (tgt := 277) dX12_isRing_257 (by decide) rfl (fun c257 => ?_) (fun c257 => ?_)
    · refine t_iinc (pc' := 280) (v := nI (v + 1)) (L' := [.ref 54, .int _, .int _, .int _, .int _, .int _]) dX12_isRing_277 rfl rfl (nI_inc v) rfl ?_
      refine s_goto (tgt := 238) dX12_isRing_280 (by decide) ?_
      exact ih (v + 1) (by omega)
    · refine s_aload_n (pc' := 261) dX12_isRing_260 rfl rfl ?_
      refine s_getS (pc' := 264) (b := 78) dX12_isRing_261 rfl (by decide) rfl (by decide) fa_X12_79_12 rfl rfl ?_
      refine s_iload (pc' := 266) dX12_isRing_264 rfl rfl ?_
      refine t_iald (pc' := 267) dX12_isRing_266 rfl sh_78 rfl (by omega) ?_
      refine s_aload_n (pc' := 268) dX12_isRing_267 rfl rfl ?_
      refine t_getI (pc' := 271) dX12_isRing_268 rfl sh_54 (by decide) fa_X12_200_12 rfl ?_
      refine s_iload (pc' := 273) dX12_isRing_271 rfl rfl ?_
      refine s_isub (pc' := 274) dX12_isRing_273 rfl ?_
      refine s_icmpeqF (pc' := 277) (tgt := 283) dX12_isRing_274 (by decide) rfl (by rw [g.2.2.2.2.1 v (by omega), g.2.2.1, nI_sb (by omega)]; exact fun z => nx ⟨bitI_b (j := v) (by omega) (by rw [← g.2.2.2.1 (r q) hr]; exact c257), (nI_eq (by have := R.le (v := v) (by omega); omega) (by omega)).mp z⟩) ?_
      refine t_iinc (pc' := 280) (v := nI (v + 1)) (L' := [.ref 54, .int _, .int _, .int _, .int _, .int _]) dX12_isRing_277 rfl rfl (nI_inc v) rfl ?_
      refine s_goto (tgt := 238) dX12_isRing_280 (by decide) ?_
      exact ih (v + 1) (by omega)
set_option maxHeartbeats 200000 in
theorem l_X12_isRing_r {N : Nat} {S : Nat → Nat × Nat} {I : Nat → Nat → Int32} {J : Nat → Nat → Int64} {Q : Nat → Nat → Option Nat} {κ : Option Value → HP → Prop} {D : Nat → Nat → Int32} {nv nr w : Nat} {rd : Int32} (R : RKP D nv nr w) {m : Nat} (hm : MNR D nr w rd m) (k2 : ∀ m r, MNR D nr w rd m → RNG D nr w rd m r → ∀ I', RGI I I' D nr w rd m m r → κ (some (.int 1)) (N, S, I', J, Q)) : ∀ d : Nat, ∀ q r I' (x5 : Value), q + d = m → RNGq D nr w rd m q r → RGI I I' D nr w rd m q r → SP E1 M_X12_isRing κ 226 [.ref 54, .int (nI w), .int rd, .int (nI m), .int (nI (q + 1)), x5] [] (N, S, I', J, Q) 0 0 := by
  intro d
  induction d with
  | zero =>
    intro q r I' x5 hd h g
    obtain rfl : q = m := by omega
    refine s_iload (pc' := 228) dX12_isRing_226 rfl rfl ?_
    refine s_aload_n (pc' := 229) dX12_isRing_228 rfl rfl ?_
    refine t_getI (pc' := 232) dX12_isRing_229 rfl sh_54 (by decide) fa_X12_200_12 rfl ?_
    refine s_icmpgeT (tgt := 298) dX12_isRing_232 (by decide) (by rw [g.2.2.1]; exact Int32.le_refl _) ?_
    refine s_iconst (pc' := 299) (v := 1) dX12_isRing_298 rfl (by decide) ?_
    exact s_zret dX12_isRing_299 rfl rfl (by decide) (by decide) (k2 q r hm h I' g)
  | succ d ih =>
    intro q r I' x5 hd h g
    have h9 := hm.1
    have hw10 : w < 10 := by have := R.1; have := R.2.1; omega
    obtain ⟨x, x1, x2⟩ := h.ex R hm (by omega)
    refine s_iload (pc' := 228) dX12_isRing_226 rfl rfl ?_
    refine s_aload_n (pc' := 229) dX12_isRing_228 rfl rfl ?_
    refine t_getI (pc' := 232) dX12_isRing_229 rfl sh_54 (by decide) fa_X12_200_12 rfl ?_
    refine s_icmpgeF (pc' := 235) (tgt := 298) dX12_isRing_232 (by decide) rfl (by rw [g.2.2.1]; exact nI_ge (by omega) (by omega)) ?_
    refine s_iconst (pc' := 236) (v := 0) dX12_isRing_235 rfl (by decide) ?_
    refine t_istore (pc' := 238) (L' := [.ref 54, .int _, .int _, .int _, .int _, .int _]) dX12_isRing_236 rfl (Nat.le_of_ble_eq_true rfl) rfl ?_
    refine l_X12_isRing_w R g (h.lt hw10 (Nat.le_refl _)) h9 (by omega) x1.1 x1.2.1 x1.2.2 x2 ?_ x 0 (by omega)
    refine s_aload_n (pc' := 284) dX12_isRing_283 rfl rfl ?_
    refine s_getS (pc' := 287) (b := 79) dX12_isRing_284 rfl (by decide) rfl (by decide) fa_X12_82_12 rfl rfl ?_
    refine s_iload (pc' := 289) dX12_isRing_287 rfl rfl ?_
    refine s_iload (pc' := 291) dX12_isRing_289 rfl rfl ?_
    refine t_iast (pc' := 292) (q := q + 1) dX12_isRing_291 rfl sh_79 rfl (by omega) ?_
    refine t_iinc (pc' := 295) (v := nI (q + 2)) (L' := [.ref 54, .int _, .int _, .int _, .int _, .int _]) dX12_isRing_292 rfl rfl (nI_inc (q + 1)) rfl ?_
    refine s_goto (tgt := 226) dX12_isRing_295 (by decide) ?_
    exact ih (q + 1) _ _ _ (by omega) (h.s x1 x2) g.s
set_option maxHeartbeats 200000 in
theorem l_X12_isRing_l {N : Nat} {S : Nat → Nat × Nat} {I : Nat → Nat → Int32} {J : Nat → Nat → Int64} {Q : Nat → Nat → Option Nat} {κ : Option Value → HP → Prop} {D : Nat → Nat → Int32} {nv nr w : Nat} {rd : Int32} (R : RKP D nv nr w) {f : Nat → Nat} {I1 : Nat → Nat → Int32} (g : BI I I1 D nr w rd f) (hf : ∀ v, v < 10 → f v = dst D nr w v) (k1 : (∀ v, v < 10 → bt rd v = true → dst D nr w v = 100) → ∀ I', (∀ a, a ≠ 77 → a ≠ 78 → I' a = I a) → κ (some (.int 0)) (N, S, I', J, Q)) (k2 : ∀ m r, MNR D nr w rd m → RNG D nr w rd m r → ∀ I', RGI I I' D nr w rd m m r → κ (some (.int 1)) (N, S, I', J, Q)) : ∀ d : Nat, ∀ k l (x5 : Value), k + d = 10 → LSf D nr w rd l k → SP E1 M_X12_isRing κ 154 [.ref 54, .int (nI w), .int rd, .int (nI l), .int (nI k), x5] [] (N, S, I1, J, Q) 0 0 := by
  intro d
  induction d with
  | zero =>
    intro k l x5 hd h
    obtain rfl : k = 10 := by omega
    refine s_iload (pc' := 156) dX12_isRing_154 rfl rfl ?_
    refine s_bipush (pc' := 158) (v := 10) dX12_isRing_156 rfl (by decide) ?_
    refine s_icmpgeT (tgt := 201) dX12_isRing_158 (by decide) (by decide) ?_
    refine s_iload_n (pc' := 202) dX12_isRing_201 rfl rfl ?_
    refine s_bipush (pc' := 204) (v := 100) dX12_isRing_202 rfl (by decide) ?_
    refine s_icmplt (pc' := 207) (tgt := 209) dX12_isRing_204 (by decide) rfl (fun c204 => ?_) (fun c204 => ?_)
    · refine s_aload_n (pc' := 210) dX12_isRing_209 rfl rfl ?_
      refine s_getS (pc' := 213) (b := 79) dX12_isRing_210 rfl (by decide) rfl (by decide) fa_X12_82_12 rfl rfl ?_
      refine s_iconst (pc' := 214) (v := 0) dX12_isRing_213 rfl (by decide) ?_
      refine s_iload_n (pc' := 215) dX12_isRing_214 rfl rfl ?_
      refine t_iast (pc' := 216) (q := 0) dX12_isRing_215 rfl sh_79 rfl (by decide) ?_
      refine s_aload_n (pc' := 217) dX12_isRing_216 rfl rfl ?_
      refine s_iload_n (pc' := 218) dX12_isRing_217 rfl rfl ?_
      refine s_iconst (pc' := 219) (v := 1) dX12_isRing_218 rfl (by decide) ?_
      refine s_iadd (pc' := 220) dX12_isRing_219 rfl ?_
      refine t_putI (pc' := 223) dX12_isRing_220 rfl sh_54 (by decide) fa_X12_200_12 (Or.inl rfl) rfl rfl rfl ?_
      refine s_iconst (pc' := 224) (v := 1) dX12_isRing_223 rfl (by decide) ?_
      refine t_istore (pc' := 226) (L' := [.ref 54, .int _, .int _, .int _, .int _, _]) dX12_isRing_224 rfl (Nat.le_of_ble_eq_true rfl) rfl ?_
      have hm := h.ys ((nI_ltI (b := 100) (by have := h.1; omega) (by decide)).mp c204) R
      refine l_X12_isRing_r R hm k2 l 0 _ _ _ (by omega) ⟨rfl, fun i hi => absurd hi (Nat.not_lt_zero _)⟩ (RGI.z g hf (nI_1 l))
    · refine s_iconst (pc' := 208) (v := 0) dX12_isRing_207 rfl (by decide) ?_
      exact s_zret dX12_isRing_208 rfl rfl (by decide) (by decide) (k1 (h.no ((nI_leI (a := 100) (by decide) (by have := h.1; omega)).mp (Int32.not_lt.mp c204)) R) _ g.1)
  | succ d ih =>
    intro k l x5 hd h
    have hw10 : w < 10 := by have := R.1; have := R.2.1; omega
    have e77 : I1 77 w = ed D nr w rd w := g.2.1 w hw10
    have e78 : I1 78 k = nI (dst D nr w k) := by rw [g.2.2 k (by omega), hf k (by omega)]
    have dk := R.le (v := k) (by omega)
    have hl := h.1
    refine s_iload (pc' := 156) dX12_isRing_154 rfl rfl ?_
    refine s_bipush (pc' := 158) (v := 10) dX12_isRing_156 rfl (by decide) ?_
    refine s_icmpgeF (pc' := 161) (tgt := 201) dX12_isRing_158 (by decide) rfl (nI_ge (b := 10) (by omega) (by decide)) ?_
    refine s_aload_n (pc' := 162) dX12_isRing_161 rfl rfl ?_
    refine s_getS (pc' := 165) (b := 77) dX12_isRing_162 rfl (by decide) rfl (by decide) fa_X12_76_12 rfl rfl ?_
    refine s_iload_n (pc' := 166) dX12_isRing_165 rfl rfl ?_
    refine t_iald (pc' := 167) dX12_isRing_166 rfl sh_77 rfl hw10 ?_
    refine s_iload (pc' := 169) dX12_isRing_167 rfl rfl ?_
    refine s_ishr (pc' := 170) dX12_isRing_169 rfl ?_
    refine s_iconst (pc' := 171) (v := 1) dX12_isRing_170 rfl (by decide) ?_
    refine s_iand (pc' := 172) dX12_isRing_171 rfl ?_
    refine s_iconst (pc' := 173) (v := 1) dX12_isRing_172 rfl (by decide) ?_
    refine s_icmpne (pc' := 176) (tgt := 195) dX12_isRing_173 (by decide) rfl (fun c173 => ?_) (fun c173 => ?_)
    · rw [e77] at c173
      refine t_iinc (pc' := 198) (v := nI (k + 1)) (L' := [.ref 54, .int _, .int _, .int _, .int _, _]) dX12_isRing_195 rfl rfl (nI_inc k) rfl ?_
      refine s_goto (tgt := 154) dX12_isRing_198 (by decide) ?_
      exact ih (k + 1) l _ (by omega) (h.n (fun z => absurd ((bitI_1 (by omega)).mpr z) c173))
    · rw [e77] at c173
      refine s_aload_n (pc' := 177) dX12_isRing_176 rfl rfl ?_
      refine s_getS (pc' := 180) (b := 78) dX12_isRing_177 rfl (by decide) rfl (by decide) fa_X12_79_12 rfl rfl ?_
      refine s_iload (pc' := 182) dX12_isRing_180 rfl rfl ?_
      refine t_iald (pc' := 183) dX12_isRing_182 rfl sh_78 rfl (by omega) ?_
      refine s_iload_n (pc' := 184) dX12_isRing_183 rfl rfl ?_
      refine s_icmpge (pc' := 187) (tgt := 195) dX12_isRing_184 (by decide) rfl (fun c184 => ?_) (fun c184 => ?_)
      · rw [e78] at c184
        refine t_iinc (pc' := 198) (v := nI (k + 1)) (L' := [.ref 54, .int _, .int _, .int _, .int _, _]) dX12_isRing_195 rfl rfl (nI_inc k) rfl ?_
        refine s_goto (tgt := 154) dX12_isRing_198 (by decide) ?_
        exact ih (k + 1) l _ (by omega) (h.n (fun _ => (nI_leI (by omega) (by omega)).mp c184))
      · rw [e78] at c184
        refine s_aload_n (pc' := 188) dX12_isRing_187 rfl rfl ?_
        refine s_getS (pc' := 191) (b := 78) dX12_isRing_188 rfl (by decide) rfl (by decide) fa_X12_79_12 rfl rfl ?_
        refine s_iload (pc' := 193) dX12_isRing_191 rfl rfl ?_
        refine t_iald (pc' := 194) dX12_isRing_193 rfl sh_78 rfl (by omega) ?_
        refine t_istore_n (pc' := 195) (L' := [.ref 54, .int _, .int _, .int _, .int _, _]) dX12_isRing_194 rfl (Nat.le_of_ble_eq_true rfl) rfl ?_
        rw [e78]
        refine t_iinc (pc' := 198) (v := nI (k + 1)) (L' := [.ref 54, .int _, .int _, .int _, .int _, _]) dX12_isRing_195 rfl rfl (nI_inc k) rfl ?_
        refine s_goto (tgt := 154) dX12_isRing_198 (by decide) ?_
        exact ih (k + 1) _ _ (by omega) (h.up ((bitI_1 (by omega)).mp c173) (Nat.lt_of_not_le (fun z => c184 ((nI_leI (by omega) (by omega)).mpr z))) (by omega))
set_option maxHeartbeats 200000 in
theorem l_X12_isRing_v {N : Nat} {S : Nat → Nat × Nat} {I : Nat → Nat → Int32} {J : Nat → Nat → Int64} {Q : Nat → Nat → Option Nat} {κ : Option Value → HP → Prop} {D : Nat → Nat → Int32} {nv nr w : Nat} {rd : Int32} (R : RKP D nv nr w) {f : Nat → Nat} {k W : Nat} (hW : W < 10) (hk : ∀ g I', BI I I' D nr w rd g → RIf D nr w f g W 10 → SP E1 M_X12_isRing κ 136 [.ref 54, .int (nI w), .int rd, .int (nI k), .int (nI W), .int (nI 10)] [] (N, S, I', J, Q) 0 0) : ∀ d : Nat, ∀ V g I', V + d = 10 → BI I I' D nr w rd g → RIf D nr w f g W V → SP E1 M_X12_isRing κ 66 [.ref 54, .int (nI w), .int rd, .int (nI k), .int (nI W), .int (nI V)] [] (N, S, I', J, Q) 0 0 := by
  intro d
  induction d with
  | zero =>
    intro V g I' hd b h
    obtain rfl : V = 10 := by omega
    refine s_iload (pc' := 68) dX12_isRing_66 rfl rfl ?_
    refine s_bipush (pc' := 70) (v := 10) dX12_isRing_68 rfl (by decide) ?_
    refine s_icmpgeT (tgt := 136) dX12_isRing_70 (by decide) (by decide) ?_
    exact hk g I' b h
  | succ d ih =>
    intro V g I' hd b h
    have eW : I' 78 W = nI (g W) := b.2.2 W hW
    have eV : I' 78 V = nI (g V) := b.2.2 V (by omega)
    have e77 : I' 77 W = ed D nr w rd W := b.2.1 W hW
    have gW := (h.1 W hW).1
    have gV := (h.1 V (by omega)).1
    have hw10 : w < 10 := by have := R.1; have := R.2.1; omega
    refine s_iload (pc' := 68) dX12_isRing_66 rfl rfl ?_
    refine s_bipush (pc' := 70) (v := 10) dX12_isRing_68 rfl (by decide) ?_
    refine s_icmpgeF (pc' := 73) (tgt := 136) dX12_isRing_70 (by decide) rfl (nI_ge (b := 10) (by omega) (by decide)) ?_
    refine s_iload (pc' := 75) dX12_isRing_73 rfl rfl ?_
    refine s_iload_n (pc' := 76) dX12_isRing_75 rfl rfl ?_
    refine s_icmpeq (pc' := 79) (tgt := 130) dX12_isRing_76 (by decide) rfl (fun c76 => ?_) (fun c76 => ?_)
    · refine t_iinc (pc' := 133) (v := nI (V + 1)) (L' := [.ref 54, .int _, .int _, .int _, .int _, .int _]) dX12_isRing_130 rfl rfl (nI_inc V) rfl ?_
      refine s_goto (tgt := 66) dX12_isRing_133 (by decide) ?_
      exact ih (V + 1) g I' (by omega) b (h.ww (ixe c76 (by omega) (by omega)))
    · refine s_aload_n (pc' := 80) dX12_isRing_79 rfl rfl ?_
      refine s_getS (pc' := 83) (b := 77) dX12_isRing_80 rfl (by decide) rfl (by decide) fa_X12_76_12 rfl rfl ?_
      refine s_iload (pc' := 85) dX12_isRing_83 rfl rfl ?_
      refine t_iald (pc' := 86) dX12_isRing_85 rfl sh_77 rfl hW ?_
      refine s_iload (pc' := 88) dX12_isRing_86 rfl rfl ?_
      refine s_ishr (pc' := 89) dX12_isRing_88 rfl ?_
      refine s_iconst (pc' := 90) (v := 1) dX12_isRing_89 rfl (by decide) ?_
      refine s_iand (pc' := 91) dX12_isRing_90 rfl ?_
      refine s_iconst (pc' := 92) (v := 1) dX12_isRing_91 rfl (by decide) ?_
      refine s_icmpne (pc' := 95) (tgt := 130) dX12_isRing_92 (by decide) rfl (fun c92 => ?_) (fun c92 => ?_)
      · refine t_iinc (pc' := 133) (v := nI (V + 1)) (L' := [.ref 54, .int _, .int _, .int _, .int _, .int _]) dX12_isRing_130 rfl rfl (nI_inc V) rfl ?_
        refine s_goto (tgt := 66) dX12_isRing_133 (by decide) ?_
        have nW : W ≠ w := fun z => c76 (by rw [z])
        rw [e77, ed_o nW] at c92
        exact ih (V + 1) g I' (by omega) b (h.n (fun z => absurd ((bitI_1 (by omega)).mpr z) c92) (by omega))
      · refine s_aload_n (pc' := 96) dX12_isRing_95 rfl rfl ?_
        refine s_getS (pc' := 99) (b := 78) dX12_isRing_96 rfl (by decide) rfl (by decide) fa_X12_79_12 rfl rfl ?_
        refine s_iload (pc' := 101) dX12_isRing_99 rfl rfl ?_
        refine t_iald (pc' := 102) dX12_isRing_101 rfl sh_78 rfl (by omega) ?_
        refine s_iconst (pc' := 103) (v := 1) dX12_isRing_102 rfl (by decide) ?_
        refine s_iadd (pc' := 104) dX12_isRing_103 rfl ?_
        refine s_aload_n (pc' := 105) dX12_isRing_104 rfl rfl ?_
        refine s_getS (pc' := 108) (b := 78) dX12_isRing_105 rfl (by decide) rfl (by decide) fa_X12_79_12 rfl rfl ?_
        refine s_iload (pc' := 110) dX12_isRing_108 rfl rfl ?_
        refine t_iald (pc' := 111) dX12_isRing_110 rfl sh_78 rfl hW ?_
        refine s_icmpge (pc' := 114) (tgt := 130) dX12_isRing_111 (by decide) rfl (fun c111 => ?_) (fun c111 => ?_)
        · refine t_iinc (pc' := 133) (v := nI (V + 1)) (L' := [.ref 54, .int _, .int _, .int _, .int _, .int _]) dX12_isRing_130 rfl rfl (nI_inc V) rfl ?_
          refine s_goto (tgt := 66) dX12_isRing_133 (by decide) ?_
          rw [eW, eV] at c111
          exact ih (V + 1) g I' (by omega) b (h.n (fun _ => (nI_leI (by omega) (by omega)).mp (by rw [← nI_1]; exact c111)) (by omega))
        · refine s_aload_n (pc' := 115) dX12_isRing_114 rfl rfl ?_
          refine s_getS (pc' := 118) (b := 78) dX12_isRing_115 rfl (by decide) rfl (by decide) fa_X12_79_12 rfl rfl ?_
          refine s_iload (pc' := 120) dX12_isRing_118 rfl rfl ?_
          refine s_aload_n (pc' := 121) dX12_isRing_120 rfl rfl ?_
          refine s_getS (pc' := 124) (b := 78) dX12_isRing_121 rfl (by decide) rfl (by decide) fa_X12_79_12 rfl rfl ?_
          refine s_iload (pc' := 126) dX12_isRing_124 rfl rfl ?_
          refine t_iald (pc' := 127) dX12_isRing_126 rfl sh_78 rfl (by omega) ?_
          refine s_iconst (pc' := 128) (v := 1) dX12_isRing_127 rfl (by decide) ?_
          refine s_iadd (pc' := 129) dX12_isRing_128 rfl ?_
          refine t_iast (pc' := 130) dX12_isRing_129 rfl sh_78 rfl hW ?_
          refine t_iinc (pc' := 133) (v := nI (V + 1)) (L' := [.ref 54, .int _, .int _, .int _, .int _, .int _]) dX12_isRing_130 rfl rfl (nI_inc V) rfl ?_
          refine s_goto (tgt := 66) dX12_isRing_133 (by decide) ?_
          have nW : W ≠ w := fun z => c76 (by rw [z])
          rw [e77, ed_o nW] at c92
          rw [eW, eV] at c111
          have lt : g V + 1 < g W := Nat.lt_of_not_le (fun z => c111 (by show nI (g W) ≤ nI (g V) + 1; rw [nI_1]; exact nI_le z (by omega)))
          exact ih (V + 1) _ _ (by omega) (b.up (m := g V + 1) (by rw [eV]; exact nI_1 _)) (h.up ((bitI_1 (by omega)).mp c92) lt (by omega) hW)
set_option maxHeartbeats 200000 in
theorem l_X12_isRing_u {N : Nat} {S : Nat → Nat × Nat} {I : Nat → Nat → Int32} {J : Nat → Nat → Int64} {Q : Nat → Nat → Option Nat} {κ : Option Value → HP → Prop} {D : Nat → Nat → Int32} {nv nr w : Nat} {rd : Int32} (R : RKP D nv nr w) {f : Nat → Nat} {k : Nat} (hk : ∀ g I' (x5 : Value), BI I I' D nr w rd g → RIf D nr w f g 10 0 → SP E1 M_X12_isRing κ 142 [.ref 54, .int (nI w), .int rd, .int (nI k), .int (nI 10), x5] [] (N, S, I', J, Q) 0 0) : ∀ d : Nat, ∀ W g I' (x5 : Value), W + d = 10 → BI I I' D nr w rd g → RIf D nr w f g W 0 → SP E1 M_X12_isRing κ 56 [.ref 54, .int (nI w), .int rd, .int (nI k), .int (nI W), x5] [] (N, S, I', J, Q) 0 0 := by
  intro d
  induction d with
  | zero =>
    intro W g I' x5 hd b h
    obtain rfl : W = 10 := by omega
    refine s_iload (pc' := 58) dX12_isRing_56 rfl rfl ?_
    refine s_bipush (pc' := 60) (v := 10) dX12_isRing_58 rfl (by decide) ?_
    refine s_icmpgeT (tgt := 142) dX12_isRing_60 (by decide) (by decide) ?_
    exact hk g I' x5 b h
  | succ d ih =>
    intro W g I' x5 hd b h
    refine s_iload (pc' := 58) dX12_isRing_56 rfl rfl ?_
    refine s_bipush (pc' := 60) (v := 10) dX12_isRing_58 rfl (by decide) ?_
    refine s_icmpgeF (pc' := 63) (tgt := 142) dX12_isRing_60 (by decide) rfl (nI_ge (b := 10) (by omega) (by decide)) ?_
    refine s_iconst (pc' := 64) (v := 0) dX12_isRing_63 rfl (by decide) ?_
    refine t_istore (pc' := 66) (L' := [.ref 54, .int _, .int _, .int _, .int _, .int _]) dX12_isRing_64 rfl (Nat.le_of_ble_eq_true rfl) rfl ?_
    refine l_X12_isRing_v R (f := f) (by omega) (fun g2 I2 b2 h2 => ?_) 10 0 g I' (by omega) b h
    refine t_iinc (pc' := 139) (v := nI (W + 1)) (L' := [.ref 54, .int _, .int _, .int _, .int _, .int _]) dX12_isRing_136 rfl rfl (nI_inc W) rfl ?_
    refine s_goto (tgt := 56) dX12_isRing_139 (by decide) ?_
    exact ih (W + 1) g2 I2 _ (by omega) b2 h2.r
set_option maxHeartbeats 200000 in
theorem l_X12_isRing_k {N : Nat} {S : Nat → Nat × Nat} {I : Nat → Nat → Int32} {J : Nat → Nat → Int64} {Q : Nat → Nat → Option Nat} {κ : Option Value → HP → Prop} {D : Nat → Nat → Int32} {nv nr w : Nat} {rd : Int32} (R : RKP D nv nr w) (k1 : (∀ v, v < 10 → bt rd v = true → dst D nr w v = 100) → ∀ I', (∀ a, a ≠ 77 → a ≠ 78 → I' a = I a) → κ (some (.int 0)) (N, S, I', J, Q)) (k2 : ∀ m r, MNR D nr w rd m → RNG D nr w rd m r → ∀ I', RGI I I' D nr w rd m m r → κ (some (.int 1)) (N, S, I', J, Q)) : ∀ d : Nat, ∀ k f I' (x4 x5 : Value), k + d = 10 → BI I I' D nr w rd f → OKf D nr w f → CMf D nr w f k → SP E1 M_X12_isRing κ 47 [.ref 54, .int (nI w), .int rd, .int (nI k), x4, x5] [] (N, S, I', J, Q) 0 0 := by
  intro d
  induction d with
  | zero =>
    intro k f I' x4 x5 hd b h c
    obtain rfl : k = 10 := by omega
    refine s_iload_n (pc' := 48) dX12_isRing_47 rfl rfl ?_
    refine s_bipush (pc' := 50) (v := 10) dX12_isRing_48 rfl (by decide) ?_
    refine s_icmpgeT (tgt := 148) dX12_isRing_50 (by decide) (by decide) ?_
    refine s_bipush (pc' := 150) (v := 100) dX12_isRing_148 rfl (by decide) ?_
    refine t_istore_n (pc' := 151) (L' := [.ref 54, .int _, .int _, .int _, _, _]) dX12_isRing_150 rfl (Nat.le_of_ble_eq_true rfl) rfl ?_
    refine s_iconst (pc' := 152) (v := 0) dX12_isRing_151 rfl (by decide) ?_
    refine t_istore (pc' := 154) (L' := [.ref 54, .int _, .int _, .int _, .int _, _]) dX12_isRing_152 rfl (Nat.le_of_ble_eq_true rfl) rfl ?_
    exact l_X12_isRing_l R b (fun v hv => h.dst R c hv) k1 k2 10 0 100 _ (by omega) LSf.z
  | succ d ih =>
    intro k f I' x4 x5 hd b h c
    have hw10 : w < 10 := by have := R.1; have := R.2.1; omega
    refine s_iload_n (pc' := 48) dX12_isRing_47 rfl rfl ?_
    refine s_bipush (pc' := 50) (v := 10) dX12_isRing_48 rfl (by decide) ?_
    refine s_icmpgeF (pc' := 53) (tgt := 148) dX12_isRing_50 (by decide) rfl (nI_ge (b := 10) (by omega) (by decide)) ?_
    refine s_iconst (pc' := 54) (v := 0) dX12_isRing_53 rfl (by decide) ?_
    refine t_istore (pc' := 56) (L' := [.ref 54, .int _, .int _, .int _, .int _, _]) dX12_isRing_54 rfl (Nat.le_of_ble_eq_true rfl) rfl ?_
    refine l_X12_isRing_u R (f := f) (fun g2 I2 y5 b2 h2 => ?_) 10 0 f I' _ (by omega) b (RIf.z h)
    refine t_iinc (pc' := 145) (v := nI (k + 1)) (L' := [.ref 54, .int _, .int _, .int _, .int _, _]) dX12_isRing_142 rfl rfl (nI_inc k) rfl ?_
    refine s_goto (tgt := 47) dX12_isRing_145 (by decide) ?_
    exact ih (k + 1) g2 I2 _ _ (by omega) b2 (h2.e c hw10).1 (h2.e c hw10).2
set_option maxHeartbeats 200000 in
theorem l_X12_isRing_z {N : Nat} {S : Nat → Nat × Nat} {I : Nat → Nat → Int32} {J : Nat → Nat → Int64} {Q : Nat → Nat → Option Nat} {κ : Option Value → HP → Prop} {D : Nat → Nat → Int32} {nv nr w : Nat} {rd : Int32} (R : RKP D nv nr w) (k1 : (∀ v, v < 10 → bt rd v = true → dst D nr w v = 100) → ∀ I', (∀ a, a ≠ 77 → a ≠ 78 → I' a = I a) → κ (some (.int 0)) (N, S, I', J, Q)) (k2 : ∀ m r, MNR D nr w rd m → RNG D nr w rd m r → ∀ I', RGI I I' D nr w rd m m r → κ (some (.int 1)) (N, S, I', J, Q)) : ∀ d : Nat, ∀ k I' (x4 x5 : Value), k + d = 10 → BI0 I I' D nr w rd k → SP E1 M_X12_isRing κ 16 [.ref 54, .int (nI w), .int rd, .int (nI k), x4, x5] [] (N, S, I', J, Q) 0 0 := by
  intro d
  induction d with
  | zero =>
    intro k I' x4 x5 hd b
    obtain rfl : k = 10 := by omega
    refine s_iload_n (pc' := 17) dX12_isRing_16 rfl rfl ?_
    refine s_bipush (pc' := 19) (v := 10) dX12_isRing_17 rfl (by decide) ?_
    refine s_icmpgeT (tgt := 45) dX12_isRing_19 (by decide) (by decide) ?_
    refine s_iconst (pc' := 46) (v := 0) dX12_isRing_45 rfl (by decide) ?_
    refine t_istore_n (pc' := 47) (L' := [.ref 54, .int _, .int _, .int _, _, _]) dX12_isRing_46 rfl (Nat.le_of_ble_eq_true rfl) rfl ?_
    exact l_X12_isRing_k R k1 k2 10 0 _ _ _ _ (by omega) b.e.1 b.e.2.1 b.e.2.2
  | succ d ih =>
    intro k I' x4 x5 hd b
    have hw10 : w < 10 := by have := R.1; have := R.2.1; omega
    refine s_iload_n (pc' := 17) dX12_isRing_16 rfl rfl ?_
    refine s_bipush (pc' := 19) (v := 10) dX12_isRing_17 rfl (by decide) ?_
    refine s_icmpgeF (pc' := 22) (tgt := 45) dX12_isRing_19 (by decide) rfl (nI_ge (b := 10) (by omega) (by decide)) ?_
    refine s_aload_n (pc' := 23) dX12_isRing_22 rfl rfl ?_
    refine s_getS (pc' := 26) (b := 78) dX12_isRing_23 rfl (by decide) rfl (by decide) fa_X12_79_12 rfl rfl ?_
    refine s_iload_n (pc' := 27) dX12_isRing_26 rfl rfl ?_
    refine s_iload_n (pc' := 28) dX12_isRing_27 rfl rfl ?_
    refine s_iload_n (pc' := 29) dX12_isRing_28 rfl rfl ?_
    refine s_icmpne (pc' := 32) (tgt := 36) dX12_isRing_29 (by decide) rfl (fun c29 => ?_) (fun c29 => ?_)
    · refine s_bipush (pc' := 38) (v := 100) dX12_isRing_36 rfl (by decide) ?_
      refine t_iast (pc' := 39) dX12_isRing_38 rfl sh_78 rfl (by omega) ?_
      refine t_iinc (pc' := 42) (v := nI (k + 1)) (L' := [.ref 54, .int _, .int _, .int _, _, _]) dX12_isRing_39 rfl rfl (nI_inc k) rfl ?_
      refine s_goto (tgt := 16) dX12_isRing_42 (by decide) ?_
      exact ih (k + 1) _ _ _ (by omega) (b.s (by rw [if_neg (fun z => c29 (by rw [z]))]))
    · refine s_iconst (pc' := 33) (v := 0) dX12_isRing_32 rfl (by decide) ?_
      refine s_goto (tgt := 38) dX12_isRing_33 (by decide) ?_
      refine t_iast (pc' := 39) dX12_isRing_38 rfl sh_78 rfl (by omega) ?_
      refine t_iinc (pc' := 42) (v := nI (k + 1)) (L' := [.ref 54, .int _, .int _, .int _, _, _]) dX12_isRing_39 rfl rfl (nI_inc k) rfl ?_
      refine s_goto (tgt := 16) dX12_isRing_42 (by decide) ?_
      exact ih (k + 1) _ _ _ (by omega) (b.s (by rw [if_pos (ixe c29 (by omega) (by omega))]))
set_option maxHeartbeats 200000 in
theorem c_X12_isRing {N : Nat} {S : Nat → Nat × Nat} {I : Nat → Nat → Int32} {J : Nat → Nat → Int64} {Q : Nat → Nat → Option Nat} {κ : Option Value → HP → Prop} {D : Nat → Nat → Int32} {nv nr ns w : Nat} {rd : Int32} (R : RKP D nv nr w) (hD : DA I D) (hW : DW D nv nr ns) (k1 : (∀ v, v < 10 → bt rd v = true → dst D nr w v = 100) → ∀ I', (∀ a, a ≠ 77 → a ≠ 78 → I' a = I a) → κ (some (.int 0)) (N, S, I', J, Q)) (k2 : ∀ m r, MNR D nr w rd m → RNG D nr w rd m r → ∀ I', RGI I I' D nr w rd m m r → κ (some (.int 1)) (N, S, I', J, Q)) : CT E1 M_X12_isRing [.ref 54, .int (nI w), .int rd] (N, S, I, J, Q) κ := by
  refine ofSP mk_X12_isRing (Nat.le_of_ble_eq_true rfl) (L := [.ref 54, .int _, .int _, .retAddr _, .retAddr _, .retAddr _]) rfl ?_
  have hw10 : w < 10 := by have := R.1; have := R.2.1; omega
  refine s_aload_n (pc' := 1) dX12_isRing_0 rfl rfl ?_
  refine s_callV (pc' := 4) (As := []) dX12_isRing_1 rfl mk_X12_findNeeds ml_X12_197 im_X12_findNeeds se_X12_X12_X12_findNeeds sh_54 (by decide) rfl rfl rfl ⟨Nat.le_of_ble_eq_true rfl, Nat.le_of_ble_eq_true rfl, Nat.le_of_ble_eq_true rfl, Nat.le_of_ble_eq_true rfl⟩ (Nat.le_of_ble_eq_true rfl) (c_X12_findNeeds hD hW (fun I1 hn1 => ?_))
  refine s_aload_n (pc' := 5) dX12_isRing_4 rfl rfl ?_
  refine s_getS (pc' := 8) (b := 77) dX12_isRing_5 rfl (by decide) rfl (by decide) fa_X12_76_12 rfl rfl ?_
  refine s_iload_n (pc' := 9) dX12_isRing_8 rfl rfl ?_
  refine s_dup2 (pc' := 10) dX12_isRing_9 rfl rfl rfl ?_
  refine t_iald (pc' := 11) dX12_isRing_10 rfl sh_77 rfl hw10 ?_
  refine s_iload_n (pc' := 12) dX12_isRing_11 rfl rfl ?_
  refine s_ior (pc' := 13) dX12_isRing_12 rfl ?_
  refine t_iast (pc' := 14) dX12_isRing_13 rfl sh_77 rfl hw10 ?_
  refine s_iconst (pc' := 15) (v := 0) dX12_isRing_14 rfl (by decide) ?_
  refine t_istore_n (pc' := 16) (L' := [.ref 54, .int _, .int _, .int _, .retAddr _, .retAddr _]) dX12_isRing_15 rfl (Nat.le_of_ble_eq_true rfl) rfl ?_
  exact l_X12_isRing_z R k1 k2 10 0 _ _ _ (by omega) (BI0.z hn1 hw10)
