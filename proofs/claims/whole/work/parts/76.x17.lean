/-! ===== choices made: no sheet changes ===== -/
def DE (D D' : Nat → Nat → Int32) : Prop := (∀ i, 55 ≤ i → i ≤ 74 → D' i = D i) ∧ D' 75 4 = D 75 4 ∧ D' 75 5 = D 75 5 ∧ D' 75 6 = D 75 6
section DE
variable {D D' : Nat → Nat → Int32}
set_option maxHeartbeats 200000 in
theorem DE.e55 (h : DE D D') : D' 55 = D 55 := h.1 55 (by decide) (by decide)
set_option maxHeartbeats 200000 in
theorem DE.e56 (h : DE D D') : D' 56 = D 56 := h.1 56 (by decide) (by decide)
set_option maxHeartbeats 200000 in
theorem DE.e57 (h : DE D D') : D' 57 = D 57 := h.1 57 (by decide) (by decide)
set_option maxHeartbeats 200000 in
theorem DE.e58 (h : DE D D') : D' 58 = D 58 := h.1 58 (by decide) (by decide)
set_option maxHeartbeats 200000 in
theorem DE.e59 (h : DE D D') : D' 59 = D 59 := h.1 59 (by decide) (by decide)
set_option maxHeartbeats 200000 in
theorem DE.e60 (h : DE D D') : D' 60 = D 60 := h.1 60 (by decide) (by decide)
set_option maxHeartbeats 200000 in
theorem DE.e61 (h : DE D D') : D' 61 = D 61 := h.1 61 (by decide) (by decide)
set_option maxHeartbeats 200000 in
theorem DE.e62 (h : DE D D') : D' 62 = D 62 := h.1 62 (by decide) (by decide)
set_option maxHeartbeats 200000 in
theorem DE.e63 (h : DE D D') : D' 63 = D 63 := h.1 63 (by decide) (by decide)
set_option maxHeartbeats 200000 in
theorem DE.e64 (h : DE D D') : D' 64 = D 64 := h.1 64 (by decide) (by decide)
set_option maxHeartbeats 200000 in
theorem DE.e65 (h : DE D D') : D' 65 = D 65 := h.1 65 (by decide) (by decide)
set_option maxHeartbeats 200000 in
theorem DE.e66 (h : DE D D') : D' 66 = D 66 := h.1 66 (by decide) (by decide)
set_option maxHeartbeats 200000 in
theorem DE.e67 (h : DE D D') : D' 67 = D 67 := h.1 67 (by decide) (by decide)
set_option maxHeartbeats 200000 in
theorem DE.e68 (h : DE D D') : D' 68 = D 68 := h.1 68 (by decide) (by decide)
set_option maxHeartbeats 200000 in
theorem DE.e69 (h : DE D D') : D' 69 = D 69 := h.1 69 (by decide) (by decide)
set_option maxHeartbeats 200000 in
theorem DE.e70 (h : DE D D') : D' 70 = D 70 := h.1 70 (by decide) (by decide)
set_option maxHeartbeats 200000 in
theorem DE.e71 (h : DE D D') : D' 71 = D 71 := h.1 71 (by decide) (by decide)
set_option maxHeartbeats 200000 in
theorem DE.e72 (h : DE D D') : D' 72 = D 72 := h.1 72 (by decide) (by decide)
set_option maxHeartbeats 200000 in
theorem DE.e73 (h : DE D D') : D' 73 = D 73 := h.1 73 (by decide) (by decide)
set_option maxHeartbeats 200000 in
theorem DE.e74 (h : DE D D') : D' 74 = D 74 := h.1 74 (by decide) (by decide)
set_option maxHeartbeats 200000 in
theorem DE.f4 (h : DE D D') : D' 75 4 = D 75 4 := h.2.1
set_option maxHeartbeats 200000 in
theorem DE.f5 (h : DE D D') : D' 75 5 = D 75 5 := h.2.2.1
set_option maxHeartbeats 200000 in
theorem DE.f6 (h : DE D D') : D' 75 6 = D 75 6 := h.2.2.2
set_option maxHeartbeats 200000 in
theorem DE.zhB (h : DE D D') : hB D' = hB D := by funext x g r; simp only [hB, h.e69, h.e70, h.e71]
set_option maxHeartbeats 200000 in
theorem DE.zamt (h : DE D D') : amt D' = amt D := by funext g r; simp only [amt, h.e66, h.e67, h.e68]
set_option maxHeartbeats 200000 in
theorem DE.zwk (h : DE D D') : wk D' = wk D := by funext x g th r k v; simp only [wk, h.e60, h.e61, h.zhB]
set_option maxHeartbeats 200000 in
theorem DE.zthr (h : DE D D') : thr D' = thr D := by
  funext x g nr k
  induction k with
  | zero => simp only [thr]
  | succ k ih => simp only [thr, ih, h.e60, h.e61, h.zhB]
set_option maxHeartbeats 200000 in
theorem DE.zthS (h : DE D D') : thS D' = thS D := by funext x nr; simp only [thS, h.zthr]
set_option maxHeartbeats 200000 in
theorem DE.zbsS (h : DE D D') : bsS D' = bsS D := by
  funext x g th v k
  induction k with
  | zero => simp only [bsS]
  | succ k ih => simp only [bsS, ih, h.zwk, h.e62]
set_option maxHeartbeats 200000 in
theorem DE.zadB (h : DE D D') : adB D' = adB D := by funext x g th r v; simp only [adB, h.zwk]
set_option maxHeartbeats 200000 in
theorem DE.zfoS (h : DE D D') : foS D' = foS D := by funext x g th r v; simp only [foS, h.e63, h.zadB]
set_option maxHeartbeats 200000 in
theorem DE.zctB (h : DE D D') : ctB D' = ctB D := by funext x g th r v; simp only [ctB, h.zadB, h.zfoS]
set_option maxHeartbeats 200000 in
theorem DE.zboS (h : DE D D') : boS D' = boS D := by
  funext x g th v t sg k
  induction k with
  | zero => simp only [boS]
  | succ k ih => simp only [boS, ih, h.zctB, h.e60, h.e64, h.zamt]
set_option maxHeartbeats 200000 in
theorem DE.zbst (h : DE D D') : bst D' = bst D := by funext x g th v nr r; simp only [bst, h.zamt, h.zboS, h.e64]
set_option maxHeartbeats 200000 in
theorem DE.zplB (h : DE D D') : plB D' = plB D := by funext r; simp only [plB, h.e60, h.e64, h.f5]
set_option maxHeartbeats 200000 in
theorem DE.zadC (h : DE D D') : adC D' = adC D := by funext x g th v nr r; simp only [adC, h.zadB, h.zfoS, h.zplB, h.zamt, h.zbst]
set_option maxHeartbeats 200000 in
theorem DE.zadS (h : DE D D') : adS D' = adS D := by
  funext x g th v nr k
  induction k with
  | zero => simp only [adS]
  | succ k ih => simp only [adS, ih, h.zadC]
set_option maxHeartbeats 200000 in
theorem DE.zspA (h : DE D D') : spA D' = spA D := by
  funext v a k
  induction k with
  | zero => simp only [spA, h.f6]
  | succ k ih => simp only [spA, ih, h.e72, h.e73, h.e74, h.f6]
set_option maxHeartbeats 200000 in
theorem DE.zcpS (h : DE D D') : cpS D' = cpS D := by
  funext x g th v ls n0 k
  induction k with
  | zero => simp only [cpS]
  | succ k ih => simp only [cpS, ih, h.zwk, h.zamt, h.e65]
set_option maxHeartbeats 200000 in
theorem DE.zbasedV (h : DE D D') : basedV D' = basedV D := by funext x g th v vj nr; simp only [basedV, h.zbsS, h.zamt, h.e56]
set_option maxHeartbeats 200000 in
theorem DE.znum0 (h : DE D D') : num0 D' = num0 D := by funext x g th v vj nr ns; simp only [num0, h.zbasedV, h.zspA, h.zadS]
set_option maxHeartbeats 200000 in
theorem DE.znum1 (h : DE D D') : num1 D' = num1 D := by funext x g th v vj nr ns; simp only [num1, h.zcpS, h.znum0]
set_option maxHeartbeats 200000 in
theorem DE.znum2 (h : DE D D') : num2 D' = num2 D := by funext x g th v vj nr ns; simp only [num2, h.zcpS, h.znum1]
set_option maxHeartbeats 200000 in
theorem DE.zfinN (h : DE D D') : finN D' = finN D := by funext vj n; simp only [finN, h.e55, h.e59]
set_option maxHeartbeats 200000 in
theorem DE.znumF (h : DE D D') : numF D' = numF D := by funext x g th vj nr ns; simp only [numF, h.zfinN, h.znum2]
set_option maxHeartbeats 200000 in
theorem DE.zFX (h : DE D D') : FX D' = FX D := by funext x th nv nr ns g; simp only [FX, h.znumF]
set_option maxHeartbeats 200000 in
theorem DE.zopA (h : DE D D') : opA D' = opA D := by
  funext x g th c k
  induction k with
  | zero => simp only [opA, h.f4]
  | succ k ih => simp only [opA, ih, h.zwk, h.f4]
set_option maxHeartbeats 200000 in
theorem DE.zopB (h : DE D D') : opB D' = opB D := by
  funext x g th c k
  induction k with
  | zero => simp only [opB]
  | succ k ih => simp only [opB, ih, h.zwk]
set_option maxHeartbeats 200000 in
theorem DE.zopn (h : DE D D') : opn D' = opn D := by funext x g th c nr; simp only [opn, h.zopA, h.zopB]
set_option maxHeartbeats 200000 in
theorem DE.zopM (h : DE D D') : opM D' = opM D := by
  funext x g th nr k
  induction k with
  | zero => simp only [opM]
  | succ k ih => simp only [opM, ih, h.zopn]
set_option maxHeartbeats 200000 in
theorem DE.zkvB (h : DE D D') : kvB D' = kvB D := by funext v r; simp only [kvB, h.e60, h.e61]
set_option maxHeartbeats 200000 in
theorem DE.zgS (h : DE D D') : gS D' = gS D := by
  funext nv nr ns b
  unfold gS
  rw [h.zFX, h.zthS]
set_option maxHeartbeats 200000 in
theorem DE.zOS (h : DE D D') : OS D' = OS D := by
  funext nv nr ns b
  unfold OS
  rw [h.zgS, h.zthS, h.zopM]
set_option maxHeartbeats 200000 in
theorem DE.bk {I : Nat → Nat → Int32} {J : Nat → Nat → Int64} {nv nr ns e : Nat} (h : DE D D') (B : BK I J D nv nr ns e) : BK I J D' nv nr ns e := by
  unfold BK BG at *; rw [h.zgS, h.zOS]; exact B
set_option maxHeartbeats 200000 in
theorem DE.ldd {I : Nat → Nat → Int32} {J : Nat → Nat → Int64} {nv nr ns : Nat} (h : DE D D') (B : LDD I J D nv nr ns) : LDD I J D' nv nr ns := by
  unfold LDD LB at *; rw [h.zthS, h.zFX, h.zopM]; exact B
set_option maxHeartbeats 200000 in
theorem DE.dr (h : DE D D') : DR D D' := fun i h1 h2 => h.1 i (by omega) (by omega)
set_option maxHeartbeats 200000 in
theorem DE.ar {I : Nat → Nat → Int32} {nv nr : Nat} {ord st : Nat → Nat} (h : DE D D') (B : AR I D nv nr ord st) : AR I D' nv nr ord st := by
  unfold AR at *; rw [h.zkvB, h.dr.ndf]; exact B
set_option maxHeartbeats 200000 in
theorem DE.u3 {x : Int32} : DE D (up2 D 75 3 x) := ⟨fun i h1 h2 => up2_o (by omega), up2_e (by decide), up2_e (by decide), up2_e (by decide)⟩
end DE
set_option maxHeartbeats 200000 in
theorem XB.mk {N : Nat} {S : Nat → Nat × Nat} {I : Nat → Nat → Int32} {J : Nat → Nat → Int64} {Q : Nat → Nat → Option Nat} {D : Nat → Nat → Int32} {nv nr ns : Nat} {ad td : Nat → Nat} {e : Nat} (X : XB N S I J Q D nv nr ns ad td e) {m : Nat} (hm : m < 256) : XB N S (up2 I 1 14 (nI m)) J Q (up2 D 75 3 (nI m)) nv nr ns ad td e := by
  obtain ⟨x1, x2, x3, x4, ⟨ord, st, x5⟩, x6, x7⟩ := X
  refine ⟨x1.u1.2.2.2, (x2.u75.1 ⟨m, hm, rfl⟩).1, DE.u3.dr.ac x3, DE.u3.dr.nt x4 (up2_o (by decide)), ⟨ord, st, DE.u3.ar (x5.mv (up2_o (by decide)) (up2_o (by decide)) (up2_o (by decide)))⟩, by rw [up2_d (by decide)]; exact x6, DE.u3.bk (BK.hd x7)⟩
set_option maxHeartbeats 200000 in
theorem mk_x : ∀ m, m < 256 → ∀ j, j < 8 → nI m ^^^ ((1 : Int32) <<< (nI j &&& 31)) = nI (m ^^^ (1 <<< j)) ∧ m ^^^ (1 <<< j) < 256 := by decide +kernel
set_option maxHeartbeats 200000 in
theorem mk_b : ∀ m, m < 256 → ∀ j, j < 8 → (bitI (nI m) (nI j) = 0 → nI m ||| ((1 : Int32) <<< (nI j &&& 31)) = nI m ^^^ ((1 : Int32) <<< (nI j &&& 31))) ∧ (bitI (nI m) (nI j) = 1 → nI m &&& (((1 : Int32) <<< (nI j &&& 31)) ^^^ (-1)) = nI m ^^^ ((1 : Int32) <<< (nI j &&& 31))) := by decide +kernel
set_option maxHeartbeats 200000 in
theorem bc_pcn : ∀ m, m < 256 → bc (nI m) 8 = nI (pcn (nI m)) := by decide +kernel
