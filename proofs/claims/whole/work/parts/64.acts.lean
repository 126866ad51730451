/-! ===== acts ===== -/
/-- the bodies that give(), open(), fit(), tell() run, and what they answer: kind, number, rank, source -/
def gvL (kd : Int32) : List Int32 := if kd = 1 then [20, 10] else if kd = 6 then [70, 10] else [10]
def gvV (kd k rk x : Int32) : Int32 := if kd = 1 then x + rk + k else if kd = 6 then (x + rk) ^^^ 5 else x + rk
def opL (kd : Int32) : List Int32 := if kd = 4 then [50, 12] else if 5 ≤ kd then [60, 12] else [12]
def opV (kd rk sc x : Int32) : Int32 := if kd = 4 then (x - sc) * 3 else if 5 ≤ kd then x - sc + rk else x - sc
def pfL (kd : Int32) : List Int32 := 11 :: gvL kd
def pfV (kd k rk x : Int32) : Int32 := gvV kd k rk x * 2
def ofL (kd : Int32) : List Int32 := 61 :: pfL kd
def ofV (kd k rk sc x : Int32) : Int32 := pfV kd k rk (x - sc)
def ftL (kd : Int32) : List Int32 := if kd = 2 then 30 :: (pfL kd ++ gvL kd) else if kd = 6 then 71 :: (ofL kd ++ opL kd) else if kd = 5 then ofL kd else pfL kd
def ftV (kd k rk sc x : Int32) : Int32 := if kd = 2 then pfV kd k rk x - gvV kd k rk x else if kd = 6 then ofV kd k rk sc x + opV kd rk sc 0 else if kd = 5 then ofV kd k rk sc x else pfV kd k rk x
def ptL (kd : Int32) : List Int32 := 13 :: (ftL kd ++ opL kd)
def ptV (kd k rk sc x : Int32) : Int32 := ftV kd k rk sc x ^^^ opV kd rk sc x
def tlL (kd : Int32) : List Int32 := if kd = 3 then 40 :: (opL kd ++ ptL kd) else ptL kd
def tlV (kd k rk sc x : Int32) : Int32 := if kd = 3 then opV kd rk sc x - ptV kd k rk sc (x + 1) else ptV kd k rk sc x
theorem gvL_len (kd : Int32) : (gvL kd).length ≤ 2 := by unfold gvL; split <;> (try split) <;> simp
theorem opL_len (kd : Int32) : (opL kd).length ≤ 2 := by unfold opL; split <;> (try split) <;> simp
theorem pfL_len (kd : Int32) : (pfL kd).length ≤ 3 := by have := gvL_len kd; unfold pfL; simp; omega
theorem ofL_len (kd : Int32) : (ofL kd).length ≤ 4 := by have := pfL_len kd; unfold ofL; simp; omega
theorem ftL_len (kd : Int32) : (ftL kd).length ≤ 7 := by
  have := gvL_len kd; have := opL_len kd; have := pfL_len kd; have := ofL_len kd
  unfold ftL
  split
  · simp; omega
  · split
    · simp; omega
    · split <;> omega
theorem ptL_len (kd : Int32) : (ptL kd).length ≤ 10 := by have := ftL_len kd; have := opL_len kd; unfold ptL; simp; omega
theorem tlL_len (kd : Int32) : (tlL kd).length ≤ 13 := by
  have := ptL_len kd; have := opL_len kd
  unfold tlL
  split
  · simp; omega
  · omega
/-- the model's trace goes on -/
def apM (I : Nat → Nat → Int32) (t : Nat) : List Int32 → Nat → Nat → Int32
  | [] => I
  | b :: l => apM (up2 (up2 I 90 t b) 54 47 (nI (t + 1))) (t + 1) l
theorem apM_o {a : Nat} (h1 : a ≠ 90) (h2 : a ≠ 54) : ∀ (l : List Int32) (I : Nat → Nat → Int32) (t : Nat), apM I t l a = I a
  | [], _, _ => rfl
  | b :: l, I, t => by rw [apM, apM_o h1 h2 l]; rw [up2_o h2, up2_o h1]
theorem apM_j {j : Nat} (h : j ≠ 47) : ∀ (l : List Int32) (I : Nat → Nat → Int32) (t : Nat), apM I t l 54 j = I 54 j
  | [], _, _ => rfl
  | b :: l, I, t => by rw [apM, apM_j h l]; rw [up2_e h, up2_d (by decide)]
theorem apM_t : ∀ (l : List Int32) (I : Nat → Nat → Int32) (t : Nat), I 54 47 = nI t → apM I t l 54 47 = nI (t + l.length)
  | [], _, _, h => h
  | b :: l, I, t, h => by rw [apM, apM_t l _ (t + 1) up2_s]; congr 1; simp; omega
theorem apM_ap : ∀ (l l' : List Int32) (I : Nat → Nat → Int32) (t : Nat), apM (apM I t l) (t + l.length) l' = apM I t (l ++ l')
  | [], _, _, _ => rfl
  | b :: l, l', I, t => by
    show apM (apM (up2 (up2 I 90 t b) 54 47 (nI (t + 1))) (t + 1) l) (t + (l.length + 1)) l' = apM (up2 (up2 I 90 t b) 54 47 (nI (t + 1))) (t + 1) (l ++ l')
    rw [← apM_ap l l', show t + (l.length + 1) = t + 1 + l.length by omega]
theorem apM_1 {I : Nat → Nat → Int32} {t : Nat} {b : Int32} {l : List Int32} : apM (up2 (up2 I 90 t b) 54 47 (nI (t + 1))) (t + 1) l = apM I t (b :: l) := rfl
/-! ===== sheets of numbers ===== -/
def zcK (I : Nat → Nat → Int32) (s k : Nat) : Nat → Nat → Int32 := fun a i => if a = 93 ∧ 40 * s ≤ i ∧ i < 40 * s + k then 0 else I a i
theorem zcK_0 (I : Nat → Nat → Int32) (s : Nat) : zcK I s 0 = I := by funext a i; unfold zcK; rw [if_neg (by omega)]
theorem zcK_s (I : Nat → Nat → Int32) (s k : Nat) : up2 (zcK I s k) 93 (40 * s + k) 0 = zcK I s (k + 1) := by
  funext a i
  by_cases h : a = 93
  · subst h
    by_cases h2 : i = 40 * s + k
    · subst h2; rw [up2_s]; unfold zcK; rw [if_pos (by omega)]
    · rw [up2_e h2]; unfold zcK
      by_cases h3 : 40 * s ≤ i ∧ i < 40 * s + k
      · rw [if_pos ⟨rfl, h3⟩, if_pos (by omega)]
      · rw [if_neg (by omega), if_neg (by omega)]
  · rw [up2_d h]; unfold zcK; rw [if_neg (by omega), if_neg (by omega)]
theorem zcK_o {I : Nat → Nat → Int32} {s k a : Nat} (h : a ≠ 93) : zcK I s k a = I a := by funext i; unfold zcK; rw [if_neg (by omega)]
def byo (v : Int32) : Int32 := if 127 < v &&& 255 then (v &&& 255) - 256 else v &&& 255
theorem byo_ok : ∀ k, k < 2001 → byo (nI k - 1000) = (nI k - 1000).toInt8.toInt32 := by decide +kernel
def mdl (x : Int32) (m : Nat) : Nat := (x.toInt % (m : Int)).toNat
def mdM (x m : Int32) : Int32 := let r := x - x / m * m; (r + m) - (r + m) / m * m
theorem mdM_ok : ∀ k, k < 201 → mdM (nI k - 100) 30 = nI (mdl (nI k - 100) 30) ∧ mdM (nI k - 100) 4 = nI (mdl (nI k - 100) 4) ∧ mdM (nI k - 100) 7 = nI (mdl (nI k - 100) 7) ∧ mdM (nI k - 100) 2 = nI (mdl (nI k - 100) 2) := by decide +kernel
def mdX (x m : Int32) : Int32 := if 0 ≤ x ^^^ m then x - x / m * m else if x - x / m * m = 0 then x - x / m * m else (x - x / m * m) + m
theorem mdX_ok : ∀ k, k < 201 → mdX (nI k - 100) 30 = nI (mdl (nI k - 100) 30) ∧ mdX (nI k - 100) 4 = nI (mdl (nI k - 100) 4) ∧ mdX (nI k - 100) 7 = nI (mdl (nI k - 100) 7) ∧ mdX (nI k - 100) 2 = nI (mdl (nI k - 100) 2) := by decide +kernel
theorem sh_of {x : Int32} {m : Nat} (hm : m < 100000) (h : inR x (-(m : Int)) m) : ∃ k, k < 2 * m + 1 ∧ x = nI k - nI m := by
  refine ⟨(x.toInt + m).toNat, by have := h.1; have := h.2; omega, ?_⟩
  apply Int32.toInt_inj.mp
  rw [pk_sub_toInt (by have := h.2; omega) (by omega)]
  have := h.1; omega
theorem mdl_lt {x : Int32} {m : Nat} (hm : 0 < m) : mdl x m < m := by
  unfold mdl
  have h1 := Int.emod_lt_of_pos x.toInt (show (0 : Int) < m by omega)
  have h2 := Int.emod_nonneg x.toInt (show (m : Int) ≠ 0 by omega)
  omega
theorem mdM_in {x : Int32} (h : inR x (-100) 100) : mdM x 30 = nI (mdl x 30) ∧ mdM x 4 = nI (mdl x 4) ∧ mdM x 7 = nI (mdl x 7) ∧ mdM x 2 = nI (mdl x 2) := by
  obtain ⟨k, hk, e⟩ := sh_of (m := 100) (by decide) h
  have e2 : x = nI k - 100 := e
  rw [e2]; exact mdM_ok k (by omega)
theorem mdX_in {x : Int32} (h : inR x (-100) 100) : mdX x 30 = nI (mdl x 30) ∧ mdX x 4 = nI (mdl x 4) ∧ mdX x 7 = nI (mdl x 7) ∧ mdX x 2 = nI (mdl x 2) := by
  obtain ⟨k, hk, e⟩ := sh_of (m := 100) (by decide) h
  have e2 : x = nI k - 100 := e
  rw [e2]; exact mdX_ok k (by omega)
theorem byo_in {x : Int32} (h : inR x (-1000) 1000) : byo x = x.toInt8.toInt32 := by
  obtain ⟨k, hk, e⟩ := sh_of (m := 1000) (by decide) h
  have e2 : x = nI k - 1000 := e
  rw [e2]; exact byo_ok k (by omega)
/-- the sum of n numbers from place 1 of sheet s on -/
def csm (f : Nat → Int32) (s : Nat) : Nat → Int32
  | 0 => 0
  | k + 1 => csm f s k + f (40 * s + (k + 1))
