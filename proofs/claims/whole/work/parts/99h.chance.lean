/-! ===== chances: ways to roll ===== -/
def nL (k : Nat) : Int64 := Int64.ofNat k
theorem nL_add (a b : Nat) : nL a + nL b = nL (a + b) := (Int64.ofNat_add a b).symm
theorem nL_mul (a b : Nat) : nL a * nL b = nL (a * b) := (Int64.ofNat_mul a b).symm
theorem nL_sub {a b : Nat} (h : b ≤ a) : nL a - nL b = nL (a - b) := by
  have e : nL a = nL (a - b) + nL b := by rw [nL_add]; congr 1; omega
  rw [e, Int64.add_sub_cancel]
theorem nL_toInt {k : Nat} (h : k < 2 ^ 63) : (nL k).toInt = (k : Int) := Int64.toInt_ofNat_of_lt h
theorem nL_leI {a b : Nat} (ha : a < 2 ^ 63) (hb : b < 2 ^ 63) : nL a ≤ nL b ↔ a ≤ b := by
  rw [Int64.le_iff_toInt_le, nL_toInt ha, nL_toInt hb]; omega
theorem nL_eqI {a b : Nat} (ha : a < 2 ^ 63) (hb : b < 2 ^ 63) : nL a = nL b ↔ a = b := by
  rw [← Int64.toInt_inj, nL_toInt ha, nL_toInt hb]; omega
theorem nL_0 {a : Nat} (ha : a < 2 ^ 63) : nL a = 0 ↔ a = 0 := nL_eqI (b := 0) ha (by decide)
theorem nL_i {k : Nat} (h : k < 2 ^ 31) : (nI k).toInt64 = nL k := by
  apply Int64.toInt_inj.mp
  rw [Int32.toInt_toInt64, nI_toInt h, nL_toInt (by omega)]
theorem nL_div {a b : Nat} (ha : a < 2 ^ 62) (hb : b < 2 ^ 62) : nL a / nL b = nL (a / b) := by
  apply Int64.toInt_inj.mp
  have h : a / b ≤ a := Nat.div_le_self a b
  rw [Int64.toInt_div, nL_toInt (by omega), nL_toInt (by omega), nL_toInt (by omega), ← Int.ofNat_tdiv]
  generalize a / b = q at h ⊢
  rw [Int.bmod_eq_of_le (by omega) (by omega)]
theorem nL_rem {a b : Nat} (ha : a < 2 ^ 62) (hb : b < 2 ^ 62) : nL a - nL a / nL b * nL b = nL (a % b) := by
  have h : b * (a / b) + a % b = a := Nat.div_add_mod a b
  rw [nL_div ha hb, nL_mul, Nat.mul_comm (a / b) b, nL_sub (by omega)]
  congr 1; omega
/-- the sum of the first m -/
def Ts (f : Nat → Nat) : Nat → Nat
  | 0 => 0
  | m + 1 => Ts f m + f m
/-- one die more: over the sides 1 .. j that are not above k -/
def sW (f : Nat → Nat) (k : Nat) : Nat → Nat
  | 0 => 0
  | j + 1 => sW f k j + (if j + 1 ≤ k then f (k - (j + 1)) else 0)
/-- ways in which c dice of s sides make k -/
def Wy : Nat → Nat → Nat → Nat
  | 0, _, k => if k = 0 then 1 else 0
  | c + 1, s, k => sW (Wy c s) k s
theorem T_cg {f g : Nat → Nat} : ∀ m, (∀ k, k < m → f k = g k) → Ts f m = Ts g m
  | 0, _ => rfl
  | m + 1, h => by rw [Ts, Ts, T_cg m (fun k hk => h k (by omega)), h m (by omega)]
theorem T_add (f g : Nat → Nat) : ∀ m, Ts (fun k => f k + g k) m = Ts f m + Ts g m
  | 0 => rfl
  | m + 1 => by rw [Ts, Ts, Ts, T_add f g m]; omega
theorem T_z {f : Nat → Nat} : ∀ m, (∀ k, k < m → f k = 0) → Ts f m = 0
  | 0, _ => rfl
  | m + 1, h => by rw [Ts, T_z m (fun k hk => h k (by omega)), h m (by omega)]
theorem T_le {f g : Nat → Nat} : ∀ m, (∀ k, k < m → f k ≤ g k) → Ts f m ≤ Ts g m
  | 0, _ => Nat.le_refl _
  | m + 1, h => by have := T_le m (fun k hk => h k (by omega)); have := h m (by omega); rw [Ts, Ts]; omega
theorem T_cut {f : Nat → Nat} {p : Nat} : ∀ q, (∀ k, p ≤ k → k < p + q → f k = 0) → Ts f (p + q) = Ts f p
  | 0, _ => rfl
  | q + 1, h => by
    rw [show p + (q + 1) = (p + q) + 1 from rfl, Ts, T_cut q (fun k h1 h2 => h k h1 (by omega)), h (p + q) (by omega) (by omega)]
    rfl
theorem T_sh (f : Nat → Nat) (j : Nat) : ∀ m, Ts (fun t => if j ≤ t then f (t - j) else 0) m = Ts f (m - j)
  | 0 => by rw [Nat.zero_sub]; rfl
  | m + 1 => by
    rw [Ts, T_sh f j m]
    by_cases z : j ≤ m
    · rw [if_pos z, show m + 1 - j = (m - j) + 1 by omega, Ts]
    · rw [if_neg z, show m + 1 - j = m - j by omega]; rfl
theorem T_one (f : Nat → Nat) (j t : Nat) : ∀ K, Ts (fun k => if k + j = t then f k else 0) K = if j ≤ t ∧ t - j < K then f (t - j) else 0
  | 0 => by rw [if_neg (by omega)]; rfl
  | K + 1 => by
    rw [Ts, T_one f j t K]
    by_cases z : K + j = t
    · rw [if_pos z, if_neg (by omega), if_pos (by omega), show t - j = K by omega, Nat.zero_add]
    · rw [if_neg z, Nat.add_zero]
      by_cases y : j ≤ t ∧ t - j < K
      · rw [if_pos y, if_pos (by omega)]
      · rw [if_neg y, if_neg (by omega)]
theorem sW_stop {f : Nat → Nat} {k j : Nat} (h : k ≤ j) : ∀ i, sW f k (j + i) = sW f k j
  | 0 => rfl
  | i + 1 => by rw [show j + (i + 1) = (j + i) + 1 from rfl, sW, sW_stop h i, if_neg (by omega)]; rfl
theorem sW_cg {f g : Nat → Nat} {k : Nat} (h : ∀ i, i < k → f i = g i) : ∀ j, sW f k j = sW g k j
  | 0 => rfl
  | j + 1 => by
    rw [sW, sW, sW_cg h j]
    by_cases z : j + 1 ≤ k
    · rw [if_pos z, if_pos z, h (k - (j + 1)) (by omega)]
    · rw [if_neg z, if_neg z]
theorem sW_z {f : Nat → Nat} {k : Nat} : ∀ j, (∀ i, i < j → i + 1 ≤ k → f (k - (i + 1)) = 0) → sW f k j = 0
  | 0, _ => rfl
  | j + 1, h => by
    rw [sW, sW_z j (fun i hi => h i (by omega))]
    by_cases z : j + 1 ≤ k
    · rw [if_pos z, h j (by omega) z]
    · rw [if_neg z]
theorem sW_le {f : Nat → Nat} {k M : Nat} (h : ∀ i, f i ≤ M) : ∀ j, sW f k j ≤ j * M
  | 0 => Nat.zero_le _
  | j + 1 => by
    have := sW_le (k := k) h j
    rw [sW, Nat.succ_mul]
    by_cases z : j + 1 ≤ k
    · rw [if_pos z]; have := h (k - (j + 1)); omega
    · rw [if_neg z]; omega
theorem Wy_z {s : Nat} : ∀ c k, c * s < k → Wy c s k = 0
  | 0, k, h => by rw [Wy, if_neg (by omega)]
  | c + 1, k, h => by
    rw [Wy]
    rw [Nat.succ_mul] at h
    exact sW_z s (fun i hi hk => Wy_z c _ (by omega))
theorem Wy_le {s : Nat} : ∀ c k, Wy c s k ≤ s ^ c
  | 0, k => by rw [Wy, Nat.pow_zero]; split <;> omega
  | c + 1, k => by
    rw [Wy, Nat.pow_succ, Nat.mul_comm]
    exact sW_le (fun i => Wy_le c i) s
theorem T_sW {f : Nat → Nat} {B m : Nat} (hz : ∀ k, B < k → f k = 0) : ∀ S, B + S < m → Ts (fun t => sW f t S) m = S * Ts f m
  | 0, _ => by rw [Nat.zero_mul]; exact T_z m (fun _ _ => rfl)
  | S + 1, h => by
    have e : Ts (fun t => sW f t (S + 1)) m = Ts (fun t => sW f t S + (if S + 1 ≤ t then f (t - (S + 1)) else 0)) m := T_cg m (fun _ _ => rfl)
    have q : Ts f m = Ts f (m - (S + 1)) := by
      have := T_cut (f := f) (p := m - (S + 1)) (S + 1) (fun k h1 h2 => hz k (by omega))
      rw [show m - (S + 1) + (S + 1) = m by omega] at this
      exact this
    rw [e, T_add, T_sW hz S (by omega), T_sh, ← q, Nat.succ_mul]
theorem T_W {s m : Nat} : ∀ c, c * s < m → Ts (Wy c s) m = s ^ c
  | 0, h => by
    obtain ⟨p, rfl⟩ : ∃ p, m = 1 + p := ⟨m - 1, by omega⟩
    rw [T_cut p (fun k h1 h2 => by rw [Wy, if_neg (by omega)])]
    rfl
  | c + 1, h => by
    rw [Nat.succ_mul] at h
    have e : Ts (Wy (c + 1) s) m = Ts (fun t => sW (Wy c s) t s) m := T_cg m (fun _ _ => rfl)
    rw [e, T_sW (B := c * s) (fun k hk => Wy_z c k hk) s h, T_W c (by omega), Nat.pow_succ, Nat.mul_comm]
/-- the model's way: what the sums below K give to t -/
def sc (f : Nat → Nat) (S K t : Nat) : Nat := Ts (fun k => if k < t ∧ t ≤ k + S then f k else 0) K
theorem scq {f : Nat → Nat} {K t : Nat} (h : t ≤ K) : ∀ S, sc f S K t = sW f t S
  | 0 => T_z K (fun k _ => if_neg (by omega))
  | S + 1 => by
    have e : sc f (S + 1) K t = Ts (fun k => (if k < t ∧ t ≤ k + S then f k else 0) + (if k + (S + 1) = t then f k else 0)) K := T_cg K (fun k _ => by
      by_cases z : k + (S + 1) = t
      · rw [if_pos z, if_pos (by omega), if_neg (by omega), Nat.zero_add]
      · rw [if_neg z]
        by_cases y : k < t ∧ t ≤ k + S
        · rw [if_pos y, if_pos (by omega)]; rfl
        · rw [if_neg y, if_neg (by omega)])
    rw [e, T_add, T_one, sW]
    have i := scq (f := f) h S
    unfold sc at i
    rw [i]
    by_cases z : S + 1 ≤ t
    · rw [if_pos z, if_pos (by omega)]
    · rw [if_neg z, if_neg (by omega)]
theorem sc_s (f : Nat → Nat) (S K t : Nat) : sc f S (K + 1) t = sc f S K t + (if K < t ∧ t ≤ K + S then f K else 0) := rfl
/-- of them those that p -/
def TP (f : Nat → Nat) (p : Nat → Bool) (m : Nat) : Nat := Ts (fun k => if p k = true then f k else 0) m
theorem TP_le (f : Nat → Nat) (p : Nat → Bool) (m : Nat) : TP f p m ≤ Ts f m := T_le m (fun k _ => by split <;> omega)
theorem TP_cut {f : Nat → Nat} {p : Nat → Bool} {a : Nat} (q : Nat) (h : ∀ k, a ≤ k → k < a + q → f k = 0) : TP f p (a + q) = TP f p a := T_cut q (fun k h1 h2 => by rw [h k h1 h2]; split <;> rfl)
/-- a roll of c dice of s sides beside g reaches n -/
def rch (g : Int64) (n : Int32) (k : Nat) : Bool := decide (n.toInt64 ≤ (nI k).toInt64 + g)
def abv (t h : Nat) (best : Int32) : Nat := if best = 0 then h else t * t - (t - h) * (t - h)
def blw (t : Nat) (best : Int32) : Nat := if best = 0 then t else t * t
/-- what chance() tells -/
def chV (c s : Nat) (g : Int64) (n best : Int32) (q : Nat) : Int64 :=
  nL ((if q = 0 then abv (s ^ c) (TP (Wy c s) (rch g n) 61) best else blw (s ^ c) best) / Nat.gcd (abv (s ^ c) (TP (Wy c s) (rch g n) 61) best) (blw (s ^ c) best))
theorem pw_le {c s : Nat} (hc : c ≤ 5) (hs : s ≤ 12) : s ^ c ≤ 248832 := Nat.le_trans (Nat.pow_le_pow_left hs c) (Nat.pow_le_pow_right (by decide) hc)
theorem abv_lt {t h : Nat} {best : Int32} (ht : t ≤ 248832) (hh : h ≤ t) : abv t h best < 2 ^ 40 ∧ blw t best < 2 ^ 40 := by
  have e : t * t ≤ 248832 * 248832 := Nat.mul_le_mul ht ht
  unfold abv blw
  by_cases z : best = 0
  · rw [if_pos z, if_pos z]; omega
  · rw [if_neg z, if_neg z]
    have : t * t - (t - h) * (t - h) ≤ t * t := Nat.sub_le _ _
    omega
/-- two steps halve -/
theorem gcd_half {x y : Nat} (hy : 0 < y) (hr : 0 < x % y) : y % (x % y) ≤ y / 2 := by
  have h1 : x % y < y := Nat.mod_lt x hy
  have h2 := Nat.mod_lt y hr
  have h3 : (x % y) * (y / (x % y)) + y % (x % y) = y := Nat.div_add_mod y (x % y)
  have h4 : 1 ≤ y / (x % y) := Nat.div_pos (by omega) hr
  have h5 : (x % y) * 1 ≤ (x % y) * (y / (x % y)) := Nat.mul_le_mul_left _ h4
  omega
