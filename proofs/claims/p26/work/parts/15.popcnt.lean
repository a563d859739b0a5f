/-! POPCOUNT: Long.bitCount's number is the count of the bits, byte by byte -/
def uN (x : Int64) : Nat := x.toUInt64.toNat
theorem uN_lt (x : Int64) : uN x < 18446744073709551616 := x.toUInt64.toNat_lt
theorem uN_add (x y : Int64) : uN (x + y) = (uN x + uN y) % 18446744073709551616 := by
  show (x.toUInt64 + y.toUInt64).toNat = _
  exact UInt64.toNat_add _ _
theorem uN_and (x y : Int64) : uN (x &&& y) = uN x &&& uN y := UInt64.toNat_and _ _
theorem uN_sub {x y : Int64} (h : uN y ≤ uN x) : uN (x - y) = uN x - uN y := by
  show (x.toUInt64 - y.toUInt64).toNat = _
  exact UInt64.toNat_sub_of_le _ _ (UInt64.le_iff_toNat_le.mpr h)
theorem uN_shr (x : Int64) (s : UInt64) : uN (x.toUInt64 >>> s).toInt64 = uN x / 2 ^ (s.toNat % 64) := by
  show (x.toUInt64 >>> s).toNat = _
  rw [UInt64.toNat_shiftRight, Nat.shiftRight_eq_div_pow]
  rfl
theorem uN_sk (x : Int64) {k : Nat} (hk : k < 64) : uN (x.toUInt64 >>> ((nI k).toInt64.toUInt64 &&& Int64.toUInt64 63)).toInt64 = uN x / 2 ^ k := by
  have h : ((nI k).toInt64.toUInt64 &&& Int64.toUInt64 63).toNat % 64 = k := by
    rw [nI_l (by omega), UInt64.toNat_and]
    have e : (lN k).toUInt64.toNat = k % 2 ^ 64 := rfl
    have e2 : (Int64.toUInt64 63).toNat = 2 ^ 6 - 1 := by decide
    rw [e, e2, Nat.and_two_pow_sub_one_eq_mod]
    omega
  rw [uN_shr, h]
theorem uN_tb (x : Int64) (k : Nat) : (uN x).testBit k = gb x k := rfl
/-- a byte repeated k times -/
def pm (c : Nat) : Nat → Nat
  | 0 => 0
  | k + 1 => 256 * pm c k + c
theorem pm_and (h m l c : Nat) (hl : l < 256) (hc : c < 256) : (256 * h + l) &&& (256 * m + c) = 256 * (h &&& m) + (l &&& c) := by
  have h3 : l &&& c < 2 ^ 8 := Nat.and_lt_two_pow _ hc
  apply Nat.eq_of_testBit_eq
  intro i
  rw [Nat.testBit_and]
  have e1 := Nat.testBit_two_pow_mul_add h (i := 8) hl i
  have e2 := Nat.testBit_two_pow_mul_add m (i := 8) hc i
  have e3 := Nat.testBit_two_pow_mul_add (h &&& m) (i := 8) h3 i
  rw [show (256 : Nat) = 2 ^ 8 from rfl, e1, e2, e3]
  by_cases g : i < 8
  · rw [if_pos g, if_pos g, if_pos g, Nat.testBit_and]
  · rw [if_neg g, if_neg g, if_neg g, Nat.testBit_and]
def pb1 (l : Nat) : Nat := l - (l / 2 &&& 0x55)
def pb2 (l : Nat) : Nat := (l &&& 0x33) + (l / 4 &&& 0x33)
def pb8 (l : Nat) : Nat := fb_ct (fun k => l.testBit k) 8
theorem pb_1 : ∀ l, l < 256 → pb1 l < 256 ∧ (l / 2 &&& 0x55) ≤ l ∧ ((128 + l / 2) &&& 0x55) = (l / 2 &&& 0x55) := by decide +kernel
theorem pb_2a : ∀ l, l < 256 → pb2 (pb1 l) < 256 ∧ pb2 (pb1 l) % 16 ≤ 4 ∧ pb2 (pb1 l) ≤ 68 := by decide +kernel
theorem pb_2 : ∀ l, l < 256 → ((64 + l / 4) &&& 0x33) = (l / 4 &&& 0x33) ∧ ((128 + l / 4) &&& 0x33) = (l / 4 &&& 0x33) ∧ ((192 + l / 4) &&& 0x33) = (l / 4 &&& 0x33) := by decide +kernel
theorem pb_3 : ∀ l, l < 256 → (pb2 (pb1 l) + pb2 (pb1 l) / 16 &&& 15) = pb8 l ∧ pb8 l ≤ 8 := by decide +kernel
theorem pb_4 : ∀ t, t < 69 → ∀ x, x < 5 → (t + 16 * x + t / 16 &&& 15) = (t + t / 16 &&& 15) := by decide +kernel
theorem pb_div2 (h l : Nat) : (256 * h + l) / 2 = 256 * (h / 2) + (128 * (h % 2) + l / 2) := by omega
theorem pb_div4 (h l : Nat) : (256 * h + l) / 4 = 256 * (h / 4) + (64 * (h % 4) + l / 4) := by omega
/-- the three steps, as they go byte by byte -/
def ps1 : Nat → Nat → Nat
  | 0, _ => 0
  | k + 1, n => 256 * ps1 k (n / 256) + pb1 (n % 256)
def ps2 : Nat → Nat → Nat
  | 0, _ => 0
  | k + 1, n => 256 * ps2 k (n / 256) + pb2 (pb1 (n % 256))
def ps3 : Nat → Nat → Nat
  | 0, _ => 0
  | k + 1, n => 256 * ps3 k (n / 256) + pb8 (n % 256)
theorem ps1_eq : ∀ (k n : Nat), n < 256 ^ k → (n / 2 &&& pm 0x55 k) ≤ n ∧ n - (n / 2 &&& pm 0x55 k) = ps1 k n
  | 0, n, h => by
    have : n = 0 := by simpa using h
    subst this
    exact ⟨by decide, by decide⟩
  | k + 1, n, h => by
    have hk : n / 256 < 256 ^ k := by rw [Nat.pow_succ] at h; omega
    obtain ⟨i1, i2⟩ := ps1_eq k (n / 256) hk
    have hl : n % 256 < 256 := by omega
    have hb := pb_1 (n % 256) hl
    have e : n = 256 * (n / 256) + n % 256 := by omega
    have e2 : (n / 2 &&& pm 0x55 (k + 1)) = 256 * (n / 256 / 2 &&& pm 0x55 k) + (n % 256 / 2 &&& 0x55) := by
      show (n / 2 &&& (256 * pm 0x55 k + 0x55)) = _
      conv => lhs; rw [e, pb_div2]
      rw [pm_and _ _ _ _ (by omega) (by decide)]
      congr 1
      rcases Nat.mod_two_eq_zero_or_one (n / 256) with g | g
      · rw [g]; simp
      · rw [g]; exact hb.2.2
    have e3 : ps1 (k + 1) n = 256 * ps1 k (n / 256) + pb1 (n % 256) := rfl
    rw [e2, e3, ← i2]
    unfold pb1
    omega
theorem ps1_s (k n : Nat) : ps1 (k + 1) n = 256 * ps1 k (n / 256) + pb1 (n % 256) := rfl
theorem ps2_eq : ∀ (k n : Nat), (ps1 k n &&& pm 0x33 k) + (ps1 k n / 4 &&& pm 0x33 k) = ps2 k n
  | 0, n => by show (0 &&& 0) + (0 / 4 &&& 0) = 0; decide
  | k + 1, n => by
    have hl : n % 256 < 256 := by omega
    have h1 := (pb_1 (n % 256) hl).1
    have h2 := pb_2 _ h1
    have ih := ps2_eq k (n / 256)
    rw [ps1_s, pb_div4]
    show (_ &&& (256 * pm 0x33 k + 0x33)) + (_ &&& (256 * pm 0x33 k + 0x33)) = 256 * ps2 k (n / 256) + pb2 (pb1 (n % 256))
    rw [pm_and _ _ _ _ h1 (by decide), pm_and _ _ _ _ (by omega) (by decide), ← ih]
    have e : (64 * (ps1 k (n / 256) % 4) + pb1 (n % 256) / 4 &&& 0x33) = (pb1 (n % 256) / 4 &&& 0x33) := by
      have : ps1 k (n / 256) % 4 = 0 ∨ ps1 k (n / 256) % 4 = 1 ∨ ps1 k (n / 256) % 4 = 2 ∨ ps1 k (n / 256) % 4 = 3 := by omega
      rcases this with g | g | g | g <;> rw [g]
      · simp
      · exact h2.1
      · exact h2.2.1
      · exact h2.2.2
    rw [e]
    unfold pb2
    omega
theorem ps2_n (k n : Nat) : ps2 k n % 16 ≤ 4 := by
  cases k with
  | zero => show 0 % 16 ≤ 4; decide
  | succ k =>
    have hl : n % 256 < 256 := by omega
    have h2 := pb_2a _ hl
    show (256 * ps2 k (n / 256) + pb2 (pb1 (n % 256))) % 16 ≤ 4
    omega
theorem ps3_eq : ∀ (k n : Nat), (ps2 k n + ps2 k n / 16 &&& pm 0x0f k) = ps3 k n
  | 0, n => by show (0 + 0 / 16 &&& 0) = 0; decide
  | k + 1, n => by
    have hl : n % 256 < 256 := by omega
    have h2 := pb_2a _ hl
    have h3 := pb_3 _ hl
    have ih := ps3_eq k (n / 256)
    have hn := ps2_n k (n / 256)
    have e : ps2 (k + 1) n = 256 * ps2 k (n / 256) + pb2 (pb1 (n % 256)) := rfl
    have e2 : ps2 (k + 1) n + ps2 (k + 1) n / 16 = 256 * (ps2 k (n / 256) + ps2 k (n / 256) / 16) + (pb2 (pb1 (n % 256)) + 16 * (ps2 k (n / 256) % 16) + pb2 (pb1 (n % 256)) / 16) := by
      rw [e]; omega
    rw [e2]
    show (_ &&& (256 * pm 0x0f k + 15)) = 256 * ps3 k (n / 256) + pb8 (n % 256)
    rw [pm_and _ _ _ _ (by omega) (by decide), ih, pb_4 _ (by omega) _ (by omega), h3.1]
/-- the bytes' counts, and the whole -/
theorem pc_byte (x : Int64) (i : Nat) : pb8 (uN x / 256 ^ i % 256) = fb_ct (fun k => gb x (8 * i + k)) 8 := by
  refine fb_ct_cong fun k hk => ?_
  rw [show (256 : Nat) ^ i = 2 ^ (8 * i) by rw [Nat.pow_mul], show (256 : Nat) = 2 ^ 8 from rfl, Nat.testBit_mod_two_pow, Nat.testBit_div_two_pow, decide_eq_true hk, Bool.true_and, uN_tb, Nat.add_comm]
theorem pc_sum (x : Int64) : fb_ct (gb x) 64 = pb8 (uN x / 256 ^ 0 % 256) + pb8 (uN x / 256 ^ 1 % 256) + pb8 (uN x / 256 ^ 2 % 256) + pb8 (uN x / 256 ^ 3 % 256) + pb8 (uN x / 256 ^ 4 % 256) + pb8 (uN x / 256 ^ 5 % 256) + pb8 (uN x / 256 ^ 6 % 256) + pb8 (uN x / 256 ^ 7 % 256) := by
  rw [pc_byte, pc_byte, pc_byte, pc_byte, pc_byte, pc_byte, pc_byte, pc_byte]
  rw [show (64 : Nat) = 8 + (8 + (8 + (8 + (8 + (8 + (8 + 8)))))) from rfl]
  rw [fb_ct_split (gb x) 8, fb_ct_split _ 8, fb_ct_split _ 8, fb_ct_split _ 8, fb_ct_split _ 8, fb_ct_split _ 8, fb_ct_split _ 8]
  have e : ∀ k, fb_ct (gb x) k = fb_ct (fun j => gb x (8 * 0 + j)) k := fun k => fb_ct_cong fun j _ => by rw [Nat.mul_zero, Nat.zero_add]
  rw [e]
  have c : ∀ {f g : Nat → Nat}, (∀ j, f j = g j) → fb_ct (fun j => gb x (f j)) 8 = fb_ct (fun j => gb x (g j)) 8 := fun h => fb_ct_cong fun j _ => by rw [h]
  rw [c (f := fun j => 8 + j) (g := fun j => 8 * 1 + j) (fun j => by omega), c (f := fun j => 8 + (8 + j)) (g := fun j => 8 * 2 + j) (fun j => by omega), c (f := fun j => 8 + (8 + (8 + j))) (g := fun j => 8 * 3 + j) (fun j => by omega), c (f := fun j => 8 + (8 + (8 + (8 + j)))) (g := fun j => 8 * 4 + j) (fun j => by omega), c (f := fun j => 8 + (8 + (8 + (8 + (8 + j))))) (g := fun j => 8 * 5 + j) (fun j => by omega), c (f := fun j => 8 + (8 + (8 + (8 + (8 + (8 + j)))))) (g := fun j => 8 * 6 + j) (fun j => by omega), c (f := fun j => 8 + (8 + (8 + (8 + (8 + (8 + (8 + j))))))) (g := fun j => 8 * 7 + j) (fun j => by omega)]
  omega
theorem pc_8 (n : Nat) (hn : n < 256 ^ 8) : ps3 8 n = pb8 (n / 256 ^ 0 % 256) + 256 * pb8 (n / 256 ^ 1 % 256) + 65536 * pb8 (n / 256 ^ 2 % 256) + 16777216 * pb8 (n / 256 ^ 3 % 256) + 4294967296 * pb8 (n / 256 ^ 4 % 256) + 1099511627776 * pb8 (n / 256 ^ 5 % 256) + 281474976710656 * pb8 (n / 256 ^ 6 % 256) + 72057594037927936 * pb8 (n / 256 ^ 7 % 256) := by
  have d : ∀ i, n / 256 ^ (i + 1) = n / 256 ^ i / 256 := fun i => by rw [Nat.pow_succ, Nat.div_div_eq_div_mul]
  simp only [ps3, d, Nat.pow_zero, Nat.div_one]
  omega
