/-! BITS: an Int64 as a set of numbers below 64: gb x k -/
theorem wb_c : ∀ k, k < 64 → ((nI k).toInt64 &&& 63) = lN k := by decide +kernel
theorem wb_cu : ∀ k, k < 64 → ((nI k).toInt64.toUInt64 &&& Int64.toUInt64 63) = UInt64.ofNat k := by decide +kernel
theorem wb_sm : ∀ k, k < 64 → (BitVec.ofNat 64 k).smod 64 = BitVec.ofNat 64 k := by decide +kernel
def gb (x : Int64) (k : Nat) : Bool := x.toBitVec.getLsbD k
theorem gb_ext {x y : Int64} (h : ∀ k, k < 64 → gb x k = gb y k) : x = y :=
  Int64.toBitVec_inj.mp (BitVec.eq_of_getLsbD_eq fun i hi => h i hi)
theorem gb_big {x : Int64} {k : Nat} (h : 64 ≤ k) : gb x k = false := BitVec.getLsbD_of_ge _ _ h
theorem gb_and (x y : Int64) (k : Nat) : gb (x &&& y) k = (gb x k && gb y k) := by
  unfold gb; rw [Int64.toBitVec_and, BitVec.getLsbD_and]
theorem gb_or (x y : Int64) (k : Nat) : gb (x ||| y) k = (gb x k || gb y k) := by
  unfold gb; rw [Int64.toBitVec_or, BitVec.getLsbD_or]
theorem gb_not (x : Int64) {k : Nat} (hk : k < 64) : gb (x ^^^ (-1)) k = !gb x k := by
  have ha : (-1 : Int64).toBitVec = BitVec.allOnes 64 := by decide
  unfold gb
  rw [Int64.toBitVec_xor, BitVec.getLsbD_xor, ha, BitVec.getLsbD_allOnes]
  simp [hk]
theorem gb_0 (k : Nat) : gb 0 k = false := by
  show (0#64).getLsbD k = false
  simp
theorem gb_one (k : Nat) {j : Nat} (hk : k < 64) (hj : j < 64) : gb ((1 : Int64) <<< ((nI k).toInt64 &&& 63)) j = decide (j = k) := by
  unfold gb
  rw [wb_c k hk, Int64.toBitVec_shiftLeft]
  show (1#64 <<< (BitVec.ofNat 64 k).smod 64).getLsbD j = _
  rw [wb_sm k hk, BitVec.shiftLeft_eq', BitVec.getLsbD_shiftLeft, BitVec.toNat_ofNat, Nat.mod_eq_of_lt (show k < 2 ^ 64 by omega)]
  by_cases h : j = k
  · subst h; simp [hj]
  · by_cases h2 : j < k
    · simp [h, h2]
    · simp [h, h2, hj, show ¬ j - k = 0 by omega]
theorem gb_and1 (y : Int64) : (y &&& 1) = if gb y 0 then 1 else 0 := by
  rw [← Int64.toBitVec_inj, Int64.toBitVec_and]
  have e : (if gb y 0 then (1 : Int64) else 0).toBitVec = if gb y 0 then 1#64 else 0#64 := by split <;> rfl
  rw [e]
  apply BitVec.eq_of_getLsbD_eq
  intro i hi
  show (y.toBitVec &&& 1#64).getLsbD i = _
  rw [BitVec.getLsbD_and]
  cases i with
  | zero => cases h : gb y 0 <;> simp [gb] at h ⊢ <;> simp [h]
  | succ i => split <;> simp
theorem gb_ushr {w : Int64} {k : Nat} (hk : k < 64) : gb ((w.toUInt64 >>> ((nI k).toInt64.toUInt64 &&& Int64.toUInt64 63)).toInt64) 0 = gb w k := by
  rw [wb_cu k hk]
  have e : ((w.toUInt64 >>> UInt64.ofNat k).toInt64).toBitVec = w.toBitVec >>> k := by
    apply BitVec.eq_of_toNat_eq
    show (w.toUInt64 >>> UInt64.ofNat k).toNat = _
    have h1 : (UInt64.ofNat k).toNat = k := by
      show (BitVec.ofNat 64 k).toNat = k
      rw [BitVec.toNat_ofNat, Nat.mod_eq_of_lt (by omega)]
    rw [UInt64.toNat_shiftRight, h1, Nat.mod_eq_of_lt hk, BitVec.toNat_ushiftRight]
    rfl
  unfold gb
  rw [e, BitVec.getLsbD_ushiftRight]
  simp
theorem gb_sshr {w : Int64} {k : Nat} (hk : k < 64) : gb (w >>> ((nI k).toInt64 &&& 63)) 0 = gb w k := by
  rw [wb_c k hk]
  unfold gb
  rw [Int64.toBitVec_shiftRight]
  show (w.toBitVec.sshiftRight' ((BitVec.ofNat 64 k).smod 64)).getLsbD 0 = _
  rw [wb_sm k hk, BitVec.sshiftRight_eq', BitVec.getLsbD_sshiftRight, BitVec.toNat_ofNat, Nat.mod_eq_of_lt (show k < 2 ^ 64 by omega)]
  simp [hk]
/-- the class's test of one bit, and the reference's -/
theorem gb_cmp0 {w : Int64} {k : Nat} (hk : k < 64) : lg_cmp ((w.toUInt64 >>> ((nI k).toInt64.toUInt64 &&& Int64.toUInt64 63)).toInt64 &&& 1) 0 = if gb w k then 1 else 0 := by
  rw [gb_and1, gb_ushr hk]
  cases gb w k <;> decide
theorem gb_cmp1 {w : Int64} {k : Nat} (hk : k < 64) : lg_cmp ((w >>> ((nI k).toInt64 &&& 63)) &&& 1) 1 = if gb w k then 0 else -1 := by
  rw [gb_and1, gb_sshr hk]
  cases gb w k <;> decide
theorem gb_cmp2 {w : Int64} {k : Nat} (hk : k < 64) : lg_cmp ((w >>> ((nI k).toInt64 &&& 63)) &&& 1) 0 = if gb w k then 1 else 0 := by
  rw [gb_and1, gb_sshr hk]
  cases gb w k <;> decide
theorem gb_set (x : Int64) {k j : Nat} (hk : k < 64) (hj : j < 64) : gb (x ||| ((1 : Int64) <<< ((nI k).toInt64 &&& 63))) j = (gb x j || decide (j = k)) := by
  rw [gb_or, gb_one k hk hj]
