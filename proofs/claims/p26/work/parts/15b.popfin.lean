theorem ps2_le : ∀ (k n : Nat), ps2 k n ≤ pm 68 k
  | 0, _ => Nat.le_refl 0
  | k + 1, n => by
    have hl : n % 256 < 256 := by omega
    have h2 := pb_2a _ hl
    have ih := ps2_le k (n / 256)
    show 256 * ps2 k (n / 256) + pb2 (pb1 (n % 256)) ≤ 256 * pm 68 k + 68
    omega
abbrev SH (x : Int64) (k : Nat) : Int64 := (x.toUInt64 >>> ((nI k).toInt64.toUInt64 &&& Int64.toUInt64 63)).toInt64
theorem pa_div {lo hi m a : Nat} (h : a = lo + m * hi) (hl : lo < m) : a / m = hi := by
  subst h
  rw [Nat.add_mul_div_left _ _ (by omega), Nat.div_eq_of_lt hl, Nat.zero_add]
theorem pa_mod {a hi lo : Nat} (h : a = lo + 128 * hi) (hl : lo < 128) : a % 128 = lo := by omega
theorem pq1 (p0 p1 p2 p3 p4 p5 p6 p7 : Nat) : p0 + 256 * p1 + 65536 * p2 + 16777216 * p3 + 4294967296 * p4 + 1099511627776 * p5 + 281474976710656 * p6 + 72057594037927936 * p7 = p0 + 256 * (p1 + 256 * p2 + 65536 * p3 + 16777216 * p4 + 4294967296 * p5 + 1099511627776 * p6 + 281474976710656 * p7) := by omega
theorem pq2 (p0 p1 p2 p3 p4 p5 p6 p7 : Nat) : (p0 + 256 * p1 + 65536 * p2 + 16777216 * p3 + 4294967296 * p4 + 1099511627776 * p5 + 281474976710656 * p6 + 72057594037927936 * p7) + (p1 + 256 * p2 + 65536 * p3 + 16777216 * p4 + 4294967296 * p5 + 1099511627776 * p6 + 281474976710656 * p7) = (p0 + p1) + 256 * (p1 + p2) + 65536 * ((p2 + p3) + 256 * (p3 + p4) + 65536 * (p4 + p5) + 16777216 * (p5 + p6) + 4294967296 * (p6 + p7) + 1099511627776 * p7) := by omega
theorem pq3 (p0 p1 p2 p3 p4 p5 p6 p7 : Nat) (h0 : p0 ≤ 8) (h1 : p1 ≤ 8) (h2 : p2 ≤ 8) (h3 : p3 ≤ 8) (h4 : p4 ≤ 8) (h5 : p5 ≤ 8) (h6 : p6 ≤ 8) (h7 : p7 ≤ 8) : (p0 + 256 * p1 + 65536 * p2 + 16777216 * p3 + 4294967296 * p4 + 1099511627776 * p5 + 281474976710656 * p6 + 72057594037927936 * p7) + (p1 + 256 * p2 + 65536 * p3 + 16777216 * p4 + 4294967296 * p5 + 1099511627776 * p6 + 281474976710656 * p7) < 18446744073709551616 := by omega
theorem pq4 (p0 p1 p2 p3 p4 p5 p6 p7 : Nat) : ((p0 + p1) + 256 * (p1 + p2) + 65536 * ((p2 + p3) + 256 * (p3 + p4) + 65536 * (p4 + p5) + 16777216 * (p5 + p6) + 4294967296 * (p6 + p7) + 1099511627776 * p7)) + ((p2 + p3) + 256 * (p3 + p4) + 65536 * (p4 + p5) + 16777216 * (p5 + p6) + 4294967296 * (p6 + p7) + 1099511627776 * p7) = ((p0 + p1 + p2 + p3) + 256 * (p1 + p2 + p3 + p4) + 65536 * (p2 + p3 + p4 + p5) + 16777216 * (p3 + p4 + p5 + p6)) + 4294967296 * ((p4 + p5 + p6 + p7) + 256 * (p5 + p6 + p7) + 65536 * (p6 + p7) + 16777216 * p7) := by omega
theorem pq5 (p0 p1 p2 p3 p4 p5 p6 p7 : Nat) (h0 : p0 ≤ 8) (h1 : p1 ≤ 8) (h2 : p2 ≤ 8) (h3 : p3 ≤ 8) (h4 : p4 ≤ 8) (h5 : p5 ≤ 8) (h6 : p6 ≤ 8) (h7 : p7 ≤ 8) : ((p0 + p1) + 256 * (p1 + p2) + 65536 * ((p2 + p3) + 256 * (p3 + p4) + 65536 * (p4 + p5) + 16777216 * (p5 + p6) + 4294967296 * (p6 + p7) + 1099511627776 * p7)) + ((p2 + p3) + 256 * (p3 + p4) + 65536 * (p4 + p5) + 16777216 * (p5 + p6) + 4294967296 * (p6 + p7) + 1099511627776 * p7) < 18446744073709551616 := by omega
theorem pq6 (p0 p1 p2 p3 p4 p5 p6 p7 : Nat) : (((p0 + p1 + p2 + p3) + 256 * (p1 + p2 + p3 + p4) + 65536 * (p2 + p3 + p4 + p5) + 16777216 * (p3 + p4 + p5 + p6)) + 4294967296 * ((p4 + p5 + p6 + p7) + 256 * (p5 + p6 + p7) + 65536 * (p6 + p7) + 16777216 * p7)) + ((p4 + p5 + p6 + p7) + 256 * (p5 + p6 + p7) + 65536 * (p6 + p7) + 16777216 * p7) = ((p0 + p1 + p2 + p3 + p4 + p5 + p6 + p7) + 128 * (2 * (p1 + p2 + p3 + p4 + p5 + p6 + p7) + 512 * (p2 + p3 + p4 + p5 + p6 + p7) + 131072 * (p3 + p4 + p5 + p6 + p7))) + 4294967296 * ((p4 + p5 + p6 + p7) + 256 * (p5 + p6 + p7) + 65536 * (p6 + p7) + 16777216 * p7) := by omega
theorem pq7 (p0 p1 p2 p3 p4 p5 p6 p7 : Nat) (h0 : p0 ≤ 8) (h1 : p1 ≤ 8) (h2 : p2 ≤ 8) (h3 : p3 ≤ 8) (h4 : p4 ≤ 8) (h5 : p5 ≤ 8) (h6 : p6 ≤ 8) (h7 : p7 ≤ 8) : (((p0 + p1 + p2 + p3) + 256 * (p1 + p2 + p3 + p4) + 65536 * (p2 + p3 + p4 + p5) + 16777216 * (p3 + p4 + p5 + p6)) + 4294967296 * ((p4 + p5 + p6 + p7) + 256 * (p5 + p6 + p7) + 65536 * (p6 + p7) + 16777216 * p7)) + ((p4 + p5 + p6 + p7) + 256 * (p5 + p6 + p7) + 65536 * (p6 + p7) + 16777216 * p7) < 18446744073709551616 := by omega
theorem pq8 (p0 p1 p2 p3 p4 p5 p6 p7 : Nat) (h0 : p0 ≤ 8) (h1 : p1 ≤ 8) (h2 : p2 ≤ 8) (h3 : p3 ≤ 8) (h4 : p4 ≤ 8) (h5 : p5 ≤ 8) (h6 : p6 ≤ 8) (h7 : p7 ≤ 8) : ((p0 + p1) + 256 * (p1 + p2)) < 65536 ∧ ((p0 + p1 + p2 + p3) + 256 * (p1 + p2 + p3 + p4) + 65536 * (p2 + p3 + p4 + p5) + 16777216 * (p3 + p4 + p5 + p6)) < 4294967296 ∧ (p0 + p1 + p2 + p3 + p4 + p5 + p6 + p7) + 128 * (2 * (p1 + p2 + p3 + p4 + p5 + p6 + p7) + 512 * (p2 + p3 + p4 + p5 + p6 + p7) + 131072 * (p3 + p4 + p5 + p6 + p7)) < 4294967296 ∧ (p0 + p1 + p2 + p3 + p4 + p5 + p6 + p7) < 128 := by omega
theorem pc_add (p0 p1 p2 p3 p4 p5 p6 p7 : Nat) (h0 : p0 ≤ 8) (h1 : p1 ≤ 8) (h2 : p2 ≤ 8) (h3 : p3 ≤ 8) (h4 : p4 ≤ 8) (h5 : p5 ≤ 8) (h6 : p6 ≤ 8) (h7 : p7 ≤ 8) (g a4 a5 a6 : Nat) (eg : g = p0 + 256 * p1 + 65536 * p2 + 16777216 * p3 + 4294967296 * p4 + 1099511627776 * p5 + 281474976710656 * p6 + 72057594037927936 * p7)
    (e4 : a4 = (g + g / 256) % 18446744073709551616) (e5 : a5 = (a4 + a4 / 65536) % 18446744073709551616) (e6 : a6 = (a5 + a5 / 4294967296) % 18446744073709551616) : a6 % 4294967296 % 128 = p0 + p1 + p2 + p3 + p4 + p5 + p6 + p7 := by
  have hb := pq8 p0 p1 p2 p3 p4 p5 p6 p7 h0 h1 h2 h3 h4 h5 h6 h7
  have q4 : g / 256 = p1 + 256 * p2 + 65536 * p3 + 16777216 * p4 + 4294967296 * p5 + 1099511627776 * p6 + 281474976710656 * p7 := pa_div (eg.trans (pq1 p0 p1 p2 p3 p4 p5 p6 p7)) (Nat.lt_of_le_of_lt h0 (by decide))
  have r4 : a4 = (p0 + p1) + 256 * (p1 + p2) + 65536 * ((p2 + p3) + 256 * (p3 + p4) + 65536 * (p4 + p5) + 16777216 * (p5 + p6) + 4294967296 * (p6 + p7) + 1099511627776 * p7) := by
    rw [e4, q4, eg, Nat.mod_eq_of_lt (pq3 p0 p1 p2 p3 p4 p5 p6 p7 h0 h1 h2 h3 h4 h5 h6 h7)]; exact pq2 p0 p1 p2 p3 p4 p5 p6 p7
  have q5 : a4 / 65536 = ((p2 + p3) + 256 * (p3 + p4) + 65536 * (p4 + p5) + 16777216 * (p5 + p6) + 4294967296 * (p6 + p7) + 1099511627776 * p7) := pa_div r4 hb.1
  have r5 : a5 = ((p0 + p1 + p2 + p3) + 256 * (p1 + p2 + p3 + p4) + 65536 * (p2 + p3 + p4 + p5) + 16777216 * (p3 + p4 + p5 + p6)) + 4294967296 * ((p4 + p5 + p6 + p7) + 256 * (p5 + p6 + p7) + 65536 * (p6 + p7) + 16777216 * p7) := by
    rw [e5, q5, r4, Nat.mod_eq_of_lt (pq5 p0 p1 p2 p3 p4 p5 p6 p7 h0 h1 h2 h3 h4 h5 h6 h7)]; exact pq4 p0 p1 p2 p3 p4 p5 p6 p7
  have q6 : a5 / 4294967296 = ((p4 + p5 + p6 + p7) + 256 * (p5 + p6 + p7) + 65536 * (p6 + p7) + 16777216 * p7) := pa_div r5 hb.2.1
  have r6 : a6 = ((p0 + p1 + p2 + p3 + p4 + p5 + p6 + p7) + 128 * (2 * (p1 + p2 + p3 + p4 + p5 + p6 + p7) + 512 * (p2 + p3 + p4 + p5 + p6 + p7) + 131072 * (p3 + p4 + p5 + p6 + p7))) + 4294967296 * ((p4 + p5 + p6 + p7) + 256 * (p5 + p6 + p7) + 65536 * (p6 + p7) + 16777216 * p7) := by
    rw [e6, q6, r5, Nat.mod_eq_of_lt (pq7 p0 p1 p2 p3 p4 p5 p6 p7 h0 h1 h2 h3 h4 h5 h6 h7)]; exact pq6 p0 p1 p2 p3 p4 p5 p6 p7
  rw [r6, Nat.add_mul_mod_self_left, Nat.mod_eq_of_lt hb.2.2.1, Nat.add_mul_mod_self_left, Nat.mod_eq_of_lt hb.2.2.2]
theorem bitCount_fin {x x1 x2 x3 x4 x5 x6 : Int64} (e1 : x1 = x - (SH x 1 &&& 6148914691236517205)) (e2 : x2 = (x1 &&& 3689348814741910323) + (SH x1 2 &&& 3689348814741910323)) (e3 : x3 = (x2 + SH x2 4) &&& 1085102592571150095) (e4 : x4 = x3 + SH x3 8) (e5 : x5 = x4 + SH x4 16) (e6 : x6 = x5 + SH x5 32) : x6.toInt32 &&& nI 127 = nI (fb_ct (gb x) 64) := by
  have hn := uN_lt x
  have m1 : uN 6148914691236517205 = pm 0x55 8 := by decide +kernel
  have m2 : uN 3689348814741910323 = pm 0x33 8 := by decide +kernel
  have m3 : uN 1085102592571150095 = pm 0x0f 8 := by decide +kernel
  have s1 := ps1_eq 8 (uN x) (by rw [show (256 : Nat) ^ 8 = 18446744073709551616 by decide +kernel]; exact hn)
  have u1 : uN x1 = ps1 8 (uN x) := by
    have a : uN (SH x 1 &&& 6148914691236517205) = (uN x / 2 &&& pm 0x55 8) := by rw [uN_and, uN_sk x (k := 1) (by decide +kernel), m1]
    rw [e1, uN_sub (by rw [a]; exact s1.1), a]
    exact s1.2
  have b2 := ps2_le 8 (uN x)
  rw [show pm 68 8 = 4919131752989213764 by decide +kernel] at b2
  have u2 : uN x2 = ps2 8 (uN x) := by
    rw [e2, uN_add, uN_and, uN_and, uN_sk x1 (k := 2) (by decide +kernel), m2, u1, show (2 : Nat) ^ 2 = 4 by decide +kernel, ps2_eq]
    omega
  have u3 : uN x3 = ps3 8 (uN x) := by
    rw [e3, uN_and, uN_add, uN_sk x2 (k := 4) (by decide +kernel), m3, u2, show (2 : Nat) ^ 4 = 16 by decide +kernel, Nat.mod_eq_of_lt (by omega), ps3_eq]
  have p8 := fun i => (pb_3 (uN x / 256 ^ i % 256) (Nat.mod_lt _ (Nat.zero_lt_succ _))).2
  have r := pc_add _ _ _ _ _ _ _ _ (p8 0) (p8 1) (p8 2) (p8 3) (p8 4) (p8 5) (p8 6) (p8 7) (uN x3) (uN x4) (uN x5) (uN x6)
    (by rw [u3]; exact pc_8 _ (by rw [show (256 : Nat) ^ 8 = 18446744073709551616 by decide +kernel]; exact hn))
    (by rw [e4, uN_add, uN_sk x3 (k := 8) (by decide +kernel), show (2 : Nat) ^ 8 = 256 by decide +kernel])
    (by rw [e5, uN_add, uN_sk x4 (k := 16) (by decide +kernel), show (2 : Nat) ^ 16 = 65536 by decide +kernel])
    (by rw [e6, uN_add, uN_sk x5 (k := 32) (by decide +kernel), show (2 : Nat) ^ 32 = 4294967296 by decide +kernel])
  rw [pk_and _ 7 (by decide +kernel), pc_sum, ← r]
  have t : x6.toInt32.toBitVec.toNat = uN x6 % 4294967296 := by
    show (x6.toBitVec.signExtend 32).toNat = _
    rw [BitVec.signExtend_eq_setWidth_of_le _ (by decide), BitVec.toNat_setWidth]
    rfl
  rw [t]
