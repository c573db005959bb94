/-! the counts of bits of the JDK -/
def nt (x : Int32) : Nat := x.toBitVec.toNat
def nl (x : Int64) : Nat := x.toBitVec.toNat
theorem nt_lt (x : Int32) : nt x < 2 ^ 32 := x.toBitVec.isLt
theorem nl_lt (x : Int64) : nl x < 2 ^ 64 := x.toBitVec.isLt
theorem nt_and (x y : Int32) : nt (x &&& y) = nt x &&& nt y := by unfold nt; rw [Int32.toBitVec_and, BitVec.toNat_and]
theorem nl_and (x y : Int64) : nl (x &&& y) = nl x &&& nl y := by unfold nl; rw [Int64.toBitVec_and, BitVec.toNat_and]
theorem nt_add (x y : Int32) : nt (x + y) = (nt x + nt y) % 2 ^ 32 := by unfold nt; rw [Int32.toBitVec_add, BitVec.toNat_add]
theorem nl_add (x y : Int64) : nl (x + y) = (nl x + nl y) % 2 ^ 64 := by unfold nl; rw [Int64.toBitVec_add, BitVec.toNat_add]
theorem nt_sub {x y : Int32} (h : nt y ≤ nt x) : nt (x - y) = nt x - nt y := by
  have a := nt_lt x
  unfold nt at *
  rw [Int32.toBitVec_sub, BitVec.toNat_sub]
  omega
theorem nl_sub {x y : Int64} (h : nl y ≤ nl x) : nl (x - y) = nl x - nl y := by
  have a := nl_lt x
  unfold nl at *
  rw [Int64.toBitVec_sub, BitVec.toNat_sub]
  omega
theorem nt_shr (x k : Int32) (n : Nat) (h : ((k.toUInt32 &&& Int32.toUInt32 31).toBitVec % 32).toNat = n) : nt ((x.toUInt32 >>> (k.toUInt32 &&& Int32.toUInt32 31)).toInt32) = nt x / 2 ^ n := by
  show (x.toUInt32 >>> (k.toUInt32 &&& Int32.toUInt32 31)).toBitVec.toNat = x.toUInt32.toBitVec.toNat / 2 ^ n
  rw [UInt32.toBitVec_shiftRight]
  show (x.toUInt32.toBitVec >>> ((k.toUInt32 &&& Int32.toUInt32 31).toBitVec % 32).toNat).toNat = _
  rw [h, BitVec.toNat_ushiftRight, Nat.shiftRight_eq_div_pow]
theorem nl_shr (x : Int64) (k : Int32) (n : Nat) (h : (((Int32.toInt64 k).toUInt64 &&& Int64.toUInt64 63).toBitVec % 64).toNat = n) : nl ((x.toUInt64 >>> ((Int32.toInt64 k).toUInt64 &&& Int64.toUInt64 63)).toInt64) = nl x / 2 ^ n := by
  show (x.toUInt64 >>> ((Int32.toInt64 k).toUInt64 &&& Int64.toUInt64 63)).toBitVec.toNat = x.toUInt64.toBitVec.toNat / 2 ^ n
  rw [UInt64.toBitVec_shiftRight]
  show (x.toUInt64.toBitVec >>> (((Int32.toInt64 k).toUInt64 &&& Int64.toUInt64 63).toBitVec % 64).toNat).toNat = _
  rw [h, BitVec.toNat_ushiftRight, Nat.shiftRight_eq_div_pow]
def MK (c : Nat) : Nat → Nat
  | 0 => 0
  | k + 1 => c + 256 * MK c k
def MP (f : Nat → Nat) : Nat → Nat → Nat
  | 0, _ => 0
  | k + 1, n => f (n % 256) + 256 * MP f k (n / 256)
def MS (f : Nat → Nat) : Nat → Nat → Nat
  | 0, _ => 0
  | k + 1, n => f (n % 256) + MS f k (n / 256)
theorem andB {d m : Nat} (hd : d < 256) (hm : m < 256) (r s : Nat) : (d + 256 * r) &&& (m + 256 * s) = (d &&& m) + 256 * (r &&& s) := by
  have hd : d < 2 ^ 8 := hd
  have hm : m < 2 ^ 8 := hm
  rw [show d + 256 * r = 2 ^ 8 * r + d by omega, show m + 256 * s = 2 ^ 8 * s + m by omega, show (d &&& m) + 256 * (r &&& s) = 2 ^ 8 * (r &&& s) + (d &&& m) by omega]
  apply Nat.eq_of_testBit_eq
  intro j
  rw [Nat.testBit_and, Nat.testBit_two_pow_mul_add _ hd, Nat.testBit_two_pow_mul_add _ hm, Nat.testBit_two_pow_mul_add _ (Nat.and_lt_two_pow _ hm)]
  split
  · rw [Nat.testBit_and]
  · rw [Nat.testBit_and]
def s1 (d : Nat) : Nat := d - ((d / 2) &&& 85)
def s2 (d : Nat) : Nat := (d &&& 51) + ((d / 4) &&& 51)
def s3 (d : Nat) : Nat := (d + d / 16) &&& 15
theorem s1_dec : ∀ d, d < 256 → ∀ e, e < 2 → (d / 2 + 128 * e) &&& 85 = (d / 2) &&& 85 ∧ (d / 2) &&& 85 ≤ d ∧ s1 d < 256 := by decide +kernel
theorem s2_dec : ∀ d, d < 256 → ∀ e, e < 4 → (d / 4 + 64 * e) &&& 51 = (d / 4) &&& 51 ∧ s2 (s1 d) / 16 ≤ 4 ∧ s2 (s1 d) % 16 ≤ 4 ∧ s2 (s1 d) ≤ 68 := by decide +kernel
theorem s3_dec : ∀ d, d < 69 → ∀ e, e < 5 → (d + d / 16 + 16 * e) &&& 15 = s3 d := by decide +kernel
theorem pc_dec : ∀ d, d < 256 → fb_ct (fun j => d.testBit j) 8 = s3 (s2 (s1 d)) ∧ s3 (s2 (s1 d)) ≤ 8 := by decide +kernel
theorem st1 : ∀ k n, n < 256 ^ k → ((n / 2) &&& MK 85 k) ≤ n ∧ n - ((n / 2) &&& MK 85 k) = MP s1 k n
  | 0, n, h => by
    rw [Nat.pow_zero] at h
    have : n = 0 := by omega
    subst this
    decide
  | k + 1, n, h => by
    have hr : n / 256 < 256 ^ k := by
      rw [Nat.pow_succ] at h
      omega
    obtain ⟨i1, i2⟩ := st1 k (n / 256) hr
    obtain ⟨e1, e2, _⟩ := s1_dec (n % 256) (Nat.mod_lt _ (by decide)) (n / 256 % 2) (Nat.mod_lt _ (by decide))
    have e3 : (n / 2) &&& MK 85 (k + 1) = ((n % 256 / 2) &&& 85) + 256 * ((n / 256 / 2) &&& MK 85 k) := by
      show (n / 2) &&& (85 + 256 * MK 85 k) = _
      rw [show n / 2 = (n % 256 / 2 + 128 * (n / 256 % 2)) + 256 * (n / 256 / 2) by omega, andB (by omega) (by decide), e1]
    rw [e3]
    show _ ∧ _ = s1 (n % 256) + 256 * MP s1 k (n / 256)
    rw [← i2]
    unfold s1
    omega
theorem st2 : ∀ k n, (n &&& MK 51 k) + ((n / 4) &&& MK 51 k) = MP s2 k n
  | 0, n => by
    show (n &&& 0) + (n / 4 &&& 0) = 0
    rw [Nat.and_zero, Nat.and_zero]
  | k + 1, n => by
    have i1 := st2 k (n / 256)
    obtain ⟨e1, _⟩ := s2_dec (n % 256) (Nat.mod_lt _ (by decide)) (n / 256 % 4) (Nat.mod_lt _ (by decide))
    have e3 : (n / 4) &&& MK 51 (k + 1) = ((n % 256 / 4) &&& 51) + 256 * ((n / 256 / 4) &&& MK 51 k) := by
      show (n / 4) &&& (51 + 256 * MK 51 k) = _
      rw [show n / 4 = (n % 256 / 4 + 64 * (n / 256 % 4)) + 256 * (n / 256 / 4) by omega, andB (by omega) (by decide), e1]
    have e4 : n &&& MK 51 (k + 1) = ((n % 256) &&& 51) + 256 * ((n / 256) &&& MK 51 k) := by
      show n &&& (51 + 256 * MK 51 k) = _
      rw [show n = n % 256 + 256 * (n / 256) by omega, andB (Nat.mod_lt _ (by decide)) (by decide)]
      rw [show n % 256 + 256 * (n / 256) = n by omega]
    rw [e3, e4]
    show _ = s2 (n % 256) + 256 * MP s2 k (n / 256)
    rw [← i1]
    unfold s2
    omega
theorem mp_comp {f h : Nat → Nat} (hh : ∀ d, d < 256 → h d < 256) : ∀ k n, MP f k (MP h k n) = MP (fun d => f (h d)) k n
  | 0, _ => rfl
  | k + 1, n => by
    have := hh (n % 256) (Nat.mod_lt _ (by decide))
    show f ((h (n % 256) + 256 * MP h k (n / 256)) % 256) + 256 * MP f k ((h (n % 256) + 256 * MP h k (n / 256)) / 256) = f (h (n % 256)) + 256 * MP (fun d => f (h d)) k (n / 256)
    rw [show (h (n % 256) + 256 * MP h k (n / 256)) % 256 = h (n % 256) by omega, show (h (n % 256) + 256 * MP h k (n / 256)) / 256 = MP h k (n / 256) by omega, mp_comp hh k]
theorem mp_small {f : Nat → Nat} (hf : ∀ d, d < 256 → f d ≤ 68) : ∀ k n, 2 * MP f k n + 1 ≤ 256 ^ k
  | 0, n => by show 2 * 0 + 1 ≤ 1; decide
  | k + 1, n => by
    have a := mp_small hf k (n / 256)
    have b := hf (n % 256) (Nat.mod_lt _ (by decide))
    show 2 * (f (n % 256) + 256 * MP f k (n / 256)) + 1 ≤ 256 ^ (k + 1)
    rw [Nat.pow_succ]
    omega
theorem st3 {f : Nat → Nat} (hf : ∀ d, d < 256 → f d / 16 ≤ 4 ∧ f d % 16 ≤ 4 ∧ f d ≤ 68) : ∀ k n, MP f k n % 16 ≤ 4 ∧ (MP f k n + MP f k n / 16) &&& MK 15 k = MP (fun d => s3 (f d)) k n
  | 0, n => ⟨by show 0 % 16 ≤ 4; decide, by show (0 + 0 / 16) &&& 0 = 0; rfl⟩
  | k + 1, n => by
    obtain ⟨i0, i1⟩ := st3 hf k (n / 256)
    obtain ⟨f1, f2, f3⟩ := hf (n % 256) (Nat.mod_lt _ (by decide))
    have e1 := s3_dec (f (n % 256)) (by omega) (MP f k (n / 256) % 16) (by omega)
    show (f (n % 256) + 256 * MP f k (n / 256)) % 16 ≤ 4 ∧ (f (n % 256) + 256 * MP f k (n / 256) + (f (n % 256) + 256 * MP f k (n / 256)) / 16) &&& (15 + 256 * MK 15 k) = s3 (f (n % 256)) + 256 * MP (fun d => s3 (f d)) k (n / 256)
    refine ⟨by omega, ?_⟩
    rw [show f (n % 256) + 256 * MP f k (n / 256) + (f (n % 256) + 256 * MP f k (n / 256)) / 16 = (f (n % 256) + f (n % 256) / 16 + 16 * (MP f k (n / 256) % 16)) + 256 * (MP f k (n / 256) + MP f k (n / 256) / 16) by omega, andB (by omega) (by decide), e1, i1]
def pc (d : Nat) : Nat := s3 (s2 (s1 d))
theorem ms_pc : ∀ k n, fb_ct (fun j => n.testBit j) (8 * k) = MS pc k n
  | 0, _ => rfl
  | k + 1, n => by
    rw [show 8 * (k + 1) = 8 + 8 * k by omega, fb_ct_split]
    show _ = pc (n % 256) + MS pc k (n / 256)
    rw [← ms_pc k (n / 256)]
    have e1 : fb_ct (fun j => n.testBit j) 8 = pc (n % 256) := by
      rw [show pc (n % 256) = fb_ct (fun j => (n % 256).testBit j) 8 from (pc_dec (n % 256) (Nat.mod_lt _ (by decide))).1.symm]
      refine fb_ct_cong (fun j hj => ?_)
      rw [show n % 256 = n % 2 ^ 8 from rfl, Nat.testBit_mod_two_pow]
      simp [hj]
    rw [e1]
    congr 1
    refine fb_ct_cong (fun j _ => ?_)
    rw [show n / 256 = n / 2 ^ 8 from rfl, Nat.testBit_div_two_pow, Nat.add_comm]
