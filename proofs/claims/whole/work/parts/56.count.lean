/-! the counts of bits of the JDK -/
def nt (x : Int32) : Nat := x.toBitVec.toNat
def nl (x : Int64) : Nat := x.toBitVec.toNat
theorem nt_lt (x : Int32) : nt x < 2 ^ 32 := x.toBitVec.isLt
theorem nl_lt (x : Int64) : nl x < 2 ^ 64 := x.toBitVec.isLt
theorem nt_and (x y : Int32) : nt (x &&& y) = nt x &&& nt y := by unfold nt; rw [Int32.toBitVec_and, BitVec.toNat_and]
theorem nl_and (x y : Int64) : nl (x &&& y) = nl x &&& nl y := by unfold nl; rw [Int64.toBitVec_and, BitVec.toNat_and]
theorem nt_add (x y : Int32) : nt (x + y) = (nt x + nt y) % 2 ^ 32 := by unfold nt; rw [Int32.toBitVec_add, BitVec.toNat_add]
theorem nl_add (x y : Int64) : nl (x + y) = (nl x + nl y) % 2 ^ 64 := by unfold nl; rw [Int64.toBitVec_add, BitVec.toNat_add]
theorem nt_sub {x y : Int32} (h : nt y ≤ nt x) : nt (x - y) = nt x - nt y := by
  have a := nt_lt x
  unfold nt at *
  rw [Int32.toBitVec_sub, BitVec.toNat_sub]
  omega
theorem nl_sub {x y : Int64} (h : nl y ≤ nl x) : nl (x - y) = nl x - nl y := by
  have a := nl_lt x
  unfold nl at *
  rw [Int64.toBitVec_sub, BitVec.toNat_sub]
  omega
theorem nt_shr (x k : Int32) (n : Nat) (h : ((k.toUInt32 &&& Int32.toUInt32 31).toBitVec % 32).toNat = n) : nt ((x.toUInt32 >>> (k.toUInt32 &&& Int32.toUInt32 31)).toInt32) = nt x / 2 ^ n := by
  show (x.toUInt32 >>> (k.toUInt32 &&& Int32.toUInt32 31)).toBitVec.toNat = x.toUInt32.toBitVec.toNat / 2 ^ n
  rw [UInt32.toBitVec_shiftRight]
  show (x.toUInt32.toBitVec >>> ((k.toUInt32 &&& Int32.toUInt32 31).toBitVec % 32).toNat).toNat = _
  rw [h, BitVec.toNat_ushiftRight, Nat.shiftRight_eq_div_pow]
theorem nl_shr (x : Int64) (k : Int32) (n : Nat) (h : (((Int32.toInt64 k).toUInt64 &&& Int64.toUInt64 63).toBitVec % 64).toNat = n) : nl ((x.toUInt64 >>> ((Int32.toInt64 k).toUInt64 &&& Int64.toUInt64 63)).toInt64) = nl x / 2 ^ n := by
  show (x.toUInt64 >>> ((Int32.toInt64 k).toUInt64 &&& Int64.toUInt64 63)).toBitVec.toNat = x.toUInt64.toBitVec.toNat / 2 ^ n
  rw [UInt64.toBitVec_shiftRight]
  show (x.toUInt64.toBitVec >>> (((Int32.toInt64 k).toUInt64 &&& Int64.toUInt64 63).toBitVec % 64).toNat).toNat = _
  rw [h, BitVec.toNat_ushiftRight, Nat.shiftRight_eq_div_pow]
def MK (c : Nat) : Nat → Nat
  | 0 => 0
  | k + 1 => c + 256 * MK c k
def MP (f : Nat → Nat) : Nat → Nat → Nat
  | 0, _ => 0
  | k + 1, n => f (n % 256) + 256 * MP f k (n / 256)
def MS (f : Nat → Nat) : Nat → Nat → Nat
  | 0, _ => 0
  | k + 1, n => f (n % 256) + MS f k (n / 256)
theorem andB {d m : Nat} (hd : d < 256) (hm : m < 256) (r s : Nat) : (d + 256 * r) &&& (m + 256 * s) = (d &&& m) + 256 * (r &&& s) := by
  have hd : d < 2 ^ 8 := hd
  have hm : m < 2 ^ 8 := hm
  rw [show d + 256 * r = 2 ^ 8 * r + d by omega, show m + 256 * s = 2 ^ 8 * s + m by omega, show (d &&& m) + 256 * (r &&& s) = 2 ^ 8 * (r &&& s) + (d &&& m) by omega]
  apply Nat.eq_of_testBit_eq
  intro j
  rw [Nat.testBit_and, Nat.testBit_two_pow_mul_add _ hd, Nat.testBit_two_pow_mul_add _ hm, Nat.testBit_two_pow_mul_add _ (Nat.and_lt_two_pow _ hm)]
  split
  · rw [Nat.testBit_and]
  · rw [Nat.testBit_and]
def s1 (d : Nat) : Nat := d - ((d / 2) &&& 85)
def s2 (d : Nat) : Nat := (d &&& 51) + ((d / 4) &&& 51)
def s3 (d : Nat) : Nat := (d + d / 16) &&& 15
theorem s1_dec : ∀ d, d < 256 → ∀ e, e < 2 → (d / 2 + 128 * e) &&& 85 = (d / 2) &&& 85 ∧ (d / 2) &&& 85 ≤ d ∧ s1 d < 256 := by decide +kernel
theorem s2_dec : ∀ d, d < 256 → ∀ e, e < 4 → (d / 4 + 64 * e) &&& 51 = (d / 4) &&& 51 ∧ s2 (s1 d) / 16 ≤ 4 ∧ s2 (s1 d) % 16 ≤ 4 ∧ s2 (s1 d) ≤ 68 := by decide +kernel
theorem s3_dec : ∀ d, d < 69 → ∀ e, e < 5 → (d + d / 16 + 16 * e) &&& 15 = s3 d := by decide +kernel
theorem pc_dec : ∀ d, d < 256 → fb_ct (fun j => d.testBit j) 8 = s3 (s2 (s1 d)) ∧ s3 (s2 (s1 d)) ≤ 8 := by decide +kernel
theorem st1 : ∀ k n, n < 256 ^ k → ((n / 2) &&& MK 85 k) ≤ n ∧ n - ((n / 2) &&& MK 85 k) = MP s1 k n
  | 0, n, h => by
    rw [Nat.pow_zero] at h
    have : n = 0 := by omega
    subst this
    decide
  | k + 1, n, h => by
    have hr : n / 256 < 256 ^ k := by
      rw [Nat.pow_succ] at h
      omega
    obtain ⟨i1, i2⟩ := st1 k (n / 256) hr
    obtain ⟨e1, e2, _⟩ := s1_dec (n % 256) (Nat.mod_lt _ (by decide)) (n / 256 % 2) (Nat.mod_lt _ (by decide))
    have e3 : (n / 2) &&& MK 85 (k + 1) = ((n % 256 / 2) &&& 85) + 256 * ((n / 256 / 2) &&& MK 85 k) := by
      show (n / 2) &&& (85 + 256 * MK 85 k) = _
      rw [show n / 2 = (n % 256 / 2 + 128 * (n / 256 % 2)) + 256 * (n / 256 / 2) by omega, andB (by omega) (by decide), e1]
    rw [e3]
    show _ ∧ _ = s1 (n % 256) + 256 * MP s1 k (n / 256)
    rw [← i2]
    unfold s1
    omega
theorem st2 : ∀ k n, (n &&& MK 51 k) + ((n / 4) &&& MK 51 k) = MP s2 k n
  | 0, n => by
    show (n &&& 0) + (n / 4 &&& 0) = 0
    rw [Nat.and_zero, Nat.and_zero]
  | k + 1, n => by
    have i1 := st2 k (n / 256)
    obtain ⟨e1, _⟩ := s2_dec (n % 256) (Nat.mod_lt _ (by decide)) (n / 256 % 4) (Nat.mod_lt _ (by decide))
    have e3 : (n / 4) &&& MK 51 (k + 1) = ((n % 256 / 4) &&& 51) + 256 * ((n / 256 / 4) &&& MK 51 k) := by
      show (n / 4) &&& (51 + 256 * MK 51 k) = _
      rw [show n / 4 = (n % 256 / 4 + 64 * (n / 256 % 4)) + 256 * (n / 256 / 4) by omega, andB (by omega) (by decide), e1]
    have e4 : n &&& MK 51 (k + 1) = ((n % 256) &&& 51) + 256 * ((n / 256) &&& MK 51 k) := by
      show n &&& (51 + 256 * MK 51 k) = _
      rw [show n = n % 256 + 256 * (n / 256) by omega, andB (Nat.mod_lt _ (by decide)) (by decide)]
      rw [show n % 256 + 256 * (n / 256) = n by omega]
    rw [e3, e4]
    show _ = s2 (n % 256) + 256 * MP s2 k (n / 256)
    rw [← i1]
    unfold s2
    omega
theorem mp_comp {f h : Nat → Nat} (hh : ∀ d, d < 256 → h d < 256) : ∀ k n, MP f k (MP h k n) = MP (fun d => f (h d)) k n
  | 0, _ => rfl
  | k + 1, n => by
    have := hh (n % 256) (Nat.mod_lt _ (by decide))
    show f ((h (n % 256) + 256 * MP h k (n / 256)) % 256) + 256 * MP f k ((h (n % 256) + 256 * MP h k (n / 256)) / 256) = f (h (n % 256)) + 256 * MP (fun d => f (h d)) k (n / 256)
    rw [show (h (n % 256) + 256 * MP h k (n / 256)) % 256 = h (n % 256) by omega, show (h (n % 256) + 256 * MP h k (n / 256)) / 256 = MP h k (n / 256) by omega, mp_comp hh k]
theorem mp_small {f : Nat → Nat} (hf : ∀ d, d < 256 → f d ≤ 68) : ∀ k n, 2 * MP f k n + 1 ≤ 256 ^ k
  | 0, n => by show 2 * 0 + 1 ≤ 1; decide
  | k + 1, n => by
    have a := mp_small hf k (n / 256)
    have b := hf (n % 256) (Nat.mod_lt _ (by decide))
    show 2 * (f (n % 256) + 256 * MP f k (n / 256)) + 1 ≤ 256 ^ (k + 1)
    rw [Nat.pow_succ]
    omega
theorem st3 {f : Nat → Nat} (hf : ∀ d, d < 256 → f d / 16 ≤ 4 ∧ f d % 16 ≤ 4 ∧ f d ≤ 68) : ∀ k n, MP f k n % 16 ≤ 4 ∧ (MP f k n + MP f k n / 16) &&& MK 15 k = MP (fun d => s3 (f d)) k n
  | 0, n => ⟨by show 0 % 16 ≤ 4; decide, by show (0 + 0 / 16) &&& 0 = 0; rfl⟩
  | k + 1, n => by
    obtain ⟨i0, i1⟩ := st3 hf k (n / 256)
    obtain ⟨f1, f2, f3⟩ := hf (n % 256) (Nat.mod_lt _ (by decide))
    have e1 := s3_dec (f (n % 256)) (by omega) (MP f k (n / 256) % 16) (by omega)
    show (f (n % 256) + 256 * MP f k (n / 256)) % 16 ≤ 4 ∧ (f (n % 256) + 256 * MP f k (n / 256) + (f (n % 256) + 256 * MP f k (n / 256)) / 16) &&& (15 + 256 * MK 15 k) = s3 (f (n % 256)) + 256 * MP (fun d => s3 (f d)) k (n / 256)
    refine ⟨by omega, ?_⟩
    rw [show f (n % 256) + 256 * MP f k (n / 256) + (f (n % 256) + 256 * MP f k (n / 256)) / 16 = (f (n % 256) + f (n % 256) / 16 + 16 * (MP f k (n / 256) % 16)) + 256 * (MP f k (n / 256) + MP f k (n / 256) / 16) by omega, andB (by omega) (by decide), e1, i1]
def pc (d : Nat) : Nat := s3 (s2 (s1 d))
theorem ms_pc : ∀ k n, fb_ct (fun j => n.testBit j) (8 * k) = MS pc k n
  | 0, _ => rfl
  | k + 1, n => by
    rw [show 8 * (k + 1) = 8 + 8 * k by omega, fb_ct_split]
    show _ = pc (n % 256) + MS pc k (n / 256)
    rw [← ms_pc k (n / 256)]
    have e1 : fb_ct (fun j => n.testBit j) 8 = pc (n % 256) := by
      rw [show pc (n % 256) = fb_ct (fun j => (n % 256).testBit j) 8 from (pc_dec (n % 256) (Nat.mod_lt _ (by decide))).1.symm]
      refine fb_ct_cong (fun j hj => ?_)
      rw [show n % 256 = n % 2 ^ 8 from rfl, Nat.testBit_mod_two_pow]
      simp [hj]
    rw [e1]
    congr 1
    refine fb_ct_cong (fun j _ => ?_)
    rw [show n / 256 = n / 2 ^ 8 from rfl, Nat.testBit_div_two_pow, Nat.add_comm]
theorem bc32 (x : Int32) : nt (r_J6_bitCount_0f7a4 x) = fb_ct (bt x) 32 := by
  have hx := nt_lt x
  have e0 : fb_ct (bt x) 32 = MS pc 4 (nt x) := ms_pc 4 (nt x)
  have m1 : nt 1431655765 = MK 85 4 := by decide +kernel
  have m2 : nt 858993459 = MK 51 4 := by decide +kernel
  have m3 : nt 252645135 = MK 15 4 := by decide +kernel
  have m4 : nt 63 = 2 ^ 6 - 1 := by decide +kernel
  obtain ⟨a1, a2⟩ := st1 4 (nt x) hx
  have b1 : nt (bi_1 x) = MP s1 4 (nt x) := by
    unfold bi_1
    have e : nt (((Int32.toUInt32 x >>> (Int32.toUInt32 1 &&& Int32.toUInt32 31)).toInt32) &&& 1431655765) = (nt x / 2) &&& MK 85 4 := by rw [nt_and, m1, nt_shr x 1 1 (by decide +kernel)]
    rw [nt_sub (by rw [e]; exact a1), e, a2]
  have c2 : MP s2 4 (MP s1 4 (nt x)) = MP (fun d => s2 (s1 d)) 4 (nt x) := mp_comp (fun d hd => (s1_dec d hd 0 (by decide)).2.2) 4 (nt x)
  have sm := mp_small (f := fun d => s2 (s1 d)) (fun d hd => (s2_dec d hd 0 (by decide)).2.2.2) 4 (nt x)
  have b2 : nt (bi_2 x) = MP (fun d => s2 (s1 d)) 4 (nt x) := by
    unfold bi_2
    rw [nt_add, nt_and, nt_and, m2, nt_shr (bi_1 x) 2 2 (by decide +kernel), b1, st2, c2]
    omega
  have b3 : nt (bi_3 x) = MP pc 4 (nt x) := by
    unfold bi_3
    rw [nt_and, nt_add, nt_shr (bi_2 x) 4 4 (by decide +kernel), m3, b2, Nat.mod_eq_of_lt (by omega)]
    exact (st3 (f := fun d => s2 (s1 d)) (fun d hd => (s2_dec d hd 0 (by decide)).2) 4 (nt x)).2
  have p0 := (pc_dec (nt x % 256) (Nat.mod_lt _ (by decide))).2
  have p1 := (pc_dec (nt x / 256 % 256) (Nat.mod_lt _ (by decide))).2
  have p2 := (pc_dec (nt x / 256 / 256 % 256) (Nat.mod_lt _ (by decide))).2
  have p3 := (pc_dec (nt x / 256 / 256 / 256 % 256) (Nat.mod_lt _ (by decide))).2
  have b4 : nt (bi_4 x) = (nt (bi_3 x) + nt (bi_3 x) / 2 ^ 8) % 2 ^ 32 := by
    unfold bi_4
    rw [nt_add, nt_shr (bi_3 x) 8 8 (by decide +kernel)]
  have b5 : nt (bi_5 x) = (nt (bi_4 x) + nt (bi_4 x) / 2 ^ 16) % 2 ^ 32 := by
    unfold bi_5
    rw [nt_add, nt_shr (bi_4 x) 16 16 (by decide +kernel)]
  rw [e0]
  unfold r_J6_bitCount_0f7a4
  rw [nt_and, m4, Nat.and_two_pow_sub_one_eq_mod, b5, b4, b3]
  show _ = pc (nt x % 256) + (pc (nt x / 256 % 256) + (pc (nt x / 256 / 256 % 256) + (pc (nt x / 256 / 256 / 256 % 256) + 0)))
  have em : MP pc 4 (nt x) = pc (nt x % 256) + 256 * (pc (nt x / 256 % 256) + 256 * (pc (nt x / 256 / 256 % 256) + 256 * (pc (nt x / 256 / 256 / 256 % 256) + 256 * 0))) := rfl
  rw [em]
  have p0 : pc (nt x % 256) ≤ 8 := p0
  have p1 : pc (nt x / 256 % 256) ≤ 8 := p1
  have p2 : pc (nt x / 256 / 256 % 256) ≤ 8 := p2
  have p3 : pc (nt x / 256 / 256 / 256 % 256) ≤ 8 := p3
  generalize pc (nt x % 256) = d0 at *
  generalize pc (nt x / 256 % 256) = d1 at *
  generalize pc (nt x / 256 / 256 % 256) = d2 at *
  generalize pc (nt x / 256 / 256 / 256 % 256) = d3 at *
  clear em b1 b2 b3 b4 b5 e0 a1 a2 c2 sm hx
  have y0 : d0 + 256 * (d1 + 256 * (d2 + 256 * (d3 + 256 * 0))) = (d0) + 256 * (d1) + 65536 * (d2) + 16777216 * (d3) := by omega
  rw [y0]
  have u0 : ((d0) + 256 * (d1) + 65536 * (d2) + 16777216 * (d3)) / 2 ^ 8 = (d1) + 256 * (d2) + 65536 * (d3) := by omega
  rw [u0]
  have v0 : ((d0) + 256 * (d1) + 65536 * (d2) + 16777216 * (d3) + ((d1) + 256 * (d2) + 65536 * (d3))) % 2 ^ 32 = (d0 + d1) + 256 * (d1 + d2) + 65536 * (d2 + d3) + 16777216 * (d3) := by omega
  rw [v0]
  have u1 : ((d0 + d1) + 256 * (d1 + d2) + 65536 * (d2 + d3) + 16777216 * (d3)) / 2 ^ 16 = (d2 + d3) + 256 * (d3) := by omega
  rw [u1]
  have v1 : ((d0 + d1) + 256 * (d1 + d2) + 65536 * (d2 + d3) + 16777216 * (d3) + ((d2 + d3) + 256 * (d3))) % 2 ^ 32 = (d0 + d1 + d2 + d3) + 256 * (d1 + d2 + d3) + 65536 * (d2 + d3) + 16777216 * (d3) := by omega
  rw [v1]
  omega
theorem nI_nt {x : Int32} {n : Nat} (h : nt x = n) : x = nI n := by
  apply Int32.toBitVec_inj.mp
  apply BitVec.eq_of_toNat_eq
  have := nt_lt x
  show nt x = (nI n).toBitVec.toNat
  rw [h]
  show n = (BitVec.ofNat 32 n).toNat
  rw [BitVec.toNat_ofNat, Nat.mod_eq_of_lt (by omega)]
theorem bitc32 (x : Int32) : r_J6_bitCount_0f7a4 x = nI (fb_ct (bt x) 32) := nI_nt (bc32 x)
theorem bc64 (x : Int64) : nt (r_J13_bitCount_95d88 x) = fb_ct (bl x) 64 := by
  have hx := nl_lt x
  have e0 : fb_ct (bl x) 64 = MS pc 8 (nl x) := ms_pc 8 (nl x)
  have m1 : nl 6148914691236517205 = MK 85 8 := by decide +kernel
  have m2 : nl 3689348814741910323 = MK 51 8 := by decide +kernel
  have m3 : nl 1085102592571150095 = MK 15 8 := by decide +kernel
  have m4 : nt 127 = 2 ^ 7 - 1 := by decide +kernel
  obtain ⟨a1, a2⟩ := st1 8 (nl x) hx
  have b1 : nl (bl_1 x) = MP s1 8 (nl x) := by
    unfold bl_1
    have e : nl (((Int64.toUInt64 x >>> ((Int32.toInt64 1).toUInt64 &&& Int64.toUInt64 63)).toInt64) &&& 6148914691236517205) = (nl x / 2) &&& MK 85 8 := by rw [nl_and, m1, nl_shr x 1 1 (by decide +kernel)]
    rw [nl_sub (by rw [e]; exact a1), e, a2]
  have c2 : MP s2 8 (MP s1 8 (nl x)) = MP (fun d => s2 (s1 d)) 8 (nl x) := mp_comp (fun d hd => (s1_dec d hd 0 (by decide)).2.2) 8 (nl x)
  have sm := mp_small (f := fun d => s2 (s1 d)) (fun d hd => (s2_dec d hd 0 (by decide)).2.2.2) 8 (nl x)
  have b2 : nl (bl_2 x) = MP (fun d => s2 (s1 d)) 8 (nl x) := by
    unfold bl_2
    rw [nl_add, nl_and, nl_and, m2, nl_shr (bl_1 x) 2 2 (by decide +kernel), b1, st2, c2]
    omega
  have b3 : nl (bl_3 x) = MP pc 8 (nl x) := by
    unfold bl_3
    rw [nl_and, nl_add, nl_shr (bl_2 x) 4 4 (by decide +kernel), m3, b2, Nat.mod_eq_of_lt (by omega)]
    exact (st3 (f := fun d => s2 (s1 d)) (fun d hd => (s2_dec d hd 0 (by decide)).2) 8 (nl x)).2
  have b4 : nl (bl_4 x) = (nl (bl_3 x) + nl (bl_3 x) / 2 ^ 8) % 2 ^ 64 := by
    unfold bl_4
    rw [nl_add, nl_shr (bl_3 x) 8 8 (by decide +kernel)]
  have b5 : nl (bl_5 x) = (nl (bl_4 x) + nl (bl_4 x) / 2 ^ 16) % 2 ^ 64 := by
    unfold bl_5
    rw [nl_add, nl_shr (bl_4 x) 16 16 (by decide +kernel)]
  have b6 : nl (bl_6 x) = (nl (bl_5 x) + nl (bl_5 x) / 2 ^ 32) % 2 ^ 64 := by
    unfold bl_6
    rw [nl_add, nl_shr (bl_5 x) 32 32 (by decide +kernel)]
  have b7 : nt (Int64.toInt32 (bl_6 x)) % 2 ^ 7 = nl (bl_6 x) % 2 ^ 7 := by
    unfold nt nl
    rw [Int64.toBitVec_toInt32]
    have : (BitVec.signExtend 32 (bl_6 x).toBitVec).toNat = (bl_6 x).toBitVec.toNat % 2 ^ 32 := by
      rw [BitVec.signExtend_eq_setWidth_of_le _ (by decide), BitVec.toNat_setWidth]
    rw [this]
    omega
  have q : ∀ m, pc (m % 256) ≤ 8 := fun m => (pc_dec (m % 256) (Nat.mod_lt _ (by decide))).2
  have em : MP pc 8 (nl x) = pc (nl x % 256) + 256 * (pc (nl x / 256 % 256) + 256 * (pc (nl x / 256 / 256 % 256) + 256 * (pc (nl x / 256 / 256 / 256 % 256) + 256 * (pc (nl x / 256 / 256 / 256 / 256 % 256) + 256 * (pc (nl x / 256 / 256 / 256 / 256 / 256 % 256) + 256 * (pc (nl x / 256 / 256 / 256 / 256 / 256 / 256 % 256) + 256 * (pc (nl x / 256 / 256 / 256 / 256 / 256 / 256 / 256 % 256) + 256 * 0))))))) := rfl
  have es : MS pc 8 (nl x) = pc (nl x % 256) + (pc (nl x / 256 % 256) + (pc (nl x / 256 / 256 % 256) + (pc (nl x / 256 / 256 / 256 % 256) + (pc (nl x / 256 / 256 / 256 / 256 % 256) + (pc (nl x / 256 / 256 / 256 / 256 / 256 % 256) + (pc (nl x / 256 / 256 / 256 / 256 / 256 / 256 % 256) + (pc (nl x / 256 / 256 / 256 / 256 / 256 / 256 / 256 % 256) + 0))))))) := rfl
  rw [e0]
  unfold r_J13_bitCount_95d88
  rw [nt_and, m4, Nat.and_two_pow_sub_one_eq_mod, b7, b6, b5, b4, b3, em, es]
  have p0 := q (nl x)
  have p1 := q (nl x / 256)
  have p2 := q (nl x / 256 / 256)
  have p3 := q (nl x / 256 / 256 / 256)
  have p4 := q (nl x / 256 / 256 / 256 / 256)
  have p5 := q (nl x / 256 / 256 / 256 / 256 / 256)
  have p6 := q (nl x / 256 / 256 / 256 / 256 / 256 / 256)
  have p7 := q (nl x / 256 / 256 / 256 / 256 / 256 / 256 / 256)
  generalize pc (nl x % 256) = d0 at *
  generalize pc (nl x / 256 % 256) = d1 at *
  generalize pc (nl x / 256 / 256 % 256) = d2 at *
  generalize pc (nl x / 256 / 256 / 256 % 256) = d3 at *
  generalize pc (nl x / 256 / 256 / 256 / 256 % 256) = d4 at *
  generalize pc (nl x / 256 / 256 / 256 / 256 / 256 % 256) = d5 at *
  generalize pc (nl x / 256 / 256 / 256 / 256 / 256 / 256 % 256) = d6 at *
  generalize pc (nl x / 256 / 256 / 256 / 256 / 256 / 256 / 256 % 256) = d7 at *
  clear em es b1 b2 b3 b4 b5 b6 b7 e0 a1 a2 c2 sm hx q
  have y0 : d0 + 256 * (d1 + 256 * (d2 + 256 * (d3 + 256 * (d4 + 256 * (d5 + 256 * (d6 + 256 * (d7 + 256 * 0))))))) = (d0) + 256 * (d1) + 65536 * (d2) + 16777216 * (d3) + 4294967296 * (d4) + 1099511627776 * (d5) + 281474976710656 * (d6) + 72057594037927936 * (d7) := by omega
  rw [y0]
  have u0 : ((d0) + 256 * (d1) + 65536 * (d2) + 16777216 * (d3) + 4294967296 * (d4) + 1099511627776 * (d5) + 281474976710656 * (d6) + 72057594037927936 * (d7)) / 2 ^ 8 = (d1) + 256 * (d2) + 65536 * (d3) + 16777216 * (d4) + 4294967296 * (d5) + 1099511627776 * (d6) + 281474976710656 * (d7) := by omega
  rw [u0]
  have v0 : ((d0) + 256 * (d1) + 65536 * (d2) + 16777216 * (d3) + 4294967296 * (d4) + 1099511627776 * (d5) + 281474976710656 * (d6) + 72057594037927936 * (d7) + ((d1) + 256 * (d2) + 65536 * (d3) + 16777216 * (d4) + 4294967296 * (d5) + 1099511627776 * (d6) + 281474976710656 * (d7))) % 2 ^ 64 = (d0 + d1) + 256 * (d1 + d2) + 65536 * (d2 + d3) + 16777216 * (d3 + d4) + 4294967296 * (d4 + d5) + 1099511627776 * (d5 + d6) + 281474976710656 * (d6 + d7) + 72057594037927936 * (d7) := by omega
  rw [v0]
  have u1 : ((d0 + d1) + 256 * (d1 + d2) + 65536 * (d2 + d3) + 16777216 * (d3 + d4) + 4294967296 * (d4 + d5) + 1099511627776 * (d5 + d6) + 281474976710656 * (d6 + d7) + 72057594037927936 * (d7)) / 2 ^ 16 = (d2 + d3) + 256 * (d3 + d4) + 65536 * (d4 + d5) + 16777216 * (d5 + d6) + 4294967296 * (d6 + d7) + 1099511627776 * (d7) := by omega
  rw [u1]
  have v1 : ((d0 + d1) + 256 * (d1 + d2) + 65536 * (d2 + d3) + 16777216 * (d3 + d4) + 4294967296 * (d4 + d5) + 1099511627776 * (d5 + d6) + 281474976710656 * (d6 + d7) + 72057594037927936 * (d7) + ((d2 + d3) + 256 * (d3 + d4) + 65536 * (d4 + d5) + 16777216 * (d5 + d6) + 4294967296 * (d6 + d7) + 1099511627776 * (d7))) % 2 ^ 64 = (d0 + d1 + d2 + d3) + 256 * (d1 + d2 + d3 + d4) + 65536 * (d2 + d3 + d4 + d5) + 16777216 * (d3 + d4 + d5 + d6) + 4294967296 * (d4 + d5 + d6 + d7) + 1099511627776 * (d5 + d6 + d7) + 281474976710656 * (d6 + d7) + 72057594037927936 * (d7) := by omega
  rw [v1]
  have u2 : ((d0 + d1 + d2 + d3) + 256 * (d1 + d2 + d3 + d4) + 65536 * (d2 + d3 + d4 + d5) + 16777216 * (d3 + d4 + d5 + d6) + 4294967296 * (d4 + d5 + d6 + d7) + 1099511627776 * (d5 + d6 + d7) + 281474976710656 * (d6 + d7) + 72057594037927936 * (d7)) / 2 ^ 32 = (d4 + d5 + d6 + d7) + 256 * (d5 + d6 + d7) + 65536 * (d6 + d7) + 16777216 * (d7) := by omega
  rw [u2]
  have v2 : ((d0 + d1 + d2 + d3) + 256 * (d1 + d2 + d3 + d4) + 65536 * (d2 + d3 + d4 + d5) + 16777216 * (d3 + d4 + d5 + d6) + 4294967296 * (d4 + d5 + d6 + d7) + 1099511627776 * (d5 + d6 + d7) + 281474976710656 * (d6 + d7) + 72057594037927936 * (d7) + ((d4 + d5 + d6 + d7) + 256 * (d5 + d6 + d7) + 65536 * (d6 + d7) + 16777216 * (d7))) % 2 ^ 64 = (d0 + d1 + d2 + d3 + d4 + d5 + d6 + d7) + 256 * (d1 + d2 + d3 + d4 + d5 + d6 + d7) + 65536 * (d2 + d3 + d4 + d5 + d6 + d7) + 16777216 * (d3 + d4 + d5 + d6 + d7) + 4294967296 * (d4 + d5 + d6 + d7) + 1099511627776 * (d5 + d6 + d7) + 281474976710656 * (d6 + d7) + 72057594037927936 * (d7) := by omega
  rw [v2]
  omega
theorem bitc64 (x : Int64) : r_J13_bitCount_95d88 x = nI (fb_ct (bl x) 64) := nI_nt (bc64 x)
