/-! the count of an int's bits -/
theorem dvk {a b k : Nat} (hk : 0 < k) (h : a < k) : (a + k * b) / k = b := by rw [Nat.add_mul_div_left _ _ hk, Nat.div_eq_of_lt h, Nat.zero_add]
theorem bc32 (x : Int32) : nt (r_J6_bitCount_0f7a4 x) = fb_ct (bt x) 32 := by
  have hx := nt_lt x
  have e0 : fb_ct (bt x) 32 = MS pc 4 (nt x) := ms_pc 4 (nt x)
  have m1 : nt 1431655765 = MK 85 4 := by decide +kernel
  have m2 : nt 858993459 = MK 51 4 := by decide +kernel
  have m3 : nt 252645135 = MK 15 4 := by decide +kernel
  have m4 : nt 63 = 2 ^ 6 - 1 := by decide +kernel
  obtain ⟨a1, a2⟩ := st1 4 (nt x) hx
  have b1 : nt (bi_1 x) = MP s1 4 (nt x) := by
    unfold bi_1
    have e : nt (((Int32.toUInt32 x >>> (Int32.toUInt32 1 &&& Int32.toUInt32 31)).toInt32) &&& 1431655765) = (nt x / 2) &&& MK 85 4 := by rw [nt_and, m1, nt_shr x 1 1 (by decide +kernel)]
    rw [nt_sub (by rw [e]; exact a1), e, a2]
  have c2 : MP s2 4 (MP s1 4 (nt x)) = MP (fun d => s2 (s1 d)) 4 (nt x) := mp_comp (fun d hd => (s1_dec d hd 0 (by decide)).2.2) 4 (nt x)
  have sm := mp_small (f := fun d => s2 (s1 d)) (fun d hd => (s2_dec d hd 0 (by decide)).2.2.2) 4 (nt x)
  have b2 : nt (bi_2 x) = MP (fun d => s2 (s1 d)) 4 (nt x) := by
    unfold bi_2
    rw [nt_add, nt_and, nt_and, m2, nt_shr (bi_1 x) 2 2 (by decide +kernel), b1, st2, c2]
    omega
  have b3 : nt (bi_3 x) = MP pc 4 (nt x) := by
    unfold bi_3
    rw [nt_and, nt_add, nt_shr (bi_2 x) 4 4 (by decide +kernel), m3, b2, Nat.mod_eq_of_lt (by omega)]
    exact (st3 (f := fun d => s2 (s1 d)) (fun d hd => (s2_dec d hd 0 (by decide)).2) 4 (nt x)).2
  have p0 := (pc_dec (nt x % 256) (Nat.mod_lt _ (by decide))).2
  have p1 := (pc_dec (nt x / 256 % 256) (Nat.mod_lt _ (by decide))).2
  have p2 := (pc_dec (nt x / 256 / 256 % 256) (Nat.mod_lt _ (by decide))).2
  have p3 := (pc_dec (nt x / 256 / 256 / 256 % 256) (Nat.mod_lt _ (by decide))).2
  have b4 : nt (bi_4 x) = (nt (bi_3 x) + nt (bi_3 x) / 2 ^ 8) % 2 ^ 32 := by
    unfold bi_4
    rw [nt_add, nt_shr (bi_3 x) 8 8 (by decide +kernel)]
  have b5 : nt (bi_5 x) = (nt (bi_4 x) + nt (bi_4 x) / 2 ^ 16) % 2 ^ 32 := by
    unfold bi_5
    rw [nt_add, nt_shr (bi_4 x) 16 16 (by decide +kernel)]
  rw [e0]
  unfold r_J6_bitCount_0f7a4
  rw [nt_and, m4, Nat.and_two_pow_sub_one_eq_mod, b5, b4, b3]
  show _ = pc (nt x % 256) + (pc (nt x / 256 % 256) + (pc (nt x / 256 / 256 % 256) + (pc (nt x / 256 / 256 / 256 % 256) + 0)))
  have em : MP pc 4 (nt x) = pc (nt x % 256) + 256 * (pc (nt x / 256 % 256) + 256 * (pc (nt x / 256 / 256 % 256) + 256 * (pc (nt x / 256 / 256 / 256 % 256) + 256 * 0))) := rfl
  rw [em]
  have p0 : pc (nt x % 256) ≤ 8 := p0
  have p1 : pc (nt x / 256 % 256) ≤ 8 := p1
  have p2 : pc (nt x / 256 / 256 % 256) ≤ 8 := p2
  have p3 : pc (nt x / 256 / 256 / 256 % 256) ≤ 8 := p3
  generalize pc (nt x % 256) = d0 at *
  generalize pc (nt x / 256 % 256) = d1 at *
  generalize pc (nt x / 256 / 256 % 256) = d2 at *
  generalize pc (nt x / 256 / 256 / 256 % 256) = d3 at *
  clear em b1 b2 b3 b4 b5 e0 a1 a2 c2 sm hx
  have y0 : d0 + 256 * (d1 + 256 * (d2 + 256 * (d3 + 256 * 0))) = (d0) + 256 * (d1) + 65536 * (d2) + 16777216 * (d3) := by omega
  rw [y0]
  have u0 : ((d0) + 256 * (d1) + 65536 * (d2) + 16777216 * (d3)) / 2 ^ 8 = (d1) + 256 * (d2) + 65536 * (d3) := by
    rw [show (d0) + 256 * (d1) + 65536 * (d2) + 16777216 * (d3) = ((d0)) + 256 * ((d1) + 256 * (d2) + 65536 * (d3)) by omega]
    exact dvk (k := _) (by omega) (by omega)
  rw [u0]
  have v0 : ((d0) + 256 * (d1) + 65536 * (d2) + 16777216 * (d3) + ((d1) + 256 * (d2) + 65536 * (d3))) % 2 ^ 32 = (d0 + d1) + 256 * (d1 + d2) + 65536 * (d2 + d3) + 16777216 * (d3) := by
    rw [Nat.mod_eq_of_lt (by omega)]
    omega
  rw [v0]
  have u1 : ((d0 + d1) + 256 * (d1 + d2) + 65536 * (d2 + d3) + 16777216 * (d3)) / 2 ^ 16 = (d2 + d3) + 256 * (d3) := by
    rw [show (d0 + d1) + 256 * (d1 + d2) + 65536 * (d2 + d3) + 16777216 * (d3) = ((d0 + d1) + 256 * (d1 + d2)) + 65536 * ((d2 + d3) + 256 * (d3)) by omega]
    exact dvk (k := _) (by omega) (by omega)
  rw [u1]
  have v1 : ((d0 + d1) + 256 * (d1 + d2) + 65536 * (d2 + d3) + 16777216 * (d3) + ((d2 + d3) + 256 * (d3))) % 2 ^ 32 = (d0 + d1 + d2 + d3) + 256 * (d1 + d2 + d3) + 65536 * (d2 + d3) + 16777216 * (d3) := by
    rw [Nat.mod_eq_of_lt (by omega)]
    omega
  rw [v1]
  rw [show (d0 + d1 + d2 + d3) + 256 * (d1 + d2 + d3) + 65536 * (d2 + d3) + 16777216 * (d3) = (d0 + d1 + d2 + d3) + 64 * (4 * (d1 + d2 + d3) + 1024 * (d2 + d3) + 262144 * (d3)) by omega]
  rw [show (2 : Nat) ^ 6 = 64 by decide, Nat.add_mul_mod_self_left, Nat.mod_eq_of_lt (by omega)]
  omega
theorem nI_nt {x : Int32} {n : Nat} (h : nt x = n) : x = nI n := by
  apply Int32.toBitVec_inj.mp
  apply BitVec.eq_of_toNat_eq
  have := nt_lt x
  show nt x = (nI n).toBitVec.toNat
  rw [h]
  show n = (BitVec.ofNat 32 n).toNat
  rw [BitVec.toNat_ofNat, Nat.mod_eq_of_lt (by omega)]
theorem bitc32 (x : Int32) : r_J6_bitCount_0f7a4 x = nI (fb_ct (bt x) 32) := nI_nt (bc32 x)
