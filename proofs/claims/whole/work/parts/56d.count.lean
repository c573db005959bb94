/-! the count of a long's bits -/
theorem bc64 (x : Int64) : nt (r_J13_bitCount_95d88 x) = fb_ct (bl x) 64 := by
  have hx := nl_lt x
  have e0 : fb_ct (bl x) 64 = MS pc 8 (nl x) := ms_pc 8 (nl x)
  have m1 : nl 6148914691236517205 = MK 85 8 := by decide +kernel
  have m2 : nl 3689348814741910323 = MK 51 8 := by decide +kernel
  have m3 : nl 1085102592571150095 = MK 15 8 := by decide +kernel
  have m4 : nt 127 = 2 ^ 7 - 1 := by decide +kernel
  obtain ⟨a1, a2⟩ := st1 8 (nl x) hx
  have b1 : nl (bl_1 x) = MP s1 8 (nl x) := by
    unfold bl_1
    have e : nl (((Int64.toUInt64 x >>> ((Int32.toInt64 1).toUInt64 &&& Int64.toUInt64 63)).toInt64) &&& 6148914691236517205) = (nl x / 2) &&& MK 85 8 := by rw [nl_and, m1, nl_shr x 1 1 (by decide +kernel)]
    rw [nl_sub (by rw [e]; exact a1), e, a2]
  have c2 : MP s2 8 (MP s1 8 (nl x)) = MP (fun d => s2 (s1 d)) 8 (nl x) := mp_comp (fun d hd => (s1_dec d hd 0 (by decide)).2.2) 8 (nl x)
  have sm := mp_small (f := fun d => s2 (s1 d)) (fun d hd => (s2_dec d hd 0 (by decide)).2.2.2) 8 (nl x)
  have b2 : nl (bl_2 x) = MP (fun d => s2 (s1 d)) 8 (nl x) := by
    unfold bl_2
    rw [nl_add, nl_and, nl_and, m2, nl_shr (bl_1 x) 2 2 (by decide +kernel), b1, st2, c2]
    omega
  have b3 : nl (bl_3 x) = MP pc 8 (nl x) := by
    unfold bl_3
    rw [nl_and, nl_add, nl_shr (bl_2 x) 4 4 (by decide +kernel), m3, b2, Nat.mod_eq_of_lt (by omega)]
    exact (st3 (f := fun d => s2 (s1 d)) (fun d hd => (s2_dec d hd 0 (by decide)).2) 8 (nl x)).2
  have b4 : nl (bl_4 x) = (nl (bl_3 x) + nl (bl_3 x) / 2 ^ 8) % 2 ^ 64 := by
    unfold bl_4
    rw [nl_add, nl_shr (bl_3 x) 8 8 (by decide +kernel)]
  have b5 : nl (bl_5 x) = (nl (bl_4 x) + nl (bl_4 x) / 2 ^ 16) % 2 ^ 64 := by
    unfold bl_5
    rw [nl_add, nl_shr (bl_4 x) 16 16 (by decide +kernel)]
  have b6 : nl (bl_6 x) = (nl (bl_5 x) + nl (bl_5 x) / 2 ^ 32) % 2 ^ 64 := by
    unfold bl_6
    rw [nl_add, nl_shr (bl_5 x) 32 32 (by decide +kernel)]
  have b7 : nt (Int64.toInt32 (bl_6 x)) % 2 ^ 7 = nl (bl_6 x) % 2 ^ 7 := by
    unfold nt nl
    rw [Int64.toBitVec_toInt32]
    have : (BitVec.signExtend 32 (bl_6 x).toBitVec).toNat = (bl_6 x).toBitVec.toNat % 2 ^ 32 := by
      rw [BitVec.signExtend_eq_setWidth_of_le _ (by decide), BitVec.toNat_setWidth]
    rw [this]
    omega
  have q : ∀ m, pc (m % 256) ≤ 8 := fun m => (pc_dec (m % 256) (Nat.mod_lt _ (by decide))).2
  have em : MP pc 8 (nl x) = pc (nl x % 256) + 256 * (pc (nl x / 256 % 256) + 256 * (pc (nl x / 256 / 256 % 256) + 256 * (pc (nl x / 256 / 256 / 256 % 256) + 256 * (pc (nl x / 256 / 256 / 256 / 256 % 256) + 256 * (pc (nl x / 256 / 256 / 256 / 256 / 256 % 256) + 256 * (pc (nl x / 256 / 256 / 256 / 256 / 256 / 256 % 256) + 256 * (pc (nl x / 256 / 256 / 256 / 256 / 256 / 256 / 256 % 256) + 256 * 0))))))) := rfl
  have es : MS pc 8 (nl x) = pc (nl x % 256) + (pc (nl x / 256 % 256) + (pc (nl x / 256 / 256 % 256) + (pc (nl x / 256 / 256 / 256 % 256) + (pc (nl x / 256 / 256 / 256 / 256 % 256) + (pc (nl x / 256 / 256 / 256 / 256 / 256 % 256) + (pc (nl x / 256 / 256 / 256 / 256 / 256 / 256 % 256) + (pc (nl x / 256 / 256 / 256 / 256 / 256 / 256 / 256 % 256) + 0))))))) := rfl
  rw [e0]
  unfold r_J13_bitCount_95d88
  rw [nt_and, m4, Nat.and_two_pow_sub_one_eq_mod, b7, b6, b5, b4, b3, em, es]
  exact dig8 _ _ _ _ _ _ _ _ (q (nl x)) (q (nl x / 256)) (q (nl x / 256 / 256)) (q (nl x / 256 / 256 / 256)) (q (nl x / 256 / 256 / 256 / 256)) (q (nl x / 256 / 256 / 256 / 256 / 256)) (q (nl x / 256 / 256 / 256 / 256 / 256 / 256)) (q (nl x / 256 / 256 / 256 / 256 / 256 / 256 / 256))
theorem bitc64 (x : Int64) : r_J13_bitCount_95d88 x = nI (fb_ct (bl x) 64) := nI_nt (bc64 x)
