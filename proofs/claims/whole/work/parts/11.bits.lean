/-! ===== Int32 by its bits: bt x i ===== -/
def bt (x : Int32) (i : Nat) : Bool := x.toBitVec.getLsbD i
theorem b_ext {x y : Int32} (h : ∀ i, i < 32 → bt x i = bt y i) : x = y := Int32.toBitVec_inj.mp (BitVec.eq_of_getLsbD_eq (fun i hi => h i hi))
theorem b_or (x y : Int32) (i : Nat) : bt (x ||| y) i = (bt x i || bt y i) := by unfold bt; rw [Int32.toBitVec_or, BitVec.getLsbD_or]
theorem b_and (x y : Int32) (i : Nat) : bt (x &&& y) i = (bt x i && bt y i) := by unfold bt; rw [Int32.toBitVec_and, BitVec.getLsbD_and]
theorem b_xor (x y : Int32) (i : Nat) : bt (x ^^^ y) i = (bt x i ^^ bt y i) := by unfold bt; rw [Int32.toBitVec_xor, BitVec.getLsbD_xor]
theorem b_big {x : Int32} {i : Nat} (h : 32 ≤ i) : bt x i = false := BitVec.getLsbD_of_ge _ _ h
theorem b_255 (i : Nat) : bt 255 i = decide (i < 8) := by
  rcases Nat.lt_or_ge i 32 with h | h
  · exact (by decide +kernel : ∀ i, i < 32 → bt 255 i = decide (i < 8)) i h
  · rw [b_big h, decide_eq_false (by omega)]
theorem b_65535 (i : Nat) : bt 65535 i = decide (i < 16) := by
  rcases Nat.lt_or_ge i 32 with h | h
  · exact (by decide +kernel : ∀ i, i < 32 → bt 65535 i = decide (i < 16)) i h
  · rw [b_big h, decide_eq_false (by omega)]
theorem b_m1 : ∀ i, i < 32 → bt (-1) i = true := by decide +kernel
theorem b_0 (i : Nat) : bt 0 i = false := BitVec.getLsbD_zero
theorem s_l : ∀ n, n < 32 → ((nI n &&& 31).toBitVec.smod 32).toNat = n := by decide +kernel
theorem s_u : ∀ n, n < 32 → (((nI n).toUInt32 &&& Int32.toUInt32 31).toBitVec % 32).toNat = n := by decide +kernel
theorem b_shl (n : Nat) (hn : n < 32) (x : Int32) {i : Nat} (hi : i < 32) : bt (x <<< (nI n &&& 31)) i = (decide (n ≤ i) && bt x (i - n)) := by
  unfold bt
  rw [Int32.toBitVec_shiftLeft]
  show (x.toBitVec <<< ((nI n &&& 31).toBitVec.smod 32).toNat).getLsbD i = _
  rw [s_l n hn, BitVec.getLsbD_shiftLeft]
  rcases Nat.lt_or_ge i n with h | h
  · simp [h, Nat.not_le.mpr h]
  · simp [hi, h, Nat.not_lt.mpr h]
theorem b_ushr (n : Nat) (hn : n < 32) (x : Int32) (i : Nat) : bt ((x.toUInt32 >>> ((nI n).toUInt32 &&& Int32.toUInt32 31)).toInt32) i = bt x (n + i) := by
  show (x.toUInt32 >>> ((nI n).toUInt32 &&& Int32.toUInt32 31)).toBitVec.getLsbD i = x.toUInt32.toBitVec.getLsbD (n + i)
  rw [UInt32.toBitVec_shiftRight]
  show (x.toUInt32.toBitVec >>> (((nI n).toUInt32 &&& Int32.toUInt32 31).toBitVec % 32).toNat).getLsbD i = _
  rw [s_u n hn, BitVec.getLsbD_ushiftRight]
theorem b_sshr (n : Nat) (hn : n < 32) (x : Int32) {i : Nat} (hi : i < 32) : bt (x >>> (nI n &&& 31)) i = if n + i < 32 then bt x (n + i) else bt x 31 := by
  unfold bt
  rw [Int32.toBitVec_shiftRight]
  show (x.toBitVec.sshiftRight ((nI n &&& 31).toBitVec.smod 32).toNat).getLsbD i = _
  rw [s_l n hn, BitVec.getLsbD_sshiftRight, BitVec.msb_eq_getLsbD_last]
  simp [hi]

theorem bt_1 (i : Nat) : bt 1 i = decide (i = 0) := by
  rcases Nat.lt_or_ge i 32 with h | h
  · exact (by decide +kernel : ∀ i, i < 32 → bt 1 i = decide (i = 0)) i h
  · rw [b_big h, decide_eq_false (by omega)]
theorem bt_a1 (x : Int32) : ((x &&& 1) = 0 ↔ bt x 0 = false) ∧ ((x &&& 1) = 1 ↔ bt x 0 = true) := by
  have e : ∀ i, bt (x &&& 1) i = (bt x 0 && decide (i = 0)) := fun i => by
    rw [b_and, bt_1]
    by_cases h : i = 0
    · subst h; simp
    · simp [h]
  constructor
  · constructor
    · intro h
      have := e 0
      rw [h, b_0] at this
      simpa using this.symm
    · intro h
      apply b_ext
      intro i _
      rw [e, h, b_0]
      simp
  · constructor
    · intro h
      have := e 0
      rw [h, bt_1] at this
      simpa using this.symm
    · intro h
      apply b_ext
      intro i _
      rw [e, h, bt_1]
      simp
theorem sh_1 {x : Int32} {j : Nat} (hj : j < 32) : ((x >>> (nI j &&& 31)) &&& 1) = 1 ↔ bt x j = true := by
  rw [(bt_a1 _).2, b_sshr j hj x (by omega)]
  simp [hj]
theorem sh_0 {x : Int32} {j : Nat} (hj : j < 32) : ((x >>> (nI j &&& 31)) &&& 1) = 0 ↔ bt x j = false := by
  rw [(bt_a1 _).1, b_sshr j hj x (by omega)]
  simp [hj]
theorem us_0 {x : Int32} {j : Nat} (hj : j < 32) : ((x.toUInt32 >>> ((nI j).toUInt32 &&& Int32.toUInt32 31)).toInt32 &&& 1) = 0 ↔ bt x j = false := by
  rw [(bt_a1 _).1, b_ushr j hj x, Nat.add_zero]
theorem bt_shl1 {n i : Nat} (hn : n < 32) : bt ((1 : Int32) <<< (nI n &&& 31)) i = decide (i = n) := by
  rcases Nat.lt_or_ge i 32 with h | h
  · rw [b_shl n hn 1 h, bt_1]
    by_cases e : i = n
    · subst e; simp
    · by_cases e2 : n ≤ i
      · have : i - n ≠ 0 := by omega
        simp [e, e2, this]
      · simp [e, e2]
  · rw [b_big h, decide_eq_false (by omega)]
theorem bt_not {x : Int32} {i : Nat} (h : i < 32) : bt (x ^^^ (-1)) i = !bt x i := by rw [b_xor, b_m1 i h]; simp
theorem bt_ne0 {x : Int32} (h : ¬ x = 0) : ∃ j, j < 32 ∧ bt x j = true := by
  by_cases q : ∃ j, j < 32 ∧ bt x j = true
  · exact q
  · refine absurd (b_ext fun i hi => ?_) h
    rw [b_0]
    cases hb : bt x i with
    | false => rfl
    | true => exact absurd ⟨i, hi, hb⟩ q
theorem foldN_ind {σ : Type} {f : Nat → σ → σ} {M : Nat} (P : Nat → σ → Prop) (h : ∀ j a, j < M → P j a → P (j + 1) (f j a)) : ∀ (n i : Nat) (a : σ), i + n ≤ M → P i a → P (i + n) (foldN f n i a)
  | 0, _, _, _, ha => ha
  | n + 1, i, a, hM, ha => by
    have := foldN_ind P h n (i + 1) (f i a) (by omega) (h i a (by omega) ha)
    rw [show i + (n + 1) = i + 1 + n by omega]
    exact this
