/-! Int64 by its bits; sets of pairs -/
def bl (x : Int64) (i : Nat) : Bool := x.toBitVec.getLsbD i
theorem l_ext {x y : Int64} (h : ∀ i, i < 64 → bl x i = bl y i) : x = y := Int64.toBitVec_inj.mp (BitVec.eq_of_getLsbD_eq (fun i hi => h i hi))
theorem l_or (x y : Int64) (i : Nat) : bl (x ||| y) i = (bl x i || bl y i) := by unfold bl; rw [Int64.toBitVec_or, BitVec.getLsbD_or]
theorem l_and (x y : Int64) (i : Nat) : bl (x &&& y) i = (bl x i && bl y i) := by unfold bl; rw [Int64.toBitVec_and, BitVec.getLsbD_and]
theorem l_xor (x y : Int64) (i : Nat) : bl (x ^^^ y) i = (bl x i ^^ bl y i) := by unfold bl; rw [Int64.toBitVec_xor, BitVec.getLsbD_xor]
theorem l_big {x : Int64} {i : Nat} (h : 64 ≤ i) : bl x i = false := BitVec.getLsbD_of_ge _ _ h
theorem l_m1 : ∀ i, i < 64 → bl (-1) i = true := by decide +kernel
theorem l_0 (i : Nat) : bl 0 i = false := BitVec.getLsbD_zero
theorem l_not {x : Int64} {i : Nat} (h : i < 64) : bl (x ^^^ (-1)) i = !bl x i := by rw [l_xor, l_m1 i h]; simp
theorem l_ne0 {x : Int64} (h : ¬ x = 0) : ∃ j, j < 64 ∧ bl x j = true := by
  by_cases q : ∃ j, j < 64 ∧ bl x j = true
  · exact q
  · refine absurd (l_ext fun i hi => ?_) h
    rw [l_0]
    cases hb : bl x i with
    | false => rfl
    | true => exact absurd ⟨i, hi, hb⟩ q
theorem l_eq0 {x : Int64} : x = 0 ↔ ∀ j, bl x j = false := by
  constructor
  · intro h j
    rw [h, l_0]
  · intro h
    exact l_ext fun i _ => by rw [h, l_0]
theorem b_eq0 {x : Int32} : x = 0 ↔ ∀ j, bt x j = false := by
  constructor
  · intro h j
    rw [h, b_0]
  · intro h
    exact b_ext fun i _ => by rw [h, b_0]
theorem lg_cmp_0 (x y : Int64) : lg_cmp x y = 0 ↔ x = y := by
  unfold lg_cmp
  by_cases h : x = y
  · subst h
    rw [if_neg (fun c => Int64.lt_irrefl c), if_pos rfl]
    simp
  · rw [if_neg h]
    split
    · exact ⟨fun e => absurd e (by decide), fun e => absurd e h⟩
    · exact ⟨fun e => absurd e (by decide), fun e => absurd e h⟩
def pos (q : Nat) : Nat := 32 * (q % 2) + q / 2
theorem pos_inj {p q : Nat} (hp : p < 40) (hq : q < 40) (h : pos p = pos q) : p = q := by unfold pos at h; omega
theorem pos_lt {q : Nat} (hq : q < 40) : pos q < 64 := by unfold pos; omega
def pb (m : Int64) (q : Nat) : Bool := bl m (pos q)
def okp (M : Nat) (m : Int64) : Prop := ∀ j, bl m j = true → ∃ q, q < M ∧ j = pos q
theorem okp_or {M : Nat} {x y : Int64} (hx : okp M x) (hy : okp M y) : okp M (x ||| y) := fun j hj => by
  rw [l_or, Bool.or_eq_true] at hj
  exact hj.elim (hx j) (hy j)
theorem okp_and {M : Nat} {x y : Int64} (hx : okp M x) : okp M (x &&& y) := fun j hj => by
  rw [l_and, Bool.and_eq_true] at hj
  exact hx j hj.1
theorem okp_0 {M : Nat} : okp M 0 := fun j hj => by rw [l_0] at hj; exact absurd hj (by decide)
theorem okp_ext {M : Nat} {x y : Int64} (hx : okp M x) (hy : okp M y) (h : ∀ q, q < M → pb x q = pb y q) : x = y := by
  refine l_ext fun i _ => ?_
  cases h1 : bl x i with
  | true =>
    obtain ⟨q, hq, e⟩ := hx i h1
    have := h q hq
    unfold pb at this
    rw [← e, h1] at this
    exact this
  | false =>
    cases h2 : bl y i with
    | false => rfl
    | true =>
      obtain ⟨q, hq, e⟩ := hy i h2
      have := h q hq
      unfold pb at this
      rw [← e, h1, h2] at this
      exact this
theorem okp_eq0 {M : Nat} {x : Int64} (hx : okp M x) : x = 0 ↔ ∀ q, q < M → pb x q = false := by
  constructor
  · intro h q _
    rw [h]
    exact l_0 _
  · intro h
    exact okp_ext hx okp_0 (fun q hq => by rw [h q hq]; exact (l_0 _).symm)
theorem sop : ∀ q, q < 40 → ∀ j, j < 64 → bl (r_X6_setOfPair (nI q)) j = decide (j = pos q) := by decide +kernel
theorem bl_sop {q : Nat} (hq : q < 40) (j : Nat) : bl (r_X6_setOfPair (nI q)) j = decide (j = pos q) := by
  rcases Nat.lt_or_ge j 64 with h | h
  · exact sop q hq j h
  · have := pos_lt hq
    rw [l_big h, decide_eq_false (by omega)]
theorem pb_sop {p q : Nat} (hq : q < 40) (hp : p < 40) : pb (r_X6_setOfPair (nI q)) p = decide (p = q) := by
  unfold pb
  rw [bl_sop hq]
  by_cases h : p = q
  · rw [h]; simp
  · rw [decide_eq_false h, decide_eq_false (fun e => h (pos_inj hp hq e))]
theorem okp_sop {q M : Nat} (hq : q < 40) (h : q < M) : okp M (r_X6_setOfPair (nI q)) := fun j hj => by
  rw [bl_sop hq] at hj
  exact ⟨q, h, of_decide_eq_true hj⟩
theorem cp_0 {m : Int64} {q : Nat} (hq : q < 40) : r_X6_containsPair m (nI q) = 0 ↔ pb m q = false := by
  unfold r_X6_containsPair
  have : lg_cmp (m &&& r_X6_setOfPair (nI q)) 0 = 0 ↔ pb m q = false := by
    rw [lg_cmp_0, l_eq0]
    constructor
    · intro h
      have := h (pos q)
      rw [l_and, bl_sop hq] at this
      simpa [pb] using this
    · intro h j
      rw [l_and, bl_sop hq]
      by_cases e : j = pos q
      · subst e
        unfold pb at h
        rw [h]; rfl
      · simp [e]
  split
  · next h => exact ⟨fun _ => this.mp h, fun _ => rfl⟩
  · next h => exact ⟨fun e => absurd e (by decide), fun e => absurd (this.mpr e) h⟩
theorem ct_0 {m : Int32} {j : Nat} (hj : j < 32) : r_X6_contains m (nI j) = 0 ↔ bt m j = false := by
  unfold r_X6_contains
  split
  · next h => exact ⟨fun _ => (us_0 hj).mp h, fun _ => rfl⟩
  · next h => exact ⟨fun e => absurd e (by decide), fun e => absurd ((us_0 hj).mpr e) h⟩
theorem bt_so {t i : Nat} (ht : t < 32) : bt (r_X6_setOf (nI t)) i = decide (i = t) := bt_shl1 ht
theorem bl_pw0 {m : Int32} (h : bt m 31 = false) (j : Nat) : bl (r_X6_pairsWith m 0) j = bt m j := by
  have e : (((Int32.toInt64 ((0 : Int32) * 32)) &&& 63).toBitVec.smod 64).toNat = 0 := by decide +kernel
  unfold bl r_X6_pairsWith
  rw [Int64.toBitVec_shiftLeft]
  show ((Int32.toInt64 m).toBitVec <<< (((Int32.toInt64 ((0 : Int32) * 32)) &&& 63).toBitVec.smod 64).toNat).getLsbD j = _
  rw [e, BitVec.shiftLeft_zero, Int32.toBitVec_toInt64, BitVec.getLsbD_signExtend]
  have hm : m.toBitVec.msb = false := by rw [BitVec.msb_eq_getLsbD_last]; exact h
  unfold bt
  rw [hm]
  by_cases c : j < 32
  · have : j < 64 := by omega
    simp [c, this]
  · rw [BitVec.getLsbD_of_ge _ _ (by omega)]
    simp [c]
theorem bl_pw1 (m : Int32) (j : Nat) : bl (r_X6_pairsWith m 1) j = (decide (32 ≤ j) && bt m (j - 32)) := by
  have e : (((Int32.toInt64 ((1 : Int32) * 32)) &&& 63).toBitVec.smod 64).toNat = 32 := by decide +kernel
  unfold bl r_X6_pairsWith
  rw [Int64.toBitVec_shiftLeft]
  show ((Int32.toInt64 m).toBitVec <<< (((Int32.toInt64 ((1 : Int32) * 32)) &&& 63).toBitVec.smod 64).toNat).getLsbD j = _
  rw [e, BitVec.getLsbD_shiftLeft, Int32.toBitVec_toInt64, BitVec.getLsbD_signExtend]
  unfold bt
  by_cases c : j < 32
  · have : ¬ 32 ≤ j := by omega
    simp [c, this]
  · have c' : 32 ≤ j := by omega
    by_cases d : j < 64
    · have : j - 32 < 32 := by omega
      have : j - 32 < 64 := by omega
      simp [c, c', d, *]
    · rw [BitVec.getLsbD_of_ge _ (j - 32) (by omega)]
      simp [d]
theorem bt_tw0 (m : Int64) {i : Nat} (hi : i < 32) : bt (r_X6_targetsWith m 0) i = bl m i := by
  have e : (((Int32.toInt64 ((0 : Int32) * 32)).toUInt64 &&& Int64.toUInt64 63).toBitVec % 64).toNat = 0 := by decide +kernel
  unfold bt r_X6_targetsWith
  rw [Int64.toBitVec_toInt32, BitVec.getLsbD_signExtend]
  have d : i < 64 := by omega
  simp only [hi, d, decide_true, Bool.true_and, if_true]
  show (m.toUInt64 >>> ((Int32.toInt64 ((0 : Int32) * 32)).toUInt64 &&& Int64.toUInt64 63)).toBitVec.getLsbD i = _
  rw [UInt64.toBitVec_shiftRight]
  show (m.toUInt64.toBitVec >>> (((Int32.toInt64 ((0 : Int32) * 32)).toUInt64 &&& Int64.toUInt64 63).toBitVec % 64).toNat).getLsbD i = _
  rw [e, BitVec.ushiftRight_zero]
  rfl
theorem bt_tw1 (m : Int64) {i : Nat} (hi : i < 32) : bt (r_X6_targetsWith m 1) i = bl m (32 + i) := by
  have e : (((Int32.toInt64 ((1 : Int32) * 32)).toUInt64 &&& Int64.toUInt64 63).toBitVec % 64).toNat = 32 := by decide +kernel
  unfold bt r_X6_targetsWith
  rw [Int64.toBitVec_toInt32, BitVec.getLsbD_signExtend]
  have d : i < 64 := by omega
  simp only [hi, d, decide_true, Bool.true_and, if_true]
  show (m.toUInt64 >>> ((Int32.toInt64 ((1 : Int32) * 32)).toUInt64 &&& Int64.toUInt64 63)).toBitVec.getLsbD i = _
  rw [UInt64.toBitVec_shiftRight]
  show (m.toUInt64.toBitVec >>> (((Int32.toInt64 ((1 : Int32) * 32)).toUInt64 &&& Int64.toUInt64 63).toBitVec % 64).toNat).getLsbD i = _
  rw [e, BitVec.getLsbD_ushiftRight]
  rfl
