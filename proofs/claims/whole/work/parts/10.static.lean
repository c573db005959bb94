/-! the static methods of ChangeImpact, and of the reference: no world -/
abbrev rmM (f l mc ms : Nat) : Room := { frames := f, cells := mc, slots := ms, locals := l }
def lvK : List Bool → List (Option Value) → List (Option Value)
  | true :: t, v :: u => v :: lvK t u
  | false :: t, _ :: u => none :: lvK t u
  | [], u => u
  | _, [] => []
theorem lvK_get : ∀ (b : List Bool) (u : List (Option Value)) (i : Nat) (v : Value), (lvK b u)[i]? = some (some v) → u[i]? = some (some v)
  | [], u, i, v, h => by simpa [lvK] using h
  | true :: t, [], i, v, h => by simp [lvK] at h
  | false :: t, [], i, v, h => by simp [lvK] at h
  | true :: t, w :: u, 0, v, h => by simpa [lvK] using h
  | false :: t, w :: u, 0, v, h => by simp [lvK] at h
  | true :: t, w :: u, i + 1, v, h => by simpa using lvK_get t u i v (by simpa [lvK] using h)
  | false :: t, w :: u, i + 1, v, h => by simpa using lvK_get t u i v (by simpa [lvK] using h)
theorem v_mask {Z : BX} {D : va_G} {kc ks : Nat} {wd : va_W} {lv lv' : List (Option Value)} {st : List Value} {pc : Nat} (b : List Bool) (h : lvK b lv = lv') (k : V Z D kc ks wd lv' st pc) : V Z D kc ks wd lv st pc := v_lv (fun i v hi => lvK_get b lv i v (by rw [h]; exact hi)) k
theorem inc1 (i : Nat) : nI i + Int32.ofInt 1 = nI (i + 1) := nI_1 i
def f_inRange (v n : Int32) : Int32 := if v < 0 then 0 else if n ≤ v then 0 else 1
def f_isShardCount (v : Int32) : Int32 := if v < 1 then 0 else if 4 < v then 0 else 1
def f_setOf (t : Int32) : Int32 := 1 <<< (t &&& 31)
def f_contains (m t : Int32) : Int32 := if (m.toUInt32 >>> (t.toUInt32 &&& Int32.toUInt32 31)).toInt32 &&& 1 = 0 then 0 else 1
def f_pairOf (t p : Int32) : Int32 := 2 * t + p
def f_pairsWith (m p : Int32) : Int64 := m.toInt64 <<< ((p * 32).toInt64 &&& 63)
def f_targetsWith (m : Int64) (p : Int32) : Int32 := (m.toUInt64 >>> ((p * 32).toInt64.toUInt64 &&& Int64.toUInt64 63)).toInt64.toInt32
def f_setOfPair (q : Int32) : Int64 := 1 <<< (((q - q / 2 * 2) * 32 + q / 2).toInt64 &&& 63)
def f_containsPair (m : Int64) (q : Int32) : Int32 := if lg_cmp (m &&& f_setOfPair q) 0 = 0 then 0 else 1
def f_smT (m : Int32) : Nat → Nat → Int32
  | 0, _ => -10
  | n + 1, i => if f_contains m (nI i) = 0 then f_smT m n (i + 1) else nI i
def f_smP (m : Int64) : Nat → Nat → Int32
  | 0, _ => -10
  | n + 1, i => if f_containsPair m (nI i) = 0 then f_smP m n (i + 1) else nI i
def f_in (v a b : Int32) : Int32 := if v < a then 0 else if b < v then 0 else 1
set_option maxRecDepth 20000 in
/-- X6_inRange -/
theorem c_X6_inRange (D : va_G) (v : Int32) (n : Int32) (l : Launch) : Ct l yX6_inRange cX6_inRange 2 (some .boolean) (rmM 0 0 0 0) D [.int v, .int n] [] (QI1 D (f_inRange v n) []) := by
  refine Ct.ofV 0 (lv0 := [some (.int v), some (.int n)]) (by decide) rfl rfl (fun Z E F => ?_)
  refine v_iload_n E dX6_inRange_0 rfl ?_
  refine v_if_lt E 13 dX6_inRange_1 (by decide) (fun c_1 => ?_) (fun c_1 => ?_)
  · refine v_iconst E dX6_inRange_13 (v := 0) (by decide) ?_
    exact v_iret E F dX6_inRange_14 rfl rfl () (by simp only [f_inRange, if_pos c_1]) rfl (Nat.le_of_ble_eq_true rfl) (Nat.le_of_ble_eq_true rfl)
  · refine v_iload_n E dX6_inRange_4 rfl ?_
    refine v_iload_n E dX6_inRange_5 rfl ?_
    refine v_icmp_ge E 13 dX6_inRange_6 (by decide) (fun c_6 => ?_) (fun c_6 => ?_)
    · refine v_iconst E dX6_inRange_13 (v := 0) (by decide) ?_
      exact v_iret E F dX6_inRange_14 rfl rfl () (by simp only [f_inRange, if_neg c_1, if_pos c_6]) rfl (Nat.le_of_ble_eq_true rfl) (Nat.le_of_ble_eq_true rfl)
    · refine v_iconst E dX6_inRange_9 (v := 1) (by decide) ?_
      refine v_goto E 14 dX6_inRange_10 (by decide) ?_
      exact v_iret E F dX6_inRange_14 rfl rfl () (by simp only [f_inRange, if_neg c_1, if_neg c_6]) rfl (Nat.le_of_ble_eq_true rfl) (Nat.le_of_ble_eq_true rfl)

set_option maxRecDepth 20000 in
/-- X6_isShardCount -/
theorem c_X6_isShardCount (D : va_G) (v : Int32) (l : Launch) : Ct l yX6_isShardCount cX6_isShardCount 1 (some .boolean) (rmM 0 0 0 0) D [.int v] [] (QI1 D (f_isShardCount v) []) := by
  refine Ct.ofV 0 (lv0 := [some (.int v)]) (by decide) rfl rfl (fun Z E F => ?_)
  refine v_iload_n E dX6_isShardCount_0 rfl ?_
  refine v_iconst E dX6_isShardCount_1 (v := 1) (by decide) ?_
  refine v_icmp_lt E 14 dX6_isShardCount_2 (by decide) (fun c_2 => ?_) (fun c_2 => ?_)
  · refine v_iconst E dX6_isShardCount_14 (v := 0) (by decide) ?_
    exact v_iret E F dX6_isShardCount_15 rfl rfl () (by simp only [f_isShardCount, if_pos c_2]) rfl (Nat.le_of_ble_eq_true rfl) (Nat.le_of_ble_eq_true rfl)
  · refine v_iload_n E dX6_isShardCount_5 rfl ?_
    refine v_iconst E dX6_isShardCount_6 (v := 4) (by decide) ?_
    refine v_icmp_gt E 14 dX6_isShardCount_7 (by decide) (fun c_7 => ?_) (fun c_7 => ?_)
    · refine v_iconst E dX6_isShardCount_14 (v := 0) (by decide) ?_
      exact v_iret E F dX6_isShardCount_15 rfl rfl () (by simp only [f_isShardCount, if_neg c_2, if_pos c_7]) rfl (Nat.le_of_ble_eq_true rfl) (Nat.le_of_ble_eq_true rfl)
    · refine v_iconst E dX6_isShardCount_10 (v := 1) (by decide) ?_
      refine v_goto E 15 dX6_isShardCount_11 (by decide) ?_
      exact v_iret E F dX6_isShardCount_15 rfl rfl () (by simp only [f_isShardCount, if_neg c_2, if_neg c_7]) rfl (Nat.le_of_ble_eq_true rfl) (Nat.le_of_ble_eq_true rfl)

set_option maxRecDepth 20000 in
/-- X6_setOf -/
theorem c_X6_setOf (D : va_G) (t : Int32) (l : Launch) : Ct l yX6_setOf cX6_setOf 1 (some .int) (rmM 0 0 0 0) D [.int t] [] (QI1 D (f_setOf t) []) := by
  refine Ct.ofV 0 (lv0 := [some (.int t)]) (by decide) rfl rfl (fun Z E F => ?_)
  refine v_iconst E dX6_setOf_0 (v := 1) (by decide) ?_
  refine v_iload_n E dX6_setOf_1 rfl ?_
  refine v_ishl E dX6_setOf_2 ?_
  exact v_iret E F dX6_setOf_3 rfl rfl () (by simp only [f_setOf]) rfl (Nat.le_of_ble_eq_true rfl) (Nat.le_of_ble_eq_true rfl)

set_option maxRecDepth 20000 in
/-- X6_contains -/
theorem c_X6_contains (D : va_G) (m : Int32) (t : Int32) (l : Launch) : Ct l yX6_contains cX6_contains 2 (some .boolean) (rmM 0 0 0 0) D [.int m, .int t] [] (QI1 D (f_contains m t) []) := by
  refine Ct.ofV 0 (lv0 := [some (.int m), some (.int t)]) (by decide) rfl rfl (fun Z E F => ?_)
  refine v_iload_n E dX6_contains_0 rfl ?_
  refine v_iload_n E dX6_contains_1 rfl ?_
  refine v_iushr E dX6_contains_2 ?_
  refine v_iconst E dX6_contains_3 (v := 1) (by decide) ?_
  refine v_iand E dX6_contains_4 ?_
  refine v_if_eq E 12 dX6_contains_5 (by decide) (fun c_5 => ?_) (fun c_5 => ?_)
  · refine v_iconst E dX6_contains_12 (v := 0) (by decide) ?_
    exact v_iret E F dX6_contains_13 rfl rfl () (by simp only [f_contains, if_pos c_5]) rfl (Nat.le_of_ble_eq_true rfl) (Nat.le_of_ble_eq_true rfl)
  · refine v_iconst E dX6_contains_8 (v := 1) (by decide) ?_
    refine v_goto E 13 dX6_contains_9 (by decide) ?_
    exact v_iret E F dX6_contains_13 rfl rfl () (by simp only [f_contains, if_neg c_5]) rfl (Nat.le_of_ble_eq_true rfl) (Nat.le_of_ble_eq_true rfl)

set_option maxRecDepth 20000 in
/-- X6_pairOf -/
theorem c_X6_pairOf (D : va_G) (t : Int32) (p : Int32) (l : Launch) : Ct l yX6_pairOf cX6_pairOf 2 (some .int) (rmM 0 0 0 0) D [.int t, .int p] [] (QI1 D (f_pairOf t p) []) := by
  refine Ct.ofV 0 (lv0 := [some (.int t), some (.int p)]) (by decide) rfl rfl (fun Z E F => ?_)
  refine v_iconst E dX6_pairOf_0 (v := 2) (by decide) ?_
  refine v_iload_n E dX6_pairOf_1 rfl ?_
  refine v_imul E dX6_pairOf_2 ?_
  refine v_iload_n E dX6_pairOf_3 rfl ?_
  refine v_iadd E dX6_pairOf_4 ?_
  exact v_iret E F dX6_pairOf_5 rfl rfl () (by simp only [f_pairOf]) rfl (Nat.le_of_ble_eq_true rfl) (Nat.le_of_ble_eq_true rfl)

set_option maxRecDepth 20000 in
/-- X6_pairsWith -/
theorem c_X6_pairsWith (D : va_G) (m : Int32) (p : Int32) (l : Launch) : Ct l yX6_pairsWith cX6_pairsWith 2 (some .long) (rmM 0 0 0 0) D [.int m, .int p] [] (QL1 D (f_pairsWith m p) []) := by
  refine Ct.ofV 0 (lv0 := [some (.int m), some (.int p)]) (by decide) rfl rfl (fun Z E F => ?_)
  refine v_iload_n E dX6_pairsWith_0 rfl ?_
  refine v_i2l E dX6_pairsWith_1 ?_
  refine v_iload_n E dX6_pairsWith_2 rfl ?_
  refine v_bipush E dX6_pairsWith_3 (v := 32) (by decide) ?_
  refine v_imul E dX6_pairsWith_5 ?_
  refine v_lshl E dX6_pairsWith_6 ?_
  exact v_lret E F dX6_pairsWith_7 rfl () (by simp only [f_pairsWith]) rfl (Nat.le_of_ble_eq_true rfl) (Nat.le_of_ble_eq_true rfl)

set_option maxRecDepth 20000 in
/-- X6_targetsWith -/
theorem c_X6_targetsWith (D : va_G) (m : Int64) (p : Int32) (l : Launch) : Ct l yX6_targetsWith cX6_targetsWith 3 (some .int) (rmM 0 0 0 0) D [.long m, .int p] [] (QI1 D (f_targetsWith m p) []) := by
  refine Ct.ofV 0 (lv0 := [some (.long m), none, some (.int p)]) (by decide) rfl rfl (fun Z E F => ?_)
  refine v_lload_n E dX6_targetsWith_0 rfl ?_
  refine v_iload_n E dX6_targetsWith_1 rfl ?_
  refine v_bipush E dX6_targetsWith_2 (v := 32) (by decide) ?_
  refine v_imul E dX6_targetsWith_4 ?_
  refine v_lushr E dX6_targetsWith_5 ?_
  refine v_l2i E dX6_targetsWith_6 ?_
  exact v_iret E F dX6_targetsWith_7 rfl rfl () (by simp only [f_targetsWith]) rfl (Nat.le_of_ble_eq_true rfl) (Nat.le_of_ble_eq_true rfl)

set_option maxRecDepth 20000 in
/-- X6_setOfPair -/
theorem c_X6_setOfPair (D : va_G) (q : Int32) (l : Launch) : Ct l yX6_setOfPair cX6_setOfPair 1 (some .long) (rmM 0 0 0 0) D [.int q] [] (QL1 D (f_setOfPair q) []) := by
  refine Ct.ofV 0 (lv0 := [some (.int q)]) (by decide) rfl rfl (fun Z E F => ?_)
  refine v_lconst E dX6_setOfPair_0 (v := 1) (by decide) ?_
  refine v_iload_n E dX6_setOfPair_1 rfl ?_
  refine v_iconst E dX6_setOfPair_2 (v := 2) (by decide) ?_
  refine v_irem E dX6_setOfPair_3 (by decide) ?_
  refine v_bipush E dX6_setOfPair_4 (v := 32) (by decide) ?_
  refine v_imul E dX6_setOfPair_6 ?_
  refine v_iload_n E dX6_setOfPair_7 rfl ?_
  refine v_iconst E dX6_setOfPair_8 (v := 2) (by decide) ?_
  refine v_idiv E dX6_setOfPair_9 (by decide) ?_
  refine v_iadd E dX6_setOfPair_10 ?_
  refine v_lshl E dX6_setOfPair_11 ?_
  exact v_lret E F dX6_setOfPair_12 rfl () (by simp only [f_setOfPair]) rfl (Nat.le_of_ble_eq_true rfl) (Nat.le_of_ble_eq_true rfl)

set_option maxRecDepth 20000 in
/-- X6_containsPair -/
theorem c_X6_containsPair (D : va_G) (m : Int64) (q : Int32) (l : Launch) : Ct l yX6_containsPair cX6_containsPair 3 (some .boolean) (rmM 1 20 0 0) D [.long m, .int q] [] (QI1 D (f_containsPair m q) []) := by
  refine Ct.ofV 0 (lv0 := [some (.long m), none, some (.int q)]) (by decide) rfl rfl (fun Z E F => ?_)
  refine v_lload_n E dX6_containsPair_0 rfl ?_
  refine v_iload_n E dX6_containsPair_1 rfl ?_
  refine v_cS_l E dX6_containsPair_2 (c_X6_setOfPair D _) cs_X6_186 rfl rfl rfl (Nat.le_of_ble_eq_true rfl) [] rfl rfl ⟨Nat.le_of_ble_eq_true rfl, Nat.le_of_ble_eq_true rfl⟩ ?_
  refine v_land E dX6_containsPair_5 ?_
  refine v_lconst E dX6_containsPair_6 (v := 0) (by decide) ?_
  refine v_lcmp E dX6_containsPair_7 ?_
  refine v_if_eq E 15 dX6_containsPair_8 (by decide) (fun c_8 => ?_) (fun c_8 => ?_)
  · refine v_iconst E dX6_containsPair_15 (v := 0) (by decide) ?_
    exact v_iret E F dX6_containsPair_16 rfl rfl () (by simp only [f_containsPair, if_pos c_8]) rfl (Nat.le_of_ble_eq_true rfl) (Nat.le_of_ble_eq_true rfl)
  · refine v_iconst E dX6_containsPair_11 (v := 1) (by decide) ?_
    refine v_goto E 16 dX6_containsPair_12 (by decide) ?_
    exact v_iret E F dX6_containsPair_16 rfl rfl () (by simp only [f_containsPair, if_neg c_8]) rfl (Nat.le_of_ble_eq_true rfl) (Nat.le_of_ble_eq_true rfl)

set_option maxRecDepth 20000 in
/-- X7_in -/
theorem c_X7_in (D : va_G) (v : Int32) (a : Int32) (b : Int32) (l : Launch) : Ct l yX7_in cX7_in 3 (some .boolean) (rmM 0 0 0 0) D [.int v, .int a, .int b] [] (QI1 D (f_in v a b) []) := by
  refine Ct.ofV 0 (lv0 := [some (.int v), some (.int a), some (.int b)]) (by decide) rfl rfl (fun Z E F => ?_)
  refine v_iload_n E dX7_in_0 rfl ?_
  refine v_iload_n E dX7_in_1 rfl ?_
  refine v_icmp_lt E 14 dX7_in_2 (by decide) (fun c_2 => ?_) (fun c_2 => ?_)
  · refine v_iconst E dX7_in_14 (v := 0) (by decide) ?_
    exact v_iret E F dX7_in_15 rfl rfl () (by simp only [f_in, if_pos c_2]) rfl (Nat.le_of_ble_eq_true rfl) (Nat.le_of_ble_eq_true rfl)
  · refine v_iload_n E dX7_in_5 rfl ?_
    refine v_iload_n E dX7_in_6 rfl ?_
    refine v_icmp_gt E 14 dX7_in_7 (by decide) (fun c_7 => ?_) (fun c_7 => ?_)
    · refine v_iconst E dX7_in_14 (v := 0) (by decide) ?_
      exact v_iret E F dX7_in_15 rfl rfl () (by simp only [f_in, if_neg c_2, if_pos c_7]) rfl (Nat.le_of_ble_eq_true rfl) (Nat.le_of_ble_eq_true rfl)
    · refine v_iconst E dX7_in_10 (v := 1) (by decide) ?_
      refine v_goto E 15 dX7_in_11 (by decide) ?_
      exact v_iret E F dX7_in_15 rfl rfl () (by simp only [f_in, if_neg c_2, if_neg c_7]) rfl (Nat.le_of_ble_eq_true rfl) (Nat.le_of_ble_eq_true rfl)

set_option maxRecDepth 20000 in
/-- X6_smallestTarget -/
theorem c_X6_smallestTarget (D : va_G) (m : Int32) (l : Launch) : Ct l yX6_smallestTarget cX6_smallestTarget 2 (some .int) (rmM 1 21 0 0) D [.int m] [] (QI1 D (f_smT m 20 0) []) := by
  refine Ct.ofV 1 (lv0 := [some (.int m), none]) (by decide) rfl rfl (fun Z E F => ?_)
  have L : ∀ n i : Nat, i + n = 20 → f_smT m 20 0 = f_smT m n i → V Z D 0 0 [] [some (.int m), some (.int (nI i))] [] 2 := by
    intro n
    induction n with
    | zero =>
      intro i hi hF
      obtain rfl : i = 20 := by omega
      refine v_iload_n E dX6_smallestTarget_2 rfl ?_
      refine v_bipush E dX6_smallestTarget_3 (v := 20) (by decide) ?_
      refine v_icmp_ge E 24 dX6_smallestTarget_5 (by decide) (fun c_5 => ?_) (fun c_5 => ?_)
      · refine v_bipush E dX6_smallestTarget_24 (v := -10) (by decide) ?_
        exact v_iret E F dX6_smallestTarget_26 rfl rfl () hF.symm rfl (Nat.le_of_ble_eq_true rfl) (Nat.le_of_ble_eq_true rfl)
      · exact absurd (nI_le (Nat.le_refl _) (by decide)) c_5
    | succ n ih =>
      intro i hi hF
      refine v_iload_n E dX6_smallestTarget_2 rfl ?_
      refine v_bipush E dX6_smallestTarget_3 (v := 20) (by decide) ?_
      refine v_icmp_ge E 24 dX6_smallestTarget_5 (by decide) (fun c_5 => ?_) (fun c_5 => ?_)
      · exact absurd c_5 (nI_ge (a := i) (b := 20) (by omega) (by decide))
      · refine v_iload_n E dX6_smallestTarget_8 rfl ?_
        refine v_iload_n E dX6_smallestTarget_9 rfl ?_
        refine v_cS_i E dX6_smallestTarget_10 (c_X6_contains D _ _) cs_X6_60 rfl rfl rfl (Nat.le_of_ble_eq_true rfl) [] rfl rfl ⟨Nat.le_of_ble_eq_true rfl, Nat.le_of_ble_eq_true rfl⟩ ?_
        refine v_if_eq E 18 dX6_smallestTarget_13 (by decide) (fun c_13 => ?_) (fun c_13 => ?_)
        · refine v_iinc E dX6_smallestTarget_18 (v := nI (i + 1)) rfl (inc1 _) rfl rfl ?_
          refine v_goto E 2 dX6_smallestTarget_21 (by decide) ?_
          exact ih (i + 1) (by omega) (by rw [hF]; simp only [f_smT, if_pos c_13])
        · refine v_iload_n E dX6_smallestTarget_16 rfl ?_
          exact v_iret E F dX6_smallestTarget_17 rfl rfl () (by rw [hF]; simp only [f_smT, if_neg c_13]) rfl (Nat.le_of_ble_eq_true rfl) (Nat.le_of_ble_eq_true rfl)
  refine v_iconst E dX6_smallestTarget_0 (v := 0) (by decide) ?_
  refine v_istore_n E dX6_smallestTarget_1 rfl rfl ?_
  exact L 20 0 rfl rfl

set_option maxRecDepth 20000 in
/-- X6_smallestPair -/
theorem c_X6_smallestPair (D : va_G) (m : Int64) (l : Launch) : Ct l yX6_smallestPair cX6_smallestPair 3 (some .int) (rmM 2 42 0 0) D [.long m] [] (QI1 D (f_smP m 40 0) []) := by
  refine Ct.ofV 1 (lv0 := [some (.long m), none, none]) (by decide) rfl rfl (fun Z E F => ?_)
  have L : ∀ n i : Nat, i + n = 40 → f_smP m 40 0 = f_smP m n i → V Z D 0 0 [] [some (.long m), none, some (.int (nI i))] [] 2 := by
    intro n
    induction n with
    | zero =>
      intro i hi hF
      obtain rfl : i = 40 := by omega
      refine v_iload_n E dX6_smallestPair_2 rfl ?_
      refine v_bipush E dX6_smallestPair_3 (v := 40) (by decide) ?_
      refine v_icmp_ge E 24 dX6_smallestPair_5 (by decide) (fun c_5 => ?_) (fun c_5 => ?_)
      · refine v_bipush E dX6_smallestPair_24 (v := -10) (by decide) ?_
        exact v_iret E F dX6_smallestPair_26 rfl rfl () hF.symm rfl (Nat.le_of_ble_eq_true rfl) (Nat.le_of_ble_eq_true rfl)
      · exact absurd (nI_le (Nat.le_refl _) (by decide)) c_5
    | succ n ih =>
      intro i hi hF
      refine v_iload_n E dX6_smallestPair_2 rfl ?_
      refine v_bipush E dX6_smallestPair_3 (v := 40) (by decide) ?_
      refine v_icmp_ge E 24 dX6_smallestPair_5 (by decide) (fun c_5 => ?_) (fun c_5 => ?_)
      · exact absurd c_5 (nI_ge (a := i) (b := 40) (by omega) (by decide))
      · refine v_lload_n E dX6_smallestPair_8 rfl ?_
        refine v_iload_n E dX6_smallestPair_9 rfl ?_
        refine v_cS_i E dX6_smallestPair_10 (c_X6_containsPair D _ _) cs_X6_190 rfl rfl rfl (Nat.le_of_ble_eq_true rfl) [] rfl rfl ⟨Nat.le_of_ble_eq_true rfl, Nat.le_of_ble_eq_true rfl⟩ ?_
        refine v_if_eq E 18 dX6_smallestPair_13 (by decide) (fun c_13 => ?_) (fun c_13 => ?_)
        · refine v_iinc E dX6_smallestPair_18 (v := nI (i + 1)) rfl (inc1 _) rfl rfl ?_
          refine v_goto E 2 dX6_smallestPair_21 (by decide) ?_
          exact ih (i + 1) (by omega) (by rw [hF]; simp only [f_smP, if_pos c_13])
        · refine v_iload_n E dX6_smallestPair_16 rfl ?_
          exact v_iret E F dX6_smallestPair_17 rfl rfl () (by rw [hF]; simp only [f_smP, if_neg c_13]) rfl (Nat.le_of_ble_eq_true rfl) (Nat.le_of_ble_eq_true rfl)
  refine v_iconst E dX6_smallestPair_0 (v := 0) (by decide) ?_
  refine v_istore_n E dX6_smallestPair_1 rfl rfl ?_
  exact L 40 0 rfl rfl

