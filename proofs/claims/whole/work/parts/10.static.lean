/-! small things for the walks -/
abbrev rmM (f l mc ms : Nat) : Room := { frames := f, cells := mc, slots := ms, locals := l }
def lvK : List Bool → List (Option Value) → List (Option Value)
  | true :: t, v :: u => v :: lvK t u
  | false :: t, _ :: u => none :: lvK t u
  | [], u => u
  | _, [] => []
theorem lvK_get : ∀ (b : List Bool) (u : List (Option Value)) (i : Nat) (v : Value), (lvK b u)[i]? = some (some v) → u[i]? = some (some v)
  | [], u, i, v, h => by simpa [lvK] using h
  | true :: t, [], i, v, h => by simp [lvK] at h
  | false :: t, [], i, v, h => by simp [lvK] at h
  | true :: t, w :: u, 0, v, h => by simpa [lvK] using h
  | false :: t, w :: u, 0, v, h => by simp [lvK] at h
  | true :: t, w :: u, i + 1, v, h => by simpa using lvK_get t u i v (by simpa [lvK] using h)
  | false :: t, w :: u, i + 1, v, h => by simpa using lvK_get t u i v (by simpa [lvK] using h)
theorem v_mask {Z : BX} {D : va_G} {kc ks : Nat} {wd : va_W} {lv lv' : List (Option Value)} {st : List Value} {pc : Nat} (b : List Bool) (h : lvK b lv = lv') (k : V Z D kc ks wd lv' st pc) : V Z D kc ks wd lv st pc := v_lv (fun i v hi => lvK_get b lv i v (by rw [h]; exact hi)) k
theorem v_wd {Z : BX} {D : va_G} {kc ks : Nat} {wd wd2 : va_W} {lv : List (Option Value)} {st : List Value} {pc : Nat} (h : wd = wd2) (k : V Z D kc ks wd2 lv st pc) : V Z D kc ks wd lv st pc := by rw [h]; exact k
theorem v_top {Z : BX} {D : va_G} {kc ks : Nat} {wd : va_W} {lv : List (Option Value)} {st : List Value} {pc : Nat} {x y : Int32} (h : x = y) (k : V Z D kc ks wd lv (.int y :: st) pc) : V Z D kc ks wd lv (.int x :: st) pc := by rw [h]; exact k
theorem inc1 (i : Nat) : nI i + Int32.ofInt 1 = nI (i + 1) := nI_1 i
theorem dec1 (i : Nat) : nI (i + 1) + Int32.ofInt (-1) = nI i := pk_m1 i
theorem dec2 (i : Nat) : nI i + Int32.ofInt (-1) = nI i - 1 := (Int32.sub_eq_add_neg (nI i) 1).symm
theorem hadd {x y : Int32} {a b : Nat} (h1 : x = nI a) (h2 : y = nI b) : x + y = nI (a + b) := by rw [h1, h2]; exact nI_add a b
theorem hmul {x y : Int32} {a b : Nat} (h1 : x = nI a) (h2 : y = nI b) : x * y = nI (a * b) := by rw [h1, h2]; exact pk_mul a b
theorem leN {x y : Int32} {a b : Nat} (hx : x = nI a) (hy : y = nI b) (h : a ≤ b) (hb : b < 2 ^ 31) : x ≤ y := by rw [hx, hy]; exact nI_le h hb
theorem nleN {x y : Int32} {a b : Nat} (hx : x = nI a) (hy : y = nI b) (h : b < a) (hb : a < 2 ^ 31) : ¬ x ≤ y := by rw [hx, hy]; exact nI_ge h hb
def foldN {σ : Type} (f : Nat → σ → σ) : Nat → Nat → σ → σ
  | 0, _, a => a
  | n + 1, i, a => foldN f n (i + 1) (f i a)
def gU (q : Nat → Nat) (o : Nat) : Nat → Option Nat := fun i => if i < 4 then some (q (o + i)) else none
theorem lt4 {k : Nat} (h : k < 4) : k = 0 ∨ k = 1 ∨ k = 2 ∨ k = 3 := by omega
theorem row4 {α : Type} {w : List α} (b : Nat) {k : Nat} {f : Nat → α} (h : k < 4) (h0 : w[b]? = some (f 0)) (h1 : w[b + 1]? = some (f 1)) (h2 : w[b + 2]? = some (f 2)) (h3 : w[b + 3]? = some (f 3)) : w[b + k]? = some (f k) := by
  rcases lt4 h with h | h | h | h <;> subst h
  · exact h0
  · exact h1
  · exact h2
  · exact h3
def updU (u : Nat → Nat → Int32) (k i : Nat) (x : Int32) : Nat → Nat → Int32 := fun a => if a = k then upd (u k) i x else u a
def setR (u : Nat → Nat → Int32) (k : Nat) (f : Nat → Int32) : Nat → Nat → Int32 := fun a => if a = k then f else u a
theorem v_uald {Z : BX} {D : va_G} {kc ks : Nat} {wd : va_W} {lv : List (Option Value)} {st : List Value} {pc : Nat} {cc : ByteArray} {own : String} {rm : Room} {n0 : Nat} (E : EF Z D cc own rm n0) {a o : Nat} {q : Nat → Nat} {i : Int32} (d : decode cc pc = .ok (.aaload, 1)) (q0 : Nat) (ha : wd[q0]? = some (a, aG D 4 (gU q o))) (j : Nat) (hi : i = nI j) (hj : j < 4) (k : V Z D kc ks wd lv (.ref (q (o + j)) :: st) (pc + 1)) : V Z D kc ks wd lv (.int i :: .ref a :: st) pc := by
  refine v_gald E d q0 ha j hi hj rfl ?_
  have e : va_rf (gU q o j) = .ref (q (o + j)) := by unfold gU; rw [if_pos hj]; rfl
  rw [e]
  exact k
def whN {σ : Type} (e : σ → Bool) (f : σ → σ) : Nat → σ → σ
  | 0, a => a
  | n + 1, a => if e a = true then a else whN e f n (f a)
theorem whN_e {σ : Type} {e : σ → Bool} {f : σ → σ} {n : Nat} {a : σ} (h : e a = true) : whN e f n a = a := by
  cases n with
  | zero => rfl
  | succ n => exact if_pos h
theorem whN_s {σ : Type} {e : σ → Bool} {f : σ → σ} {n : Nat} {a : σ} (h : e a = false) : whN e f (n + 1) a = whN e f n (f a) := if_neg (by rw [h]; decide)
def foldD {σ : Type} (f : Nat → σ → σ) : Nat → σ → σ
  | 0, a => a
  | n + 1, a => foldD f n (f n a)
theorem foldD_s {σ : Type} (f : Nat → σ → σ) (n : Nat) (a : σ) : foldD f (n + 1) a = foldD f n (f n a) := rfl
def brkN {σ : Type} (b : σ → Bool) (f : Nat → σ → σ) : Nat → Nat → σ → σ
  | 0, _, a => a
  | n + 1, i, a => if b a = true then a else brkN b f n (i + 1) (f i a)
theorem brkN_t {σ : Type} {b : σ → Bool} {f : Nat → σ → σ} {n i : Nat} {a : σ} (h : b a = true) : brkN b f n i a = a := by
  cases n with
  | zero => rfl
  | succ n => exact if_pos h
theorem brkN_f {σ : Type} {b : σ → Bool} {f : Nat → σ → σ} {n i : Nat} {a : σ} (h : b a = false) : brkN b f (n + 1) i a = brkN b f n (i + 1) (f i a) := if_neg (by rw [h]; decide)
def brkD {σ : Type} (b : σ → Bool) (f : Nat → σ → σ) : Nat → σ → σ
  | 0, a => a
  | n + 1, a => if b a = true then a else brkD b f n (f n a)
theorem brkD_t {σ : Type} {b : σ → Bool} {f : Nat → σ → σ} {n : Nat} {a : σ} (h : b a = true) : brkD b f n a = a := by
  cases n with
  | zero => rfl
  | succ n => exact if_pos h
theorem brkD_f {σ : Type} {b : σ → Bool} {f : Nat → σ → σ} {n : Nat} {a : σ} (h : b a = false) : brkD b f (n + 1) a = brkD b f n (f n a) := if_neg (by rw [h]; decide)
theorem foldN_s {σ : Type} (f : Nat → σ → σ) (n i : Nat) (a : σ) : foldN f (n + 1) i a = foldN f n (i + 1) (f i a) := rfl
theorem foldN_z {σ : Type} (f : Nat → σ → σ) (i : Nat) (a : σ) : foldN f 0 i a = a := rfl
def r_X6_inRange (v : Int32) (n0 : Int32) : Int32 := if v < 0 then 0 else if n0 ≤ v then 0 else 1
set_option maxRecDepth 20000 in
/-- X6_inRange -/
theorem c_X6_inRange (D : va_G) (v : Int32) (n0 : Int32) (l : Launch) : Ct l yX6_inRange cX6_inRange 2 (some .boolean) (rmM 0 0 0 0) D [.int v, .int n0] [] (QI1 D (r_X6_inRange v n0) []) := by
  refine Ct.ofV 0 (lv0 := [some (.int v), some (.int n0)]) (by decide) rfl rfl (fun Z E F => ?_)
  refine v_iload_n E dX6_inRange_0 rfl ?_
  refine v_if_lt E 13 dX6_inRange_1 (by decide) (fun c_1 => ?_) (fun c_1 => ?_)
  · refine v_iconst E dX6_inRange_13 (v := 0) (by decide) ?_
    exact v_iret E F dX6_inRange_14 rfl rfl () (by simp only [r_X6_inRange, if_pos c_1]) rfl (Nat.le_of_ble_eq_true rfl) (Nat.le_of_ble_eq_true rfl)
  · refine v_iload_n E dX6_inRange_4 rfl ?_
    refine v_iload_n E dX6_inRange_5 rfl ?_
    refine v_icmp_ge E 13 dX6_inRange_6 (by decide) (fun c_6 => ?_) (fun c_6 => ?_)
    · refine v_iconst E dX6_inRange_13 (v := 0) (by decide) ?_
      exact v_iret E F dX6_inRange_14 rfl rfl () (by simp only [r_X6_inRange, if_neg c_1, if_pos c_6]) rfl (Nat.le_of_ble_eq_true rfl) (Nat.le_of_ble_eq_true rfl)
    · refine v_iconst E dX6_inRange_9 (v := 1) (by decide) ?_
      refine v_goto E 14 dX6_inRange_10 (by decide) ?_
      exact v_iret E F dX6_inRange_14 rfl rfl () (by simp only [r_X6_inRange, if_neg c_1, if_neg c_6]) rfl (Nat.le_of_ble_eq_true rfl) (Nat.le_of_ble_eq_true rfl)
theorem nz_X6_inRange (v : Int32) (n0 : Int32) : narrow .boolean (.int (r_X6_inRange v n0)) = .int (r_X6_inRange v n0) := by
  unfold r_X6_inRange
  repeat' split
  all_goals first | rfl 

def r_X6_isShardCount (v : Int32) : Int32 := if v < 1 then 0 else if 4 < v then 0 else 1
set_option maxRecDepth 20000 in
/-- X6_isShardCount -/
theorem c_X6_isShardCount (D : va_G) (v : Int32) (l : Launch) : Ct l yX6_isShardCount cX6_isShardCount 1 (some .boolean) (rmM 0 0 0 0) D [.int v] [] (QI1 D (r_X6_isShardCount v) []) := by
  refine Ct.ofV 0 (lv0 := [some (.int v)]) (by decide) rfl rfl (fun Z E F => ?_)
  refine v_iload_n E dX6_isShardCount_0 rfl ?_
  refine v_iconst E dX6_isShardCount_1 (v := 1) (by decide) ?_
  refine v_icmp_lt E 14 dX6_isShardCount_2 (by decide) (fun c_2 => ?_) (fun c_2 => ?_)
  · refine v_iconst E dX6_isShardCount_14 (v := 0) (by decide) ?_
    exact v_iret E F dX6_isShardCount_15 rfl rfl () (by simp only [r_X6_isShardCount, if_pos c_2]) rfl (Nat.le_of_ble_eq_true rfl) (Nat.le_of_ble_eq_true rfl)
  · refine v_iload_n E dX6_isShardCount_5 rfl ?_
    refine v_iconst E dX6_isShardCount_6 (v := 4) (by decide) ?_
    refine v_icmp_gt E 14 dX6_isShardCount_7 (by decide) (fun c_7 => ?_) (fun c_7 => ?_)
    · refine v_iconst E dX6_isShardCount_14 (v := 0) (by decide) ?_
      exact v_iret E F dX6_isShardCount_15 rfl rfl () (by simp only [r_X6_isShardCount, if_neg c_2, if_pos c_7]) rfl (Nat.le_of_ble_eq_true rfl) (Nat.le_of_ble_eq_true rfl)
    · refine v_iconst E dX6_isShardCount_10 (v := 1) (by decide) ?_
      refine v_goto E 15 dX6_isShardCount_11 (by decide) ?_
      exact v_iret E F dX6_isShardCount_15 rfl rfl () (by simp only [r_X6_isShardCount, if_neg c_2, if_neg c_7]) rfl (Nat.le_of_ble_eq_true rfl) (Nat.le_of_ble_eq_true rfl)
theorem nz_X6_isShardCount (v : Int32) : narrow .boolean (.int (r_X6_isShardCount v)) = .int (r_X6_isShardCount v) := by
  unfold r_X6_isShardCount
  repeat' split
  all_goals first | rfl 

def r_X6_setOf (t : Int32) : Int32 := 1 <<< (t &&& 31)
set_option maxRecDepth 20000 in
/-- X6_setOf -/
theorem c_X6_setOf (D : va_G) (t : Int32) (l : Launch) : Ct l yX6_setOf cX6_setOf 1 (some .int) (rmM 0 0 0 0) D [.int t] [] (QI1 D (r_X6_setOf t) []) := by
  refine Ct.ofV 0 (lv0 := [some (.int t)]) (by decide) rfl rfl (fun Z E F => ?_)
  refine v_iconst E dX6_setOf_0 (v := 1) (by decide) ?_
  refine v_iload_n E dX6_setOf_1 rfl ?_
  refine v_ishl E dX6_setOf_2 ?_
  exact v_iret E F dX6_setOf_3 rfl rfl () rfl rfl (Nat.le_of_ble_eq_true rfl) (Nat.le_of_ble_eq_true rfl)

def r_X6_contains (m : Int32) (t : Int32) : Int32 := if (((Int32.toUInt32 m >>> (Int32.toUInt32 t &&& Int32.toUInt32 31)).toInt32) &&& 1) = 0 then 0 else 1
set_option maxRecDepth 20000 in
/-- X6_contains -/
theorem c_X6_contains (D : va_G) (m : Int32) (t : Int32) (l : Launch) : Ct l yX6_contains cX6_contains 2 (some .boolean) (rmM 0 0 0 0) D [.int m, .int t] [] (QI1 D (r_X6_contains m t) []) := by
  refine Ct.ofV 0 (lv0 := [some (.int m), some (.int t)]) (by decide) rfl rfl (fun Z E F => ?_)
  refine v_iload_n E dX6_contains_0 rfl ?_
  refine v_iload_n E dX6_contains_1 rfl ?_
  refine v_iushr E dX6_contains_2 ?_
  refine v_iconst E dX6_contains_3 (v := 1) (by decide) ?_
  refine v_iand E dX6_contains_4 ?_
  refine v_if_eq E 12 dX6_contains_5 (by decide) (fun c_5 => ?_) (fun c_5 => ?_)
  · refine v_iconst E dX6_contains_12 (v := 0) (by decide) ?_
    exact v_iret E F dX6_contains_13 rfl rfl () (by simp only [r_X6_contains, if_pos c_5]) rfl (Nat.le_of_ble_eq_true rfl) (Nat.le_of_ble_eq_true rfl)
  · refine v_iconst E dX6_contains_8 (v := 1) (by decide) ?_
    refine v_goto E 13 dX6_contains_9 (by decide) ?_
    exact v_iret E F dX6_contains_13 rfl rfl () (by simp only [r_X6_contains, if_neg c_5]) rfl (Nat.le_of_ble_eq_true rfl) (Nat.le_of_ble_eq_true rfl)
theorem nz_X6_contains (m : Int32) (t : Int32) : narrow .boolean (.int (r_X6_contains m t)) = .int (r_X6_contains m t) := by
  unfold r_X6_contains
  repeat' split
  all_goals first | rfl 

def r_X6_pairOf (t : Int32) (p : Int32) : Int32 := (2 * t) + p
set_option maxRecDepth 20000 in
/-- X6_pairOf -/
theorem c_X6_pairOf (D : va_G) (t : Int32) (p : Int32) (l : Launch) : Ct l yX6_pairOf cX6_pairOf 2 (some .int) (rmM 0 0 0 0) D [.int t, .int p] [] (QI1 D (r_X6_pairOf t p) []) := by
  refine Ct.ofV 0 (lv0 := [some (.int t), some (.int p)]) (by decide) rfl rfl (fun Z E F => ?_)
  refine v_iconst E dX6_pairOf_0 (v := 2) (by decide) ?_
  refine v_iload_n E dX6_pairOf_1 rfl ?_
  refine v_imul E dX6_pairOf_2 ?_
  refine v_iload_n E dX6_pairOf_3 rfl ?_
  refine v_iadd E dX6_pairOf_4 ?_
  exact v_iret E F dX6_pairOf_5 rfl rfl () rfl rfl (Nat.le_of_ble_eq_true rfl) (Nat.le_of_ble_eq_true rfl)

def r_X6_pairsWith (m : Int32) (p : Int32) : Int64 := (Int32.toInt64 m) <<< ((Int32.toInt64 (p * 32)) &&& 63)
set_option maxRecDepth 20000 in
/-- X6_pairsWith -/
theorem c_X6_pairsWith (D : va_G) (m : Int32) (p : Int32) (l : Launch) : Ct l yX6_pairsWith cX6_pairsWith 2 (some .long) (rmM 0 0 0 0) D [.int m, .int p] [] (QL1 D (r_X6_pairsWith m p) []) := by
  refine Ct.ofV 0 (lv0 := [some (.int m), some (.int p)]) (by decide) rfl rfl (fun Z E F => ?_)
  refine v_iload_n E dX6_pairsWith_0 rfl ?_
  refine v_i2l E dX6_pairsWith_1 ?_
  refine v_iload_n E dX6_pairsWith_2 rfl ?_
  refine v_bipush E dX6_pairsWith_3 (v := 32) (by decide) ?_
  refine v_imul E dX6_pairsWith_5 ?_
  refine v_lshl E dX6_pairsWith_6 ?_
  exact v_lret E F dX6_pairsWith_7 rfl () rfl rfl (Nat.le_of_ble_eq_true rfl) (Nat.le_of_ble_eq_true rfl)

def r_X6_targetsWith (m : Int64) (p : Int32) : Int32 := Int64.toInt32 ((Int64.toUInt64 m >>> ((Int32.toInt64 (p * 32)).toUInt64 &&& Int64.toUInt64 63)).toInt64)
set_option maxRecDepth 20000 in
/-- X6_targetsWith -/
theorem c_X6_targetsWith (D : va_G) (m : Int64) (p : Int32) (l : Launch) : Ct l yX6_targetsWith cX6_targetsWith 3 (some .int) (rmM 0 0 0 0) D [.long m, .int p] [] (QI1 D (r_X6_targetsWith m p) []) := by
  refine Ct.ofV 0 (lv0 := [some (.long m), none, some (.int p)]) (by decide) rfl rfl (fun Z E F => ?_)
  refine v_lload_n E dX6_targetsWith_0 rfl ?_
  refine v_iload_n E dX6_targetsWith_1 rfl ?_
  refine v_bipush E dX6_targetsWith_2 (v := 32) (by decide) ?_
  refine v_imul E dX6_targetsWith_4 ?_
  refine v_lushr E dX6_targetsWith_5 ?_
  refine v_l2i E dX6_targetsWith_6 ?_
  exact v_iret E F dX6_targetsWith_7 rfl rfl () rfl rfl (Nat.le_of_ble_eq_true rfl) (Nat.le_of_ble_eq_true rfl)

def r_X6_setOfPair (q : Int32) : Int64 := 1 <<< ((Int32.toInt64 (((q - q / 2 * 2) * 32) + (q / 2))) &&& 63)
set_option maxRecDepth 20000 in
/-- X6_setOfPair -/
theorem c_X6_setOfPair (D : va_G) (q : Int32) (l : Launch) : Ct l yX6_setOfPair cX6_setOfPair 1 (some .long) (rmM 0 0 0 0) D [.int q] [] (QL1 D (r_X6_setOfPair q) []) := by
  refine Ct.ofV 0 (lv0 := [some (.int q)]) (by decide) rfl rfl (fun Z E F => ?_)
  refine v_lconst E dX6_setOfPair_0 (v := 1) (by decide) ?_
  refine v_iload_n E dX6_setOfPair_1 rfl ?_
  refine v_iconst E dX6_setOfPair_2 (v := 2) (by decide) ?_
  refine v_irem E dX6_setOfPair_3 (by decide) ?_
  refine v_bipush E dX6_setOfPair_4 (v := 32) (by decide) ?_
  refine v_imul E dX6_setOfPair_6 ?_
  refine v_iload_n E dX6_setOfPair_7 rfl ?_
  refine v_iconst E dX6_setOfPair_8 (v := 2) (by decide) ?_
  refine v_idiv E dX6_setOfPair_9 (by decide) ?_
  refine v_iadd E dX6_setOfPair_10 ?_
  refine v_lshl E dX6_setOfPair_11 ?_
  exact v_lret E F dX6_setOfPair_12 rfl () rfl rfl (Nat.le_of_ble_eq_true rfl) (Nat.le_of_ble_eq_true rfl)

def r_X6_containsPair (m : Int64) (q : Int32) : Int32 := if (lg_cmp (m &&& (r_X6_setOfPair q)) 0) = 0 then 0 else 1
set_option maxRecDepth 20000 in
/-- X6_containsPair -/
theorem c_X6_containsPair (D : va_G) (m : Int64) (q : Int32) (l : Launch) : Ct l yX6_containsPair cX6_containsPair 3 (some .boolean) (rmM 1 20 0 0) D [.long m, .int q] [] (QI1 D (r_X6_containsPair m q) []) := by
  refine Ct.ofV 0 (lv0 := [some (.long m), none, some (.int q)]) (by decide) rfl rfl (fun Z E F => ?_)
  refine v_lload_n E dX6_containsPair_0 rfl ?_
  refine v_iload_n E dX6_containsPair_1 rfl ?_
  refine v_cS_l E dX6_containsPair_2 (c_X6_setOfPair D q) cs_X6_186 rfl rfl rfl (Nat.le_of_ble_eq_true rfl) [] rfl rfl ⟨Nat.le_of_ble_eq_true rfl, Nat.le_of_ble_eq_true rfl⟩ ?_
  refine v_land E dX6_containsPair_5 ?_
  refine v_lconst E dX6_containsPair_6 (v := 0) (by decide) ?_
  refine v_lcmp E dX6_containsPair_7 ?_
  refine v_if_eq E 15 dX6_containsPair_8 (by decide) (fun c_8 => ?_) (fun c_8 => ?_)
  · refine v_iconst E dX6_containsPair_15 (v := 0) (by decide) ?_
    exact v_iret E F dX6_containsPair_16 rfl rfl () (by simp only [r_X6_containsPair, if_pos c_8]) rfl (Nat.le_of_ble_eq_true rfl) (Nat.le_of_ble_eq_true rfl)
  · refine v_iconst E dX6_containsPair_11 (v := 1) (by decide) ?_
    refine v_goto E 16 dX6_containsPair_12 (by decide) ?_
    exact v_iret E F dX6_containsPair_16 rfl rfl () (by simp only [r_X6_containsPair, if_neg c_8]) rfl (Nat.le_of_ble_eq_true rfl) (Nat.le_of_ble_eq_true rfl)
theorem nz_X6_containsPair (m : Int64) (q : Int32) : narrow .boolean (.int (r_X6_containsPair m q)) = .int (r_X6_containsPair m q) := by
  unfold r_X6_containsPair
  repeat' split
  all_goals first | rfl 

def s_X6_smallestTarget_2 (m : Int32) : Nat → Nat → Int32
  | 0, i => (-10)
  | n + 1, i => if (r_X6_contains m (nI i)) = 0 then s_X6_smallestTarget_2 m n (i + 1) else nI i
def r_X6_smallestTarget (m : Int32) : Int32 := s_X6_smallestTarget_2 m 20 0
set_option maxRecDepth 20000 in
/-- X6_smallestTarget -/
theorem c_X6_smallestTarget (D : va_G) (m : Int32) (l : Launch) : Ct l yX6_smallestTarget cX6_smallestTarget 2 (some .int) (rmM 1 21 0 0) D [.int m] [] (QI1 D (r_X6_smallestTarget m) []) := by
  refine Ct.ofV 1 (lv0 := [some (.int m), none]) (by decide) rfl rfl (fun Z E F => ?_)
  refine v_iconst E dX6_smallestTarget_0 (v := 0) (by decide) ?_
  refine v_istore_n E dX6_smallestTarget_1 rfl rfl ?_
  have L2 : ∀ n i : Nat, i + n = 20 → s_X6_smallestTarget_2 m 20 0 = s_X6_smallestTarget_2 m n i → V Z D 0 0 [] [some (.int m), some (.int (nI i))] [] 2 := by
    intro n
    induction n with
    | zero =>
      intro i hi hR
      have hiN : i = 20 := by omega
      rw [hiN] at hR ⊢
      refine v_iload_n E dX6_smallestTarget_2 rfl ?_
      refine v_bipush E dX6_smallestTarget_3 (v := 20) (by decide) ?_
      refine v_icmp_ge E 24 dX6_smallestTarget_5 (by decide) (fun c_5 => ?_) (fun c_5 => ?_)
      · refine v_bipush E dX6_smallestTarget_24 (v := -10) (by decide) ?_
        exact v_iret E F dX6_smallestTarget_26 rfl rfl () (show _ = s_X6_smallestTarget_2 m 20 0 by rw [hR]; simp only [s_X6_smallestTarget_2]) rfl (Nat.le_of_ble_eq_true rfl) (Nat.le_of_ble_eq_true rfl)
      · exact absurd (leN (a := 20) (b := 20) (show (20 : Int32) = nI 20 by decide) rfl (by omega) (by omega)) c_5
    | succ n ih =>
      intro i hi hR
      refine v_iload_n E dX6_smallestTarget_2 rfl ?_
      refine v_bipush E dX6_smallestTarget_3 (v := 20) (by decide) ?_
      refine v_icmp_ge E 24 dX6_smallestTarget_5 (by decide) (fun c_5 => ?_) (fun c_5 => ?_)
      · exact absurd c_5 (nleN (a := 20) (b := i) (show (20 : Int32) = nI 20 by decide) rfl (by omega) (by omega))
      · refine v_iload_n E dX6_smallestTarget_8 rfl ?_
        refine v_iload_n E dX6_smallestTarget_9 rfl ?_
        refine v_cS_i E dX6_smallestTarget_10 (c_X6_contains D m (nI i)) cs_X6_60 rfl rfl rfl (Nat.le_of_ble_eq_true rfl) [] rfl rfl ⟨Nat.le_of_ble_eq_true rfl, Nat.le_of_ble_eq_true rfl⟩ ?_
        refine v_if_eq E 18 dX6_smallestTarget_13 (by decide) (fun c_13 => ?_) (fun c_13 => ?_)
        · refine v_iinc E dX6_smallestTarget_18 (v := nI (i + 1)) rfl (inc1 _) rfl rfl ?_
          refine v_goto E 2 dX6_smallestTarget_21 (by decide) ?_
          have hR2 : s_X6_smallestTarget_2 m 20 0 = s_X6_smallestTarget_2 m n (i + 1) := by rw [hR]; simp only [s_X6_smallestTarget_2, if_pos c_13]
          exact ih (i + 1) (by omega) hR2
        · refine v_iload_n E dX6_smallestTarget_16 rfl ?_
          exact v_iret E F dX6_smallestTarget_17 rfl rfl () (show _ = s_X6_smallestTarget_2 m 20 0 by rw [hR]; simp only [s_X6_smallestTarget_2, if_neg c_13]) rfl (Nat.le_of_ble_eq_true rfl) (Nat.le_of_ble_eq_true rfl)
  exact L2 20 0 (by omega) rfl

def s_X6_smallestPair_2 (m : Int64) : Nat → Nat → Int32
  | 0, i => (-10)
  | n + 1, i => if (r_X6_containsPair m (nI i)) = 0 then s_X6_smallestPair_2 m n (i + 1) else nI i
def r_X6_smallestPair (m : Int64) : Int32 := s_X6_smallestPair_2 m 40 0
set_option maxRecDepth 20000 in
/-- X6_smallestPair -/
theorem c_X6_smallestPair (D : va_G) (m : Int64) (l : Launch) : Ct l yX6_smallestPair cX6_smallestPair 3 (some .int) (rmM 2 42 0 0) D [.long m] [] (QI1 D (r_X6_smallestPair m) []) := by
  refine Ct.ofV 1 (lv0 := [some (.long m), none, none]) (by decide) rfl rfl (fun Z E F => ?_)
  refine v_iconst E dX6_smallestPair_0 (v := 0) (by decide) ?_
  refine v_istore_n E dX6_smallestPair_1 rfl rfl ?_
  have L2 : ∀ n i : Nat, i + n = 40 → s_X6_smallestPair_2 m 40 0 = s_X6_smallestPair_2 m n i → V Z D 0 0 [] [some (.long m), none, some (.int (nI i))] [] 2 := by
    intro n
    induction n with
    | zero =>
      intro i hi hR
      have hiN : i = 40 := by omega
      rw [hiN] at hR ⊢
      refine v_iload_n E dX6_smallestPair_2 rfl ?_
      refine v_bipush E dX6_smallestPair_3 (v := 40) (by decide) ?_
      refine v_icmp_ge E 24 dX6_smallestPair_5 (by decide) (fun c_5 => ?_) (fun c_5 => ?_)
      · refine v_bipush E dX6_smallestPair_24 (v := -10) (by decide) ?_
        exact v_iret E F dX6_smallestPair_26 rfl rfl () (show _ = s_X6_smallestPair_2 m 40 0 by rw [hR]; simp only [s_X6_smallestPair_2]) rfl (Nat.le_of_ble_eq_true rfl) (Nat.le_of_ble_eq_true rfl)
      · exact absurd (leN (a := 40) (b := 40) (show (40 : Int32) = nI 40 by decide) rfl (by omega) (by omega)) c_5
    | succ n ih =>
      intro i hi hR
      refine v_iload_n E dX6_smallestPair_2 rfl ?_
      refine v_bipush E dX6_smallestPair_3 (v := 40) (by decide) ?_
      refine v_icmp_ge E 24 dX6_smallestPair_5 (by decide) (fun c_5 => ?_) (fun c_5 => ?_)
      · exact absurd c_5 (nleN (a := 40) (b := i) (show (40 : Int32) = nI 40 by decide) rfl (by omega) (by omega))
      · refine v_lload_n E dX6_smallestPair_8 rfl ?_
        refine v_iload_n E dX6_smallestPair_9 rfl ?_
        refine v_cS_i E dX6_smallestPair_10 (c_X6_containsPair D m (nI i)) cs_X6_190 rfl rfl rfl (Nat.le_of_ble_eq_true rfl) [] rfl rfl ⟨Nat.le_of_ble_eq_true rfl, Nat.le_of_ble_eq_true rfl⟩ ?_
        refine v_if_eq E 18 dX6_smallestPair_13 (by decide) (fun c_13 => ?_) (fun c_13 => ?_)
        · refine v_iinc E dX6_smallestPair_18 (v := nI (i + 1)) rfl (inc1 _) rfl rfl ?_
          refine v_goto E 2 dX6_smallestPair_21 (by decide) ?_
          have hR2 : s_X6_smallestPair_2 m 40 0 = s_X6_smallestPair_2 m n (i + 1) := by rw [hR]; simp only [s_X6_smallestPair_2, if_pos c_13]
          exact ih (i + 1) (by omega) hR2
        · refine v_iload_n E dX6_smallestPair_16 rfl ?_
          exact v_iret E F dX6_smallestPair_17 rfl rfl () (show _ = s_X6_smallestPair_2 m 40 0 by rw [hR]; simp only [s_X6_smallestPair_2, if_neg c_13]) rfl (Nat.le_of_ble_eq_true rfl) (Nat.le_of_ble_eq_true rfl)
  exact L2 40 0 (by omega) rfl

def r_X7_in (v : Int32) (lo : Int32) (hi : Int32) : Int32 := if v < lo then 0 else if hi < v then 0 else 1
set_option maxRecDepth 20000 in
/-- X7_in -/
theorem c_X7_in (D : va_G) (v : Int32) (lo : Int32) (hi : Int32) (l : Launch) : Ct l yX7_in cX7_in 3 (some .boolean) (rmM 0 0 0 0) D [.int v, .int lo, .int hi] [] (QI1 D (r_X7_in v lo hi) []) := by
  refine Ct.ofV 0 (lv0 := [some (.int v), some (.int lo), some (.int hi)]) (by decide) rfl rfl (fun Z E F => ?_)
  refine v_iload_n E dX7_in_0 rfl ?_
  refine v_iload_n E dX7_in_1 rfl ?_
  refine v_icmp_lt E 14 dX7_in_2 (by decide) (fun c_2 => ?_) (fun c_2 => ?_)
  · refine v_iconst E dX7_in_14 (v := 0) (by decide) ?_
    exact v_iret E F dX7_in_15 rfl rfl () (by simp only [r_X7_in, if_pos c_2]) rfl (Nat.le_of_ble_eq_true rfl) (Nat.le_of_ble_eq_true rfl)
  · refine v_iload_n E dX7_in_5 rfl ?_
    refine v_iload_n E dX7_in_6 rfl ?_
    refine v_icmp_gt E 14 dX7_in_7 (by decide) (fun c_7 => ?_) (fun c_7 => ?_)
    · refine v_iconst E dX7_in_14 (v := 0) (by decide) ?_
      exact v_iret E F dX7_in_15 rfl rfl () (by simp only [r_X7_in, if_neg c_2, if_pos c_7]) rfl (Nat.le_of_ble_eq_true rfl) (Nat.le_of_ble_eq_true rfl)
    · refine v_iconst E dX7_in_10 (v := 1) (by decide) ?_
      refine v_goto E 15 dX7_in_11 (by decide) ?_
      exact v_iret E F dX7_in_15 rfl rfl () (by simp only [r_X7_in, if_neg c_2, if_neg c_7]) rfl (Nat.le_of_ble_eq_true rfl) (Nat.le_of_ble_eq_true rfl)
theorem nz_X7_in (v : Int32) (lo : Int32) (hi : Int32) : narrow .boolean (.int (r_X7_in v lo hi)) = .int (r_X7_in v lo hi) := by
  unfold r_X7_in
  repeat' split
  all_goals first | rfl 

def r_X7_isPart (v : Int32) : Int32 := (r_X7_in v 0 1)
set_option maxRecDepth 20000 in
/-- X7_isPart -/
theorem c_X7_isPart (D : va_G) (v : Int32) (l : Launch) : Ct l yX7_isPart cX7_isPart 1 (some .boolean) (rmM 1 22 0 0) D [.int v] [] (QI1 D (r_X7_isPart v) []) := by
  refine Ct.ofV 0 (lv0 := [some (.int v)]) (by decide) rfl rfl (fun Z E F => ?_)
  refine v_iload_n E dX7_isPart_0 rfl ?_
  refine v_iconst E dX7_isPart_1 (v := 0) (by decide) ?_
  refine v_iconst E dX7_isPart_2 (v := 1) (by decide) ?_
  refine v_cS_i E dX7_isPart_3 (c_X7_in D v 0 1) cs_X7_41 rfl rfl rfl (Nat.le_of_ble_eq_true rfl) [] rfl rfl ⟨Nat.le_of_ble_eq_true rfl, Nat.le_of_ble_eq_true rfl⟩ ?_
  exact v_iret E F dX7_isPart_6 rfl (nz_X7_in v 0 1) () rfl rfl (Nat.le_of_ble_eq_true rfl) (Nat.le_of_ble_eq_true rfl)
theorem nz_X7_isPart (v : Int32) : narrow .boolean (.int (r_X7_isPart v)) = .int (r_X7_isPart v) := nz_X7_in v 0 1

def r_X7_areShards (v : Int32) : Int32 := (r_X7_in v 1 4)
set_option maxRecDepth 20000 in
/-- X7_areShards -/
theorem c_X7_areShards (D : va_G) (v : Int32) (l : Launch) : Ct l yX7_areShards cX7_areShards 1 (some .boolean) (rmM 1 22 0 0) D [.int v] [] (QI1 D (r_X7_areShards v) []) := by
  refine Ct.ofV 0 (lv0 := [some (.int v)]) (by decide) rfl rfl (fun Z E F => ?_)
  refine v_iload_n E dX7_areShards_0 rfl ?_
  refine v_iconst E dX7_areShards_1 (v := 1) (by decide) ?_
  refine v_iconst E dX7_areShards_2 (v := 4) (by decide) ?_
  refine v_cS_i E dX7_areShards_3 (c_X7_in D v 1 4) cs_X7_41 rfl rfl rfl (Nat.le_of_ble_eq_true rfl) [] rfl rfl ⟨Nat.le_of_ble_eq_true rfl, Nat.le_of_ble_eq_true rfl⟩ ?_
  exact v_iret E F dX7_areShards_6 rfl (nz_X7_in v 1 4) () rfl rfl (Nat.le_of_ble_eq_true rfl) (Nat.le_of_ble_eq_true rfl)
theorem nz_X7_areShards (v : Int32) : narrow .boolean (.int (r_X7_areShards v)) = .int (r_X7_areShards v) := nz_X7_in v 1 4

def bi_1 (x : Int32) : Int32 := x - (((Int32.toUInt32 x >>> (Int32.toUInt32 1 &&& Int32.toUInt32 31)).toInt32) &&& 1431655765)
def bi_2 (x : Int32) : Int32 := ((bi_1 x) &&& 858993459) + (((Int32.toUInt32 (bi_1 x) >>> (Int32.toUInt32 2 &&& Int32.toUInt32 31)).toInt32) &&& 858993459)
def bi_3 (x : Int32) : Int32 := ((bi_2 x) + ((Int32.toUInt32 (bi_2 x) >>> (Int32.toUInt32 4 &&& Int32.toUInt32 31)).toInt32)) &&& 252645135
def bi_4 (x : Int32) : Int32 := (bi_3 x) + ((Int32.toUInt32 (bi_3 x) >>> (Int32.toUInt32 8 &&& Int32.toUInt32 31)).toInt32)
def bi_5 (x : Int32) : Int32 := (bi_4 x) + ((Int32.toUInt32 (bi_4 x) >>> (Int32.toUInt32 16 &&& Int32.toUInt32 31)).toInt32)
def r_J6_bitCount_0f7a4 (x : Int32) : Int32 := (bi_5 x) &&& 63
set_option maxRecDepth 20000 in
/-- J6_bitCount_0f7a4 -/
theorem c_J6_bitCount_0f7a4 (D : va_G) (x : Int32) (l : Launch) : Ct l yJ6_bitCount_0f7a4 cJ6_bitCount_0f7a4 1 (some .int) (rmM 0 0 0 0) D [.int x] [] (QI1 D (r_J6_bitCount_0f7a4 x) []) := by
  refine Ct.ofV 0 (lv0 := [some (.int x)]) (by decide) rfl rfl (fun Z E F => ?_)
  refine v_iload_n E dJ6_bitCount_0f7a4_0 rfl ?_
  refine v_iload_n E dJ6_bitCount_0f7a4_1 rfl ?_
  refine v_iconst E dJ6_bitCount_0f7a4_2 (v := 1) (by decide) ?_
  refine v_iushr E dJ6_bitCount_0f7a4_3 ?_
  refine v_ldcw E dJ6_bitCount_0f7a4_4 kc_J6_265 ?_
  refine v_iand E dJ6_bitCount_0f7a4_7 ?_
  refine v_isub E dJ6_bitCount_0f7a4_8 ?_
  refine v_istore_n E dJ6_bitCount_0f7a4_9 rfl rfl ?_
  refine v_iload_n E dJ6_bitCount_0f7a4_10 rfl ?_
  refine v_ldcw E dJ6_bitCount_0f7a4_11 kc_J6_266 ?_
  refine v_iand E dJ6_bitCount_0f7a4_14 ?_
  refine v_iload_n E dJ6_bitCount_0f7a4_15 rfl ?_
  refine v_iconst E dJ6_bitCount_0f7a4_16 (v := 2) (by decide) ?_
  refine v_iushr E dJ6_bitCount_0f7a4_17 ?_
  refine v_ldcw E dJ6_bitCount_0f7a4_18 kc_J6_266 ?_
  refine v_iand E dJ6_bitCount_0f7a4_21 ?_
  refine v_iadd E dJ6_bitCount_0f7a4_22 ?_
  refine v_istore_n E dJ6_bitCount_0f7a4_23 rfl rfl ?_
  refine v_iload_n E dJ6_bitCount_0f7a4_24 rfl ?_
  refine v_iload_n E dJ6_bitCount_0f7a4_25 rfl ?_
  refine v_iconst E dJ6_bitCount_0f7a4_26 (v := 4) (by decide) ?_
  refine v_iushr E dJ6_bitCount_0f7a4_27 ?_
  refine v_iadd E dJ6_bitCount_0f7a4_28 ?_
  refine v_ldcw E dJ6_bitCount_0f7a4_29 kc_J6_267 ?_
  refine v_iand E dJ6_bitCount_0f7a4_32 ?_
  refine v_istore_n E dJ6_bitCount_0f7a4_33 rfl rfl ?_
  refine v_iload_n E dJ6_bitCount_0f7a4_34 rfl ?_
  refine v_iload_n E dJ6_bitCount_0f7a4_35 rfl ?_
  refine v_bipush E dJ6_bitCount_0f7a4_36 (v := 8) (by decide) ?_
  refine v_iushr E dJ6_bitCount_0f7a4_38 ?_
  refine v_iadd E dJ6_bitCount_0f7a4_39 ?_
  refine v_istore_n E dJ6_bitCount_0f7a4_40 rfl rfl ?_
  refine v_iload_n E dJ6_bitCount_0f7a4_41 rfl ?_
  refine v_iload_n E dJ6_bitCount_0f7a4_42 rfl ?_
  refine v_bipush E dJ6_bitCount_0f7a4_43 (v := 16) (by decide) ?_
  refine v_iushr E dJ6_bitCount_0f7a4_45 ?_
  refine v_iadd E dJ6_bitCount_0f7a4_46 ?_
  refine v_istore_n E dJ6_bitCount_0f7a4_47 rfl rfl ?_
  refine v_iload_n E dJ6_bitCount_0f7a4_48 rfl ?_
  refine v_bipush E dJ6_bitCount_0f7a4_49 (v := 63) (by decide) ?_
  refine v_iand E dJ6_bitCount_0f7a4_51 ?_
  exact v_iret E F dJ6_bitCount_0f7a4_52 rfl rfl () rfl rfl (Nat.le_of_ble_eq_true rfl) (Nat.le_of_ble_eq_true rfl)

def bl_1 (x : Int64) : Int64 := x - (((Int64.toUInt64 x >>> ((Int32.toInt64 1).toUInt64 &&& Int64.toUInt64 63)).toInt64) &&& 6148914691236517205)
def bl_2 (x : Int64) : Int64 := ((bl_1 x) &&& 3689348814741910323) + (((Int64.toUInt64 (bl_1 x) >>> ((Int32.toInt64 2).toUInt64 &&& Int64.toUInt64 63)).toInt64) &&& 3689348814741910323)
def bl_3 (x : Int64) : Int64 := ((bl_2 x) + ((Int64.toUInt64 (bl_2 x) >>> ((Int32.toInt64 4).toUInt64 &&& Int64.toUInt64 63)).toInt64)) &&& 1085102592571150095
def bl_4 (x : Int64) : Int64 := (bl_3 x) + ((Int64.toUInt64 (bl_3 x) >>> ((Int32.toInt64 8).toUInt64 &&& Int64.toUInt64 63)).toInt64)
def bl_5 (x : Int64) : Int64 := (bl_4 x) + ((Int64.toUInt64 (bl_4 x) >>> ((Int32.toInt64 16).toUInt64 &&& Int64.toUInt64 63)).toInt64)
def bl_6 (x : Int64) : Int64 := (bl_5 x) + ((Int64.toUInt64 (bl_5 x) >>> ((Int32.toInt64 32).toUInt64 &&& Int64.toUInt64 63)).toInt64)
def r_J13_bitCount_95d88 (x : Int64) : Int32 := (Int64.toInt32 (bl_6 x)) &&& 127
set_option maxRecDepth 20000 in
/-- J13_bitCount_95d88 -/
theorem c_J13_bitCount_95d88 (D : va_G) (x : Int64) (l : Launch) : Ct l yJ13_bitCount_95d88 cJ13_bitCount_95d88 2 (some .int) (rmM 0 0 0 0) D [.long x] [] (QI1 D (r_J13_bitCount_95d88 x) []) := by
  refine Ct.ofV 0 (lv0 := [some (.long x), none]) (by decide) rfl rfl (fun Z E F => ?_)
  refine v_lload_n E dJ13_bitCount_95d88_0 rfl ?_
  refine v_lload_n E dJ13_bitCount_95d88_1 rfl ?_
  refine v_iconst E dJ13_bitCount_95d88_2 (v := 1) (by decide) ?_
  refine v_lushr E dJ13_bitCount_95d88_3 ?_
  refine v_ldc2 E dJ13_bitCount_95d88_4 kl_J13_314 ?_
  refine v_land E dJ13_bitCount_95d88_7 ?_
  refine v_lsub E dJ13_bitCount_95d88_8 ?_
  refine v_lstore_n E dJ13_bitCount_95d88_9 rfl rfl ?_
  refine v_lload_n E dJ13_bitCount_95d88_10 rfl ?_
  refine v_ldc2 E dJ13_bitCount_95d88_11 kl_J13_316 ?_
  refine v_land E dJ13_bitCount_95d88_14 ?_
  refine v_lload_n E dJ13_bitCount_95d88_15 rfl ?_
  refine v_iconst E dJ13_bitCount_95d88_16 (v := 2) (by decide) ?_
  refine v_lushr E dJ13_bitCount_95d88_17 ?_
  refine v_ldc2 E dJ13_bitCount_95d88_18 kl_J13_316 ?_
  refine v_land E dJ13_bitCount_95d88_21 ?_
  refine v_ladd E dJ13_bitCount_95d88_22 ?_
  refine v_lstore_n E dJ13_bitCount_95d88_23 rfl rfl ?_
  refine v_lload_n E dJ13_bitCount_95d88_24 rfl ?_
  refine v_lload_n E dJ13_bitCount_95d88_25 rfl ?_
  refine v_iconst E dJ13_bitCount_95d88_26 (v := 4) (by decide) ?_
  refine v_lushr E dJ13_bitCount_95d88_27 ?_
  refine v_ladd E dJ13_bitCount_95d88_28 ?_
  refine v_ldc2 E dJ13_bitCount_95d88_29 kl_J13_318 ?_
  refine v_land E dJ13_bitCount_95d88_32 ?_
  refine v_lstore_n E dJ13_bitCount_95d88_33 rfl rfl ?_
  refine v_lload_n E dJ13_bitCount_95d88_34 rfl ?_
  refine v_lload_n E dJ13_bitCount_95d88_35 rfl ?_
  refine v_bipush E dJ13_bitCount_95d88_36 (v := 8) (by decide) ?_
  refine v_lushr E dJ13_bitCount_95d88_38 ?_
  refine v_ladd E dJ13_bitCount_95d88_39 ?_
  refine v_lstore_n E dJ13_bitCount_95d88_40 rfl rfl ?_
  refine v_lload_n E dJ13_bitCount_95d88_41 rfl ?_
  refine v_lload_n E dJ13_bitCount_95d88_42 rfl ?_
  refine v_bipush E dJ13_bitCount_95d88_43 (v := 16) (by decide) ?_
  refine v_lushr E dJ13_bitCount_95d88_45 ?_
  refine v_ladd E dJ13_bitCount_95d88_46 ?_
  refine v_lstore_n E dJ13_bitCount_95d88_47 rfl rfl ?_
  refine v_lload_n E dJ13_bitCount_95d88_48 rfl ?_
  refine v_lload_n E dJ13_bitCount_95d88_49 rfl ?_
  refine v_bipush E dJ13_bitCount_95d88_50 (v := 32) (by decide) ?_
  refine v_lushr E dJ13_bitCount_95d88_52 ?_
  refine v_ladd E dJ13_bitCount_95d88_53 ?_
  refine v_lstore_n E dJ13_bitCount_95d88_54 rfl rfl ?_
  refine v_lload_n E dJ13_bitCount_95d88_55 rfl ?_
  refine v_l2i E dJ13_bitCount_95d88_56 ?_
  refine v_bipush E dJ13_bitCount_95d88_57 (v := 127) (by decide) ?_
  refine v_iand E dJ13_bitCount_95d88_59 ?_
  exact v_iret E F dJ13_bitCount_95d88_60 rfl rfl () rfl rfl (Nat.le_of_ble_eq_true rfl) (Nat.le_of_ble_eq_true rfl)

