/-! ChangeImpact: Shards, its static methods; Arrays.fill -/
def s_X3_greatest_4 (lo : Nat → Int32) (i : Nat) (m1 : Int32) : Int32 := (if m1 < (lo i) then (lo i) else m1)
def r_X3_greatest (S : Nat) (lo : Nat → Int32) : Int32 := (foldN (s_X3_greatest_4 lo) S 0 0)
set_option maxRecDepth 20000 in
/-- X3_greatest -/
theorem c_X3_greatest (D : va_G) (a0 : Nat) (S : Nat) (lo : Nat → Int32) (hS : S ≤ 4) (l : Launch) : Ct l yX3_greatest cX3_greatest 3 (some .int) (rmM 1 21 0 0) D [.ref a0] [(a0, aI D S lo)] (QI1 D (r_X3_greatest S lo) [(a0, aI D S lo)]) := by
  refine Ct.ofV 2 (lv0 := [some (.ref a0), none, none]) (by decide) rfl rfl (fun Z E F => ?_)
  refine v_iconst E dX3_greatest_0 (v := 0) (by decide) ?_
  refine v_istore_n E dX3_greatest_1 rfl rfl ?_
  refine v_iconst E dX3_greatest_2 (v := 0) (by decide) ?_
  refine v_istore_n E dX3_greatest_3 rfl rfl ?_
  have L4 : ∀ (n i : Nat) (m1 : Int32), i + n = S → V Z D 0 0 [(a0, aI D S lo)] [some (.ref a0), some (.int (foldN (s_X3_greatest_4 lo) n i m1)), some (.int (nI S))] [] 24 → V Z D 0 0 [(a0, aI D S lo)] [some (.ref a0), some (.int m1), some (.int (nI i))] [] 4 := by
    intro n
    induction n with
    | zero =>
      intro i m1 hi  K4
      have hiN : i = S := by omega
      rw [hiN]
      refine v_iload_n E dX3_greatest_4 rfl ?_
      refine v_aload_n E dX3_greatest_5 rfl ?_
      refine v_alen E dX3_greatest_6 0 rfl (v := nI S) rfl ?_
      refine v_icmp_ge E 24 dX3_greatest_7 (by decide) (fun c_7 => ?_) (fun c_7 => ?_)
      · exact K4
      · exact absurd (leN (a := S) (b := S) rfl rfl (by omega) (by omega)) c_7
    | succ n ih =>
      intro i m1 hi  K4
      refine v_iload_n E dX3_greatest_4 rfl ?_
      refine v_aload_n E dX3_greatest_5 rfl ?_
      refine v_alen E dX3_greatest_6 0 rfl (v := nI S) rfl ?_
      refine v_icmp_ge E 24 dX3_greatest_7 (by decide) (fun c_7 => ?_) (fun c_7 => ?_)
      · exact absurd c_7 (nleN (a := S) (b := i) rfl rfl (by omega) (by omega))
      · refine v_iload_n E dX3_greatest_10 rfl ?_
        refine v_aload_n E dX3_greatest_11 rfl ?_
        refine v_iload_n E dX3_greatest_12 rfl ?_
        refine v_iald E dX3_greatest_13 0 rfl i rfl (by omega) (Nat.ble_eq_true_of_le (by omega)) ?_
        refine v_mmax E dX3_greatest_14 ml_X3_62 rfl rfl (Nat.le_of_ble_eq_true rfl) (Nat.le_of_ble_eq_true rfl) (Nat.le_of_ble_eq_true rfl) ?_
        refine v_istore_n E dX3_greatest_17 rfl rfl ?_
        refine v_iinc E dX3_greatest_18 (v := nI (i + 1)) rfl (inc1 _) rfl rfl ?_
        refine v_goto E 4 dX3_greatest_21 (by decide) ?_
        have hs : s_X3_greatest_4 lo i m1 = (if m1 < (lo i) then (lo i) else m1) := by rfl
        rw [foldN_s (s_X3_greatest_4 lo) n i m1, hs] at K4
        exact ih (i + 1) (if m1 < (lo i) then (lo i) else m1) (by omega) K4
  refine L4 S 0 0 (by omega)  ?_
  refine v_iload_n E dX3_greatest_24 rfl ?_
  exact v_iret E F dX3_greatest_25 rfl rfl () rfl rfl (Nat.le_of_ble_eq_true rfl) (Nat.le_of_ble_eq_true rfl)

def s_X3_leastLoaded_4 (lo : Nat → Int32) (i : Nat) (b1 : Nat) : Nat := if (lo b1) ≤ (lo i) then b1 else i
def r_X3_leastLoaded (S : Nat) (lo : Nat → Int32) : Int32 := nI (foldN (s_X3_leastLoaded_4 lo) (S - 1) 1 0)
set_option maxRecDepth 20000 in
/-- X3_leastLoaded -/
theorem c_X3_leastLoaded (D : va_G) (a0 : Nat) (S : Nat) (lo : Nat → Int32) (hS1 : 1 ≤ S) (hS : S ≤ 4) (l : Launch) : Ct l yX3_leastLoaded cX3_leastLoaded 3 (some .int) (rmM 0 0 0 0) D [.ref a0] [(a0, aI D S lo)] (QI1 D (r_X3_leastLoaded S lo) [(a0, aI D S lo)]) := by
  refine Ct.ofV 2 (lv0 := [some (.ref a0), none, none]) (by decide) rfl rfl (fun Z E F => ?_)
  refine v_iconst E dX3_leastLoaded_0 (v := 0) (by decide) ?_
  refine v_istore_n E dX3_leastLoaded_1 rfl rfl ?_
  refine v_iconst E dX3_leastLoaded_2 (v := 1) (by decide) ?_
  refine v_istore_n E dX3_leastLoaded_3 rfl rfl ?_
  have L4 : ∀ (n i : Nat) (b1 : Nat), i + n = S → b1 < S → V Z D 0 0 [(a0, aI D S lo)] [some (.ref a0), some (.int (nI (foldN (s_X3_leastLoaded_4 lo) n i b1))), some (.int (nI S))] [] 27 → V Z D 0 0 [(a0, aI D S lo)] [some (.ref a0), some (.int (nI b1)), some (.int (nI i))] [] 4 := by
    intro n
    induction n with
    | zero =>
      intro i b1 hi hb1 K4
      have hiN : i = S := by omega
      rw [hiN]
      refine v_iload_n E dX3_leastLoaded_4 rfl ?_
      refine v_aload_n E dX3_leastLoaded_5 rfl ?_
      refine v_alen E dX3_leastLoaded_6 0 rfl (v := nI S) rfl ?_
      refine v_icmp_ge E 27 dX3_leastLoaded_7 (by decide) (fun c_7 => ?_) (fun c_7 => ?_)
      · exact K4
      · exact absurd (leN (a := S) (b := S) rfl rfl (by omega) (by omega)) c_7
    | succ n ih =>
      intro i b1 hi hb1 K4
      refine v_iload_n E dX3_leastLoaded_4 rfl ?_
      refine v_aload_n E dX3_leastLoaded_5 rfl ?_
      refine v_alen E dX3_leastLoaded_6 0 rfl (v := nI S) rfl ?_
      refine v_icmp_ge E 27 dX3_leastLoaded_7 (by decide) (fun c_7 => ?_) (fun c_7 => ?_)
      · exact absurd c_7 (nleN (a := S) (b := i) rfl rfl (by omega) (by omega))
      · refine v_aload_n E dX3_leastLoaded_10 rfl ?_
        refine v_iload_n E dX3_leastLoaded_11 rfl ?_
        refine v_iald E dX3_leastLoaded_12 0 rfl i rfl (by omega) (Nat.ble_eq_true_of_le (by omega)) ?_
        refine v_aload_n E dX3_leastLoaded_13 rfl ?_
        refine v_iload_n E dX3_leastLoaded_14 rfl ?_
        refine v_iald E dX3_leastLoaded_15 0 rfl b1 rfl (by omega) (Nat.ble_eq_true_of_le (by omega)) ?_
        refine v_icmp_ge E 21 dX3_leastLoaded_16 (by decide) (fun c_16 => ?_) (fun c_16 => ?_)
        · refine v_iinc E dX3_leastLoaded_21 (v := nI (i + 1)) rfl (inc1 _) rfl rfl ?_
          refine v_goto E 4 dX3_leastLoaded_24 (by decide) ?_
          have hs : s_X3_leastLoaded_4 lo i b1 = b1 := by simp only [s_X3_leastLoaded_4, if_pos c_16]
          rw [foldN_s (s_X3_leastLoaded_4 lo) n i b1, hs] at K4
          exact ih (i + 1) b1 (by omega) (by omega) K4
        · refine v_iload_n E dX3_leastLoaded_19 rfl ?_
          refine v_istore_n E dX3_leastLoaded_20 rfl rfl ?_
          refine v_iinc E dX3_leastLoaded_21 (v := nI (i + 1)) rfl (inc1 _) rfl rfl ?_
          refine v_goto E 4 dX3_leastLoaded_24 (by decide) ?_
          have hs : s_X3_leastLoaded_4 lo i b1 = i := by simp only [s_X3_leastLoaded_4, if_neg c_16]
          rw [foldN_s (s_X3_leastLoaded_4 lo) n i b1, hs] at K4
          exact ih (i + 1) i (by omega) (by omega) K4
  refine L4 (S - 1) 1 0 (by omega) (by omega) ?_
  refine v_iload_n E dX3_leastLoaded_27 rfl ?_
  exact v_iret E F dX3_leastLoaded_28 rfl rfl () rfl rfl (Nat.le_of_ble_eq_true rfl) (Nat.le_of_ble_eq_true rfl)

def s_X3_standsBefore_2 (lo : Nat → Int32) (ks : Nat) : Nat → Nat → Int32
  | 0, i => 0
  | n + 1, i => if (lo i) = (lo ks) then 1 else s_X3_standsBefore_2 lo ks n (i + 1)
def r_X3_standsBefore (lo : Nat → Int32) (ks : Nat) : Int32 := s_X3_standsBefore_2 lo ks ks 0
set_option maxRecDepth 20000 in
/-- X3_standsBefore -/
theorem c_X3_standsBefore (D : va_G) (a0 : Nat) (S : Nat) (lo : Nat → Int32) (sh : Int32) (ks : Nat) (hsh : sh = nI ks) (hks : ks < S) (hS : S ≤ 4) (l : Launch) : Ct l yX3_standsBefore cX3_standsBefore 3 (some .boolean) (rmM 0 0 0 0) D [.ref a0, .int sh] [(a0, aI D S lo)] (QI1 D (r_X3_standsBefore lo ks) [(a0, aI D S lo)]) := by
  refine Ct.ofV 1 (lv0 := [some (.ref a0), some (.int sh), none]) (by decide) rfl rfl (fun Z E F => ?_)
  refine v_iconst E dX3_standsBefore_0 (v := 0) (by decide) ?_
  refine v_istore_n E dX3_standsBefore_1 rfl rfl ?_
  have L2 : ∀ n i : Nat, i + n = ks → s_X3_standsBefore_2 lo ks ks 0 = s_X3_standsBefore_2 lo ks n i → V Z D 0 0 [(a0, aI D S lo)] [some (.ref a0), some (.int sh), some (.int (nI i))] [] 2 := by
    intro n
    induction n with
    | zero =>
      intro i hi hR
      have hiN : i = ks := by omega
      rw [hiN] at hR ⊢
      refine v_iload_n E dX3_standsBefore_2 rfl ?_
      refine v_iload_n E dX3_standsBefore_3 rfl ?_
      refine v_icmp_ge E 24 dX3_standsBefore_4 (by decide) (fun c_4 => ?_) (fun c_4 => ?_)
      · refine v_iconst E dX3_standsBefore_24 (v := 0) (by decide) ?_
        exact v_iret E F dX3_standsBefore_25 rfl rfl () (show _ = s_X3_standsBefore_2 lo ks ks 0 by rw [hR]; simp only [s_X3_standsBefore_2]) rfl (Nat.le_of_ble_eq_true rfl) (Nat.le_of_ble_eq_true rfl)
      · exact absurd (leN (a := ks) (b := ks) hsh rfl (by omega) (by omega)) c_4
    | succ n ih =>
      intro i hi hR
      refine v_iload_n E dX3_standsBefore_2 rfl ?_
      refine v_iload_n E dX3_standsBefore_3 rfl ?_
      refine v_icmp_ge E 24 dX3_standsBefore_4 (by decide) (fun c_4 => ?_) (fun c_4 => ?_)
      · exact absurd c_4 (nleN (a := ks) (b := i) hsh rfl (by omega) (by omega))
      · refine v_aload_n E dX3_standsBefore_7 rfl ?_
        refine v_iload_n E dX3_standsBefore_8 rfl ?_
        refine v_iald E dX3_standsBefore_9 0 rfl i rfl (by omega) (Nat.ble_eq_true_of_le (by omega)) ?_
        refine v_aload_n E dX3_standsBefore_10 rfl ?_
        refine v_iload_n E dX3_standsBefore_11 rfl ?_
        refine v_iald E dX3_standsBefore_12 0 rfl ks hsh (by omega) (Nat.ble_eq_true_of_le (by omega)) ?_
        refine v_icmp_ne E 18 dX3_standsBefore_13 (by decide) (fun c_13 => ?_) (fun c_13 => ?_)
        · refine v_iinc E dX3_standsBefore_18 (v := nI (i + 1)) rfl (inc1 _) rfl rfl ?_
          refine v_goto E 2 dX3_standsBefore_21 (by decide) ?_
          have hR2 : s_X3_standsBefore_2 lo ks ks 0 = s_X3_standsBefore_2 lo ks n (i + 1) := by rw [hR]; simp only [s_X3_standsBefore_2, if_neg c_13]
          exact ih (i + 1) (by omega) hR2
        · refine v_iconst E dX3_standsBefore_16 (v := 1) (by decide) ?_
          exact v_iret E F dX3_standsBefore_17 rfl rfl () (show _ = s_X3_standsBefore_2 lo ks ks 0 by rw [hR]; simp only [s_X3_standsBefore_2, if_pos c_13]) rfl (Nat.le_of_ble_eq_true rfl) (Nat.le_of_ble_eq_true rfl)
  exact L2 ks 0 (by omega) rfl

def s_J7_fill_53178_5 (x : Int32) (i : Nat) (l1 : Nat → Int32) : Nat → Int32 := upd l1 i x
def w_J7_fill_53178_0 (S : Nat) (lo : Nat → Int32) (x : Int32) : Nat → Int32 := (foldN (s_J7_fill_53178_5 x) S 0 lo)
set_option maxRecDepth 20000 in
/-- J7_fill_53178 -/
theorem c_J7_fill_53178 (D : va_G) (a0 : Nat) (S : Nat) (lo : Nat → Int32) (x : Int32) (hS : S ≤ 1000) (l : Launch) : Ct l yJ7_fill_53178 cJ7_fill_53178 4 none (rmM 0 0 0 0) D [.ref a0, .int x] [(a0, aI D S lo)] (QV1 D [(a0, aI D S (w_J7_fill_53178_0 S lo x))]) := by
  refine Ct.ofV 2 (lv0 := [some (.ref a0), some (.int x), none, none]) (by decide) rfl rfl (fun Z E F => ?_)
  refine v_iconst E dJ7_fill_53178_0 (v := 0) (by decide) ?_
  refine v_istore_n E dJ7_fill_53178_1 rfl rfl ?_
  refine v_aload_n E dJ7_fill_53178_2 rfl ?_
  refine v_alen E dJ7_fill_53178_3 0 rfl (v := nI S) rfl ?_
  refine v_istore_n E dJ7_fill_53178_4 rfl rfl ?_
  have L5 : ∀ (n i : Nat) (l1 : Nat → Int32), i + n = S → V Z D 0 0 [(a0, aI D S (foldN (s_J7_fill_53178_5 x) n i l1))] [some (.ref a0), some (.int x), some (.int (nI S)), some (.int (nI S))] [] 20 → V Z D 0 0 [(a0, aI D S l1)] [some (.ref a0), some (.int x), some (.int (nI i)), some (.int (nI S))] [] 5 := by
    intro n
    induction n with
    | zero =>
      intro i l1 hi  K5
      have hiN : i = S := by omega
      rw [hiN]
      refine v_iload_n E dJ7_fill_53178_5 rfl ?_
      refine v_iload_n E dJ7_fill_53178_6 rfl ?_
      refine v_icmp_ge E 20 dJ7_fill_53178_7 (by decide) (fun c_7 => ?_) (fun c_7 => ?_)
      · exact K5
      · exact absurd (leN (a := S) (b := S) rfl rfl (by omega) (by omega)) c_7
    | succ n ih =>
      intro i l1 hi  K5
      refine v_iload_n E dJ7_fill_53178_5 rfl ?_
      refine v_iload_n E dJ7_fill_53178_6 rfl ?_
      refine v_icmp_ge E 20 dJ7_fill_53178_7 (by decide) (fun c_7 => ?_) (fun c_7 => ?_)
      · exact absurd c_7 (nleN (a := S) (b := i) rfl rfl (by omega) (by omega))
      · refine v_aload_n E dJ7_fill_53178_10 rfl ?_
        refine v_iload_n E dJ7_fill_53178_11 rfl ?_
        refine v_iload_n E dJ7_fill_53178_12 rfl ?_
        refine v_iast E dJ7_fill_53178_13 0 rfl i rfl (by omega) (Nat.ble_eq_true_of_le (by omega)) ?_
        refine v_wd (wd2 := [(a0, aI D S (upd l1 i x))]) rfl ?_
        refine v_iinc E dJ7_fill_53178_14 (v := nI (i + 1)) rfl (inc1 _) rfl rfl ?_
        refine v_goto E 5 dJ7_fill_53178_17 (by decide) ?_
        have hs : s_J7_fill_53178_5 x i l1 = (upd l1 i x) := by rfl
        rw [foldN_s (s_J7_fill_53178_5 x) n i l1, hs] at K5
        exact ih (i + 1) (upd l1 i x) (by omega) K5
  refine L5 S 0 lo (by omega)  ?_
  exact v_vret E F dJ7_fill_53178_20 rfl () trivial rfl (Nat.le_of_ble_eq_true rfl) (Nat.le_of_ble_eq_true rfl)

def s_X2_time_70 (rb : Int32) (od : Nat → Int32) (we : Nat → Int32) (us : Nat → Nat → Int32) (i : Nat) (st1 : Nat → Int32) (j : Nat) (st2 : Nat → Int32) : Nat → Int32 := if (r_X6_contains ((r_X5_usersOf us 7 ((od i).toNatClampNeg)) &&& rb) (nI j)) = 0 then st2 else upd st2 j (if (st2 j) < ((st1 ((od i).toNatClampNeg)) + (we ((od i).toNatClampNeg))) then ((st1 ((od i).toNatClampNeg)) + (we ((od i).toNatClampNeg))) else (st2 j))
def s_X2_time_9 (rb : Int32) (od : Nat → Int32) (we : Nat → Int32) (us : Nat → Nat → Int32) (i : Nat) (z_ : Int32 × (Nat → Int32)) : Int32 × (Nat → Int32) := match z_ with
  | (en, st1) => ((if en < ((st1 ((od i).toNatClampNeg)) + (we ((od i).toNatClampNeg))) then ((st1 ((od i).toNatClampNeg)) + (we ((od i).toNatClampNeg))) else en), (foldN (s_X2_time_70 rb od we us i st1) 20 0 st1))
def r_X2_time (rb : Int32) (od : Nat → Int32) (we : Nat → Int32) (us : Nat → Nat → Int32) (Lk : Nat) : Int32 := (foldN (s_X2_time_9 rb od we us) Lk 0 (0, fun _ => 0)).1
set_option maxRecDepth 20000 in
/-- X2_time -/
theorem c_X2_time (D : va_G) (r0 : Nat) (r1 : Nat) (rb : Int32) (le : Int32) (od : Nat → Int32) (q : Nat → Nat) (ct : Int32) (dp : Int32) (we : Nat → Int32) (ok : Nat → Int32) (us : Nat → Nat → Int32) (Lk : Nat) (hle : le = nI Lk) (hL : Lk ≤ 20) (hOd : ∀ k, k < Lk → od k = nI (od k).toNatClampNeg ∧ (od k).toNatClampNeg < 20) (l : Launch) : Ct l yX2_time cX2_time 8 (some .int) (rmM 1 24 1 20) D [.ref r0] [(r0, .inr (2, [.ref (q 1), .int rb, .ref r1, .int le])), (r1, aI D 20 od), (q 1, .inr (5, [.int ct, .int dp, .ref (q 2), .ref (q 3), .ref (q 4)])), (q 2, aI D 20 we), (q 3, aI D 3 ok), (q 4, aG D 4 (gU q 5)), (q 5, aI D 20 (us 0)), (q 6, aI D 20 (us 1)), (q 7, aI D 20 (us 2)), (q 8, aI D 20 (us 3))] (QI1 D (r_X2_time rb od we us Lk) [(r0, .inr (2, [.ref (q 1), .int rb, .ref r1, .int le])), (r1, aI D 20 od), (q 1, .inr (5, [.int ct, .int dp, .ref (q 2), .ref (q 3), .ref (q 4)])), (q 2, aI D 20 we), (q 3, aI D 3 ok), (q 4, aG D 4 (gU q 5)), (q 5, aI D 20 (us 0)), (q 6, aI D 20 (us 1)), (q 7, aI D 20 (us 2)), (q 8, aI D 20 (us 3))]) := by
  refine Ct.ofV 7 (lv0 := [some (.ref r0), none, none, none, none, none, none, none]) (by decide) rfl rfl (fun Z E F => ?_)
  refine v_bipush E dX2_time_0 (v := 20) (by decide) ?_
  refine v_newI E 20 dX2_time_2 (show (20 : Int32) = nI 20 by decide) rfl (Nat.le_of_ble_eq_true rfl) (Nat.le_of_ble_eq_true rfl) (fun qv2 => ?_)
  refine v_wd (wd2 := [(r0, .inr (2, [.ref (q 1), .int rb, .ref r1, .int le])), (r1, aI D 20 od), (q 1, .inr (5, [.int ct, .int dp, .ref (q 2), .ref (q 3), .ref (q 4)])), (q 2, aI D 20 we), (q 3, aI D 3 ok), (q 4, aG D 4 (gU q 5)), (q 5, aI D 20 (us 0)), (q 6, aI D 20 (us 1)), (q 7, aI D 20 (us 2)), (q 8, aI D 20 (us 3)), (qv2, aI D 20 (fun _ => 0))]) rfl ?_
  refine v_astore_n E dX2_time_4 rfl rfl ?_
  refine v_iconst E dX2_time_5 (v := 0) (by decide) ?_
  refine v_istore_n E dX2_time_6 rfl rfl ?_
  refine v_iconst E dX2_time_7 (v := 0) (by decide) ?_
  refine v_istore_n E dX2_time_8 rfl rfl ?_
  have L9 : ∀ (n1 i : Nat) (en : Int32) (st1 : Nat → Int32), i + n1 = Lk → V Z D 1 20 [(r0, .inr (2, [.ref (q 1), .int rb, .ref r1, .int le])), (r1, aI D 20 od), (q 1, .inr (5, [.int ct, .int dp, .ref (q 2), .ref (q 3), .ref (q 4)])), (q 2, aI D 20 we), (q 3, aI D 3 ok), (q 4, aG D 4 (gU q 5)), (q 5, aI D 20 (us 0)), (q 6, aI D 20 (us 1)), (q 7, aI D 20 (us 2)), (q 8, aI D 20 (us 3)), (qv2, aI D 20 ((foldN (s_X2_time_9 rb od we us) n1 i (en, st1)).2))] [some (.ref r0), some (.ref qv2), some (.int ((foldN (s_X2_time_9 rb od we us) n1 i (en, st1)).1)), some (.int (nI Lk)), none, none, none, none] [] 112 → V Z D 1 20 [(r0, .inr (2, [.ref (q 1), .int rb, .ref r1, .int le])), (r1, aI D 20 od), (q 1, .inr (5, [.int ct, .int dp, .ref (q 2), .ref (q 3), .ref (q 4)])), (q 2, aI D 20 we), (q 3, aI D 3 ok), (q 4, aG D 4 (gU q 5)), (q 5, aI D 20 (us 0)), (q 6, aI D 20 (us 1)), (q 7, aI D 20 (us 2)), (q 8, aI D 20 (us 3)), (qv2, aI D 20 st1)] [some (.ref r0), some (.ref qv2), some (.int en), some (.int (nI i)), none, none, none, none] [] 9 := by
    intro n1
    induction n1 with
    | zero =>
      intro i en st1 hi  K9
      have hiN : i = Lk := by omega
      rw [hiN]
      refine v_iload_n E dX2_time_9 rfl ?_
      refine v_aload_n E dX2_time_10 rfl ?_
      refine v_get E dX2_time_11 (ci := 2) rfl iwX2 0 rfl 3 rfl fl_X2_33 rfl ?_
      refine v_icmp_ge E 112 dX2_time_14 (by decide) (fun c_14 => ?_) (fun c_14 => ?_)
      · exact K9
      · exact absurd (leN (a := Lk) (b := Lk) hle rfl (by omega) (by omega)) c_14
    | succ n1 ih =>
      intro i en st1 hi  K9
      refine v_iload_n E dX2_time_9 rfl ?_
      refine v_aload_n E dX2_time_10 rfl ?_
      refine v_get E dX2_time_11 (ci := 2) rfl iwX2 0 rfl 3 rfl fl_X2_33 rfl ?_
      refine v_icmp_ge E 112 dX2_time_14 (by decide) (fun c_14 => ?_) (fun c_14 => ?_)
      · exact absurd c_14 (nleN (a := Lk) (b := i) hle rfl (by omega) (by omega))
      · refine v_aload_n E dX2_time_17 rfl ?_
        refine v_get E dX2_time_18 (ci := 2) rfl iwX2 0 rfl 2 rfl fl_X2_9 rfl ?_
        refine v_iload_n E dX2_time_21 rfl ?_
        refine v_iald E dX2_time_22 1 rfl i rfl (by omega) rfl ?_
        have hoi := (hOd i (by omega)).2
        refine v_istore E dX2_time_23 rfl rfl ?_
        refine v_aload_n E dX2_time_25 rfl ?_
        refine v_iload E dX2_time_26 rfl ?_
        refine v_iald E dX2_time_28 10 rfl ((od i).toNatClampNeg) (hOd i (by omega)).1 (by omega) rfl ?_
        refine v_aload_n E dX2_time_29 rfl ?_
        refine v_get E dX2_time_30 (ci := 2) rfl iwX2 0 rfl 0 rfl fl_X2_15 rfl ?_
        refine v_get E dX2_time_33 (ci := 5) rfl iwX5 2 rfl 2 rfl fl_X2_39 rfl ?_
        refine v_iload E dX2_time_36 rfl ?_
        refine v_iald E dX2_time_38 3 rfl ((od i).toNatClampNeg) (hOd i (by omega)).1 (by omega) rfl ?_
        refine v_iadd E dX2_time_39 ?_
        refine v_istore E dX2_time_40 rfl rfl ?_
        refine v_iload_n E dX2_time_42 rfl ?_
        refine v_iload E dX2_time_43 rfl ?_
        refine v_mmax E dX2_time_45 ml_X2_42 rfl rfl (Nat.le_of_ble_eq_true rfl) (Nat.le_of_ble_eq_true rfl) (Nat.le_of_ble_eq_true rfl) ?_
        refine v_istore_n E dX2_time_48 rfl rfl ?_
        refine v_aload_n E dX2_time_49 rfl ?_
        refine v_get E dX2_time_50 (ci := 2) rfl iwX2 0 rfl 0 rfl fl_X2_15 rfl ?_
        refine v_iload E dX2_time_53 rfl ?_
        refine v_bipush E dX2_time_55 (v := 7) (by decide) ?_
        refine v_cV_i E dX2_time_57 (c_X5_usersOf D q ct dp we ok us (od i) 7 ((od i).toNatClampNeg) (hOd i (by omega)).1 (by omega)) cs_X2_47 rfl rfl rfl (Nat.le_of_ble_eq_true rfl) 2 rfl rfl [2, 3, 4, 5, 6, 7, 8, 9] rfl rfl ⟨Nat.le_of_ble_eq_true rfl, Nat.le_of_ble_eq_true rfl⟩ ?_
        refine v_aload_n E dX2_time_60 rfl ?_
        refine v_get E dX2_time_61 (ci := 2) rfl iwX2 0 rfl 1 rfl fl_X2_19 rfl ?_
        refine v_iand E dX2_time_64 ?_
        refine v_istore E dX2_time_65 rfl rfl ?_
        refine v_iconst E dX2_time_67 (v := 0) (by decide) ?_
        refine v_istore E dX2_time_68 rfl rfl ?_
        have L70 : ∀ (n2 j : Nat) (st2 : Nat → Int32), j + n2 = 20 → V Z D 1 20 [(r0, .inr (2, [.ref (q 1), .int rb, .ref r1, .int le])), (r1, aI D 20 od), (q 1, .inr (5, [.int ct, .int dp, .ref (q 2), .ref (q 3), .ref (q 4)])), (q 2, aI D 20 we), (q 3, aI D 3 ok), (q 4, aG D 4 (gU q 5)), (q 5, aI D 20 (us 0)), (q 6, aI D 20 (us 1)), (q 7, aI D 20 (us 2)), (q 8, aI D 20 (us 3)), (qv2, aI D 20 (foldN (s_X2_time_70 rb od we us i st1) n2 j st2))] [some (.ref r0), some (.ref qv2), some (.int (if en < ((st1 ((od i).toNatClampNeg)) + (we ((od i).toNatClampNeg))) then ((st1 ((od i).toNatClampNeg)) + (we ((od i).toNatClampNeg))) else en)), some (.int (nI i)), some (.int (od i)), some (.int ((st1 ((od i).toNatClampNeg)) + (we ((od i).toNatClampNeg)))), some (.int ((r_X5_usersOf us 7 ((od i).toNatClampNeg)) &&& rb)), none] [] 106 → V Z D 1 20 [(r0, .inr (2, [.ref (q 1), .int rb, .ref r1, .int le])), (r1, aI D 20 od), (q 1, .inr (5, [.int ct, .int dp, .ref (q 2), .ref (q 3), .ref (q 4)])), (q 2, aI D 20 we), (q 3, aI D 3 ok), (q 4, aG D 4 (gU q 5)), (q 5, aI D 20 (us 0)), (q 6, aI D 20 (us 1)), (q 7, aI D 20 (us 2)), (q 8, aI D 20 (us 3)), (qv2, aI D 20 st2)] [some (.ref r0), some (.ref qv2), some (.int (if en < ((st1 ((od i).toNatClampNeg)) + (we ((od i).toNatClampNeg))) then ((st1 ((od i).toNatClampNeg)) + (we ((od i).toNatClampNeg))) else en)), some (.int (nI i)), some (.int (od i)), some (.int ((st1 ((od i).toNatClampNeg)) + (we ((od i).toNatClampNeg)))), some (.int ((r_X5_usersOf us 7 ((od i).toNatClampNeg)) &&& rb)), some (.int (nI j))] [] 70 := by
          intro n2
          induction n2 with
          | zero =>
            intro j st2 hi  K70
            have hiN : j = 20 := by omega
            rw [hiN]
            refine v_iload E dX2_time_70 rfl ?_
            refine v_bipush E dX2_time_72 (v := 20) (by decide) ?_
            refine v_icmp_ge E 106 dX2_time_74 (by decide) (fun c_74 => ?_) (fun c_74 => ?_)
            · refine v_mask [true, true, true, true, true, true, true, false] rfl ?_
              exact K70
            · exact absurd (leN (a := 20) (b := 20) (show (20 : Int32) = nI 20 by decide) rfl (by omega) (by omega)) c_74
          | succ n2 ih =>
            intro j st2 hi  K70
            refine v_iload E dX2_time_70 rfl ?_
            refine v_bipush E dX2_time_72 (v := 20) (by decide) ?_
            refine v_icmp_ge E 106 dX2_time_74 (by decide) (fun c_74 => ?_) (fun c_74 => ?_)
            · exact absurd c_74 (nleN (a := 20) (b := j) (show (20 : Int32) = nI 20 by decide) rfl (by omega) (by omega))
            · refine v_iload E dX2_time_77 rfl ?_
              refine v_iload E dX2_time_79 rfl ?_
              refine v_cN_i E dX2_time_81 (c_X6_contains D ((r_X5_usersOf us 7 ((od i).toNatClampNeg)) &&& rb) (nI j)) cs_X2_50 rfl rfl rfl (Nat.le_of_ble_eq_true rfl) [] rfl rfl ⟨Nat.le_of_ble_eq_true rfl, Nat.le_of_ble_eq_true rfl⟩ ?_
              refine v_if_eq E 100 dX2_time_84 (by decide) (fun c_84 => ?_) (fun c_84 => ?_)
              · refine v_iinc E dX2_time_100 (v := nI (j + 1)) rfl (inc1 _) rfl rfl ?_
                refine v_goto E 70 dX2_time_103 (by decide) ?_
                have hs : s_X2_time_70 rb od we us i st1 j st2 = st2 := by simp only [s_X2_time_70, if_pos c_84]
                rw [foldN_s (s_X2_time_70 rb od we us i st1) n2 j st2, hs] at K70
                exact ih (j + 1) st2 (by omega) K70
              · refine v_aload_n E dX2_time_87 rfl ?_
                refine v_iload E dX2_time_88 rfl ?_
                refine v_aload_n E dX2_time_90 rfl ?_
                refine v_iload E dX2_time_91 rfl ?_
                refine v_iald E dX2_time_93 10 rfl j rfl (by omega) rfl ?_
                refine v_iload E dX2_time_94 rfl ?_
                refine v_mmax E dX2_time_96 ml_X2_42 rfl rfl (Nat.le_of_ble_eq_true rfl) (Nat.le_of_ble_eq_true rfl) (Nat.le_of_ble_eq_true rfl) ?_
                refine v_iast E dX2_time_99 10 rfl j rfl (by omega) rfl ?_
                refine v_wd (wd2 := [(r0, .inr (2, [.ref (q 1), .int rb, .ref r1, .int le])), (r1, aI D 20 od), (q 1, .inr (5, [.int ct, .int dp, .ref (q 2), .ref (q 3), .ref (q 4)])), (q 2, aI D 20 we), (q 3, aI D 3 ok), (q 4, aG D 4 (gU q 5)), (q 5, aI D 20 (us 0)), (q 6, aI D 20 (us 1)), (q 7, aI D 20 (us 2)), (q 8, aI D 20 (us 3)), (qv2, aI D 20 (upd st2 j (if (st2 j) < ((st1 ((od i).toNatClampNeg)) + (we ((od i).toNatClampNeg))) then ((st1 ((od i).toNatClampNeg)) + (we ((od i).toNatClampNeg))) else (st2 j))))]) rfl ?_
                refine v_iinc E dX2_time_100 (v := nI (j + 1)) rfl (inc1 _) rfl rfl ?_
                refine v_goto E 70 dX2_time_103 (by decide) ?_
                have hs : s_X2_time_70 rb od we us i st1 j st2 = (upd st2 j (if (st2 j) < ((st1 ((od i).toNatClampNeg)) + (we ((od i).toNatClampNeg))) then ((st1 ((od i).toNatClampNeg)) + (we ((od i).toNatClampNeg))) else (st2 j))) := by simp only [s_X2_time_70, if_neg c_84]
                rw [foldN_s (s_X2_time_70 rb od we us i st1) n2 j st2, hs] at K70
                exact ih (j + 1) (upd st2 j (if (st2 j) < ((st1 ((od i).toNatClampNeg)) + (we ((od i).toNatClampNeg))) then ((st1 ((od i).toNatClampNeg)) + (we ((od i).toNatClampNeg))) else (st2 j))) (by omega) K70
        refine L70 20 0 st1 (by omega)  ?_
        refine v_iinc E dX2_time_106 (v := nI (i + 1)) rfl (inc1 _) rfl rfl ?_
        refine v_goto E 9 dX2_time_109 (by decide) ?_
        have hs : s_X2_time_9 rb od we us i (en, st1) = ((if en < ((st1 ((od i).toNatClampNeg)) + (we ((od i).toNatClampNeg))) then ((st1 ((od i).toNatClampNeg)) + (we ((od i).toNatClampNeg))) else en), (foldN (s_X2_time_70 rb od we us i st1) 20 0 st1)) := by rfl
        rw [foldN_s (s_X2_time_9 rb od we us) n1 i (en, st1), hs] at K9
        refine v_mask [true, true, true, true, false, false, false, true] rfl ?_
        exact ih (i + 1) (if en < ((st1 ((od i).toNatClampNeg)) + (we ((od i).toNatClampNeg))) then ((st1 ((od i).toNatClampNeg)) + (we ((od i).toNatClampNeg))) else en) (foldN (s_X2_time_70 rb od we us i st1) 20 0 st1) (by omega) K9
  refine L9 Lk 0 0 (fun _ => 0) (by omega)  ?_
  refine v_iload_n E dX2_time_112 rfl ?_
  refine v_sub [0, 1, 2, 3, 4, 5, 6, 7, 8, 9] rfl (wd' := [(r0, .inr (2, [.ref (q 1), .int rb, .ref r1, .int le])), (r1, aI D 20 od), (q 1, .inr (5, [.int ct, .int dp, .ref (q 2), .ref (q 3), .ref (q 4)])), (q 2, aI D 20 we), (q 3, aI D 3 ok), (q 4, aG D 4 (gU q 5)), (q 5, aI D 20 (us 0)), (q 6, aI D 20 (us 1)), (q 7, aI D 20 (us 2)), (q 8, aI D 20 (us 3))]) rfl ?_
  exact v_iret E F dX2_time_113 rfl rfl () rfl rfl (Nat.le_of_ble_eq_true rfl) (Nat.le_of_ble_eq_true rfl)

