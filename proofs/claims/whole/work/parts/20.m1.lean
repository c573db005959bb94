/-! the reference: targets, links, files -/
theorem in_useK {v hi : Int32} {M : Nat} (hhi : hi.toInt = (M : Int)) (h : ¬ r_X7_in v 0 hi = 0) : v = nI v.toNatClampNeg ∧ v.toNatClampNeg ≤ M := by
  unfold r_X7_in at h
  by_cases h1 : v < 0
  · rw [if_pos h1] at h; exact absurd rfl h
  rw [if_neg h1] at h
  by_cases h2 : hi < v
  · rw [if_pos h2] at h; exact absurd rfl h
  obtain ⟨j, hj, rfl⟩ := nI_of h1
  rw [nI_clamp hj]
  refine ⟨rfl, ?_⟩
  rw [Int32.lt_iff_toInt_lt, hhi, nI_toInt hj] at h2
  omega
theorem in_use {v : Int32} {F : Nat} (hF : F < 2 ^ 30) (h : ¬ r_X7_in v 0 (nI F - 1) = 0) : v = nI v.toNatClampNeg ∧ v.toNatClampNeg < F := by
  have e : (nI F - 1).toInt = (F : Int) - 1 := pk_sub_toInt (a := F) (b := 1) hF (by decide)
  unfold r_X7_in at h
  by_cases h1 : v < 0
  · rw [if_pos h1] at h; exact absurd rfl h
  rw [if_neg h1] at h
  by_cases h2 : nI F - 1 < v
  · rw [if_pos h2] at h; exact absurd rfl h
  obtain ⟨j, hj, rfl⟩ := nI_of h1
  rw [nI_clamp hj]
  refine ⟨rfl, ?_⟩
  rw [Int32.lt_iff_toInt_lt, e, nI_toInt hj] at h2
  omega
def r_X7_isTarget (g : Nat → Int32) (t : Int32) : Int32 := (r_X7_in t 0 ((g 0) - 1))
set_option maxRecDepth 20000 in
/-- X7_isTarget -/
theorem c_X7_isTarget (D : va_G) (q : Nat → Nat) (g : Nat → Int32) (t : Int32) (l : Launch) : Ct l yX7_isTarget cX7_isTarget 2 (some .boolean) (rmM 1 22 0 0) D [.ref (q 0), .int t] [(q 0, .inr (7, [.ref (q 1), .ref (q 2), .ref (q 3), .ref (q 4), .ref (q 5), .ref (q 6), .ref (q 7), .ref (q 8), .ref (q 9), .ref (q 10)])), (q 1, aI D 703 g)] (QI1 D (r_X7_isTarget g t) [(q 0, .inr (7, [.ref (q 1), .ref (q 2), .ref (q 3), .ref (q 4), .ref (q 5), .ref (q 6), .ref (q 7), .ref (q 8), .ref (q 9), .ref (q 10)])), (q 1, aI D 703 g)]) := by
  refine Ct.ofV 0 (lv0 := [some (.ref (q 0)), some (.int t)]) (by decide) rfl rfl (fun Z E F => ?_)
  refine v_iload_n E dX7_isTarget_0 rfl ?_
  refine v_iconst E dX7_isTarget_1 (v := 0) (by decide) ?_
  refine v_aload_n E dX7_isTarget_2 rfl ?_
  refine v_get E dX7_isTarget_3 (ci := 7) rfl iwX7 0 rfl 0 rfl fl_X7_7 rfl ?_
  refine v_iconst E dX7_isTarget_6 (v := 0) (by decide) ?_
  refine v_iald E dX7_isTarget_7 1 rfl 0 (show (0 : Int32) = nI 0 by decide) (by omega) rfl ?_
  refine v_iconst E dX7_isTarget_8 (v := 1) (by decide) ?_
  refine v_isub E dX7_isTarget_9 ?_
  refine v_cS_i E dX7_isTarget_10 (c_X7_in D t 0 ((g 0) - 1)) cs_X7_41 rfl rfl rfl (Nat.le_of_ble_eq_true rfl) [] rfl rfl ⟨Nat.le_of_ble_eq_true rfl, Nat.le_of_ble_eq_true rfl⟩ ?_
  exact v_iret E F dX7_isTarget_13 rfl (nz_X7_in t 0 ((g 0) - 1)) () rfl rfl (Nat.le_of_ble_eq_true rfl) (Nat.le_of_ble_eq_true rfl)
theorem nz_X7_isTarget (g : Nat → Int32) (t : Int32) : narrow .boolean (.int (r_X7_isTarget g t)) = .int (r_X7_isTarget g t) := nz_X7_in t 0 ((g 0) - 1)

theorem isT_use {g : Nat → Int32} {N : Nat} {t : Int32} (h0 : g 0 = nI N) (hN : N ≤ 20) (h : ¬ r_X7_isTarget g t = 0) : t = nI t.toNatClampNeg ∧ t.toNatClampNeg < N := by
  unfold r_X7_isTarget at h
  rw [h0] at h
  exact in_use (by omega) h
def r_X7_kindOf (g : Nat → Int32) (k : Nat) : Int32 := g (3 + k)
set_option maxRecDepth 20000 in
/-- X7_kindOf -/
theorem c_X7_kindOf (D : va_G) (q : Nat → Nat) (g : Nat → Int32) (t : Int32) (k : Nat) (ht : t = nI k) (hk : k < 20) (l : Launch) : Ct l yX7_kindOf cX7_kindOf 2 (some .int) (rmM 0 0 0 0) D [.ref (q 0), .int t] [(q 0, .inr (7, [.ref (q 1), .ref (q 2), .ref (q 3), .ref (q 4), .ref (q 5), .ref (q 6), .ref (q 7), .ref (q 8), .ref (q 9), .ref (q 10)])), (q 1, aI D 703 g)] (QI1 D (r_X7_kindOf g k) [(q 0, .inr (7, [.ref (q 1), .ref (q 2), .ref (q 3), .ref (q 4), .ref (q 5), .ref (q 6), .ref (q 7), .ref (q 8), .ref (q 9), .ref (q 10)])), (q 1, aI D 703 g)]) := by
  refine Ct.ofV 0 (lv0 := [some (.ref (q 0)), some (.int t)]) (by decide) rfl rfl (fun Z E F => ?_)
  refine v_aload_n E dX7_kindOf_0 rfl ?_
  refine v_get E dX7_kindOf_1 (ci := 7) rfl iwX7 0 rfl 0 rfl fl_X7_7 rfl ?_
  refine v_iconst E dX7_kindOf_4 (v := 3) (by decide) ?_
  refine v_iload_n E dX7_kindOf_5 rfl ?_
  refine v_iadd E dX7_kindOf_6 ?_
  refine v_iald E dX7_kindOf_7 1 rfl (3 + k) (hadd (show (3 : Int32) = nI 3 by decide) ht) (by omega) rfl ?_
  exact v_iret E F dX7_kindOf_8 rfl rfl () rfl rfl (Nat.le_of_ble_eq_true rfl) (Nat.le_of_ble_eq_true rfl)

def r_X7_weightOf (g : Nat → Int32) (k : Nat) : Int32 := g (23 + k)
set_option maxRecDepth 20000 in
/-- X7_weightOf -/
theorem c_X7_weightOf (D : va_G) (q : Nat → Nat) (g : Nat → Int32) (t : Int32) (k : Nat) (ht : t = nI k) (hk : k < 20) (l : Launch) : Ct l yX7_weightOf cX7_weightOf 2 (some .int) (rmM 0 0 0 0) D [.ref (q 0), .int t] [(q 0, .inr (7, [.ref (q 1), .ref (q 2), .ref (q 3), .ref (q 4), .ref (q 5), .ref (q 6), .ref (q 7), .ref (q 8), .ref (q 9), .ref (q 10)])), (q 1, aI D 703 g)] (QI1 D (r_X7_weightOf g k) [(q 0, .inr (7, [.ref (q 1), .ref (q 2), .ref (q 3), .ref (q 4), .ref (q 5), .ref (q 6), .ref (q 7), .ref (q 8), .ref (q 9), .ref (q 10)])), (q 1, aI D 703 g)]) := by
  refine Ct.ofV 0 (lv0 := [some (.ref (q 0)), some (.int t)]) (by decide) rfl rfl (fun Z E F => ?_)
  refine v_aload_n E dX7_weightOf_0 rfl ?_
  refine v_get E dX7_weightOf_1 (ci := 7) rfl iwX7 0 rfl 0 rfl fl_X7_7 rfl ?_
  refine v_bipush E dX7_weightOf_4 (v := 23) (by decide) ?_
  refine v_iload_n E dX7_weightOf_6 rfl ?_
  refine v_iadd E dX7_weightOf_7 ?_
  refine v_iald E dX7_weightOf_8 1 rfl (23 + k) (hadd (show (23 : Int32) = nI 23 by decide) ht) (by omega) rfl ?_
  exact v_iret E F dX7_weightOf_9 rfl rfl () rfl rfl (Nat.le_of_ble_eq_true rfl) (Nat.le_of_ble_eq_true rfl)

def r_X7_linkOf (g : Nat → Int32) (ka : Nat) (kb : Nat) : Int32 := (g ((43 + (20 * ka)) + kb)) - 1
set_option maxRecDepth 20000 in
/-- X7_linkOf -/
theorem c_X7_linkOf (D : va_G) (q : Nat → Nat) (g : Nat → Int32) (a : Int32) (b : Int32) (ka : Nat) (kb : Nat) (ha : a = nI ka) (hb : b = nI kb) (hka : ka < 20) (hkb : kb < 20) (l : Launch) : Ct l yX7_linkOf cX7_linkOf 3 (some .int) (rmM 0 0 0 0) D [.ref (q 0), .int a, .int b] [(q 0, .inr (7, [.ref (q 1), .ref (q 2), .ref (q 3), .ref (q 4), .ref (q 5), .ref (q 6), .ref (q 7), .ref (q 8), .ref (q 9), .ref (q 10)])), (q 1, aI D 703 g)] (QI1 D (r_X7_linkOf g ka kb) [(q 0, .inr (7, [.ref (q 1), .ref (q 2), .ref (q 3), .ref (q 4), .ref (q 5), .ref (q 6), .ref (q 7), .ref (q 8), .ref (q 9), .ref (q 10)])), (q 1, aI D 703 g)]) := by
  refine Ct.ofV 0 (lv0 := [some (.ref (q 0)), some (.int a), some (.int b)]) (by decide) rfl rfl (fun Z E F => ?_)
  refine v_aload_n E dX7_linkOf_0 rfl ?_
  refine v_get E dX7_linkOf_1 (ci := 7) rfl iwX7 0 rfl 0 rfl fl_X7_7 rfl ?_
  refine v_bipush E dX7_linkOf_4 (v := 43) (by decide) ?_
  refine v_bipush E dX7_linkOf_6 (v := 20) (by decide) ?_
  refine v_iload_n E dX7_linkOf_8 rfl ?_
  refine v_imul E dX7_linkOf_9 ?_
  refine v_iadd E dX7_linkOf_10 ?_
  refine v_iload_n E dX7_linkOf_11 rfl ?_
  refine v_iadd E dX7_linkOf_12 ?_
  refine v_iald E dX7_linkOf_13 1 rfl ((43 + (20 * ka)) + kb) (hadd (hadd (show (43 : Int32) = nI 43 by decide) (hmul (show (20 : Int32) = nI 20 by decide) ha)) hb) (by omega) rfl ?_
  refine v_iconst E dX7_linkOf_14 (v := 1) (by decide) ?_
  refine v_isub E dX7_linkOf_15 ?_
  exact v_iret E F dX7_linkOf_16 rfl rfl () rfl rfl (Nat.le_of_ble_eq_true rfl) (Nat.le_of_ble_eq_true rfl)

def s_X7_tests_4 (g : Nat → Int32) (i : Nat) (n1 : Int32) : Int32 := if (r_X7_kindOf g i) = 2 then n1 + 1 else n1 + 0
def r_X7_tests (g : Nat → Int32) (N : Nat) : Int32 := (foldN (s_X7_tests_4 g) N 0 0)
set_option maxRecDepth 20000 in
/-- X7_tests -/
theorem c_X7_tests (D : va_G) (q : Nat → Nat) (g : Nat → Int32) (N : Nat) (h0 : g 0 = nI N) (hN : N ≤ 20) (l : Launch) : Ct l yX7_tests cX7_tests 3 (some .int) (rmM 1 21 0 0) D [.ref (q 0)] [(q 0, .inr (7, [.ref (q 1), .ref (q 2), .ref (q 3), .ref (q 4), .ref (q 5), .ref (q 6), .ref (q 7), .ref (q 8), .ref (q 9), .ref (q 10)])), (q 1, aI D 703 g)] (QI1 D (r_X7_tests g N) [(q 0, .inr (7, [.ref (q 1), .ref (q 2), .ref (q 3), .ref (q 4), .ref (q 5), .ref (q 6), .ref (q 7), .ref (q 8), .ref (q 9), .ref (q 10)])), (q 1, aI D 703 g)]) := by
  refine Ct.ofV 2 (lv0 := [some (.ref (q 0)), none, none]) (by decide) rfl rfl (fun Z E F => ?_)
  refine v_iconst E dX7_tests_0 (v := 0) (by decide) ?_
  refine v_istore_n E dX7_tests_1 rfl rfl ?_
  refine v_iconst E dX7_tests_2 (v := 0) (by decide) ?_
  refine v_istore_n E dX7_tests_3 rfl rfl ?_
  have L4 : ∀ (n i : Nat) (n1 : Int32), i + n = N → V Z D 0 0 [(q 0, .inr (7, [.ref (q 1), .ref (q 2), .ref (q 3), .ref (q 4), .ref (q 5), .ref (q 6), .ref (q 7), .ref (q 8), .ref (q 9), .ref (q 10)])), (q 1, aI D 703 g)] [some (.ref (q 0)), some (.int (foldN (s_X7_tests_4 g) n i n1)), some (.int (nI N))] [] 37 → V Z D 0 0 [(q 0, .inr (7, [.ref (q 1), .ref (q 2), .ref (q 3), .ref (q 4), .ref (q 5), .ref (q 6), .ref (q 7), .ref (q 8), .ref (q 9), .ref (q 10)])), (q 1, aI D 703 g)] [some (.ref (q 0)), some (.int n1), some (.int (nI i))] [] 4 := by
    intro n
    induction n with
    | zero =>
      intro i n1 hi  K4
      have hiN : i = N := by omega
      rw [hiN]
      refine v_iload_n E dX7_tests_4 rfl ?_
      refine v_aload_n E dX7_tests_5 rfl ?_
      refine v_get E dX7_tests_6 (ci := 7) rfl iwX7 0 rfl 0 rfl fl_X7_7 rfl ?_
      refine v_iconst E dX7_tests_9 (v := 0) (by decide) ?_
      refine v_iald E dX7_tests_10 1 rfl 0 (show (0 : Int32) = nI 0 by decide) (by omega) rfl ?_
      refine v_icmp_ge E 37 dX7_tests_11 (by decide) (fun c_11 => ?_) (fun c_11 => ?_)
      · exact K4
      · exact absurd (leN (a := N) (b := N) h0 rfl (by omega) (by omega)) c_11
    | succ n ih =>
      intro i n1 hi  K4
      refine v_iload_n E dX7_tests_4 rfl ?_
      refine v_aload_n E dX7_tests_5 rfl ?_
      refine v_get E dX7_tests_6 (ci := 7) rfl iwX7 0 rfl 0 rfl fl_X7_7 rfl ?_
      refine v_iconst E dX7_tests_9 (v := 0) (by decide) ?_
      refine v_iald E dX7_tests_10 1 rfl 0 (show (0 : Int32) = nI 0 by decide) (by omega) rfl ?_
      refine v_icmp_ge E 37 dX7_tests_11 (by decide) (fun c_11 => ?_) (fun c_11 => ?_)
      · exact absurd c_11 (nleN (a := N) (b := i) h0 rfl (by omega) (by omega))
      · refine v_iload_n E dX7_tests_14 rfl ?_
        refine v_aload_n E dX7_tests_15 rfl ?_
        refine v_iload_n E dX7_tests_16 rfl ?_
        refine v_cV_i E dX7_tests_17 (c_X7_kindOf D q g (nI i) i rfl (by omega)) cs_X7_45 rfl rfl rfl (Nat.le_of_ble_eq_true rfl) 0 rfl rfl [0, 1] rfl rfl ⟨Nat.le_of_ble_eq_true rfl, Nat.le_of_ble_eq_true rfl⟩ ?_
        refine v_iconst E dX7_tests_20 (v := 2) (by decide) ?_
        refine v_icmp_ne E 28 dX7_tests_21 (by decide) (fun c_21 => ?_) (fun c_21 => ?_)
        · refine v_iconst E dX7_tests_28 (v := 0) (by decide) ?_
          refine v_iadd E dX7_tests_29 ?_
          refine v_istore_n E dX7_tests_30 rfl rfl ?_
          refine v_iinc E dX7_tests_31 (v := nI (i + 1)) rfl (inc1 _) rfl rfl ?_
          refine v_goto E 4 dX7_tests_34 (by decide) ?_
          have hs : s_X7_tests_4 g i n1 = (n1 + 0) := by simp only [s_X7_tests_4, if_neg c_21]
          rw [foldN_s (s_X7_tests_4 g) n i n1, hs] at K4
          exact ih (i + 1) (n1 + 0) (by omega) K4
        · refine v_iconst E dX7_tests_24 (v := 1) (by decide) ?_
          refine v_goto E 29 dX7_tests_25 (by decide) ?_
          refine v_iadd E dX7_tests_29 ?_
          refine v_istore_n E dX7_tests_30 rfl rfl ?_
          refine v_iinc E dX7_tests_31 (v := nI (i + 1)) rfl (inc1 _) rfl rfl ?_
          refine v_goto E 4 dX7_tests_34 (by decide) ?_
          have hs : s_X7_tests_4 g i n1 = (n1 + 1) := by simp only [s_X7_tests_4, if_pos c_21]
          rw [foldN_s (s_X7_tests_4 g) n i n1, hs] at K4
          exact ih (i + 1) (n1 + 1) (by omega) K4
  refine L4 N 0 0 (by omega)  ?_
  refine v_iload_n E dX7_tests_37 rfl ?_
  exact v_iret E F dX7_tests_38 rfl rfl () rfl rfl (Nat.le_of_ble_eq_true rfl) (Nat.le_of_ble_eq_true rfl)

def r_X7_addTarget (g : Nat → Int32) (kd : Int32) (w : Int32) (N : Nat) : Int32 := if (r_X7_in kd 0 2) = 0 then (-3) else if (r_X7_in w 1 100) = 0 then (-3) else if (g 0) = 20 then (-8) else if kd = 2 then (if (r_X7_tests g N) = 10 then (-8) else g 0) else g 0
def w_X7_addTarget_1 (g : Nat → Int32) (kd : Int32) (w : Int32) (N : Nat) : Nat → Int32 := if (r_X7_in kd 0 2) = 0 then g else if (r_X7_in w 1 100) = 0 then g else if (g 0) = 20 then g else if kd = 2 then (if (r_X7_tests g N) = 10 then g else upd (upd (upd g (3 + N) kd) (23 + N) w) 0 (((upd (upd g (3 + N) kd) (23 + N) w) 0) + 1)) else upd (upd (upd g (3 + N) kd) (23 + N) w) 0 (((upd (upd g (3 + N) kd) (23 + N) w) 0) + 1)
set_option maxRecDepth 20000 in
/-- X7_addTarget -/
theorem c_X7_addTarget (D : va_G) (q : Nat → Nat) (g : Nat → Int32) (kd : Int32) (w : Int32) (N : Nat) (h0 : g 0 = nI N) (hN : N ≤ 20) (l : Launch) : Ct l yX7_addTarget cX7_addTarget 4 (some .int) (rmM 2 43 0 0) D [.ref (q 0), .int kd, .int w] [(q 0, .inr (7, [.ref (q 1), .ref (q 2), .ref (q 3), .ref (q 4), .ref (q 5), .ref (q 6), .ref (q 7), .ref (q 8), .ref (q 9), .ref (q 10)])), (q 1, aI D 703 g)] (QI1 D (r_X7_addTarget g kd w N) [(q 0, .inr (7, [.ref (q 1), .ref (q 2), .ref (q 3), .ref (q 4), .ref (q 5), .ref (q 6), .ref (q 7), .ref (q 8), .ref (q 9), .ref (q 10)])), (q 1, aI D 703 (w_X7_addTarget_1 g kd w N))]) := by
  refine Ct.ofV 1 (lv0 := [some (.ref (q 0)), some (.int kd), some (.int w), none]) (by decide) rfl rfl (fun Z E F => ?_)
  refine v_iload_n E dX7_addTarget_0 rfl ?_
  refine v_iconst E dX7_addTarget_1 (v := 0) (by decide) ?_
  refine v_iconst E dX7_addTarget_2 (v := 2) (by decide) ?_
  refine v_cS_i E dX7_addTarget_3 (c_X7_in D kd 0 2) cs_X7_41 rfl rfl rfl (Nat.le_of_ble_eq_true rfl) [] rfl rfl ⟨Nat.le_of_ble_eq_true rfl, Nat.le_of_ble_eq_true rfl⟩ ?_
  refine v_if_eq E 19 dX7_addTarget_6 (by decide) (fun c_6 => ?_) (fun c_6 => ?_)
  · refine v_bipush E dX7_addTarget_19 (v := -3) (by decide) ?_
    exact v_iret E F dX7_addTarget_21 rfl rfl () (by simp only [r_X7_addTarget, if_pos c_6]) (by simp only [w_X7_addTarget_1, if_pos c_6] <;> rfl) (Nat.le_of_ble_eq_true rfl) (Nat.le_of_ble_eq_true rfl)
  · refine v_iload_n E dX7_addTarget_9 rfl ?_
    refine v_iconst E dX7_addTarget_10 (v := 1) (by decide) ?_
    refine v_bipush E dX7_addTarget_11 (v := 100) (by decide) ?_
    refine v_cS_i E dX7_addTarget_13 (c_X7_in D w 1 100) cs_X7_41 rfl rfl rfl (Nat.le_of_ble_eq_true rfl) [] rfl rfl ⟨Nat.le_of_ble_eq_true rfl, Nat.le_of_ble_eq_true rfl⟩ ?_
    refine v_if_ne E 22 dX7_addTarget_16 (by decide) (fun c_16 => ?_) (fun c_16 => ?_)
    · refine v_aload_n E dX7_addTarget_22 rfl ?_
      refine v_get E dX7_addTarget_23 (ci := 7) rfl iwX7 0 rfl 0 rfl fl_X7_7 rfl ?_
      refine v_iconst E dX7_addTarget_26 (v := 0) (by decide) ?_
      refine v_iald E dX7_addTarget_27 1 rfl 0 (show (0 : Int32) = nI 0 by decide) (by omega) rfl ?_
      refine v_bipush E dX7_addTarget_28 (v := 20) (by decide) ?_
      refine v_icmp_eq E 47 dX7_addTarget_30 (by decide) (fun c_30 => ?_) (fun c_30 => ?_)
      · refine v_bipush E dX7_addTarget_47 (v := -8) (by decide) ?_
        exact v_iret E F dX7_addTarget_49 rfl rfl () (by simp only [r_X7_addTarget, if_neg c_6, if_neg c_16, if_pos c_30]) (by simp only [w_X7_addTarget_1, if_neg c_6, if_neg c_16, if_pos c_30] <;> rfl) (Nat.le_of_ble_eq_true rfl) (Nat.le_of_ble_eq_true rfl)
      · refine v_iload_n E dX7_addTarget_33 rfl ?_
        refine v_iconst E dX7_addTarget_34 (v := 2) (by decide) ?_
        refine v_icmp_ne E 50 dX7_addTarget_35 (by decide) (fun c_35 => ?_) (fun c_35 => ?_)
        · refine v_aload_n E dX7_addTarget_50 rfl ?_
          refine v_get E dX7_addTarget_51 (ci := 7) rfl iwX7 0 rfl 0 rfl fl_X7_7 rfl ?_
          refine v_iconst E dX7_addTarget_54 (v := 0) (by decide) ?_
          refine v_iald E dX7_addTarget_55 1 rfl 0 (show (0 : Int32) = nI 0 by decide) (by omega) rfl ?_
          have hN2 : N < 20 := Nat.lt_of_le_of_ne hN (fun e => c_30 (by rw [h0, e]; rfl))
          refine v_istore_n E dX7_addTarget_56 rfl rfl ?_
          refine v_aload_n E dX7_addTarget_57 rfl ?_
          refine v_get E dX7_addTarget_58 (ci := 7) rfl iwX7 0 rfl 0 rfl fl_X7_7 rfl ?_
          refine v_iconst E dX7_addTarget_61 (v := 3) (by decide) ?_
          refine v_iload_n E dX7_addTarget_62 rfl ?_
          refine v_iadd E dX7_addTarget_63 ?_
          refine v_iload_n E dX7_addTarget_64 rfl ?_
          refine v_iast E dX7_addTarget_65 1 rfl (3 + N) (hadd (show (3 : Int32) = nI 3 by decide) h0) (by omega) rfl ?_
          refine v_wd (wd2 := [(q 0, .inr (7, [.ref (q 1), .ref (q 2), .ref (q 3), .ref (q 4), .ref (q 5), .ref (q 6), .ref (q 7), .ref (q 8), .ref (q 9), .ref (q 10)])), (q 1, aI D 703 (upd g (3 + N) kd))]) rfl ?_
          refine v_aload_n E dX7_addTarget_66 rfl ?_
          refine v_get E dX7_addTarget_67 (ci := 7) rfl iwX7 0 rfl 0 rfl fl_X7_7 rfl ?_
          refine v_bipush E dX7_addTarget_70 (v := 23) (by decide) ?_
          refine v_iload_n E dX7_addTarget_72 rfl ?_
          refine v_iadd E dX7_addTarget_73 ?_
          refine v_iload_n E dX7_addTarget_74 rfl ?_
          refine v_iast E dX7_addTarget_75 1 rfl (23 + N) (hadd (show (23 : Int32) = nI 23 by decide) h0) (by omega) rfl ?_
          refine v_wd (wd2 := [(q 0, .inr (7, [.ref (q 1), .ref (q 2), .ref (q 3), .ref (q 4), .ref (q 5), .ref (q 6), .ref (q 7), .ref (q 8), .ref (q 9), .ref (q 10)])), (q 1, aI D 703 (upd (upd g (3 + N) kd) (23 + N) w))]) rfl ?_
          refine v_aload_n E dX7_addTarget_76 rfl ?_
          refine v_get E dX7_addTarget_77 (ci := 7) rfl iwX7 0 rfl 0 rfl fl_X7_7 rfl ?_
          refine v_iconst E dX7_addTarget_80 (v := 0) (by decide) ?_
          refine v_dup2 E dX7_addTarget_81 rfl rfl ?_
          refine v_iald E dX7_addTarget_82 1 rfl 0 (show (0 : Int32) = nI 0 by decide) (by omega) rfl ?_
          refine v_iconst E dX7_addTarget_83 (v := 1) (by decide) ?_
          refine v_iadd E dX7_addTarget_84 ?_
          refine v_iast E dX7_addTarget_85 1 rfl 0 (show (0 : Int32) = nI 0 by decide) (by omega) rfl ?_
          refine v_wd (wd2 := [(q 0, .inr (7, [.ref (q 1), .ref (q 2), .ref (q 3), .ref (q 4), .ref (q 5), .ref (q 6), .ref (q 7), .ref (q 8), .ref (q 9), .ref (q 10)])), (q 1, aI D 703 (upd (upd (upd g (3 + N) kd) (23 + N) w) 0 (((upd (upd g (3 + N) kd) (23 + N) w) 0) + 1)))]) rfl ?_
          refine v_iload_n E dX7_addTarget_86 rfl ?_
          exact v_iret E F dX7_addTarget_87 rfl rfl () (by simp only [r_X7_addTarget, if_neg c_6, if_neg c_16, if_neg c_30, if_neg c_35]) (by simp only [w_X7_addTarget_1, if_neg c_6, if_neg c_16, if_neg c_30, if_neg c_35] <;> rfl) (Nat.le_of_ble_eq_true rfl) (Nat.le_of_ble_eq_true rfl)
        · refine v_aload_n E dX7_addTarget_38 rfl ?_
          refine v_cV_i E dX7_addTarget_39 (c_X7_tests D q g N h0 hN) cs_X7_49 rfl rfl rfl (Nat.le_of_ble_eq_true rfl) 0 rfl rfl [0, 1] rfl rfl ⟨Nat.le_of_ble_eq_true rfl, Nat.le_of_ble_eq_true rfl⟩ ?_
          refine v_bipush E dX7_addTarget_42 (v := 10) (by decide) ?_
          refine v_icmp_ne E 50 dX7_addTarget_44 (by decide) (fun c_44 => ?_) (fun c_44 => ?_)
          · refine v_aload_n E dX7_addTarget_50 rfl ?_
            refine v_get E dX7_addTarget_51 (ci := 7) rfl iwX7 0 rfl 0 rfl fl_X7_7 rfl ?_
            refine v_iconst E dX7_addTarget_54 (v := 0) (by decide) ?_
            refine v_iald E dX7_addTarget_55 1 rfl 0 (show (0 : Int32) = nI 0 by decide) (by omega) rfl ?_
            have hN2 : N < 20 := Nat.lt_of_le_of_ne hN (fun e => c_30 (by rw [h0, e]; rfl))
            refine v_istore_n E dX7_addTarget_56 rfl rfl ?_
            refine v_aload_n E dX7_addTarget_57 rfl ?_
            refine v_get E dX7_addTarget_58 (ci := 7) rfl iwX7 0 rfl 0 rfl fl_X7_7 rfl ?_
            refine v_iconst E dX7_addTarget_61 (v := 3) (by decide) ?_
            refine v_iload_n E dX7_addTarget_62 rfl ?_
            refine v_iadd E dX7_addTarget_63 ?_
            refine v_iload_n E dX7_addTarget_64 rfl ?_
            refine v_iast E dX7_addTarget_65 1 rfl (3 + N) (hadd (show (3 : Int32) = nI 3 by decide) h0) (by omega) rfl ?_
            refine v_wd (wd2 := [(q 0, .inr (7, [.ref (q 1), .ref (q 2), .ref (q 3), .ref (q 4), .ref (q 5), .ref (q 6), .ref (q 7), .ref (q 8), .ref (q 9), .ref (q 10)])), (q 1, aI D 703 (upd g (3 + N) kd))]) rfl ?_
            refine v_aload_n E dX7_addTarget_66 rfl ?_
            refine v_get E dX7_addTarget_67 (ci := 7) rfl iwX7 0 rfl 0 rfl fl_X7_7 rfl ?_
            refine v_bipush E dX7_addTarget_70 (v := 23) (by decide) ?_
            refine v_iload_n E dX7_addTarget_72 rfl ?_
            refine v_iadd E dX7_addTarget_73 ?_
            refine v_iload_n E dX7_addTarget_74 rfl ?_
            refine v_iast E dX7_addTarget_75 1 rfl (23 + N) (hadd (show (23 : Int32) = nI 23 by decide) h0) (by omega) rfl ?_
            refine v_wd (wd2 := [(q 0, .inr (7, [.ref (q 1), .ref (q 2), .ref (q 3), .ref (q 4), .ref (q 5), .ref (q 6), .ref (q 7), .ref (q 8), .ref (q 9), .ref (q 10)])), (q 1, aI D 703 (upd (upd g (3 + N) kd) (23 + N) w))]) rfl ?_
            refine v_aload_n E dX7_addTarget_76 rfl ?_
            refine v_get E dX7_addTarget_77 (ci := 7) rfl iwX7 0 rfl 0 rfl fl_X7_7 rfl ?_
            refine v_iconst E dX7_addTarget_80 (v := 0) (by decide) ?_
            refine v_dup2 E dX7_addTarget_81 rfl rfl ?_
            refine v_iald E dX7_addTarget_82 1 rfl 0 (show (0 : Int32) = nI 0 by decide) (by omega) rfl ?_
            refine v_iconst E dX7_addTarget_83 (v := 1) (by decide) ?_
            refine v_iadd E dX7_addTarget_84 ?_
            refine v_iast E dX7_addTarget_85 1 rfl 0 (show (0 : Int32) = nI 0 by decide) (by omega) rfl ?_
            refine v_wd (wd2 := [(q 0, .inr (7, [.ref (q 1), .ref (q 2), .ref (q 3), .ref (q 4), .ref (q 5), .ref (q 6), .ref (q 7), .ref (q 8), .ref (q 9), .ref (q 10)])), (q 1, aI D 703 (upd (upd (upd g (3 + N) kd) (23 + N) w) 0 (((upd (upd g (3 + N) kd) (23 + N) w) 0) + 1)))]) rfl ?_
            refine v_iload_n E dX7_addTarget_86 rfl ?_
            exact v_iret E F dX7_addTarget_87 rfl rfl () (by simp only [r_X7_addTarget, if_neg c_6, if_neg c_16, if_neg c_30, if_pos c_35, if_neg c_44]) (by simp only [w_X7_addTarget_1, if_neg c_6, if_neg c_16, if_neg c_30, if_pos c_35, if_neg c_44] <;> rfl) (Nat.le_of_ble_eq_true rfl) (Nat.le_of_ble_eq_true rfl)
          · refine v_bipush E dX7_addTarget_47 (v := -8) (by decide) ?_
            exact v_iret E F dX7_addTarget_49 rfl rfl () (by simp only [r_X7_addTarget, if_neg c_6, if_neg c_16, if_neg c_30, if_pos c_35, if_pos c_44]) (by simp only [w_X7_addTarget_1, if_neg c_6, if_neg c_16, if_neg c_30, if_pos c_35, if_pos c_44] <;> rfl) (Nat.le_of_ble_eq_true rfl) (Nat.le_of_ble_eq_true rfl)
    · refine v_bipush E dX7_addTarget_19 (v := -3) (by decide) ?_
      exact v_iret E F dX7_addTarget_21 rfl rfl () (by simp only [r_X7_addTarget, if_neg c_6, if_pos c_16]) (by simp only [w_X7_addTarget_1, if_neg c_6, if_pos c_16] <;> rfl) (Nat.le_of_ble_eq_true rfl) (Nat.le_of_ble_eq_true rfl)

def r_X7_targetCount (g : Nat → Int32) : Int32 := g 0
set_option maxRecDepth 20000 in
/-- X7_targetCount -/
theorem c_X7_targetCount (D : va_G) (q : Nat → Nat) (g : Nat → Int32) (l : Launch) : Ct l yX7_targetCount cX7_targetCount 1 (some .int) (rmM 0 0 0 0) D [.ref (q 0)] [(q 0, .inr (7, [.ref (q 1), .ref (q 2), .ref (q 3), .ref (q 4), .ref (q 5), .ref (q 6), .ref (q 7), .ref (q 8), .ref (q 9), .ref (q 10)])), (q 1, aI D 703 g)] (QI1 D (r_X7_targetCount g) [(q 0, .inr (7, [.ref (q 1), .ref (q 2), .ref (q 3), .ref (q 4), .ref (q 5), .ref (q 6), .ref (q 7), .ref (q 8), .ref (q 9), .ref (q 10)])), (q 1, aI D 703 g)]) := by
  refine Ct.ofV 0 (lv0 := [some (.ref (q 0))]) (by decide) rfl rfl (fun Z E F => ?_)
  refine v_aload_n E dX7_targetCount_0 rfl ?_
  refine v_get E dX7_targetCount_1 (ci := 7) rfl iwX7 0 rfl 0 rfl fl_X7_7 rfl ?_
  refine v_iconst E dX7_targetCount_4 (v := 0) (by decide) ?_
  refine v_iald E dX7_targetCount_5 1 rfl 0 (show (0 : Int32) = nI 0 by decide) (by omega) rfl ?_
  exact v_iret E F dX7_targetCount_6 rfl rfl () rfl rfl (Nat.le_of_ble_eq_true rfl) (Nat.le_of_ble_eq_true rfl)

def r_X7_at (f : Int32) : Int32 := 443 + (3 * f)
set_option maxRecDepth 20000 in
/-- X7_at -/
theorem c_X7_at (D : va_G) (f : Int32) (l : Launch) : Ct l yX7_at cX7_at 1 (some .int) (rmM 0 0 0 0) D [.int f] [] (QI1 D (r_X7_at f) []) := by
  refine Ct.ofV 0 (lv0 := [some (.int f)]) (by decide) rfl rfl (fun Z E F => ?_)
  refine v_sipush E dX7_at_0 (v := 443) (by decide) ?_
  refine v_iconst E dX7_at_3 (v := 3) (by decide) ?_
  refine v_iload_n E dX7_at_4 rfl ?_
  refine v_imul E dX7_at_5 ?_
  refine v_iadd E dX7_at_6 ?_
  exact v_iret E F dX7_at_7 rfl rfl () rfl rfl (Nat.le_of_ble_eq_true rfl) (Nat.le_of_ble_eq_true rfl)

theorem at_nat {f : Int32} {k : Nat} (h : f = nI k) : r_X7_at f = nI (443 + 3 * k) := hadd (show (443 : Int32) = nI 443 by decide) (hmul (show (3 : Int32) = nI 3 by decide) h)
def r_X7_isFile (g : Nat → Int32) (f : Int32) : Int32 := if (r_X7_in f 0 ((g 2) - 1)) = 0 then 0 else if (g (443 + 3 * f.toNatClampNeg)) < 0 then 0 else 1
set_option maxRecDepth 20000 in
/-- X7_isFile -/
theorem c_X7_isFile (D : va_G) (q : Nat → Nat) (g : Nat → Int32) (f : Int32) (F0 : Nat) (h2 : g 2 = nI F0) (hF : F0 ≤ 40) (l : Launch) : Ct l yX7_isFile cX7_isFile 2 (some .boolean) (rmM 1 22 0 0) D [.ref (q 0), .int f] [(q 0, .inr (7, [.ref (q 1), .ref (q 2), .ref (q 3), .ref (q 4), .ref (q 5), .ref (q 6), .ref (q 7), .ref (q 8), .ref (q 9), .ref (q 10)])), (q 1, aI D 703 g)] (QI1 D (r_X7_isFile g f) [(q 0, .inr (7, [.ref (q 1), .ref (q 2), .ref (q 3), .ref (q 4), .ref (q 5), .ref (q 6), .ref (q 7), .ref (q 8), .ref (q 9), .ref (q 10)])), (q 1, aI D 703 g)]) := by
  refine Ct.ofV 0 (lv0 := [some (.ref (q 0)), some (.int f)]) (by decide) rfl rfl (fun Z E F => ?_)
  refine v_iload_n E dX7_isFile_0 rfl ?_
  refine v_iconst E dX7_isFile_1 (v := 0) (by decide) ?_
  refine v_aload_n E dX7_isFile_2 rfl ?_
  refine v_get E dX7_isFile_3 (ci := 7) rfl iwX7 0 rfl 0 rfl fl_X7_7 rfl ?_
  refine v_iconst E dX7_isFile_6 (v := 2) (by decide) ?_
  refine v_iald E dX7_isFile_7 1 rfl 2 (show (2 : Int32) = nI 2 by decide) (by omega) rfl ?_
  refine v_iconst E dX7_isFile_8 (v := 1) (by decide) ?_
  refine v_isub E dX7_isFile_9 ?_
  refine v_cS_i E dX7_isFile_10 (c_X7_in D f 0 ((g 2) - 1)) cs_X7_41 rfl rfl rfl (Nat.le_of_ble_eq_true rfl) [] rfl rfl ⟨Nat.le_of_ble_eq_true rfl, Nat.le_of_ble_eq_true rfl⟩ ?_
  refine v_if_eq E 32 dX7_isFile_13 (by decide) (fun c_13 => ?_) (fun c_13 => ?_)
  · refine v_iconst E dX7_isFile_32 (v := 0) (by decide) ?_
    exact v_iret E F dX7_isFile_33 rfl rfl () (by simp only [r_X7_isFile, if_pos c_13]) rfl (Nat.le_of_ble_eq_true rfl) (Nat.le_of_ble_eq_true rfl)
  · obtain ⟨hf1, hf2⟩ := in_use (F := F0) (v := f) (by omega) (h2 ▸ c_13)
    refine v_aload_n E dX7_isFile_16 rfl ?_
    refine v_get E dX7_isFile_17 (ci := 7) rfl iwX7 0 rfl 0 rfl fl_X7_7 rfl ?_
    refine v_iload_n E dX7_isFile_20 rfl ?_
    refine v_cS_i E dX7_isFile_21 (c_X7_at D f) cs_X7_64 rfl rfl rfl (Nat.le_of_ble_eq_true rfl) [] rfl rfl ⟨Nat.le_of_ble_eq_true rfl, Nat.le_of_ble_eq_true rfl⟩ ?_
    refine v_iald E dX7_isFile_24 1 rfl (443 + 3 * f.toNatClampNeg) (at_nat hf1) (by omega) rfl ?_
    refine v_if_lt E 32 dX7_isFile_25 (by decide) (fun c_25 => ?_) (fun c_25 => ?_)
    · refine v_iconst E dX7_isFile_32 (v := 0) (by decide) ?_
      exact v_iret E F dX7_isFile_33 rfl rfl () (by simp only [r_X7_isFile, if_neg c_13, if_pos c_25]) rfl (Nat.le_of_ble_eq_true rfl) (Nat.le_of_ble_eq_true rfl)
    · refine v_iconst E dX7_isFile_28 (v := 1) (by decide) ?_
      refine v_goto E 33 dX7_isFile_29 (by decide) ?_
      exact v_iret E F dX7_isFile_33 rfl rfl () (by simp only [r_X7_isFile, if_neg c_13, if_neg c_25]) rfl (Nat.le_of_ble_eq_true rfl) (Nat.le_of_ble_eq_true rfl)
theorem nz_X7_isFile (g : Nat → Int32) (f : Int32) : narrow .boolean (.int (r_X7_isFile g f)) = .int (r_X7_isFile g f) := by
  unfold r_X7_isFile
  repeat' split
  all_goals first | rfl 

theorem isF_use {g : Nat → Int32} {F0 : Nat} {f : Int32} (h2 : g 2 = nI F0) (hF : F0 ≤ 40) (h : ¬ r_X7_isFile g f = 0) : f = nI f.toNatClampNeg ∧ f.toNatClampNeg < F0 ∧ ¬ g (443 + 3 * f.toNatClampNeg) < 0 := by
  unfold r_X7_isFile at h
  by_cases h1 : r_X7_in f 0 (g 2 - 1) = 0
  · rw [if_pos h1] at h; exact absurd rfl h
  rw [if_neg h1] at h
  obtain ⟨a1, a2⟩ := in_use (F := F0) (v := f) (by omega) (h2 ▸ h1)
  refine ⟨a1, a2, fun q => ?_⟩
  rw [if_pos q] at h
  exact absurd rfl h
theorem foldN_inv {σ : Type} {f : Nat → σ → σ} {P : σ → Prop} (h : ∀ i a, P a → P (f i a)) : ∀ (n i : Nat) (a : σ), P a → P (foldN f n i a)
  | 0, _, _, ha => ha
  | n + 1, i, a, ha => foldN_inv h n (i + 1) (f i a) (h i a ha)
theorem nz_of {x : Int32} (h : x = 0 ∨ x = 1) : narrow .boolean (.int x) = .int x := by rcases h with rfl | rfl <;> rfl
def s_X7_isNamed_4 (g : Nat → Int32) (nm : Int32) (i : Nat) (is : Int32) : Int32 := if is = 0 then (if (r_X7_isFile g (nI i)) = 0 then 0 else if (g ((443 + 3 * i) + 2)) = nm then 1 else 0) else 1
def r_X7_isNamed (g : Nat → Int32) (nm : Int32) (F0 : Nat) : Int32 := (foldN (s_X7_isNamed_4 g nm) F0 0 0)
theorem b_X7_isNamed (g : Nat → Int32) (nm : Int32) (F0 : Nat) : r_X7_isNamed g nm F0 = 0 ∨ r_X7_isNamed g nm F0 = 1 := by
  unfold r_X7_isNamed
  refine foldN_inv (P := fun x => x = 0 ∨ x = 1) (fun i a _ => ?_) _ _ _ (Or.inl rfl)
  unfold s_X7_isNamed_4
  repeat' split
  all_goals first | exact Or.inl rfl | exact Or.inr rfl
theorem nz_X7_isNamed (g : Nat → Int32) (nm : Int32) (F0 : Nat) : narrow .boolean (.int (r_X7_isNamed g nm F0)) = .int (r_X7_isNamed g nm F0) := nz_of (b_X7_isNamed g nm F0)
set_option maxRecDepth 20000 in
/-- X7_isNamed -/
theorem c_X7_isNamed (D : va_G) (q : Nat → Nat) (g : Nat → Int32) (nm : Int32) (F0 : Nat) (h2 : g 2 = nI F0) (hF : F0 ≤ 40) (l : Launch) : Ct l yX7_isNamed cX7_isNamed 4 (some .boolean) (rmM 2 43 0 0) D [.ref (q 0), .int nm] [(q 0, .inr (7, [.ref (q 1), .ref (q 2), .ref (q 3), .ref (q 4), .ref (q 5), .ref (q 6), .ref (q 7), .ref (q 8), .ref (q 9), .ref (q 10)])), (q 1, aI D 703 g)] (QI1 D (r_X7_isNamed g nm F0) [(q 0, .inr (7, [.ref (q 1), .ref (q 2), .ref (q 3), .ref (q 4), .ref (q 5), .ref (q 6), .ref (q 7), .ref (q 8), .ref (q 9), .ref (q 10)])), (q 1, aI D 703 g)]) := by
  refine Ct.ofV 2 (lv0 := [some (.ref (q 0)), some (.int nm), none, none]) (by decide) rfl rfl (fun Z E F => ?_)
  refine v_iconst E dX7_isNamed_0 (v := 0) (by decide) ?_
  refine v_istore_n E dX7_isNamed_1 rfl rfl ?_
  refine v_iconst E dX7_isNamed_2 (v := 0) (by decide) ?_
  refine v_istore_n E dX7_isNamed_3 rfl rfl ?_
  have L4 : ∀ (n i : Nat) (is : Int32), i + n = F0 → V Z D 0 0 [(q 0, .inr (7, [.ref (q 1), .ref (q 2), .ref (q 3), .ref (q 4), .ref (q 5), .ref (q 6), .ref (q 7), .ref (q 8), .ref (q 9), .ref (q 10)])), (q 1, aI D 703 g)] [some (.ref (q 0)), some (.int nm), some (.int (foldN (s_X7_isNamed_4 g nm) n i is)), some (.int (nI F0))] [] 53 → V Z D 0 0 [(q 0, .inr (7, [.ref (q 1), .ref (q 2), .ref (q 3), .ref (q 4), .ref (q 5), .ref (q 6), .ref (q 7), .ref (q 8), .ref (q 9), .ref (q 10)])), (q 1, aI D 703 g)] [some (.ref (q 0)), some (.int nm), some (.int is), some (.int (nI i))] [] 4 := by
    intro n
    induction n with
    | zero =>
      intro i is hi  K4
      have hiN : i = F0 := by omega
      rw [hiN]
      refine v_iload_n E dX7_isNamed_4 rfl ?_
      refine v_aload_n E dX7_isNamed_5 rfl ?_
      refine v_get E dX7_isNamed_6 (ci := 7) rfl iwX7 0 rfl 0 rfl fl_X7_7 rfl ?_
      refine v_iconst E dX7_isNamed_9 (v := 2) (by decide) ?_
      refine v_iald E dX7_isNamed_10 1 rfl 2 (show (2 : Int32) = nI 2 by decide) (by omega) rfl ?_
      refine v_icmp_ge E 53 dX7_isNamed_11 (by decide) (fun c_11 => ?_) (fun c_11 => ?_)
      · exact K4
      · exact absurd (leN (a := F0) (b := F0) h2 rfl (by omega) (by omega)) c_11
    | succ n ih =>
      intro i is hi  K4
      refine v_iload_n E dX7_isNamed_4 rfl ?_
      refine v_aload_n E dX7_isNamed_5 rfl ?_
      refine v_get E dX7_isNamed_6 (ci := 7) rfl iwX7 0 rfl 0 rfl fl_X7_7 rfl ?_
      refine v_iconst E dX7_isNamed_9 (v := 2) (by decide) ?_
      refine v_iald E dX7_isNamed_10 1 rfl 2 (show (2 : Int32) = nI 2 by decide) (by omega) rfl ?_
      refine v_icmp_ge E 53 dX7_isNamed_11 (by decide) (fun c_11 => ?_) (fun c_11 => ?_)
      · exact absurd c_11 (nleN (a := F0) (b := i) h2 rfl (by omega) (by omega))
      · refine v_iload_n E dX7_isNamed_14 rfl ?_
        refine v_if_ne E 41 dX7_isNamed_15 (by decide) (fun c_15 => ?_) (fun c_15 => ?_)
        · refine v_iconst E dX7_isNamed_41 (v := 1) (by decide) ?_
          refine v_goto E 46 dX7_isNamed_42 (by decide) ?_
          refine v_istore_n E dX7_isNamed_46 rfl rfl ?_
          refine v_iinc E dX7_isNamed_47 (v := nI (i + 1)) rfl (inc1 _) rfl rfl ?_
          refine v_goto E 4 dX7_isNamed_50 (by decide) ?_
          have hs : s_X7_isNamed_4 g nm i is = 1 := by simp only [s_X7_isNamed_4, if_neg c_15]
          rw [foldN_s (s_X7_isNamed_4 g nm) n i is, hs] at K4
          exact ih (i + 1) 1 (by omega) K4
        · refine v_aload_n E dX7_isNamed_18 rfl ?_
          refine v_iload_n E dX7_isNamed_19 rfl ?_
          refine v_cV_i E dX7_isNamed_20 (c_X7_isFile D q g (nI i) F0 h2 hF) cs_X7_67 rfl rfl rfl (Nat.le_of_ble_eq_true rfl) 0 rfl rfl [0, 1] rfl rfl ⟨Nat.le_of_ble_eq_true rfl, Nat.le_of_ble_eq_true rfl⟩ ?_
          refine v_if_eq E 45 dX7_isNamed_23 (by decide) (fun c_23 => ?_) (fun c_23 => ?_)
          · refine v_iconst E dX7_isNamed_45 (v := 0) (by decide) ?_
            refine v_istore_n E dX7_isNamed_46 rfl rfl ?_
            refine v_iinc E dX7_isNamed_47 (v := nI (i + 1)) rfl (inc1 _) rfl rfl ?_
            refine v_goto E 4 dX7_isNamed_50 (by decide) ?_
            have hs : s_X7_isNamed_4 g nm i is = 0 := by simp only [s_X7_isNamed_4, if_pos c_15, if_pos c_23]
            rw [foldN_s (s_X7_isNamed_4 g nm) n i is, hs] at K4
            exact ih (i + 1) 0 (by omega) K4
          · refine v_aload_n E dX7_isNamed_26 rfl ?_
            refine v_get E dX7_isNamed_27 (ci := 7) rfl iwX7 0 rfl 0 rfl fl_X7_7 rfl ?_
            refine v_iload_n E dX7_isNamed_30 rfl ?_
            refine v_cS_i E dX7_isNamed_31 (c_X7_at D (nI i)) cs_X7_64 rfl rfl rfl (Nat.le_of_ble_eq_true rfl) [] rfl rfl ⟨Nat.le_of_ble_eq_true rfl, Nat.le_of_ble_eq_true rfl⟩ ?_
            refine v_iconst E dX7_isNamed_34 (v := 2) (by decide) ?_
            refine v_iadd E dX7_isNamed_35 ?_
            refine v_iald E dX7_isNamed_36 1 rfl ((443 + 3 * i) + 2) (hadd (at_nat rfl) (show (2 : Int32) = nI 2 by decide)) (by omega) rfl ?_
            refine v_iload_n E dX7_isNamed_37 rfl ?_
            refine v_icmp_ne E 45 dX7_isNamed_38 (by decide) (fun c_38 => ?_) (fun c_38 => ?_)
            · refine v_iconst E dX7_isNamed_45 (v := 0) (by decide) ?_
              refine v_istore_n E dX7_isNamed_46 rfl rfl ?_
              refine v_iinc E dX7_isNamed_47 (v := nI (i + 1)) rfl (inc1 _) rfl rfl ?_
              refine v_goto E 4 dX7_isNamed_50 (by decide) ?_
              have hs : s_X7_isNamed_4 g nm i is = 0 := by simp only [s_X7_isNamed_4, if_pos c_15, if_neg c_23, if_neg c_38]
              rw [foldN_s (s_X7_isNamed_4 g nm) n i is, hs] at K4
              exact ih (i + 1) 0 (by omega) K4
            · refine v_iconst E dX7_isNamed_41 (v := 1) (by decide) ?_
              refine v_goto E 46 dX7_isNamed_42 (by decide) ?_
              refine v_istore_n E dX7_isNamed_46 rfl rfl ?_
              refine v_iinc E dX7_isNamed_47 (v := nI (i + 1)) rfl (inc1 _) rfl rfl ?_
              refine v_goto E 4 dX7_isNamed_50 (by decide) ?_
              have hs : s_X7_isNamed_4 g nm i is = 1 := by simp only [s_X7_isNamed_4, if_pos c_15, if_neg c_23, if_pos c_38]
              rw [foldN_s (s_X7_isNamed_4 g nm) n i is, hs] at K4
              exact ih (i + 1) 1 (by omega) K4
  refine L4 F0 0 0 (by omega)  ?_
  refine v_iload_n E dX7_isNamed_53 rfl ?_
  exact v_iret E F dX7_isNamed_54 rfl (nz_X7_isNamed _ _ _) () rfl rfl (Nat.le_of_ble_eq_true rfl) (Nat.le_of_ble_eq_true rfl)

def w_X7_touch_1 (g : Nat → Int32) (kt : Nat) (kf : Nat) : Nat → Int32 := if (g ((443 + 3 * kf) + 1)) = 1 then upd g ((663 + (2 * kt)) + 0) 1 else upd g ((663 + (2 * kt)) + 1) 1
set_option maxRecDepth 20000 in
/-- X7_touch -/
theorem c_X7_touch (D : va_G) (q : Nat → Nat) (g : Nat → Int32) (t : Int32) (f : Int32) (kt : Nat) (kf : Nat) (ht : t = nI kt) (hf : f = nI kf) (hkt : kt < 20) (hkf : kf < 40) (l : Launch) : Ct l yX7_touch cX7_touch 4 none (rmM 1 20 0 0) D [.ref (q 0), .int t, .int f] [(q 0, .inr (7, [.ref (q 1), .ref (q 2), .ref (q 3), .ref (q 4), .ref (q 5), .ref (q 6), .ref (q 7), .ref (q 8), .ref (q 9), .ref (q 10)])), (q 1, aI D 703 g)] (QV1 D [(q 0, .inr (7, [.ref (q 1), .ref (q 2), .ref (q 3), .ref (q 4), .ref (q 5), .ref (q 6), .ref (q 7), .ref (q 8), .ref (q 9), .ref (q 10)])), (q 1, aI D 703 (w_X7_touch_1 g kt kf))]) := by
  refine Ct.ofV 1 (lv0 := [some (.ref (q 0)), some (.int t), some (.int f), none]) (by decide) rfl rfl (fun Z E F => ?_)
  refine v_aload_n E dX7_touch_0 rfl ?_
  refine v_get E dX7_touch_1 (ci := 7) rfl iwX7 0 rfl 0 rfl fl_X7_7 rfl ?_
  refine v_iload_n E dX7_touch_4 rfl ?_
  refine v_cS_i E dX7_touch_5 (c_X7_at D f) cs_X7_64 rfl rfl rfl (Nat.le_of_ble_eq_true rfl) [] rfl rfl ⟨Nat.le_of_ble_eq_true rfl, Nat.le_of_ble_eq_true rfl⟩ ?_
  refine v_iconst E dX7_touch_8 (v := 1) (by decide) ?_
  refine v_iadd E dX7_touch_9 ?_
  refine v_iald E dX7_touch_10 1 rfl ((443 + 3 * kf) + 1) (hadd (at_nat hf) (show (1 : Int32) = nI 1 by decide)) (by omega) rfl ?_
  refine v_iconst E dX7_touch_11 (v := 1) (by decide) ?_
  refine v_icmp_ne E 19 dX7_touch_12 (by decide) (fun c_12 => ?_) (fun c_12 => ?_)
  · refine v_iconst E dX7_touch_19 (v := 1) (by decide) ?_
    refine v_istore_n E dX7_touch_20 rfl rfl ?_
    refine v_aload_n E dX7_touch_21 rfl ?_
    refine v_get E dX7_touch_22 (ci := 7) rfl iwX7 0 rfl 0 rfl fl_X7_7 rfl ?_
    refine v_sipush E dX7_touch_25 (v := 663) (by decide) ?_
    refine v_iconst E dX7_touch_28 (v := 2) (by decide) ?_
    refine v_iload_n E dX7_touch_29 rfl ?_
    refine v_imul E dX7_touch_30 ?_
    refine v_iadd E dX7_touch_31 ?_
    refine v_iload_n E dX7_touch_32 rfl ?_
    refine v_iadd E dX7_touch_33 ?_
    refine v_iconst E dX7_touch_34 (v := 1) (by decide) ?_
    refine v_iast E dX7_touch_35 1 rfl ((663 + (2 * kt)) + 1) (hadd (hadd (show (663 : Int32) = nI 663 by decide) (hmul (show (2 : Int32) = nI 2 by decide) ht)) (show (1 : Int32) = nI 1 by decide)) (by omega) rfl ?_
    refine v_wd (wd2 := [(q 0, .inr (7, [.ref (q 1), .ref (q 2), .ref (q 3), .ref (q 4), .ref (q 5), .ref (q 6), .ref (q 7), .ref (q 8), .ref (q 9), .ref (q 10)])), (q 1, aI D 703 (upd g ((663 + (2 * kt)) + 1) 1))]) rfl ?_
    exact v_vret E F dX7_touch_36 rfl () trivial (by simp only [w_X7_touch_1, if_neg c_12] <;> rfl) (Nat.le_of_ble_eq_true rfl) (Nat.le_of_ble_eq_true rfl)
  · refine v_iconst E dX7_touch_15 (v := 0) (by decide) ?_
    refine v_goto E 20 dX7_touch_16 (by decide) ?_
    refine v_istore_n E dX7_touch_20 rfl rfl ?_
    refine v_aload_n E dX7_touch_21 rfl ?_
    refine v_get E dX7_touch_22 (ci := 7) rfl iwX7 0 rfl 0 rfl fl_X7_7 rfl ?_
    refine v_sipush E dX7_touch_25 (v := 663) (by decide) ?_
    refine v_iconst E dX7_touch_28 (v := 2) (by decide) ?_
    refine v_iload_n E dX7_touch_29 rfl ?_
    refine v_imul E dX7_touch_30 ?_
    refine v_iadd E dX7_touch_31 ?_
    refine v_iload_n E dX7_touch_32 rfl ?_
    refine v_iadd E dX7_touch_33 ?_
    refine v_iconst E dX7_touch_34 (v := 1) (by decide) ?_
    refine v_iast E dX7_touch_35 1 rfl ((663 + (2 * kt)) + 0) (hadd (hadd (show (663 : Int32) = nI 663 by decide) (hmul (show (2 : Int32) = nI 2 by decide) ht)) (show (0 : Int32) = nI 0 by decide)) (by omega) rfl ?_
    refine v_wd (wd2 := [(q 0, .inr (7, [.ref (q 1), .ref (q 2), .ref (q 3), .ref (q 4), .ref (q 5), .ref (q 6), .ref (q 7), .ref (q 8), .ref (q 9), .ref (q 10)])), (q 1, aI D 703 (upd g ((663 + (2 * kt)) + 0) 1))]) rfl ?_
    exact v_vret E F dX7_touch_36 rfl () trivial (by simp only [w_X7_touch_1, if_pos c_12] <;> rfl) (Nat.le_of_ble_eq_true rfl) (Nat.le_of_ble_eq_true rfl)

def w_X7_giveName_1 (g : Nat → Int32) (f : Int32) (nm : Int32) (kf : Nat) (kn : Nat) : Nat → Int32 := upd (upd g ((443 + 3 * kf) + 2) nm) (563 + kn) (f + 1)
set_option maxRecDepth 20000 in
/-- X7_giveName -/
theorem c_X7_giveName (D : va_G) (q : Nat → Nat) (g : Nat → Int32) (f : Int32) (nm : Int32) (kf : Nat) (kn : Nat) (hf : f = nI kf) (hnm : nm = nI kn) (hkf : kf < 40) (hkn : kn < 100) (l : Launch) : Ct l yX7_giveName cX7_giveName 3 none (rmM 1 20 0 0) D [.ref (q 0), .int f, .int nm] [(q 0, .inr (7, [.ref (q 1), .ref (q 2), .ref (q 3), .ref (q 4), .ref (q 5), .ref (q 6), .ref (q 7), .ref (q 8), .ref (q 9), .ref (q 10)])), (q 1, aI D 703 g)] (QV1 D [(q 0, .inr (7, [.ref (q 1), .ref (q 2), .ref (q 3), .ref (q 4), .ref (q 5), .ref (q 6), .ref (q 7), .ref (q 8), .ref (q 9), .ref (q 10)])), (q 1, aI D 703 (w_X7_giveName_1 g f nm kf kn))]) := by
  refine Ct.ofV 0 (lv0 := [some (.ref (q 0)), some (.int f), some (.int nm)]) (by decide) rfl rfl (fun Z E F => ?_)
  refine v_aload_n E dX7_giveName_0 rfl ?_
  refine v_get E dX7_giveName_1 (ci := 7) rfl iwX7 0 rfl 0 rfl fl_X7_7 rfl ?_
  refine v_iload_n E dX7_giveName_4 rfl ?_
  refine v_cS_i E dX7_giveName_5 (c_X7_at D f) cs_X7_64 rfl rfl rfl (Nat.le_of_ble_eq_true rfl) [] rfl rfl ⟨Nat.le_of_ble_eq_true rfl, Nat.le_of_ble_eq_true rfl⟩ ?_
  refine v_iconst E dX7_giveName_8 (v := 2) (by decide) ?_
  refine v_iadd E dX7_giveName_9 ?_
  refine v_iload_n E dX7_giveName_10 rfl ?_
  refine v_iast E dX7_giveName_11 1 rfl ((443 + 3 * kf) + 2) (hadd (at_nat hf) (show (2 : Int32) = nI 2 by decide)) (by omega) rfl ?_
  refine v_wd (wd2 := [(q 0, .inr (7, [.ref (q 1), .ref (q 2), .ref (q 3), .ref (q 4), .ref (q 5), .ref (q 6), .ref (q 7), .ref (q 8), .ref (q 9), .ref (q 10)])), (q 1, aI D 703 (upd g ((443 + 3 * kf) + 2) nm))]) rfl ?_
  refine v_aload_n E dX7_giveName_12 rfl ?_
  refine v_get E dX7_giveName_13 (ci := 7) rfl iwX7 0 rfl 0 rfl fl_X7_7 rfl ?_
  refine v_sipush E dX7_giveName_16 (v := 563) (by decide) ?_
  refine v_iload_n E dX7_giveName_19 rfl ?_
  refine v_iadd E dX7_giveName_20 ?_
  refine v_iload_n E dX7_giveName_21 rfl ?_
  refine v_iconst E dX7_giveName_22 (v := 1) (by decide) ?_
  refine v_iadd E dX7_giveName_23 ?_
  refine v_iast E dX7_giveName_24 1 rfl (563 + kn) (hadd (show (563 : Int32) = nI 563 by decide) hnm) (by omega) rfl ?_
  refine v_wd (wd2 := [(q 0, .inr (7, [.ref (q 1), .ref (q 2), .ref (q 3), .ref (q 4), .ref (q 5), .ref (q 6), .ref (q 7), .ref (q 8), .ref (q 9), .ref (q 10)])), (q 1, aI D 703 (upd (upd g ((443 + 3 * kf) + 2) nm) (563 + kn) (f + 1)))]) rfl ?_
  exact v_vret E F dX7_giveName_25 rfl () trivial rfl (Nat.le_of_ble_eq_true rfl) (Nat.le_of_ble_eq_true rfl)

def r_X7_addFile (g : Nat → Int32) (t : Int32) (nm : Int32) (F0 : Nat) : Int32 := if (r_X7_isTarget g t) = 0 then (-1) else if (r_X7_in nm 0 99) = 0 then (-3) else if (r_X7_isNamed g nm F0) = 0 then (if (g 2) = 40 then (-8) else g 2) else (-9)
def w_X7_addFile_1 (g : Nat → Int32) (t : Int32) (hd : Int32) (nm : Int32) (F0 : Nat) : Nat → Int32 := if (r_X7_isTarget g t) = 0 then g else if (r_X7_in nm 0 99) = 0 then g else if (r_X7_isNamed g nm F0) = 0 then (if (g 2) = 40 then g else if hd = 0 then (w_X7_touch_1 (w_X7_giveName_1 (upd (upd (upd g 2 ((g 2) + 1)) (443 + 3 * F0) t) ((443 + 3 * F0) + 1) 0) (g 2) nm F0 nm.toNatClampNeg) t.toNatClampNeg F0) else (w_X7_touch_1 (w_X7_giveName_1 (upd (upd (upd g 2 ((g 2) + 1)) (443 + 3 * F0) t) ((443 + 3 * F0) + 1) 1) (g 2) nm F0 nm.toNatClampNeg) t.toNatClampNeg F0)) else g
set_option maxRecDepth 20000 in
/-- X7_addFile -/
theorem c_X7_addFile (D : va_G) (q : Nat → Nat) (g : Nat → Int32) (t : Int32) (hd : Int32) (nm : Int32) (N : Nat) (F0 : Nat) (h0 : g 0 = nI N) (hN : N ≤ 20) (h2 : g 2 = nI F0) (hF : F0 ≤ 40) (l : Launch) : Ct l yX7_addFile cX7_addFile 5 (some .int) (rmM 3 66 0 0) D [.ref (q 0), .int t, .int hd, .int nm] [(q 0, .inr (7, [.ref (q 1), .ref (q 2), .ref (q 3), .ref (q 4), .ref (q 5), .ref (q 6), .ref (q 7), .ref (q 8), .ref (q 9), .ref (q 10)])), (q 1, aI D 703 g)] (QI1 D (r_X7_addFile g t nm F0) [(q 0, .inr (7, [.ref (q 1), .ref (q 2), .ref (q 3), .ref (q 4), .ref (q 5), .ref (q 6), .ref (q 7), .ref (q 8), .ref (q 9), .ref (q 10)])), (q 1, aI D 703 (w_X7_addFile_1 g t hd nm F0))]) := by
  refine Ct.ofV 1 (lv0 := [some (.ref (q 0)), some (.int t), some (.int hd), some (.int nm), none]) (by decide) rfl rfl (fun Z E F => ?_)
  refine v_aload_n E dX7_addFile_0 rfl ?_
  refine v_iload_n E dX7_addFile_1 rfl ?_
  refine v_cV_i E dX7_addFile_2 (c_X7_isTarget D q g t) cs_X7_57 rfl rfl rfl (Nat.le_of_ble_eq_true rfl) 0 rfl rfl [0, 1] rfl rfl ⟨Nat.le_of_ble_eq_true rfl, Nat.le_of_ble_eq_true rfl⟩ ?_
  refine v_if_ne E 10 dX7_addFile_5 (by decide) (fun c_5 => ?_) (fun c_5 => ?_)
  · refine v_iload_n E dX7_addFile_10 rfl ?_
    refine v_iconst E dX7_addFile_11 (v := 0) (by decide) ?_
    refine v_bipush E dX7_addFile_12 (v := 99) (by decide) ?_
    refine v_cS_i E dX7_addFile_14 (c_X7_in D nm 0 99) cs_X7_41 rfl rfl rfl (Nat.le_of_ble_eq_true rfl) [] rfl rfl ⟨Nat.le_of_ble_eq_true rfl, Nat.le_of_ble_eq_true rfl⟩ ?_
    refine v_if_ne E 23 dX7_addFile_17 (by decide) (fun c_17 => ?_) (fun c_17 => ?_)
    · refine v_aload_n E dX7_addFile_23 rfl ?_
      refine v_iload_n E dX7_addFile_24 rfl ?_
      refine v_cV_i E dX7_addFile_25 (c_X7_isNamed D q g nm F0 h2 hF) cs_X7_70 rfl rfl rfl (Nat.le_of_ble_eq_true rfl) 0 rfl rfl [0, 1] rfl rfl ⟨Nat.le_of_ble_eq_true rfl, Nat.le_of_ble_eq_true rfl⟩ ?_
      refine v_if_eq E 34 dX7_addFile_28 (by decide) (fun c_28 => ?_) (fun c_28 => ?_)
      · refine v_aload_n E dX7_addFile_34 rfl ?_
        refine v_get E dX7_addFile_35 (ci := 7) rfl iwX7 0 rfl 0 rfl fl_X7_7 rfl ?_
        refine v_iconst E dX7_addFile_38 (v := 2) (by decide) ?_
        refine v_iald E dX7_addFile_39 1 rfl 2 (show (2 : Int32) = nI 2 by decide) (by omega) rfl ?_
        refine v_bipush E dX7_addFile_40 (v := 40) (by decide) ?_
        refine v_icmp_ne E 48 dX7_addFile_42 (by decide) (fun c_42 => ?_) (fun c_42 => ?_)
        · obtain ⟨ht1, ht2⟩ := isT_use h0 hN c_5
          obtain ⟨hn1, hn2⟩ := in_useK (M := 99) (by decide) c_17
          have hF2 : F0 < 40 := Nat.lt_of_le_of_ne hF (fun e => c_42 (by rw [h2, e]; rfl))
          refine v_aload_n E dX7_addFile_48 rfl ?_
          refine v_get E dX7_addFile_49 (ci := 7) rfl iwX7 0 rfl 0 rfl fl_X7_7 rfl ?_
          refine v_iconst E dX7_addFile_52 (v := 2) (by decide) ?_
          refine v_iald E dX7_addFile_53 1 rfl 2 (show (2 : Int32) = nI 2 by decide) (by omega) rfl ?_
          refine v_istore E dX7_addFile_54 rfl rfl ?_
          refine v_aload_n E dX7_addFile_56 rfl ?_
          refine v_get E dX7_addFile_57 (ci := 7) rfl iwX7 0 rfl 0 rfl fl_X7_7 rfl ?_
          refine v_iconst E dX7_addFile_60 (v := 2) (by decide) ?_
          refine v_dup2 E dX7_addFile_61 rfl rfl ?_
          refine v_iald E dX7_addFile_62 1 rfl 2 (show (2 : Int32) = nI 2 by decide) (by omega) rfl ?_
          refine v_iconst E dX7_addFile_63 (v := 1) (by decide) ?_
          refine v_iadd E dX7_addFile_64 ?_
          refine v_iast E dX7_addFile_65 1 rfl 2 (show (2 : Int32) = nI 2 by decide) (by omega) rfl ?_
          refine v_wd (wd2 := [(q 0, .inr (7, [.ref (q 1), .ref (q 2), .ref (q 3), .ref (q 4), .ref (q 5), .ref (q 6), .ref (q 7), .ref (q 8), .ref (q 9), .ref (q 10)])), (q 1, aI D 703 (upd g 2 ((g 2) + 1)))]) rfl ?_
          refine v_aload_n E dX7_addFile_66 rfl ?_
          refine v_get E dX7_addFile_67 (ci := 7) rfl iwX7 0 rfl 0 rfl fl_X7_7 rfl ?_
          refine v_iload E dX7_addFile_70 rfl ?_
          refine v_cS_i E dX7_addFile_72 (c_X7_at D (g 2)) cs_X7_64 rfl rfl rfl (Nat.le_of_ble_eq_true rfl) [] rfl rfl ⟨Nat.le_of_ble_eq_true rfl, Nat.le_of_ble_eq_true rfl⟩ ?_
          refine v_iload_n E dX7_addFile_75 rfl ?_
          refine v_iast E dX7_addFile_76 1 rfl (443 + 3 * F0) (at_nat h2) (by omega) rfl ?_
          refine v_wd (wd2 := [(q 0, .inr (7, [.ref (q 1), .ref (q 2), .ref (q 3), .ref (q 4), .ref (q 5), .ref (q 6), .ref (q 7), .ref (q 8), .ref (q 9), .ref (q 10)])), (q 1, aI D 703 (upd (upd g 2 ((g 2) + 1)) (443 + 3 * F0) t))]) rfl ?_
          refine v_aload_n E dX7_addFile_77 rfl ?_
          refine v_get E dX7_addFile_78 (ci := 7) rfl iwX7 0 rfl 0 rfl fl_X7_7 rfl ?_
          refine v_iload E dX7_addFile_81 rfl ?_
          refine v_cS_i E dX7_addFile_83 (c_X7_at D (g 2)) cs_X7_64 rfl rfl rfl (Nat.le_of_ble_eq_true rfl) [] rfl rfl ⟨Nat.le_of_ble_eq_true rfl, Nat.le_of_ble_eq_true rfl⟩ ?_
          refine v_iconst E dX7_addFile_86 (v := 1) (by decide) ?_
          refine v_iadd E dX7_addFile_87 ?_
          refine v_iload_n E dX7_addFile_88 rfl ?_
          refine v_if_eq E 96 dX7_addFile_89 (by decide) (fun c_89 => ?_) (fun c_89 => ?_)
          · refine v_iconst E dX7_addFile_96 (v := 0) (by decide) ?_
            refine v_iast E dX7_addFile_97 1 rfl ((443 + 3 * F0) + 1) (hadd (at_nat h2) (show (1 : Int32) = nI 1 by decide)) (by omega) rfl ?_
            refine v_wd (wd2 := [(q 0, .inr (7, [.ref (q 1), .ref (q 2), .ref (q 3), .ref (q 4), .ref (q 5), .ref (q 6), .ref (q 7), .ref (q 8), .ref (q 9), .ref (q 10)])), (q 1, aI D 703 (upd (upd (upd g 2 ((g 2) + 1)) (443 + 3 * F0) t) ((443 + 3 * F0) + 1) 0))]) rfl ?_
            refine v_aload_n E dX7_addFile_98 rfl ?_
            refine v_iload E dX7_addFile_99 rfl ?_
            refine v_iload_n E dX7_addFile_101 rfl ?_
            refine v_cV_vU E dX7_addFile_102 (c_X7_giveName D q (upd (upd (upd g 2 ((g 2) + 1)) (443 + 3 * F0) t) ((443 + 3 * F0) + 1) 0) (g 2) nm F0 nm.toNatClampNeg h2 hn1 (by omega) (by omega)) cs_X7_73 rfl rfl rfl (Nat.le_of_ble_eq_true rfl) 0 rfl rfl [0, 1] rfl rfl ⟨Nat.le_of_ble_eq_true rfl, Nat.le_of_ble_eq_true rfl⟩ [q 0, q 1] rfl rfl ?_
            refine v_wd (wd2 := [(q 0, .inr (7, [.ref (q 1), .ref (q 2), .ref (q 3), .ref (q 4), .ref (q 5), .ref (q 6), .ref (q 7), .ref (q 8), .ref (q 9), .ref (q 10)])), (q 1, aI D 703 (w_X7_giveName_1 (upd (upd (upd g 2 ((g 2) + 1)) (443 + 3 * F0) t) ((443 + 3 * F0) + 1) 0) (g 2) nm F0 nm.toNatClampNeg))]) rfl ?_
            refine v_aload_n E dX7_addFile_105 rfl ?_
            refine v_iload_n E dX7_addFile_106 rfl ?_
            refine v_iload E dX7_addFile_107 rfl ?_
            refine v_cV_vU E dX7_addFile_109 (c_X7_touch D q (w_X7_giveName_1 (upd (upd (upd g 2 ((g 2) + 1)) (443 + 3 * F0) t) ((443 + 3 * F0) + 1) 0) (g 2) nm F0 nm.toNatClampNeg) t (g 2) t.toNatClampNeg F0 ht1 h2 (by omega) (by omega)) cs_X7_77 rfl rfl rfl (Nat.le_of_ble_eq_true rfl) 0 rfl rfl [0, 1] rfl rfl ⟨Nat.le_of_ble_eq_true rfl, Nat.le_of_ble_eq_true rfl⟩ [q 0, q 1] rfl rfl ?_
            refine v_wd (wd2 := [(q 0, .inr (7, [.ref (q 1), .ref (q 2), .ref (q 3), .ref (q 4), .ref (q 5), .ref (q 6), .ref (q 7), .ref (q 8), .ref (q 9), .ref (q 10)])), (q 1, aI D 703 (w_X7_touch_1 (w_X7_giveName_1 (upd (upd (upd g 2 ((g 2) + 1)) (443 + 3 * F0) t) ((443 + 3 * F0) + 1) 0) (g 2) nm F0 nm.toNatClampNeg) t.toNatClampNeg F0))]) rfl ?_
            refine v_iload E dX7_addFile_112 rfl ?_
            exact v_iret E F dX7_addFile_114 rfl rfl () (by simp only [r_X7_addFile, if_neg c_5, if_neg c_17, if_pos c_28, if_neg c_42, if_pos c_89]) (by simp only [w_X7_addFile_1, if_neg c_5, if_neg c_17, if_pos c_28, if_neg c_42, if_pos c_89] <;> rfl) (Nat.le_of_ble_eq_true rfl) (Nat.le_of_ble_eq_true rfl)
          · refine v_iconst E dX7_addFile_92 (v := 1) (by decide) ?_
            refine v_goto E 97 dX7_addFile_93 (by decide) ?_
            refine v_iast E dX7_addFile_97 1 rfl ((443 + 3 * F0) + 1) (hadd (at_nat h2) (show (1 : Int32) = nI 1 by decide)) (by omega) rfl ?_
            refine v_wd (wd2 := [(q 0, .inr (7, [.ref (q 1), .ref (q 2), .ref (q 3), .ref (q 4), .ref (q 5), .ref (q 6), .ref (q 7), .ref (q 8), .ref (q 9), .ref (q 10)])), (q 1, aI D 703 (upd (upd (upd g 2 ((g 2) + 1)) (443 + 3 * F0) t) ((443 + 3 * F0) + 1) 1))]) rfl ?_
            refine v_aload_n E dX7_addFile_98 rfl ?_
            refine v_iload E dX7_addFile_99 rfl ?_
            refine v_iload_n E dX7_addFile_101 rfl ?_
            refine v_cV_vU E dX7_addFile_102 (c_X7_giveName D q (upd (upd (upd g 2 ((g 2) + 1)) (443 + 3 * F0) t) ((443 + 3 * F0) + 1) 1) (g 2) nm F0 nm.toNatClampNeg h2 hn1 (by omega) (by omega)) cs_X7_73 rfl rfl rfl (Nat.le_of_ble_eq_true rfl) 0 rfl rfl [0, 1] rfl rfl ⟨Nat.le_of_ble_eq_true rfl, Nat.le_of_ble_eq_true rfl⟩ [q 0, q 1] rfl rfl ?_
            refine v_wd (wd2 := [(q 0, .inr (7, [.ref (q 1), .ref (q 2), .ref (q 3), .ref (q 4), .ref (q 5), .ref (q 6), .ref (q 7), .ref (q 8), .ref (q 9), .ref (q 10)])), (q 1, aI D 703 (w_X7_giveName_1 (upd (upd (upd g 2 ((g 2) + 1)) (443 + 3 * F0) t) ((443 + 3 * F0) + 1) 1) (g 2) nm F0 nm.toNatClampNeg))]) rfl ?_
            refine v_aload_n E dX7_addFile_105 rfl ?_
            refine v_iload_n E dX7_addFile_106 rfl ?_
            refine v_iload E dX7_addFile_107 rfl ?_
            refine v_cV_vU E dX7_addFile_109 (c_X7_touch D q (w_X7_giveName_1 (upd (upd (upd g 2 ((g 2) + 1)) (443 + 3 * F0) t) ((443 + 3 * F0) + 1) 1) (g 2) nm F0 nm.toNatClampNeg) t (g 2) t.toNatClampNeg F0 ht1 h2 (by omega) (by omega)) cs_X7_77 rfl rfl rfl (Nat.le_of_ble_eq_true rfl) 0 rfl rfl [0, 1] rfl rfl ⟨Nat.le_of_ble_eq_true rfl, Nat.le_of_ble_eq_true rfl⟩ [q 0, q 1] rfl rfl ?_
            refine v_wd (wd2 := [(q 0, .inr (7, [.ref (q 1), .ref (q 2), .ref (q 3), .ref (q 4), .ref (q 5), .ref (q 6), .ref (q 7), .ref (q 8), .ref (q 9), .ref (q 10)])), (q 1, aI D 703 (w_X7_touch_1 (w_X7_giveName_1 (upd (upd (upd g 2 ((g 2) + 1)) (443 + 3 * F0) t) ((443 + 3 * F0) + 1) 1) (g 2) nm F0 nm.toNatClampNeg) t.toNatClampNeg F0))]) rfl ?_
            refine v_iload E dX7_addFile_112 rfl ?_
            exact v_iret E F dX7_addFile_114 rfl rfl () (by simp only [r_X7_addFile, if_neg c_5, if_neg c_17, if_pos c_28, if_neg c_42, if_neg c_89]) (by simp only [w_X7_addFile_1, if_neg c_5, if_neg c_17, if_pos c_28, if_neg c_42, if_neg c_89] <;> rfl) (Nat.le_of_ble_eq_true rfl) (Nat.le_of_ble_eq_true rfl)
        · refine v_bipush E dX7_addFile_45 (v := -8) (by decide) ?_
          exact v_iret E F dX7_addFile_47 rfl rfl () (by simp only [r_X7_addFile, if_neg c_5, if_neg c_17, if_pos c_28, if_pos c_42]) (by simp only [w_X7_addFile_1, if_neg c_5, if_neg c_17, if_pos c_28, if_pos c_42] <;> rfl) (Nat.le_of_ble_eq_true rfl) (Nat.le_of_ble_eq_true rfl)
      · refine v_bipush E dX7_addFile_31 (v := -9) (by decide) ?_
        exact v_iret E F dX7_addFile_33 rfl rfl () (by simp only [r_X7_addFile, if_neg c_5, if_neg c_17, if_neg c_28]) (by simp only [w_X7_addFile_1, if_neg c_5, if_neg c_17, if_neg c_28] <;> rfl) (Nat.le_of_ble_eq_true rfl) (Nat.le_of_ble_eq_true rfl)
    · refine v_bipush E dX7_addFile_20 (v := -3) (by decide) ?_
      exact v_iret E F dX7_addFile_22 rfl rfl () (by simp only [r_X7_addFile, if_neg c_5, if_pos c_17]) (by simp only [w_X7_addFile_1, if_neg c_5, if_pos c_17] <;> rfl) (Nat.le_of_ble_eq_true rfl) (Nat.le_of_ble_eq_true rfl)
  · refine v_iconst E dX7_addFile_8 (v := -1) (by decide) ?_
    exact v_iret E F dX7_addFile_9 rfl rfl () (by simp only [r_X7_addFile, if_pos c_5]) (by simp only [w_X7_addFile_1, if_pos c_5] <;> rfl) (Nat.le_of_ble_eq_true rfl) (Nat.le_of_ble_eq_true rfl)

def r_X7_edit (g : Nat → Int32) (f : Int32) : Int32 := if (r_X7_isFile g f) = 0 then (-2) else (w_X7_touch_1 g ((g (443 + 3 * f.toNatClampNeg)).toNatClampNeg) f.toNatClampNeg) (443 + 3 * f.toNatClampNeg)
def w_X7_edit_1 (g : Nat → Int32) (f : Int32) : Nat → Int32 := if (r_X7_isFile g f) = 0 then g else (w_X7_touch_1 g ((g (443 + 3 * f.toNatClampNeg)).toNatClampNeg) f.toNatClampNeg)
set_option maxRecDepth 20000 in
/-- X7_edit -/
theorem c_X7_edit (D : va_G) (q : Nat → Nat) (g : Nat → Int32) (f : Int32) (F0 : Nat) (h2 : g 2 = nI F0) (hF : F0 ≤ 40) (hT : ∀ k, k < F0 → ¬ g (443 + 3 * k) < 0 → g (443 + 3 * k) = nI (g (443 + 3 * k)).toNatClampNeg ∧ (g (443 + 3 * k)).toNatClampNeg < 20) (l : Launch) : Ct l yX7_edit cX7_edit 2 (some .int) (rmM 2 43 0 0) D [.ref (q 0), .int f] [(q 0, .inr (7, [.ref (q 1), .ref (q 2), .ref (q 3), .ref (q 4), .ref (q 5), .ref (q 6), .ref (q 7), .ref (q 8), .ref (q 9), .ref (q 10)])), (q 1, aI D 703 g)] (QI1 D (r_X7_edit g f) [(q 0, .inr (7, [.ref (q 1), .ref (q 2), .ref (q 3), .ref (q 4), .ref (q 5), .ref (q 6), .ref (q 7), .ref (q 8), .ref (q 9), .ref (q 10)])), (q 1, aI D 703 (w_X7_edit_1 g f))]) := by
  refine Ct.ofV 0 (lv0 := [some (.ref (q 0)), some (.int f)]) (by decide) rfl rfl (fun Z E F => ?_)
  refine v_aload_n E dX7_edit_0 rfl ?_
  refine v_iload_n E dX7_edit_1 rfl ?_
  refine v_cV_i E dX7_edit_2 (c_X7_isFile D q g f F0 h2 hF) cs_X7_67 rfl rfl rfl (Nat.le_of_ble_eq_true rfl) 0 rfl rfl [0, 1] rfl rfl ⟨Nat.le_of_ble_eq_true rfl, Nat.le_of_ble_eq_true rfl⟩ ?_
  refine v_if_ne E 11 dX7_edit_5 (by decide) (fun c_5 => ?_) (fun c_5 => ?_)
  · obtain ⟨hf1, hf2, hf3⟩ := isF_use h2 hF c_5
    obtain ⟨ht1, ht2⟩ := hT _ hf2 hf3
    refine v_aload_n E dX7_edit_11 rfl ?_
    refine v_aload_n E dX7_edit_12 rfl ?_
    refine v_get E dX7_edit_13 (ci := 7) rfl iwX7 0 rfl 0 rfl fl_X7_7 rfl ?_
    refine v_iload_n E dX7_edit_16 rfl ?_
    refine v_cS_i E dX7_edit_17 (c_X7_at D f) cs_X7_64 rfl rfl rfl (Nat.le_of_ble_eq_true rfl) [] rfl rfl ⟨Nat.le_of_ble_eq_true rfl, Nat.le_of_ble_eq_true rfl⟩ ?_
    refine v_iald E dX7_edit_20 1 rfl (443 + 3 * f.toNatClampNeg) (at_nat hf1) (by omega) rfl ?_
    refine v_iload_n E dX7_edit_21 rfl ?_
    refine v_cV_vU E dX7_edit_22 (c_X7_touch D q g (g (443 + 3 * f.toNatClampNeg)) f ((g (443 + 3 * f.toNatClampNeg)).toNatClampNeg) f.toNatClampNeg ht1 hf1 (by omega) (by omega)) cs_X7_77 rfl rfl rfl (Nat.le_of_ble_eq_true rfl) 0 rfl rfl [0, 1] rfl rfl ⟨Nat.le_of_ble_eq_true rfl, Nat.le_of_ble_eq_true rfl⟩ [q 0, q 1] rfl rfl ?_
    refine v_wd (wd2 := [(q 0, .inr (7, [.ref (q 1), .ref (q 2), .ref (q 3), .ref (q 4), .ref (q 5), .ref (q 6), .ref (q 7), .ref (q 8), .ref (q 9), .ref (q 10)])), (q 1, aI D 703 (w_X7_touch_1 g ((g (443 + 3 * f.toNatClampNeg)).toNatClampNeg) f.toNatClampNeg))]) rfl ?_
    refine v_aload_n E dX7_edit_25 rfl ?_
    refine v_get E dX7_edit_26 (ci := 7) rfl iwX7 0 rfl 0 rfl fl_X7_7 rfl ?_
    refine v_iload_n E dX7_edit_29 rfl ?_
    refine v_cS_i E dX7_edit_30 (c_X7_at D f) cs_X7_64 rfl rfl rfl (Nat.le_of_ble_eq_true rfl) [] rfl rfl ⟨Nat.le_of_ble_eq_true rfl, Nat.le_of_ble_eq_true rfl⟩ ?_
    refine v_iald E dX7_edit_33 1 rfl (443 + 3 * f.toNatClampNeg) (at_nat hf1) (by omega) rfl ?_
    exact v_iret E F dX7_edit_34 rfl rfl () (by simp only [r_X7_edit, if_neg c_5]) (by simp only [w_X7_edit_1, if_neg c_5] <;> rfl) (Nat.le_of_ble_eq_true rfl) (Nat.le_of_ble_eq_true rfl)
  · refine v_bipush E dX7_edit_8 (v := -2) (by decide) ?_
    exact v_iret E F dX7_edit_10 rfl rfl () (by simp only [r_X7_edit, if_pos c_5]) (by simp only [w_X7_edit_1, if_pos c_5] <;> rfl) (Nat.le_of_ble_eq_true rfl) (Nat.le_of_ble_eq_true rfl)

theorem gn_tgt (g : Nat → Int32) (f nm : Int32) {kf kn : Nat} (hk : kf < 40) (hn : kn < 100) : w_X7_giveName_1 g f nm kf kn (443 + 3 * kf) = g (443 + 3 * kf) := by
  unfold w_X7_giveName_1
  rw [pk_un (by omega), pk_un (by omega)]
def r_X7_rename (g : Nat → Int32) (f : Int32) (nm : Int32) (F0 : Nat) : Int32 := if (r_X7_isFile g f) = 0 then (-2) else if (r_X7_in nm 0 99) = 0 then (-3) else if (r_X7_isNamed g nm F0) = 0 then g ((443 + 3 * f.toNatClampNeg) + 2) else (-9)
def w_X7_rename_1 (g : Nat → Int32) (f : Int32) (nm : Int32) (F0 : Nat) : Nat → Int32 := if (r_X7_isFile g f) = 0 then g else if (r_X7_in nm 0 99) = 0 then g else if (r_X7_isNamed g nm F0) = 0 then (if ((w_X7_giveName_1 g f nm f.toNatClampNeg nm.toNatClampNeg) ((443 + 3 * f.toNatClampNeg) + 1)) = 1 then (w_X7_touch_1 (w_X7_giveName_1 g f nm f.toNatClampNeg nm.toNatClampNeg) ((g (443 + 3 * f.toNatClampNeg)).toNatClampNeg) f.toNatClampNeg) else (w_X7_giveName_1 g f nm f.toNatClampNeg nm.toNatClampNeg)) else g
set_option maxRecDepth 20000 in
/-- X7_rename -/
theorem c_X7_rename (D : va_G) (q : Nat → Nat) (g : Nat → Int32) (f : Int32) (nm : Int32) (F0 : Nat) (h2 : g 2 = nI F0) (hF : F0 ≤ 40) (hT : ∀ k, k < F0 → ¬ g (443 + 3 * k) < 0 → g (443 + 3 * k) = nI (g (443 + 3 * k)).toNatClampNeg ∧ (g (443 + 3 * k)).toNatClampNeg < 20) (l : Launch) : Ct l yX7_rename cX7_rename 4 (some .int) (rmM 3 66 0 0) D [.ref (q 0), .int f, .int nm] [(q 0, .inr (7, [.ref (q 1), .ref (q 2), .ref (q 3), .ref (q 4), .ref (q 5), .ref (q 6), .ref (q 7), .ref (q 8), .ref (q 9), .ref (q 10)])), (q 1, aI D 703 g)] (QI1 D (r_X7_rename g f nm F0) [(q 0, .inr (7, [.ref (q 1), .ref (q 2), .ref (q 3), .ref (q 4), .ref (q 5), .ref (q 6), .ref (q 7), .ref (q 8), .ref (q 9), .ref (q 10)])), (q 1, aI D 703 (w_X7_rename_1 g f nm F0))]) := by
  refine Ct.ofV 1 (lv0 := [some (.ref (q 0)), some (.int f), some (.int nm), none]) (by decide) rfl rfl (fun Z E F => ?_)
  refine v_aload_n E dX7_rename_0 rfl ?_
  refine v_iload_n E dX7_rename_1 rfl ?_
  refine v_cV_i E dX7_rename_2 (c_X7_isFile D q g f F0 h2 hF) cs_X7_67 rfl rfl rfl (Nat.le_of_ble_eq_true rfl) 0 rfl rfl [0, 1] rfl rfl ⟨Nat.le_of_ble_eq_true rfl, Nat.le_of_ble_eq_true rfl⟩ ?_
  refine v_if_ne E 11 dX7_rename_5 (by decide) (fun c_5 => ?_) (fun c_5 => ?_)
  · obtain ⟨hf1, hf2, hf3⟩ := isF_use h2 hF c_5
    obtain ⟨ht1, ht2⟩ := hT _ hf2 hf3
    refine v_iload_n E dX7_rename_11 rfl ?_
    refine v_iconst E dX7_rename_12 (v := 0) (by decide) ?_
    refine v_bipush E dX7_rename_13 (v := 99) (by decide) ?_
    refine v_cS_i E dX7_rename_15 (c_X7_in D nm 0 99) cs_X7_41 rfl rfl rfl (Nat.le_of_ble_eq_true rfl) [] rfl rfl ⟨Nat.le_of_ble_eq_true rfl, Nat.le_of_ble_eq_true rfl⟩ ?_
    refine v_if_ne E 24 dX7_rename_18 (by decide) (fun c_18 => ?_) (fun c_18 => ?_)
    · obtain ⟨hn1, hn2⟩ := in_useK (M := 99) (by decide) c_18
      refine v_aload_n E dX7_rename_24 rfl ?_
      refine v_iload_n E dX7_rename_25 rfl ?_
      refine v_cV_i E dX7_rename_26 (c_X7_isNamed D q g nm F0 h2 hF) cs_X7_70 rfl rfl rfl (Nat.le_of_ble_eq_true rfl) 0 rfl rfl [0, 1] rfl rfl ⟨Nat.le_of_ble_eq_true rfl, Nat.le_of_ble_eq_true rfl⟩ ?_
      refine v_if_eq E 35 dX7_rename_29 (by decide) (fun c_29 => ?_) (fun c_29 => ?_)
      · refine v_aload_n E dX7_rename_35 rfl ?_
        refine v_get E dX7_rename_36 (ci := 7) rfl iwX7 0 rfl 0 rfl fl_X7_7 rfl ?_
        refine v_iload_n E dX7_rename_39 rfl ?_
        refine v_cS_i E dX7_rename_40 (c_X7_at D f) cs_X7_64 rfl rfl rfl (Nat.le_of_ble_eq_true rfl) [] rfl rfl ⟨Nat.le_of_ble_eq_true rfl, Nat.le_of_ble_eq_true rfl⟩ ?_
        refine v_iconst E dX7_rename_43 (v := 2) (by decide) ?_
        refine v_iadd E dX7_rename_44 ?_
        refine v_iald E dX7_rename_45 1 rfl ((443 + 3 * f.toNatClampNeg) + 2) (hadd (at_nat hf1) (show (2 : Int32) = nI 2 by decide)) (by omega) rfl ?_
        refine v_istore_n E dX7_rename_46 rfl rfl ?_
        refine v_aload_n E dX7_rename_47 rfl ?_
        refine v_iload_n E dX7_rename_48 rfl ?_
        refine v_iload_n E dX7_rename_49 rfl ?_
        refine v_cV_vU E dX7_rename_50 (c_X7_giveName D q g f nm f.toNatClampNeg nm.toNatClampNeg hf1 hn1 (by omega) (by omega)) cs_X7_73 rfl rfl rfl (Nat.le_of_ble_eq_true rfl) 0 rfl rfl [0, 1] rfl rfl ⟨Nat.le_of_ble_eq_true rfl, Nat.le_of_ble_eq_true rfl⟩ [q 0, q 1] rfl rfl ?_
        refine v_wd (wd2 := [(q 0, .inr (7, [.ref (q 1), .ref (q 2), .ref (q 3), .ref (q 4), .ref (q 5), .ref (q 6), .ref (q 7), .ref (q 8), .ref (q 9), .ref (q 10)])), (q 1, aI D 703 (w_X7_giveName_1 g f nm f.toNatClampNeg nm.toNatClampNeg))]) rfl ?_
        refine v_aload_n E dX7_rename_53 rfl ?_
        refine v_get E dX7_rename_54 (ci := 7) rfl iwX7 0 rfl 0 rfl fl_X7_7 rfl ?_
        refine v_iload_n E dX7_rename_57 rfl ?_
        refine v_cS_i E dX7_rename_58 (c_X7_at D f) cs_X7_64 rfl rfl rfl (Nat.le_of_ble_eq_true rfl) [] rfl rfl ⟨Nat.le_of_ble_eq_true rfl, Nat.le_of_ble_eq_true rfl⟩ ?_
        refine v_iconst E dX7_rename_61 (v := 1) (by decide) ?_
        refine v_iadd E dX7_rename_62 ?_
        refine v_iald E dX7_rename_63 1 rfl ((443 + 3 * f.toNatClampNeg) + 1) (hadd (at_nat hf1) (show (1 : Int32) = nI 1 by decide)) (by omega) rfl ?_
        refine v_iconst E dX7_rename_64 (v := 1) (by decide) ?_
        refine v_icmp_ne E 82 dX7_rename_65 (by decide) (fun c_65 => ?_) (fun c_65 => ?_)
        · refine v_iload_n E dX7_rename_82 rfl ?_
          exact v_iret E F dX7_rename_83 rfl rfl () (by simp only [r_X7_rename, if_neg c_5, if_neg c_18, if_pos c_29, if_neg c_65]) (by simp only [w_X7_rename_1, if_neg c_5, if_neg c_18, if_pos c_29, if_neg c_65] <;> rfl) (Nat.le_of_ble_eq_true rfl) (Nat.le_of_ble_eq_true rfl)
        · refine v_aload_n E dX7_rename_68 rfl ?_
          refine v_aload_n E dX7_rename_69 rfl ?_
          refine v_get E dX7_rename_70 (ci := 7) rfl iwX7 0 rfl 0 rfl fl_X7_7 rfl ?_
          refine v_iload_n E dX7_rename_73 rfl ?_
          refine v_cS_i E dX7_rename_74 (c_X7_at D f) cs_X7_64 rfl rfl rfl (Nat.le_of_ble_eq_true rfl) [] rfl rfl ⟨Nat.le_of_ble_eq_true rfl, Nat.le_of_ble_eq_true rfl⟩ ?_
          refine v_iald E dX7_rename_77 1 rfl (443 + 3 * f.toNatClampNeg) (at_nat hf1) (by omega) rfl ?_
          refine v_iload_n E dX7_rename_78 rfl ?_
          refine v_cV_vU E dX7_rename_79 (c_X7_touch D q (w_X7_giveName_1 g f nm f.toNatClampNeg nm.toNatClampNeg) ((w_X7_giveName_1 g f nm f.toNatClampNeg nm.toNatClampNeg) (443 + 3 * f.toNatClampNeg)) f ((g (443 + 3 * f.toNatClampNeg)).toNatClampNeg) f.toNatClampNeg ((gn_tgt g f nm (by omega) (by omega)).trans ht1) hf1 (by omega) (by omega)) cs_X7_77 rfl rfl rfl (Nat.le_of_ble_eq_true rfl) 0 rfl rfl [0, 1] rfl rfl ⟨Nat.le_of_ble_eq_true rfl, Nat.le_of_ble_eq_true rfl⟩ [q 0, q 1] rfl rfl ?_
          refine v_wd (wd2 := [(q 0, .inr (7, [.ref (q 1), .ref (q 2), .ref (q 3), .ref (q 4), .ref (q 5), .ref (q 6), .ref (q 7), .ref (q 8), .ref (q 9), .ref (q 10)])), (q 1, aI D 703 (w_X7_touch_1 (w_X7_giveName_1 g f nm f.toNatClampNeg nm.toNatClampNeg) ((g (443 + 3 * f.toNatClampNeg)).toNatClampNeg) f.toNatClampNeg))]) rfl ?_
          refine v_iload_n E dX7_rename_82 rfl ?_
          exact v_iret E F dX7_rename_83 rfl rfl () (by simp only [r_X7_rename, if_neg c_5, if_neg c_18, if_pos c_29, if_pos c_65]) (by simp only [w_X7_rename_1, if_neg c_5, if_neg c_18, if_pos c_29, if_pos c_65] <;> rfl) (Nat.le_of_ble_eq_true rfl) (Nat.le_of_ble_eq_true rfl)
      · refine v_bipush E dX7_rename_32 (v := -9) (by decide) ?_
        exact v_iret E F dX7_rename_34 rfl rfl () (by simp only [r_X7_rename, if_neg c_5, if_neg c_18, if_neg c_29]) (by simp only [w_X7_rename_1, if_neg c_5, if_neg c_18, if_neg c_29] <;> rfl) (Nat.le_of_ble_eq_true rfl) (Nat.le_of_ble_eq_true rfl)
    · refine v_bipush E dX7_rename_21 (v := -3) (by decide) ?_
      exact v_iret E F dX7_rename_23 rfl rfl () (by simp only [r_X7_rename, if_neg c_5, if_pos c_18]) (by simp only [w_X7_rename_1, if_neg c_5, if_pos c_18] <;> rfl) (Nat.le_of_ble_eq_true rfl) (Nat.le_of_ble_eq_true rfl)
  · refine v_bipush E dX7_rename_8 (v := -2) (by decide) ?_
    exact v_iret E F dX7_rename_10 rfl rfl () (by simp only [r_X7_rename, if_pos c_5]) (by simp only [w_X7_rename_1, if_pos c_5] <;> rfl) (Nat.le_of_ble_eq_true rfl) (Nat.le_of_ble_eq_true rfl)

def r_X7_move (g : Nat → Int32) (f : Int32) (t : Int32) : Int32 := if (r_X7_isFile g f) = 0 then (-2) else if (r_X7_isTarget g t) = 0 then (-1) else if (g (443 + 3 * f.toNatClampNeg)) = t then (-4) else g (443 + 3 * f.toNatClampNeg)
def w_X7_move_1 (g : Nat → Int32) (f : Int32) (t : Int32) : Nat → Int32 := if (r_X7_isFile g f) = 0 then g else if (r_X7_isTarget g t) = 0 then g else if (g (443 + 3 * f.toNatClampNeg)) = t then g else upd (w_X7_touch_1 (w_X7_touch_1 g ((g (443 + 3 * f.toNatClampNeg)).toNatClampNeg) f.toNatClampNeg) t.toNatClampNeg f.toNatClampNeg) (443 + 3 * f.toNatClampNeg) t
set_option maxRecDepth 20000 in
/-- X7_move -/
theorem c_X7_move (D : va_G) (q : Nat → Nat) (g : Nat → Int32) (f : Int32) (t : Int32) (N : Nat) (F0 : Nat) (h0 : g 0 = nI N) (hN : N ≤ 20) (h2 : g 2 = nI F0) (hF : F0 ≤ 40) (hT : ∀ k, k < F0 → ¬ g (443 + 3 * k) < 0 → g (443 + 3 * k) = nI (g (443 + 3 * k)).toNatClampNeg ∧ (g (443 + 3 * k)).toNatClampNeg < 20) (l : Launch) : Ct l yX7_move cX7_move 4 (some .int) (rmM 2 43 0 0) D [.ref (q 0), .int f, .int t] [(q 0, .inr (7, [.ref (q 1), .ref (q 2), .ref (q 3), .ref (q 4), .ref (q 5), .ref (q 6), .ref (q 7), .ref (q 8), .ref (q 9), .ref (q 10)])), (q 1, aI D 703 g)] (QI1 D (r_X7_move g f t) [(q 0, .inr (7, [.ref (q 1), .ref (q 2), .ref (q 3), .ref (q 4), .ref (q 5), .ref (q 6), .ref (q 7), .ref (q 8), .ref (q 9), .ref (q 10)])), (q 1, aI D 703 (w_X7_move_1 g f t))]) := by
  refine Ct.ofV 1 (lv0 := [some (.ref (q 0)), some (.int f), some (.int t), none]) (by decide) rfl rfl (fun Z E F => ?_)
  refine v_aload_n E dX7_move_0 rfl ?_
  refine v_iload_n E dX7_move_1 rfl ?_
  refine v_cV_i E dX7_move_2 (c_X7_isFile D q g f F0 h2 hF) cs_X7_67 rfl rfl rfl (Nat.le_of_ble_eq_true rfl) 0 rfl rfl [0, 1] rfl rfl ⟨Nat.le_of_ble_eq_true rfl, Nat.le_of_ble_eq_true rfl⟩ ?_
  refine v_if_ne E 11 dX7_move_5 (by decide) (fun c_5 => ?_) (fun c_5 => ?_)
  · obtain ⟨hf1, hf2, hf3⟩ := isF_use h2 hF c_5
    obtain ⟨hu1, hu2⟩ := hT _ hf2 hf3
    refine v_aload_n E dX7_move_11 rfl ?_
    refine v_iload_n E dX7_move_12 rfl ?_
    refine v_cV_i E dX7_move_13 (c_X7_isTarget D q g t) cs_X7_57 rfl rfl rfl (Nat.le_of_ble_eq_true rfl) 0 rfl rfl [0, 1] rfl rfl ⟨Nat.le_of_ble_eq_true rfl, Nat.le_of_ble_eq_true rfl⟩ ?_
    refine v_if_ne E 21 dX7_move_16 (by decide) (fun c_16 => ?_) (fun c_16 => ?_)
    · obtain ⟨ht1, ht2⟩ := isT_use h0 hN c_16
      refine v_aload_n E dX7_move_21 rfl ?_
      refine v_get E dX7_move_22 (ci := 7) rfl iwX7 0 rfl 0 rfl fl_X7_7 rfl ?_
      refine v_iload_n E dX7_move_25 rfl ?_
      refine v_cS_i E dX7_move_26 (c_X7_at D f) cs_X7_64 rfl rfl rfl (Nat.le_of_ble_eq_true rfl) [] rfl rfl ⟨Nat.le_of_ble_eq_true rfl, Nat.le_of_ble_eq_true rfl⟩ ?_
      refine v_iald E dX7_move_29 1 rfl (443 + 3 * f.toNatClampNeg) (at_nat hf1) (by omega) rfl ?_
      refine v_istore_n E dX7_move_30 rfl rfl ?_
      refine v_iload_n E dX7_move_31 rfl ?_
      refine v_iload_n E dX7_move_32 rfl ?_
      refine v_icmp_ne E 39 dX7_move_33 (by decide) (fun c_33 => ?_) (fun c_33 => ?_)
      · refine v_aload_n E dX7_move_39 rfl ?_
        refine v_iload_n E dX7_move_40 rfl ?_
        refine v_iload_n E dX7_move_41 rfl ?_
        refine v_cV_vU E dX7_move_42 (c_X7_touch D q g (g (443 + 3 * f.toNatClampNeg)) f ((g (443 + 3 * f.toNatClampNeg)).toNatClampNeg) f.toNatClampNeg hu1 hf1 (by omega) (by omega)) cs_X7_77 rfl rfl rfl (Nat.le_of_ble_eq_true rfl) 0 rfl rfl [0, 1] rfl rfl ⟨Nat.le_of_ble_eq_true rfl, Nat.le_of_ble_eq_true rfl⟩ [q 0, q 1] rfl rfl ?_
        refine v_wd (wd2 := [(q 0, .inr (7, [.ref (q 1), .ref (q 2), .ref (q 3), .ref (q 4), .ref (q 5), .ref (q 6), .ref (q 7), .ref (q 8), .ref (q 9), .ref (q 10)])), (q 1, aI D 703 (w_X7_touch_1 g ((g (443 + 3 * f.toNatClampNeg)).toNatClampNeg) f.toNatClampNeg))]) rfl ?_
        refine v_aload_n E dX7_move_45 rfl ?_
        refine v_iload_n E dX7_move_46 rfl ?_
        refine v_iload_n E dX7_move_47 rfl ?_
        refine v_cV_vU E dX7_move_48 (c_X7_touch D q (w_X7_touch_1 g ((g (443 + 3 * f.toNatClampNeg)).toNatClampNeg) f.toNatClampNeg) t f t.toNatClampNeg f.toNatClampNeg ht1 hf1 (by omega) (by omega)) cs_X7_77 rfl rfl rfl (Nat.le_of_ble_eq_true rfl) 0 rfl rfl [0, 1] rfl rfl ⟨Nat.le_of_ble_eq_true rfl, Nat.le_of_ble_eq_true rfl⟩ [q 0, q 1] rfl rfl ?_
        refine v_wd (wd2 := [(q 0, .inr (7, [.ref (q 1), .ref (q 2), .ref (q 3), .ref (q 4), .ref (q 5), .ref (q 6), .ref (q 7), .ref (q 8), .ref (q 9), .ref (q 10)])), (q 1, aI D 703 (w_X7_touch_1 (w_X7_touch_1 g ((g (443 + 3 * f.toNatClampNeg)).toNatClampNeg) f.toNatClampNeg) t.toNatClampNeg f.toNatClampNeg))]) rfl ?_
        refine v_aload_n E dX7_move_51 rfl ?_
        refine v_get E dX7_move_52 (ci := 7) rfl iwX7 0 rfl 0 rfl fl_X7_7 rfl ?_
        refine v_iload_n E dX7_move_55 rfl ?_
        refine v_cS_i E dX7_move_56 (c_X7_at D f) cs_X7_64 rfl rfl rfl (Nat.le_of_ble_eq_true rfl) [] rfl rfl ⟨Nat.le_of_ble_eq_true rfl, Nat.le_of_ble_eq_true rfl⟩ ?_
        refine v_iload_n E dX7_move_59 rfl ?_
        refine v_iast E dX7_move_60 1 rfl (443 + 3 * f.toNatClampNeg) (at_nat hf1) (by omega) rfl ?_
        refine v_wd (wd2 := [(q 0, .inr (7, [.ref (q 1), .ref (q 2), .ref (q 3), .ref (q 4), .ref (q 5), .ref (q 6), .ref (q 7), .ref (q 8), .ref (q 9), .ref (q 10)])), (q 1, aI D 703 (upd (w_X7_touch_1 (w_X7_touch_1 g ((g (443 + 3 * f.toNatClampNeg)).toNatClampNeg) f.toNatClampNeg) t.toNatClampNeg f.toNatClampNeg) (443 + 3 * f.toNatClampNeg) t))]) rfl ?_
        refine v_iload_n E dX7_move_61 rfl ?_
        exact v_iret E F dX7_move_62 rfl rfl () (by simp only [r_X7_move, if_neg c_5, if_neg c_16, if_neg c_33]) (by simp only [w_X7_move_1, if_neg c_5, if_neg c_16, if_neg c_33] <;> rfl) (Nat.le_of_ble_eq_true rfl) (Nat.le_of_ble_eq_true rfl)
      · refine v_bipush E dX7_move_36 (v := -4) (by decide) ?_
        exact v_iret E F dX7_move_38 rfl rfl () (by simp only [r_X7_move, if_neg c_5, if_neg c_16, if_pos c_33]) (by simp only [w_X7_move_1, if_neg c_5, if_neg c_16, if_pos c_33] <;> rfl) (Nat.le_of_ble_eq_true rfl) (Nat.le_of_ble_eq_true rfl)
    · refine v_iconst E dX7_move_19 (v := -1) (by decide) ?_
      exact v_iret E F dX7_move_20 rfl rfl () (by simp only [r_X7_move, if_neg c_5, if_pos c_16]) (by simp only [w_X7_move_1, if_neg c_5, if_pos c_16] <;> rfl) (Nat.le_of_ble_eq_true rfl) (Nat.le_of_ble_eq_true rfl)
  · refine v_bipush E dX7_move_8 (v := -2) (by decide) ?_
    exact v_iret E F dX7_move_10 rfl rfl () (by simp only [r_X7_move, if_pos c_5]) (by simp only [w_X7_move_1, if_pos c_5] <;> rfl) (Nat.le_of_ble_eq_true rfl) (Nat.le_of_ble_eq_true rfl)

def r_X7_deleteFile (g : Nat → Int32) (f : Int32) : Int32 := if (r_X7_isFile g f) = 0 then (-2) else (upd (w_X7_touch_1 g ((g (443 + 3 * f.toNatClampNeg)).toNatClampNeg) f.toNatClampNeg) (443 + 3 * f.toNatClampNeg) (-1)) ((443 + 3 * f.toNatClampNeg) + 2)
def w_X7_deleteFile_1 (g : Nat → Int32) (f : Int32) : Nat → Int32 := if (r_X7_isFile g f) = 0 then g else upd (w_X7_touch_1 g ((g (443 + 3 * f.toNatClampNeg)).toNatClampNeg) f.toNatClampNeg) (443 + 3 * f.toNatClampNeg) (-1)
set_option maxRecDepth 20000 in
/-- X7_deleteFile -/
theorem c_X7_deleteFile (D : va_G) (q : Nat → Nat) (g : Nat → Int32) (f : Int32) (F0 : Nat) (h2 : g 2 = nI F0) (hF : F0 ≤ 40) (hT : ∀ k, k < F0 → ¬ g (443 + 3 * k) < 0 → g (443 + 3 * k) = nI (g (443 + 3 * k)).toNatClampNeg ∧ (g (443 + 3 * k)).toNatClampNeg < 20) (l : Launch) : Ct l yX7_deleteFile cX7_deleteFile 2 (some .int) (rmM 2 43 0 0) D [.ref (q 0), .int f] [(q 0, .inr (7, [.ref (q 1), .ref (q 2), .ref (q 3), .ref (q 4), .ref (q 5), .ref (q 6), .ref (q 7), .ref (q 8), .ref (q 9), .ref (q 10)])), (q 1, aI D 703 g)] (QI1 D (r_X7_deleteFile g f) [(q 0, .inr (7, [.ref (q 1), .ref (q 2), .ref (q 3), .ref (q 4), .ref (q 5), .ref (q 6), .ref (q 7), .ref (q 8), .ref (q 9), .ref (q 10)])), (q 1, aI D 703 (w_X7_deleteFile_1 g f))]) := by
  refine Ct.ofV 0 (lv0 := [some (.ref (q 0)), some (.int f)]) (by decide) rfl rfl (fun Z E F => ?_)
  refine v_aload_n E dX7_deleteFile_0 rfl ?_
  refine v_iload_n E dX7_deleteFile_1 rfl ?_
  refine v_cV_i E dX7_deleteFile_2 (c_X7_isFile D q g f F0 h2 hF) cs_X7_67 rfl rfl rfl (Nat.le_of_ble_eq_true rfl) 0 rfl rfl [0, 1] rfl rfl ⟨Nat.le_of_ble_eq_true rfl, Nat.le_of_ble_eq_true rfl⟩ ?_
  refine v_if_ne E 11 dX7_deleteFile_5 (by decide) (fun c_5 => ?_) (fun c_5 => ?_)
  · obtain ⟨hf1, hf2, hf3⟩ := isF_use h2 hF c_5
    obtain ⟨ht1, ht2⟩ := hT _ hf2 hf3
    refine v_aload_n E dX7_deleteFile_11 rfl ?_
    refine v_aload_n E dX7_deleteFile_12 rfl ?_
    refine v_get E dX7_deleteFile_13 (ci := 7) rfl iwX7 0 rfl 0 rfl fl_X7_7 rfl ?_
    refine v_iload_n E dX7_deleteFile_16 rfl ?_
    refine v_cS_i E dX7_deleteFile_17 (c_X7_at D f) cs_X7_64 rfl rfl rfl (Nat.le_of_ble_eq_true rfl) [] rfl rfl ⟨Nat.le_of_ble_eq_true rfl, Nat.le_of_ble_eq_true rfl⟩ ?_
    refine v_iald E dX7_deleteFile_20 1 rfl (443 + 3 * f.toNatClampNeg) (at_nat hf1) (by omega) rfl ?_
    refine v_iload_n E dX7_deleteFile_21 rfl ?_
    refine v_cV_vU E dX7_deleteFile_22 (c_X7_touch D q g (g (443 + 3 * f.toNatClampNeg)) f ((g (443 + 3 * f.toNatClampNeg)).toNatClampNeg) f.toNatClampNeg ht1 hf1 (by omega) (by omega)) cs_X7_77 rfl rfl rfl (Nat.le_of_ble_eq_true rfl) 0 rfl rfl [0, 1] rfl rfl ⟨Nat.le_of_ble_eq_true rfl, Nat.le_of_ble_eq_true rfl⟩ [q 0, q 1] rfl rfl ?_
    refine v_wd (wd2 := [(q 0, .inr (7, [.ref (q 1), .ref (q 2), .ref (q 3), .ref (q 4), .ref (q 5), .ref (q 6), .ref (q 7), .ref (q 8), .ref (q 9), .ref (q 10)])), (q 1, aI D 703 (w_X7_touch_1 g ((g (443 + 3 * f.toNatClampNeg)).toNatClampNeg) f.toNatClampNeg))]) rfl ?_
    refine v_aload_n E dX7_deleteFile_25 rfl ?_
    refine v_get E dX7_deleteFile_26 (ci := 7) rfl iwX7 0 rfl 0 rfl fl_X7_7 rfl ?_
    refine v_iload_n E dX7_deleteFile_29 rfl ?_
    refine v_cS_i E dX7_deleteFile_30 (c_X7_at D f) cs_X7_64 rfl rfl rfl (Nat.le_of_ble_eq_true rfl) [] rfl rfl ⟨Nat.le_of_ble_eq_true rfl, Nat.le_of_ble_eq_true rfl⟩ ?_
    refine v_iconst E dX7_deleteFile_33 (v := -1) (by decide) ?_
    refine v_iast E dX7_deleteFile_34 1 rfl (443 + 3 * f.toNatClampNeg) (at_nat hf1) (by omega) rfl ?_
    refine v_wd (wd2 := [(q 0, .inr (7, [.ref (q 1), .ref (q 2), .ref (q 3), .ref (q 4), .ref (q 5), .ref (q 6), .ref (q 7), .ref (q 8), .ref (q 9), .ref (q 10)])), (q 1, aI D 703 (upd (w_X7_touch_1 g ((g (443 + 3 * f.toNatClampNeg)).toNatClampNeg) f.toNatClampNeg) (443 + 3 * f.toNatClampNeg) (-1)))]) rfl ?_
    refine v_aload_n E dX7_deleteFile_35 rfl ?_
    refine v_get E dX7_deleteFile_36 (ci := 7) rfl iwX7 0 rfl 0 rfl fl_X7_7 rfl ?_
    refine v_iload_n E dX7_deleteFile_39 rfl ?_
    refine v_cS_i E dX7_deleteFile_40 (c_X7_at D f) cs_X7_64 rfl rfl rfl (Nat.le_of_ble_eq_true rfl) [] rfl rfl ⟨Nat.le_of_ble_eq_true rfl, Nat.le_of_ble_eq_true rfl⟩ ?_
    refine v_iconst E dX7_deleteFile_43 (v := 2) (by decide) ?_
    refine v_iadd E dX7_deleteFile_44 ?_
    refine v_iald E dX7_deleteFile_45 1 rfl ((443 + 3 * f.toNatClampNeg) + 2) (hadd (at_nat hf1) (show (2 : Int32) = nI 2 by decide)) (by omega) rfl ?_
    exact v_iret E F dX7_deleteFile_46 rfl rfl () (by simp only [r_X7_deleteFile, if_neg c_5]) (by simp only [w_X7_deleteFile_1, if_neg c_5] <;> rfl) (Nat.le_of_ble_eq_true rfl) (Nat.le_of_ble_eq_true rfl)
  · refine v_bipush E dX7_deleteFile_8 (v := -2) (by decide) ?_
    exact v_iret E F dX7_deleteFile_10 rfl rfl () (by simp only [r_X7_deleteFile, if_pos c_5]) (by simp only [w_X7_deleteFile_1, if_pos c_5] <;> rfl) (Nat.le_of_ble_eq_true rfl) (Nat.le_of_ble_eq_true rfl)

def r_X7_targetOf (g : Nat → Int32) (f : Int32) : Int32 := if (r_X7_isFile g f) = 0 then (-2) else g (443 + 3 * f.toNatClampNeg)
set_option maxRecDepth 20000 in
/-- X7_targetOf -/
theorem c_X7_targetOf (D : va_G) (q : Nat → Nat) (g : Nat → Int32) (f : Int32) (F0 : Nat) (h2 : g 2 = nI F0) (hF : F0 ≤ 40) (l : Launch) : Ct l yX7_targetOf cX7_targetOf 2 (some .int) (rmM 2 43 0 0) D [.ref (q 0), .int f] [(q 0, .inr (7, [.ref (q 1), .ref (q 2), .ref (q 3), .ref (q 4), .ref (q 5), .ref (q 6), .ref (q 7), .ref (q 8), .ref (q 9), .ref (q 10)])), (q 1, aI D 703 g)] (QI1 D (r_X7_targetOf g f) [(q 0, .inr (7, [.ref (q 1), .ref (q 2), .ref (q 3), .ref (q 4), .ref (q 5), .ref (q 6), .ref (q 7), .ref (q 8), .ref (q 9), .ref (q 10)])), (q 1, aI D 703 g)]) := by
  refine Ct.ofV 0 (lv0 := [some (.ref (q 0)), some (.int f)]) (by decide) rfl rfl (fun Z E F => ?_)
  refine v_aload_n E dX7_targetOf_0 rfl ?_
  refine v_iload_n E dX7_targetOf_1 rfl ?_
  refine v_cV_i E dX7_targetOf_2 (c_X7_isFile D q g f F0 h2 hF) cs_X7_67 rfl rfl rfl (Nat.le_of_ble_eq_true rfl) 0 rfl rfl [0, 1] rfl rfl ⟨Nat.le_of_ble_eq_true rfl, Nat.le_of_ble_eq_true rfl⟩ ?_
  refine v_if_eq E 20 dX7_targetOf_5 (by decide) (fun c_5 => ?_) (fun c_5 => ?_)
  · refine v_bipush E dX7_targetOf_20 (v := -2) (by decide) ?_
    exact v_iret E F dX7_targetOf_22 rfl rfl () (by simp only [r_X7_targetOf, if_pos c_5]) rfl (Nat.le_of_ble_eq_true rfl) (Nat.le_of_ble_eq_true rfl)
  · obtain ⟨hf1, hf2, hf3⟩ := isF_use h2 hF c_5
    refine v_aload_n E dX7_targetOf_8 rfl ?_
    refine v_get E dX7_targetOf_9 (ci := 7) rfl iwX7 0 rfl 0 rfl fl_X7_7 rfl ?_
    refine v_iload_n E dX7_targetOf_12 rfl ?_
    refine v_cS_i E dX7_targetOf_13 (c_X7_at D f) cs_X7_64 rfl rfl rfl (Nat.le_of_ble_eq_true rfl) [] rfl rfl ⟨Nat.le_of_ble_eq_true rfl, Nat.le_of_ble_eq_true rfl⟩ ?_
    refine v_iald E dX7_targetOf_16 1 rfl (443 + 3 * f.toNatClampNeg) (at_nat hf1) (by omega) rfl ?_
    refine v_goto E 22 dX7_targetOf_17 (by decide) ?_
    exact v_iret E F dX7_targetOf_22 rfl rfl () (by simp only [r_X7_targetOf, if_neg c_5]) rfl (Nat.le_of_ble_eq_true rfl) (Nat.le_of_ble_eq_true rfl)

def r_X7_nameOf (g : Nat → Int32) (f : Int32) : Int32 := if (r_X7_isFile g f) = 0 then (-2) else g ((443 + 3 * f.toNatClampNeg) + 2)
set_option maxRecDepth 20000 in
/-- X7_nameOf -/
theorem c_X7_nameOf (D : va_G) (q : Nat → Nat) (g : Nat → Int32) (f : Int32) (F0 : Nat) (h2 : g 2 = nI F0) (hF : F0 ≤ 40) (l : Launch) : Ct l yX7_nameOf cX7_nameOf 2 (some .int) (rmM 2 43 0 0) D [.ref (q 0), .int f] [(q 0, .inr (7, [.ref (q 1), .ref (q 2), .ref (q 3), .ref (q 4), .ref (q 5), .ref (q 6), .ref (q 7), .ref (q 8), .ref (q 9), .ref (q 10)])), (q 1, aI D 703 g)] (QI1 D (r_X7_nameOf g f) [(q 0, .inr (7, [.ref (q 1), .ref (q 2), .ref (q 3), .ref (q 4), .ref (q 5), .ref (q 6), .ref (q 7), .ref (q 8), .ref (q 9), .ref (q 10)])), (q 1, aI D 703 g)]) := by
  refine Ct.ofV 0 (lv0 := [some (.ref (q 0)), some (.int f)]) (by decide) rfl rfl (fun Z E F => ?_)
  refine v_aload_n E dX7_nameOf_0 rfl ?_
  refine v_iload_n E dX7_nameOf_1 rfl ?_
  refine v_cV_i E dX7_nameOf_2 (c_X7_isFile D q g f F0 h2 hF) cs_X7_67 rfl rfl rfl (Nat.le_of_ble_eq_true rfl) 0 rfl rfl [0, 1] rfl rfl ⟨Nat.le_of_ble_eq_true rfl, Nat.le_of_ble_eq_true rfl⟩ ?_
  refine v_if_eq E 22 dX7_nameOf_5 (by decide) (fun c_5 => ?_) (fun c_5 => ?_)
  · refine v_bipush E dX7_nameOf_22 (v := -2) (by decide) ?_
    exact v_iret E F dX7_nameOf_24 rfl rfl () (by simp only [r_X7_nameOf, if_pos c_5]) rfl (Nat.le_of_ble_eq_true rfl) (Nat.le_of_ble_eq_true rfl)
  · obtain ⟨hf1, hf2, hf3⟩ := isF_use h2 hF c_5
    refine v_aload_n E dX7_nameOf_8 rfl ?_
    refine v_get E dX7_nameOf_9 (ci := 7) rfl iwX7 0 rfl 0 rfl fl_X7_7 rfl ?_
    refine v_iload_n E dX7_nameOf_12 rfl ?_
    refine v_cS_i E dX7_nameOf_13 (c_X7_at D f) cs_X7_64 rfl rfl rfl (Nat.le_of_ble_eq_true rfl) [] rfl rfl ⟨Nat.le_of_ble_eq_true rfl, Nat.le_of_ble_eq_true rfl⟩ ?_
    refine v_iconst E dX7_nameOf_16 (v := 2) (by decide) ?_
    refine v_iadd E dX7_nameOf_17 ?_
    refine v_iald E dX7_nameOf_18 1 rfl ((443 + 3 * f.toNatClampNeg) + 2) (hadd (at_nat hf1) (show (2 : Int32) = nI 2 by decide)) (by omega) rfl ?_
    refine v_goto E 24 dX7_nameOf_19 (by decide) ?_
    exact v_iret E F dX7_nameOf_24 rfl rfl () (by simp only [r_X7_nameOf, if_neg c_5]) rfl (Nat.le_of_ble_eq_true rfl) (Nat.le_of_ble_eq_true rfl)

def r_X7_follow (g : Nat → Int32) (nm : Int32) : Int32 := if (r_X7_in nm 0 99) = 0 then (-3) else if (r_X7_isFile g ((g (563 + nm.toNatClampNeg)) - 1)) = 0 then (-10) else (g (563 + nm.toNatClampNeg)) - 1
set_option maxRecDepth 20000 in
/-- X7_follow -/
theorem c_X7_follow (D : va_G) (q : Nat → Nat) (g : Nat → Int32) (nm : Int32) (F0 : Nat) (h2 : g 2 = nI F0) (hF : F0 ≤ 40) (l : Launch) : Ct l yX7_follow cX7_follow 3 (some .int) (rmM 2 43 0 0) D [.ref (q 0), .int nm] [(q 0, .inr (7, [.ref (q 1), .ref (q 2), .ref (q 3), .ref (q 4), .ref (q 5), .ref (q 6), .ref (q 7), .ref (q 8), .ref (q 9), .ref (q 10)])), (q 1, aI D 703 g)] (QI1 D (r_X7_follow g nm) [(q 0, .inr (7, [.ref (q 1), .ref (q 2), .ref (q 3), .ref (q 4), .ref (q 5), .ref (q 6), .ref (q 7), .ref (q 8), .ref (q 9), .ref (q 10)])), (q 1, aI D 703 g)]) := by
  refine Ct.ofV 1 (lv0 := [some (.ref (q 0)), some (.int nm), none]) (by decide) rfl rfl (fun Z E F => ?_)
  refine v_iload_n E dX7_follow_0 rfl ?_
  refine v_iconst E dX7_follow_1 (v := 0) (by decide) ?_
  refine v_bipush E dX7_follow_2 (v := 99) (by decide) ?_
  refine v_cS_i E dX7_follow_4 (c_X7_in D nm 0 99) cs_X7_41 rfl rfl rfl (Nat.le_of_ble_eq_true rfl) [] rfl rfl ⟨Nat.le_of_ble_eq_true rfl, Nat.le_of_ble_eq_true rfl⟩ ?_
  refine v_if_ne E 13 dX7_follow_7 (by decide) (fun c_7 => ?_) (fun c_7 => ?_)
  · obtain ⟨hn1, hn2⟩ := in_useK (M := 99) (by decide) c_7
    refine v_aload_n E dX7_follow_13 rfl ?_
    refine v_get E dX7_follow_14 (ci := 7) rfl iwX7 0 rfl 0 rfl fl_X7_7 rfl ?_
    refine v_sipush E dX7_follow_17 (v := 563) (by decide) ?_
    refine v_iload_n E dX7_follow_20 rfl ?_
    refine v_iadd E dX7_follow_21 ?_
    refine v_iald E dX7_follow_22 1 rfl (563 + nm.toNatClampNeg) (hadd (show (563 : Int32) = nI 563 by decide) hn1) (by omega) rfl ?_
    refine v_iconst E dX7_follow_23 (v := 1) (by decide) ?_
    refine v_isub E dX7_follow_24 ?_
    refine v_istore_n E dX7_follow_25 rfl rfl ?_
    refine v_aload_n E dX7_follow_26 rfl ?_
    refine v_iload_n E dX7_follow_27 rfl ?_
    refine v_cV_i E dX7_follow_28 (c_X7_isFile D q g ((g (563 + nm.toNatClampNeg)) - 1) F0 h2 hF) cs_X7_67 rfl rfl rfl (Nat.le_of_ble_eq_true rfl) 0 rfl rfl [0, 1] rfl rfl ⟨Nat.le_of_ble_eq_true rfl, Nat.le_of_ble_eq_true rfl⟩ ?_
    refine v_if_eq E 38 dX7_follow_31 (by decide) (fun c_31 => ?_) (fun c_31 => ?_)
    · refine v_bipush E dX7_follow_38 (v := -10) (by decide) ?_
      exact v_iret E F dX7_follow_40 rfl rfl () (by simp only [r_X7_follow, if_neg c_7, if_pos c_31]) rfl (Nat.le_of_ble_eq_true rfl) (Nat.le_of_ble_eq_true rfl)
    · refine v_iload_n E dX7_follow_34 rfl ?_
      refine v_goto E 40 dX7_follow_35 (by decide) ?_
      exact v_iret E F dX7_follow_40 rfl rfl () (by simp only [r_X7_follow, if_neg c_7, if_neg c_31]) rfl (Nat.le_of_ble_eq_true rfl) (Nat.le_of_ble_eq_true rfl)
  · refine v_bipush E dX7_follow_10 (v := -3) (by decide) ?_
    exact v_iret E F dX7_follow_12 rfl rfl () (by simp only [r_X7_follow, if_pos c_7]) rfl (Nat.le_of_ble_eq_true rfl) (Nat.le_of_ble_eq_true rfl)

def s_X7_clearChanges_4  (i : Nat) (z_ : Int32 × (Nat → Int32)) : Int32 × (Nat → Int32) := match z_ with
  | (n1, g1) => (n1 + (g1 (663 + i)), upd g1 (663 + i) 0)
def r_X7_clearChanges (g : Nat → Int32) : Int32 := (foldN s_X7_clearChanges_4 40 0 (0, g)).1
def w_X7_clearChanges_1 (g : Nat → Int32) : Nat → Int32 := (foldN s_X7_clearChanges_4 40 0 (0, g)).2
set_option maxRecDepth 20000 in
/-- X7_clearChanges -/
theorem c_X7_clearChanges (D : va_G) (q : Nat → Nat) (g : Nat → Int32) (l : Launch) : Ct l yX7_clearChanges cX7_clearChanges 3 (some .int) (rmM 0 0 0 0) D [.ref (q 0)] [(q 0, .inr (7, [.ref (q 1), .ref (q 2), .ref (q 3), .ref (q 4), .ref (q 5), .ref (q 6), .ref (q 7), .ref (q 8), .ref (q 9), .ref (q 10)])), (q 1, aI D 703 g)] (QI1 D (r_X7_clearChanges g) [(q 0, .inr (7, [.ref (q 1), .ref (q 2), .ref (q 3), .ref (q 4), .ref (q 5), .ref (q 6), .ref (q 7), .ref (q 8), .ref (q 9), .ref (q 10)])), (q 1, aI D 703 (w_X7_clearChanges_1 g))]) := by
  refine Ct.ofV 2 (lv0 := [some (.ref (q 0)), none, none]) (by decide) rfl rfl (fun Z E F => ?_)
  refine v_iconst E dX7_clearChanges_0 (v := 0) (by decide) ?_
  refine v_istore_n E dX7_clearChanges_1 rfl rfl ?_
  refine v_iconst E dX7_clearChanges_2 (v := 0) (by decide) ?_
  refine v_istore_n E dX7_clearChanges_3 rfl rfl ?_
  have L4 : ∀ (n i : Nat) (n1 : Int32) (g1 : Nat → Int32), i + n = 40 → V Z D 0 0 [(q 0, .inr (7, [.ref (q 1), .ref (q 2), .ref (q 3), .ref (q 4), .ref (q 5), .ref (q 6), .ref (q 7), .ref (q 8), .ref (q 9), .ref (q 10)])), (q 1, aI D 703 ((foldN s_X7_clearChanges_4 n i (n1, g1)).2))] [some (.ref (q 0)), some (.int ((foldN s_X7_clearChanges_4 n i (n1, g1)).1)), some (.int (nI 40))] [] 40 → V Z D 0 0 [(q 0, .inr (7, [.ref (q 1), .ref (q 2), .ref (q 3), .ref (q 4), .ref (q 5), .ref (q 6), .ref (q 7), .ref (q 8), .ref (q 9), .ref (q 10)])), (q 1, aI D 703 g1)] [some (.ref (q 0)), some (.int n1), some (.int (nI i))] [] 4 := by
    intro n
    induction n with
    | zero =>
      intro i n1 g1 hi  K4
      have hiN : i = 40 := by omega
      rw [hiN]
      refine v_iload_n E dX7_clearChanges_4 rfl ?_
      refine v_bipush E dX7_clearChanges_5 (v := 40) (by decide) ?_
      refine v_icmp_ge E 40 dX7_clearChanges_7 (by decide) (fun c_7 => ?_) (fun c_7 => ?_)
      · exact K4
      · exact absurd (leN (a := 40) (b := 40) (show (40 : Int32) = nI 40 by decide) rfl (by omega) (by omega)) c_7
    | succ n ih =>
      intro i n1 g1 hi  K4
      refine v_iload_n E dX7_clearChanges_4 rfl ?_
      refine v_bipush E dX7_clearChanges_5 (v := 40) (by decide) ?_
      refine v_icmp_ge E 40 dX7_clearChanges_7 (by decide) (fun c_7 => ?_) (fun c_7 => ?_)
      · exact absurd c_7 (nleN (a := 40) (b := i) (show (40 : Int32) = nI 40 by decide) rfl (by omega) (by omega))
      · refine v_iload_n E dX7_clearChanges_10 rfl ?_
        refine v_aload_n E dX7_clearChanges_11 rfl ?_
        refine v_get E dX7_clearChanges_12 (ci := 7) rfl iwX7 0 rfl 0 rfl fl_X7_7 rfl ?_
        refine v_sipush E dX7_clearChanges_15 (v := 663) (by decide) ?_
        refine v_iload_n E dX7_clearChanges_18 rfl ?_
        refine v_iadd E dX7_clearChanges_19 ?_
        refine v_iald E dX7_clearChanges_20 1 rfl (663 + i) (hadd (show (663 : Int32) = nI 663 by decide) rfl) (by omega) rfl ?_
        refine v_iadd E dX7_clearChanges_21 ?_
        refine v_istore_n E dX7_clearChanges_22 rfl rfl ?_
        refine v_aload_n E dX7_clearChanges_23 rfl ?_
        refine v_get E dX7_clearChanges_24 (ci := 7) rfl iwX7 0 rfl 0 rfl fl_X7_7 rfl ?_
        refine v_sipush E dX7_clearChanges_27 (v := 663) (by decide) ?_
        refine v_iload_n E dX7_clearChanges_30 rfl ?_
        refine v_iadd E dX7_clearChanges_31 ?_
        refine v_iconst E dX7_clearChanges_32 (v := 0) (by decide) ?_
        refine v_iast E dX7_clearChanges_33 1 rfl (663 + i) (hadd (show (663 : Int32) = nI 663 by decide) rfl) (by omega) rfl ?_
        refine v_wd (wd2 := [(q 0, .inr (7, [.ref (q 1), .ref (q 2), .ref (q 3), .ref (q 4), .ref (q 5), .ref (q 6), .ref (q 7), .ref (q 8), .ref (q 9), .ref (q 10)])), (q 1, aI D 703 (upd g1 (663 + i) 0))]) rfl ?_
        refine v_iinc E dX7_clearChanges_34 (v := nI (i + 1)) rfl (inc1 _) rfl rfl ?_
        refine v_goto E 4 dX7_clearChanges_37 (by decide) ?_
        have hs : s_X7_clearChanges_4 i (n1, g1) = (n1 + (g1 (663 + i)), upd g1 (663 + i) 0) := by rfl
        rw [foldN_s s_X7_clearChanges_4 n i (n1, g1), hs] at K4
        exact ih (i + 1) (n1 + (g1 (663 + i))) (upd g1 (663 + i) 0) (by omega) K4
  refine L4 40 0 0 g (by omega)  ?_
  refine v_iload_n E dX7_clearChanges_40 rfl ?_
  exact v_iret E F dX7_clearChanges_41 rfl rfl () rfl rfl (Nat.le_of_ble_eq_true rfl) (Nat.le_of_ble_eq_true rfl)

def s_X7_directlyChanged_14 (g : Nat → Int32) (p : Int32) (i : Nat) (m1 : Int32) : Int32 := if (g ((663 + (2 * i)) + p.toNatClampNeg)) = 1 then m1 ||| (1 <<< ((nI i) &&& 31)) else m1 ||| 0
def r_X7_directlyChanged (g : Nat → Int32) (p : Int32) (N : Nat) : Int32 := if (r_X7_isPart p) = 0 then (-3) else (foldN (s_X7_directlyChanged_14 g p) N 0 0)
set_option maxRecDepth 20000 in
/-- X7_directlyChanged -/
theorem c_X7_directlyChanged (D : va_G) (q : Nat → Nat) (g : Nat → Int32) (p : Int32) (N : Nat) (h0 : g 0 = nI N) (hN : N ≤ 20) (l : Launch) : Ct l yX7_directlyChanged cX7_directlyChanged 4 (some .int) (rmM 2 42 0 0) D [.ref (q 0), .int p] [(q 0, .inr (7, [.ref (q 1), .ref (q 2), .ref (q 3), .ref (q 4), .ref (q 5), .ref (q 6), .ref (q 7), .ref (q 8), .ref (q 9), .ref (q 10)])), (q 1, aI D 703 g)] (QI1 D (r_X7_directlyChanged g p N) [(q 0, .inr (7, [.ref (q 1), .ref (q 2), .ref (q 3), .ref (q 4), .ref (q 5), .ref (q 6), .ref (q 7), .ref (q 8), .ref (q 9), .ref (q 10)])), (q 1, aI D 703 g)]) := by
  refine Ct.ofV 2 (lv0 := [some (.ref (q 0)), some (.int p), none, none]) (by decide) rfl rfl (fun Z E F => ?_)
  refine v_iload_n E dX7_directlyChanged_0 rfl ?_
  refine v_cS_i E dX7_directlyChanged_1 (c_X7_isPart D p) cs_X7_87 rfl rfl rfl (Nat.le_of_ble_eq_true rfl) [] rfl rfl ⟨Nat.le_of_ble_eq_true rfl, Nat.le_of_ble_eq_true rfl⟩ ?_
  refine v_if_ne E 10 dX7_directlyChanged_4 (by decide) (fun c_4 => ?_) (fun c_4 => ?_)
  · obtain ⟨hp1, hp2⟩ := in_useK (v := p) (hi := 1) (M := 1) (by decide) c_4
    refine v_iconst E dX7_directlyChanged_10 (v := 0) (by decide) ?_
    refine v_istore_n E dX7_directlyChanged_11 rfl rfl ?_
    refine v_iconst E dX7_directlyChanged_12 (v := 0) (by decide) ?_
    refine v_istore_n E dX7_directlyChanged_13 rfl rfl ?_
    have L14 : ∀ (n i : Nat) (m1 : Int32), i + n = N → V Z D 0 0 [(q 0, .inr (7, [.ref (q 1), .ref (q 2), .ref (q 3), .ref (q 4), .ref (q 5), .ref (q 6), .ref (q 7), .ref (q 8), .ref (q 9), .ref (q 10)])), (q 1, aI D 703 g)] [some (.ref (q 0)), some (.int p), some (.int (foldN (s_X7_directlyChanged_14 g p) n i m1)), some (.int (nI N))] [] 58 → V Z D 0 0 [(q 0, .inr (7, [.ref (q 1), .ref (q 2), .ref (q 3), .ref (q 4), .ref (q 5), .ref (q 6), .ref (q 7), .ref (q 8), .ref (q 9), .ref (q 10)])), (q 1, aI D 703 g)] [some (.ref (q 0)), some (.int p), some (.int m1), some (.int (nI i))] [] 14 := by
      intro n
      induction n with
      | zero =>
        intro i m1 hi  K14
        have hiN : i = N := by omega
        rw [hiN]
        refine v_iload_n E dX7_directlyChanged_14 rfl ?_
        refine v_aload_n E dX7_directlyChanged_15 rfl ?_
        refine v_get E dX7_directlyChanged_16 (ci := 7) rfl iwX7 0 rfl 0 rfl fl_X7_7 rfl ?_
        refine v_iconst E dX7_directlyChanged_19 (v := 0) (by decide) ?_
        refine v_iald E dX7_directlyChanged_20 1 rfl 0 (show (0 : Int32) = nI 0 by decide) (by omega) rfl ?_
        refine v_icmp_ge E 58 dX7_directlyChanged_21 (by decide) (fun c_21 => ?_) (fun c_21 => ?_)
        · exact K14
        · exact absurd (leN (a := N) (b := N) h0 rfl (by omega) (by omega)) c_21
      | succ n ih =>
        intro i m1 hi  K14
        refine v_iload_n E dX7_directlyChanged_14 rfl ?_
        refine v_aload_n E dX7_directlyChanged_15 rfl ?_
        refine v_get E dX7_directlyChanged_16 (ci := 7) rfl iwX7 0 rfl 0 rfl fl_X7_7 rfl ?_
        refine v_iconst E dX7_directlyChanged_19 (v := 0) (by decide) ?_
        refine v_iald E dX7_directlyChanged_20 1 rfl 0 (show (0 : Int32) = nI 0 by decide) (by omega) rfl ?_
        refine v_icmp_ge E 58 dX7_directlyChanged_21 (by decide) (fun c_21 => ?_) (fun c_21 => ?_)
        · exact absurd c_21 (nleN (a := N) (b := i) h0 rfl (by omega) (by omega))
        · refine v_iload_n E dX7_directlyChanged_24 rfl ?_
          refine v_aload_n E dX7_directlyChanged_25 rfl ?_
          refine v_get E dX7_directlyChanged_26 (ci := 7) rfl iwX7 0 rfl 0 rfl fl_X7_7 rfl ?_
          refine v_sipush E dX7_directlyChanged_29 (v := 663) (by decide) ?_
          refine v_iconst E dX7_directlyChanged_32 (v := 2) (by decide) ?_
          refine v_iload_n E dX7_directlyChanged_33 rfl ?_
          refine v_imul E dX7_directlyChanged_34 ?_
          refine v_iadd E dX7_directlyChanged_35 ?_
          refine v_iload_n E dX7_directlyChanged_36 rfl ?_
          refine v_iadd E dX7_directlyChanged_37 ?_
          refine v_iald E dX7_directlyChanged_38 1 rfl ((663 + (2 * i)) + p.toNatClampNeg) (hadd (hadd (show (663 : Int32) = nI 663 by decide) (hmul (show (2 : Int32) = nI 2 by decide) rfl)) hp1) (by omega) rfl ?_
          refine v_iconst E dX7_directlyChanged_39 (v := 1) (by decide) ?_
          refine v_icmp_ne E 49 dX7_directlyChanged_40 (by decide) (fun c_40 => ?_) (fun c_40 => ?_)
          · refine v_iconst E dX7_directlyChanged_49 (v := 0) (by decide) ?_
            refine v_ior E dX7_directlyChanged_50 ?_
            refine v_istore_n E dX7_directlyChanged_51 rfl rfl ?_
            refine v_iinc E dX7_directlyChanged_52 (v := nI (i + 1)) rfl (inc1 _) rfl rfl ?_
            refine v_goto E 14 dX7_directlyChanged_55 (by decide) ?_
            have hs : s_X7_directlyChanged_14 g p i m1 = (m1 ||| 0) := by simp only [s_X7_directlyChanged_14, if_neg c_40]
            rw [foldN_s (s_X7_directlyChanged_14 g p) n i m1, hs] at K14
            exact ih (i + 1) (m1 ||| 0) (by omega) K14
          · refine v_iconst E dX7_directlyChanged_43 (v := 1) (by decide) ?_
            refine v_iload_n E dX7_directlyChanged_44 rfl ?_
            refine v_ishl E dX7_directlyChanged_45 ?_
            refine v_goto E 50 dX7_directlyChanged_46 (by decide) ?_
            refine v_ior E dX7_directlyChanged_50 ?_
            refine v_istore_n E dX7_directlyChanged_51 rfl rfl ?_
            refine v_iinc E dX7_directlyChanged_52 (v := nI (i + 1)) rfl (inc1 _) rfl rfl ?_
            refine v_goto E 14 dX7_directlyChanged_55 (by decide) ?_
            have hs : s_X7_directlyChanged_14 g p i m1 = (m1 ||| (1 <<< ((nI i) &&& 31))) := by simp only [s_X7_directlyChanged_14, if_pos c_40]
            rw [foldN_s (s_X7_directlyChanged_14 g p) n i m1, hs] at K14
            exact ih (i + 1) (m1 ||| (1 <<< ((nI i) &&& 31))) (by omega) K14
    refine L14 N 0 0 (by omega)  ?_
    refine v_iload_n E dX7_directlyChanged_58 rfl ?_
    exact v_iret E F dX7_directlyChanged_59 rfl rfl () (by simp only [r_X7_directlyChanged, if_neg c_4]) rfl (Nat.le_of_ble_eq_true rfl) (Nat.le_of_ble_eq_true rfl)
  · refine v_bipush E dX7_directlyChanged_7 (v := -3) (by decide) ?_
    exact v_iret E F dX7_directlyChanged_9 rfl rfl () (by simp only [r_X7_directlyChanged, if_pos c_4]) rfl (Nat.le_of_ble_eq_true rfl) (Nat.le_of_ble_eq_true rfl)

def r_X7_removeDependency (g : Nat → Int32) (a : Int32) (b : Int32) : Int32 := if (r_X7_isTarget g a) = 0 then (-1) else if (r_X7_isTarget g b) = 0 then (-1) else if 0 ≤ (r_X7_linkOf g a.toNatClampNeg b.toNatClampNeg) then (r_X7_linkOf g a.toNatClampNeg b.toNatClampNeg) else (-10)
def w_X7_removeDependency_1 (g : Nat → Int32) (a : Int32) (b : Int32) : Nat → Int32 := if (r_X7_isTarget g a) = 0 then g else if (r_X7_isTarget g b) = 0 then g else if 0 ≤ (r_X7_linkOf g a.toNatClampNeg b.toNatClampNeg) then upd (upd g ((43 + (20 * a.toNatClampNeg)) + b.toNatClampNeg) 0) 1 (((upd g ((43 + (20 * a.toNatClampNeg)) + b.toNatClampNeg) 0) 1) - 1) else g
set_option maxRecDepth 20000 in
/-- X7_removeDependency -/
theorem c_X7_removeDependency (D : va_G) (q : Nat → Nat) (g : Nat → Int32) (a : Int32) (b : Int32) (N : Nat) (h0 : g 0 = nI N) (hN : N ≤ 20) (l : Launch) : Ct l yX7_removeDependency cX7_removeDependency 4 (some .int) (rmM 2 43 0 0) D [.ref (q 0), .int a, .int b] [(q 0, .inr (7, [.ref (q 1), .ref (q 2), .ref (q 3), .ref (q 4), .ref (q 5), .ref (q 6), .ref (q 7), .ref (q 8), .ref (q 9), .ref (q 10)])), (q 1, aI D 703 g)] (QI1 D (r_X7_removeDependency g a b) [(q 0, .inr (7, [.ref (q 1), .ref (q 2), .ref (q 3), .ref (q 4), .ref (q 5), .ref (q 6), .ref (q 7), .ref (q 8), .ref (q 9), .ref (q 10)])), (q 1, aI D 703 (w_X7_removeDependency_1 g a b))]) := by
  refine Ct.ofV 1 (lv0 := [some (.ref (q 0)), some (.int a), some (.int b), none]) (by decide) rfl rfl (fun Z E F => ?_)
  refine v_aload_n E dX7_removeDependency_0 rfl ?_
  refine v_iload_n E dX7_removeDependency_1 rfl ?_
  refine v_cV_i E dX7_removeDependency_2 (c_X7_isTarget D q g a) cs_X7_57 rfl rfl rfl (Nat.le_of_ble_eq_true rfl) 0 rfl rfl [0, 1] rfl rfl ⟨Nat.le_of_ble_eq_true rfl, Nat.le_of_ble_eq_true rfl⟩ ?_
  refine v_if_eq E 16 dX7_removeDependency_5 (by decide) (fun c_5 => ?_) (fun c_5 => ?_)
  · refine v_iconst E dX7_removeDependency_16 (v := -1) (by decide) ?_
    exact v_iret E F dX7_removeDependency_17 rfl rfl () (by simp only [r_X7_removeDependency, if_pos c_5]) (by simp only [w_X7_removeDependency_1, if_pos c_5] <;> rfl) (Nat.le_of_ble_eq_true rfl) (Nat.le_of_ble_eq_true rfl)
  · refine v_aload_n E dX7_removeDependency_8 rfl ?_
    refine v_iload_n E dX7_removeDependency_9 rfl ?_
    refine v_cV_i E dX7_removeDependency_10 (c_X7_isTarget D q g b) cs_X7_57 rfl rfl rfl (Nat.le_of_ble_eq_true rfl) 0 rfl rfl [0, 1] rfl rfl ⟨Nat.le_of_ble_eq_true rfl, Nat.le_of_ble_eq_true rfl⟩ ?_
    refine v_if_ne E 18 dX7_removeDependency_13 (by decide) (fun c_13 => ?_) (fun c_13 => ?_)
    · obtain ⟨ha1, ha2⟩ := isT_use h0 hN c_5
      obtain ⟨hb1, hb2⟩ := isT_use h0 hN c_13
      refine v_aload_n E dX7_removeDependency_18 rfl ?_
      refine v_iload_n E dX7_removeDependency_19 rfl ?_
      refine v_iload_n E dX7_removeDependency_20 rfl ?_
      refine v_cV_i E dX7_removeDependency_21 (c_X7_linkOf D q g a b a.toNatClampNeg b.toNatClampNeg ha1 hb1 (by omega) (by omega)) cs_X7_53 rfl rfl rfl (Nat.le_of_ble_eq_true rfl) 0 rfl rfl [0, 1] rfl rfl ⟨Nat.le_of_ble_eq_true rfl, Nat.le_of_ble_eq_true rfl⟩ ?_
      refine v_istore_n E dX7_removeDependency_24 rfl rfl ?_
      refine v_iload_n E dX7_removeDependency_25 rfl ?_
      refine v_if_ge E 32 dX7_removeDependency_26 (by decide) (fun c_26 => ?_) (fun c_26 => ?_)
      · refine v_aload_n E dX7_removeDependency_32 rfl ?_
        refine v_get E dX7_removeDependency_33 (ci := 7) rfl iwX7 0 rfl 0 rfl fl_X7_7 rfl ?_
        refine v_bipush E dX7_removeDependency_36 (v := 43) (by decide) ?_
        refine v_bipush E dX7_removeDependency_38 (v := 20) (by decide) ?_
        refine v_iload_n E dX7_removeDependency_40 rfl ?_
        refine v_imul E dX7_removeDependency_41 ?_
        refine v_iadd E dX7_removeDependency_42 ?_
        refine v_iload_n E dX7_removeDependency_43 rfl ?_
        refine v_iadd E dX7_removeDependency_44 ?_
        refine v_iconst E dX7_removeDependency_45 (v := 0) (by decide) ?_
        refine v_iast E dX7_removeDependency_46 1 rfl ((43 + (20 * a.toNatClampNeg)) + b.toNatClampNeg) (hadd (hadd (show (43 : Int32) = nI 43 by decide) (hmul (show (20 : Int32) = nI 20 by decide) ha1)) hb1) (by omega) rfl ?_
        refine v_wd (wd2 := [(q 0, .inr (7, [.ref (q 1), .ref (q 2), .ref (q 3), .ref (q 4), .ref (q 5), .ref (q 6), .ref (q 7), .ref (q 8), .ref (q 9), .ref (q 10)])), (q 1, aI D 703 (upd g ((43 + (20 * a.toNatClampNeg)) + b.toNatClampNeg) 0))]) rfl ?_
        refine v_aload_n E dX7_removeDependency_47 rfl ?_
        refine v_get E dX7_removeDependency_48 (ci := 7) rfl iwX7 0 rfl 0 rfl fl_X7_7 rfl ?_
        refine v_iconst E dX7_removeDependency_51 (v := 1) (by decide) ?_
        refine v_dup2 E dX7_removeDependency_52 rfl rfl ?_
        refine v_iald E dX7_removeDependency_53 1 rfl 1 (show (1 : Int32) = nI 1 by decide) (by omega) rfl ?_
        refine v_iconst E dX7_removeDependency_54 (v := 1) (by decide) ?_
        refine v_isub E dX7_removeDependency_55 ?_
        refine v_iast E dX7_removeDependency_56 1 rfl 1 (show (1 : Int32) = nI 1 by decide) (by omega) rfl ?_
        refine v_wd (wd2 := [(q 0, .inr (7, [.ref (q 1), .ref (q 2), .ref (q 3), .ref (q 4), .ref (q 5), .ref (q 6), .ref (q 7), .ref (q 8), .ref (q 9), .ref (q 10)])), (q 1, aI D 703 (upd (upd g ((43 + (20 * a.toNatClampNeg)) + b.toNatClampNeg) 0) 1 (((upd g ((43 + (20 * a.toNatClampNeg)) + b.toNatClampNeg) 0) 1) - 1)))]) rfl ?_
        refine v_iload_n E dX7_removeDependency_57 rfl ?_
        exact v_iret E F dX7_removeDependency_58 rfl rfl () (by simp only [r_X7_removeDependency, if_neg c_5, if_neg c_13, if_pos c_26]) (by simp only [w_X7_removeDependency_1, if_neg c_5, if_neg c_13, if_pos c_26] <;> rfl) (Nat.le_of_ble_eq_true rfl) (Nat.le_of_ble_eq_true rfl)
      · refine v_bipush E dX7_removeDependency_29 (v := -10) (by decide) ?_
        exact v_iret E F dX7_removeDependency_31 rfl rfl () (by simp only [r_X7_removeDependency, if_neg c_5, if_neg c_13, if_neg c_26]) (by simp only [w_X7_removeDependency_1, if_neg c_5, if_neg c_13, if_neg c_26] <;> rfl) (Nat.le_of_ble_eq_true rfl) (Nat.le_of_ble_eq_true rfl)
    · refine v_iconst E dX7_removeDependency_16 (v := -1) (by decide) ?_
      exact v_iret E F dX7_removeDependency_17 rfl rfl () (by simp only [r_X7_removeDependency, if_neg c_5, if_pos c_13]) (by simp only [w_X7_removeDependency_1, if_neg c_5, if_pos c_13] <;> rfl) (Nat.le_of_ble_eq_true rfl) (Nat.le_of_ble_eq_true rfl)

