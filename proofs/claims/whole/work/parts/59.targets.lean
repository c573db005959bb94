/-! the targets -/
theorem tcount {N : Nat} {ok g : Nat → Int32} (hN : N ≤ 20) (hk : RK N ok g) : r_X5_testCount ok = nI (fb_ct (fun t => decide (g (3 + t) = 2)) N) := by
  show r_J6_bitCount_0f7a4 (ok 2) = _
  rw [bitc32]
  have e : fb_ct (bt (ok 2)) 32 = fb_ct (fun t => decide (g (3 + t) = 2)) N := by
    rw [show (32 : Nat) = N + (32 - N) by omega, fb_ct_split]
    have z : fb_ct (fun k => bt (ok 2) (N + k)) (32 - N) = 0 := fb_ct_zero.mpr fun k hk' => by
      rw [hk.2 2 (by decide), decide_eq_false (by omega)]
    rw [z, Nat.add_zero]
    refine fb_ct_cong fun t ht => ?_
    rw [hk.2 2 (by decide)]
    have : (t < N ∧ g (3 + t) = nI 2) ↔ g (3 + t) = 2 := ⟨fun x => x.2, fun x => ⟨ht, x⟩⟩
    exact decide_eq_decide.mpr this
  rw [e]
theorem rtests (g : Nat → Int32) (N : Nat) : r_X7_tests g N = nI (fb_ct (fun t => decide (g (3 + t) = 2)) N) := by
  have := foldN_i (f := s_X7_tests_4 g) (n := N) (fun j a => a = nI (fb_ct (fun t => decide (g (3 + t) = 2)) j)) (fun j a hj ih => by
    unfold s_X7_tests_4 r_X7_kindOf
    rw [fb_ct_succ]
    by_cases c : g (3 + j) = 2
    · rw [if_pos c, if_pos (decide_eq_true c), ih]
      exact nI_1 _
    · rw [if_neg c, if_neg (by rw [decide_eq_false c]; decide), ih]
      exact hadd rfl rfl) (a := 0) rfl
  exact this
theorem w_rng (w : Int32) : (w < 1 ∧ r_X7_in w 1 100 = 0) ∨ (¬ w < 1 ∧ ¬ w ≤ 100 ∧ r_X7_in w 1 100 = 0) ∨ ∃ v, 1 ≤ v ∧ v ≤ 100 ∧ w = nI v ∧ ¬ w < 1 ∧ w ≤ 100 ∧ ¬ r_X7_in w 1 100 = 0 := by
  have t1 : (1 : Int32).toInt = 1 := by decide
  have t2 : (100 : Int32).toInt = 100 := by decide
  have t0 : (0 : Int32).toInt = 0 := by decide
  unfold r_X7_in
  by_cases c : w < 1
  · exact Or.inl ⟨c, if_pos c⟩
  · rw [if_neg c]
    by_cases d : w ≤ 100
    · have d' : ¬ 100 < w := by
        rw [Int32.lt_iff_toInt_lt]
        rw [Int32.le_iff_toInt_le] at d
        omega
      have c' : ¬ w < 0 := by
        rw [Int32.lt_iff_toInt_lt] at c ⊢
        omega
      obtain ⟨j, hj, e⟩ := nI_of2 (n := 100) t2 c' d
      rw [if_neg d']
      refine Or.inr (Or.inr ⟨j, ?_, hj, e, c, d, by decide⟩)
      rw [e, Int32.lt_iff_toInt_lt, nI_toInt (by omega)] at c
      omega
    · have d' : 100 < w := by
        rw [Int32.lt_iff_toInt_lt]
        rw [Int32.le_iff_toInt_le] at d
        omega
      exact Or.inr (Or.inl ⟨c, d, if_pos d'⟩)
theorem FL_N {N F : Nat} {fc : Int32} {ft fn fh fe fo g : Nat → Int32} (h : FL N F fc ft fn fh fe fo g) : FL (N + 1) F fc ft fn fh fe fo g := by
  refine ⟨h.hF, h.cf, h.g2, fun f hf => ?_, h.hd, h.nm, h.ow, h.un, h.bh, h.be⟩
  rcases h.ex f hf with a | ⟨a, t, ht, b⟩
  · exact Or.inl a
  · exact Or.inr ⟨a, t, by omega, b⟩
theorem rl_addT {B N F : Nat} {ct dp : Int32} {we ok : Nat → Int32} {us : Nat → Nat → Int32} {fc : Int32} {ft fn fh fe fo : Nat → Int32} {di : Int64} {g : Nat → Int32} (R : Rl B N F ct dp we ok us fc ft fn fh fe fo di g) {k v : Nat} (hk : k ≤ 2) (h1 : 1 ≤ v) (h2 : v ≤ 100) (hN : N < 20) (htc : k = 2 → fb_ct (fun t => decide (g (3 + t) = 2)) N < 10) : Rl B (N + 1) F (nI N + 1) dp (upd we N (nI v)) (upd ok k (ok k ||| r_X6_setOf (nI N))) us fc ft fn fh fe fo di (upd (upd (upd g (3 + N) (nI k)) (23 + N) (nI v)) 0 (((upd (upd g (3 + N) (nI k)) (23 + N) (nI v)) 0) + 1)) := by
  generalize hG : upd (upd (upd g (3 + N) (nI k)) (23 + N) (nI v)) 0 (((upd (upd g (3 + N) (nI k)) (23 + N) (nI v)) 0) + 1) = G
  have G1 : ∀ j, j ≠ 0 → j ≠ 3 + N → j ≠ 23 + N → G j = g j := fun j a b c => by
    rw [← hG]
    exact (up_n _ _ a).trans ((up_n _ _ c).trans (up_n _ _ b))
  have G0 : G 0 = nI (N + 1) := by
    rw [← hG, up_e, up_n _ _ (by omega), up_n _ _ (by omega), R.g0]
    exact nI_1 N
  have G2 : G (3 + N) = nI k := by
    rw [← hG]
    exact (up_n _ _ (by omega)).trans ((up_n _ _ (by omega)).trans (up_e _ _ _))
  have G3 : G (23 + N) = nI v := by
    rw [← hG]
    exact (up_n _ _ (by omega)).trans (up_e _ _ _)
  have g1 : G 1 = g 1 := G1 1 (by omega) (by omega) (by omega)
  obtain ⟨rk, ac⟩ := R.ac
  have L := LK_c R.lk (g' := G) (fun j a b => G1 j (by omega) (by omega) (by omega))
  refine ⟨nI_1 N, G0, R.dp.trans g1.symm, by rw [g1]; exact R.d1, by rw [g1]; exact R.d2, ⟨by omega, fun a b ha hb => ?_, L.2.2⟩, ⟨fun t ht => ?_, fun k' hk' j => ?_⟩, fun t ht => ?_, ⟨fun j hj => ?_, ?_, ?_⟩, ⟨rk, AC_c ac (fun j a b => G1 j (by omega) (by omega) (by omega))⟩, ?_, FL_N (FL_c R.fl (G1 2 (by omega) (by omega) (by omega)) (fun j a b => G1 j (by omega) (by omega) (by omega)))⟩
  · obtain ⟨x, y, z⟩ := L.2.1 a b ha hb
    exact ⟨x, y, fun w => ⟨by have := z w; omega, by have := z w; omega, (z w).2.2⟩⟩
  · by_cases c : t = N
    · rw [c, G2]
      have : k = 0 ∨ k = 1 ∨ k = 2 := by omega
      rcases this with e | e | e
      · rw [e]; exact Or.inl rfl
      · rw [e]; exact Or.inr (Or.inl rfl)
      · rw [e]; exact Or.inr (Or.inr rfl)
    · rw [G1 (3 + t) (by omega) (by omega) (by omega)]
      exact R.rk.1 t (by omega)
  · by_cases c : k' = k
    · rw [c, up_e, b_or, R.rk.2 k (by omega), bt_so (by omega)]
      by_cases d : j = N
      · rw [decide_eq_true d, Bool.or_true, d, decide_eq_true ⟨by omega, G2⟩]
      · rw [decide_eq_false d, Bool.or_false]
        by_cases e : j < N
        · rw [G1 (3 + j) (by omega) (by omega) (by omega)]
          exact decide_eq_decide.mpr ⟨fun x => ⟨by omega, x.2⟩, fun x => ⟨e, x.2⟩⟩
        · rw [decide_eq_false (fun x => e x.1), decide_eq_false (fun x => by have := x.1; omega)]
    · rw [up_n _ _ c, R.rk.2 k' hk']
      by_cases d : j = N
      · rw [decide_eq_false (fun x => by have := x.1; omega), d, decide_eq_false (fun x => c ((nI_injI (by omega) (by omega)).mp (x.2.symm.trans G2)))]
      · by_cases e : j < N
        · rw [G1 (3 + j) (by omega) (by omega) (by omega)]
          exact decide_eq_decide.mpr ⟨fun x => ⟨by omega, x.2⟩, fun x => ⟨e, x.2⟩⟩
        · rw [decide_eq_false (fun x => e x.1), decide_eq_false (fun x => by have := x.1; omega)]
  · by_cases c : t = N
    · have e : wv G t = v := by
        unfold wv
        rw [c, G3]
        exact nI_clamp (by omega)
      rw [e, c, G3, up_e]
      exact ⟨rfl, rfl, h1, h2⟩
    · have e : wv G t = wv g t := by
        unfold wv
        rw [G1 (23 + t) (by omega) (by omega) (by omega)]
      rw [e, up_n _ _ c, G1 (23 + t) (by omega) (by omega) (by omega)]
      exact R.rw t (by omega)
  · obtain ⟨q, a, b⟩ := R.rd.1 j hj
    exact ⟨q, by omega, b⟩
  · intro q hq
    rw [G1 (663 + q) (by omega) (by omega) (by omega)]
    exact R.rd.2.1 q hq
  · intro q hq
    rw [G1 (663 + q) (by omega) (by omega) (by omega)]
    exact R.rd.2.2 q hq
  · rw [fb_ct_succ]
    have e : fb_ct (fun t => decide (G (3 + t) = 2)) N = fb_ct (fun t => decide (g (3 + t) = 2)) N := fb_ct_cong fun t ht => by rw [G1 (3 + t) (by omega) (by omega) (by omega)]
    rw [e]
    have tc := R.tc
    by_cases c : k = 2
    · have := htc c
      split
      · omega
      · omega
    · rw [if_neg (by
        rw [decide_eq_false (p := G (3 + N) = 2) (fun x => c ((nI_injI (b := 2) (by omega) (by decide)).mp (G2.symm.trans x)))]
        decide)]
      exact tc
theorem rel_addTarget {B N F : Nat} {ct dp : Int32} {we ok : Nat → Int32} {us : Nat → Nat → Int32} {fc : Int32} {ft fn fh fe fo : Nat → Int32} {di : Int64} {g : Nat → Int32} (R : Rl B N F ct dp we ok us fc ft fn fh fe fo di g) (kd w : Int32) : r_X6_addTarget ct ok kd w = r_X7_addTarget g kd w N ∧ ∃ N', Rl B N' F (w_X6_addTarget_2_0 ct ok kd w) dp (w_X6_addTarget_3 ct we ok kd w N) (w_X6_addTarget_4 ct ok kd w) us fc ft fn fh fe fo di (w_X7_addTarget_1 g kd w N) := by
  have hN := R.lk.1
  have tc := R.tc
  unfold r_X6_addTarget r_X7_addTarget w_X6_addTarget_2_0 w_X6_addTarget_3 w_X6_addTarget_4 w_X7_addTarget_1
  rcases rng_b (v := kd) (c := 3) (d := 2) (m := 2) (by decide) (by decide) (by decide) with ⟨a, b⟩ | ⟨k, hk, k1, k2, k3, k4⟩
  · simp only [if_pos a, if_pos b]
    exact ⟨trivial, N, R⟩
  · simp only [if_neg k3, if_neg k4, k2]
    rcases w_rng w with ⟨a, b⟩ | ⟨a, a', b⟩ | ⟨v, h1, h2, hw, v1, v2, v3⟩
    · simp only [if_pos a, if_pos b]
      exact ⟨trivial, N, R⟩
    · simp only [if_neg a, if_neg a', if_pos b]
      exact ⟨trivial, N, R⟩
    · simp only [if_neg v1, if_pos v2, if_neg v3]
      by_cases c : N < 20
      · have l1 : ¬ 20 ≤ ct := by rw [R.ct]; exact nI_ge (b := 20) c (by decide)
        have l2 : ¬ g 0 = 20 := by rw [R.g0]; exact fun x => absurd ((nI_injI (b := 20) (by omega) (by decide)).mp x) (by omega)
        simp only [if_neg l1, if_neg l2]
        have key : (k = 2 → fb_ct (fun t => decide (g (3 + t) = 2)) N < 10) → Rl B (N + 1) F (w_X5_append_0_0 ct) dp (w_X5_append_1 we w N) (w_X5_append_2 ct ok k) us fc ft fn fh fe fo di (upd (upd (upd g (3 + N) kd) (23 + N) w) 0 (((upd (upd g (3 + N) kd) (23 + N) w) 0) + 1)) := fun x => by
          have := rl_addT R hk h1 h2 c x
          unfold w_X5_append_0_0 w_X5_append_1 w_X5_append_2
          rw [R.ct, k1, hw]
          exact this
        by_cases c2 : kd = 2
        · simp only [if_pos c2]
          rw [tcount hN R.rk, rtests]
          by_cases c3 : fb_ct (fun t => decide (g (3 + t) = 2)) N < 10
          · have m1 : nI (fb_ct (fun t => decide (g (3 + t) = 2)) N) < 10 := nI_lt (b := 10) c3 (by decide)
            have m2 : ¬ nI (fb_ct (fun t => decide (g (3 + t) = 2)) N) = 10 := fun x => absurd ((nI_injI (b := 10) (by omega) (by decide)).mp x) (by omega)
            simp only [if_pos m1, if_neg m2]
            exact ⟨R.ct.trans R.g0.symm, N + 1, key (fun _ => c3)⟩
          · have m1 : ¬ nI (fb_ct (fun t => decide (g (3 + t) = 2)) N) < 10 := nI_nlt (b := 10) (by omega) (by omega)
            have m2 : nI (fb_ct (fun t => decide (g (3 + t) = 2)) N) = 10 := by rw [show fb_ct (fun t => decide (g (3 + t) = 2)) N = 10 by omega]; rfl
            simp only [if_neg m1, if_pos m2]
            exact ⟨trivial, N, R⟩
        · simp only [if_neg c2]
          refine ⟨R.ct.trans R.g0.symm, N + 1, key (fun x => absurd ?_ c2)⟩
          rw [k1, x]
          rfl
      · have l1 : 20 ≤ ct := by rw [R.ct]; exact nI_le (a := 20) (by omega) (by omega)
        have l2 : g 0 = 20 := by rw [R.g0, show N = 20 by omega]; rfl
        simp only [if_pos l1, if_pos l2]
        exact ⟨trivial, N, R⟩
theorem kb_eq {N : Nat} {us : Nat → Nat → Int32} {g : Nat → Int32} (h : LK N us g) {a b : Nat} (ha : a < 20) (hb : b < 20) : (lnk g a b = 0 ∧ r_X5_kindBetween us (nI a) b = -10) ∨ ∃ k, k < 4 ∧ lnk g a b = k + 1 ∧ r_X5_kindBetween us (nI a) b = nI k := by
  have hc : ∀ i, i < 4 → (r_X6_contains (us i b) (nI a) = 0 ↔ ¬ lnk g a b = i + 1) := fun i hi => by
    rw [ct_0 (by omega), h.2.2 i b hi hb a]
    exact ⟨fun x y => of_decide_eq_false x ⟨ha, y⟩, fun x => decide_eq_false fun y => x y.2⟩
  have hv := (h.2.1 a b ha hb).2.1
  unfold r_X5_kindBetween
  show (_ ∧ (if r_X6_contains (us 0 b) (nI a) = 0 then (if r_X6_contains (us 1 b) (nI a) = 0 then (if r_X6_contains (us 2 b) (nI a) = 0 then (if r_X6_contains (us 3 b) (nI a) = 0 then (-10 : Int32) else nI 3) else nI 2) else nI 1) else nI 0) = -10) ∨ ∃ k, k < 4 ∧ lnk g a b = k + 1 ∧ (if r_X6_contains (us 0 b) (nI a) = 0 then (if r_X6_contains (us 1 b) (nI a) = 0 then (if r_X6_contains (us 2 b) (nI a) = 0 then (if r_X6_contains (us 3 b) (nI a) = 0 then (-10 : Int32) else nI 3) else nI 2) else nI 1) else nI 0) = nI k
  have c0 := hc 0 (by decide)
  have c1 := hc 1 (by decide)
  have c2 := hc 2 (by decide)
  have c3 := hc 3 (by decide)
  have : lnk g a b = 0 ∨ lnk g a b = 0 + 1 ∨ lnk g a b = 1 + 1 ∨ lnk g a b = 2 + 1 ∨ lnk g a b = 3 + 1 := by omega
  rcases this with e | e | e | e | e
  · refine Or.inl ⟨e, ?_⟩
    rw [if_pos (c0.mpr (by omega)), if_pos (c1.mpr (by omega)), if_pos (c2.mpr (by omega)), if_pos (c3.mpr (by omega))]
  · refine Or.inr ⟨0, by decide, e, ?_⟩
    rw [if_neg (fun x => c0.mp x e)]
  · refine Or.inr ⟨1, by decide, e, ?_⟩
    rw [if_pos (c0.mpr (by omega)), if_neg (fun x => c1.mp x e)]
  · refine Or.inr ⟨2, by decide, e, ?_⟩
    rw [if_pos (c0.mpr (by omega)), if_pos (c1.mpr (by omega)), if_neg (fun x => c2.mp x e)]
  · refine Or.inr ⟨3, by decide, e, ?_⟩
    rw [if_pos (c0.mpr (by omega)), if_pos (c1.mpr (by omega)), if_pos (c2.mpr (by omega)), if_neg (fun x => c3.mp x e)]
theorem lnk_up (g : Nat → Int32) {a b : Nat} (hb : b < 20) (v : Nat) (hv : v < 5) (a' b' : Nat) (hb' : b' < 20) : lnk (upd g (43 + 20 * a + b) (nI v)) a' b' = if a' = a ∧ b' = b then v else lnk g a' b' := by
  unfold lnk
  by_cases c : a' = a ∧ b' = b
  · rw [if_pos c, c.1, c.2, up_e]
    exact nI_clamp (by omega)
  · rw [if_neg c, up_n _ _ (by omega)]
theorem lk_g (g : Nat → Int32) {a b a' b' : Nat} (hb : b < 20) (hb' : b' < 20) (v : Nat) : upd g (43 + 20 * a + b) (nI v) (43 + 20 * a' + b') = if a' = a ∧ b' = b then nI v else g (43 + 20 * a' + b') := by
  by_cases c : a' = a ∧ b' = b
  · rw [if_pos c, c.1, c.2, up_e]
  · rw [if_neg c, up_n _ _ (by omega)]
theorem updU_e (u : Nat → Nat → Int32) (k i : Nat) (x : Int32) : updU u k i x k i = x := by
  unfold updU
  rw [if_pos rfl, up_e]
theorem updU_n (u : Nat → Nat → Int32) {k i k' i' : Nat} (x : Int32) (h : ¬ (k' = k ∧ i' = i)) : updU u k i x k' i' = u k' i' := by
  unfold updU
  by_cases c : k' = k
  · rw [if_pos c, up_n _ _ (fun e => h ⟨c, e⟩), c]
  · rw [if_neg c]
theorem LK_set {N : Nat} {us : Nat → Nat → Int32} {g : Nat → Int32} (h : LK N us g) {a b k : Nat} (ha : a < N) (hb : b < N) (hab : a ≠ b) (hk : k < 4) (h0 : lnk g a b = 0) : LK N (updU us k b (us k b ||| r_X6_setOf (nI a))) (upd g (43 + 20 * a + b) (nI (k + 1))) := by
  have hN := h.1
  refine ⟨hN, fun a' b' ha' hb' => ?_, fun k' b' hk' hb' j => ?_⟩
  · rw [lnk_up g (by omega) (k + 1) (by omega) a' b' hb', lk_g g (by omega) hb']
    by_cases c : a' = a ∧ b' = b
    · rw [if_pos c, if_pos c]
      exact ⟨rfl, by omega, fun _ => ⟨by omega, by omega, by omega⟩⟩
    · rw [if_neg c, if_neg c]
      exact h.2.1 a' b' ha' hb'
  · rw [lnk_up g (by omega) (k + 1) (by omega) j b' hb']
    by_cases c : k' = k ∧ b' = b
    · rw [c.1, c.2, updU_e, b_or, h.2.2 k b hk (by omega) j, bt_so (by omega)]
      by_cases d : j = a
      · rw [decide_eq_true d, Bool.or_true, if_pos ⟨d, rfl⟩, decide_eq_true ⟨by omega, rfl⟩]
      · rw [decide_eq_false d, Bool.or_false, if_neg (fun x => d x.1)]
    · rw [updU_n _ _ c, h.2.2 k' b' hk' hb' j]
      by_cases d : j = a ∧ b' = b
      · rw [if_pos d, d.1, d.2, h0, decide_eq_false (by omega), decide_eq_false (fun x => c ⟨by omega, d.2⟩)]
      · rw [if_neg d]
theorem LK_del {N : Nat} {us : Nat → Nat → Int32} {g : Nat → Int32} (h : LK N us g) {a b k : Nat} (ha : a < N) (hb : b < N) (hk : k < 4) (h0 : lnk g a b = k + 1) : LK N (updU us k b (us k b &&& (r_X6_setOf (nI a) ^^^ (-1)))) (upd g (43 + 20 * a + b) (nI 0)) := by
  have hN := h.1
  refine ⟨hN, fun a' b' ha' hb' => ?_, fun k' b' hk' hb' j => ?_⟩
  · rw [lnk_up g (by omega) 0 (by omega) a' b' hb', lk_g g (by omega) hb']
    by_cases c : a' = a ∧ b' = b
    · rw [if_pos c, if_pos c]
      exact ⟨rfl, by omega, fun x => absurd rfl x⟩
    · rw [if_neg c, if_neg c]
      exact h.2.1 a' b' ha' hb'
  · rw [lnk_up g (by omega) 0 (by omega) j b' hb']
    by_cases c : k' = k ∧ b' = b
    · rw [c.1, c.2, updU_e, b_and, h.2.2 k b hk (by omega) j]
      by_cases d : j = a
      · rw [bt_not (by omega), bt_so (by omega), decide_eq_true d, if_pos ⟨d, rfl⟩, decide_eq_false (p := j < 20 ∧ 0 = k + 1) (by omega)]
        simp
      · rw [if_neg (fun x => d x.1)]
        by_cases e : j < 20
        · rw [bt_not (by omega), bt_so (by omega), decide_eq_false d]
          simp
        · rw [decide_eq_false (fun x => e x.1)]
          simp
    · rw [updU_n _ _ c, h.2.2 k' b' hk' hb' j]
      by_cases d : j = a ∧ b' = b
      · rw [if_pos d, d.1, d.2, h0, decide_eq_false (fun x => c ⟨by omega, d.2⟩), decide_eq_false (by omega)]
      · rw [if_neg d]
theorem AC_set {N : Nat} {us : Nat → Nat → Int32} {g : Nat → Int32} {rk : Nat → Nat} (h : LK N us g) (ac : AC g rk) {a b k : Nat} (ha : a < N) (hb : b < N) (hk : k < 4) (hc : r_X6_contains (r_X5_withAllUsers us (r_X6_setOf (nI a)) 15) (nI b) = 0) : ∃ rk', AC (upd g (43 + 20 * a + b) (nI (k + 1))) rk' := by
  have hN := h.1
  have hs : okm N (r_X6_setOf (nI a)) := fun j hj => by rw [bt_so (by omega), decide_eq_false (by omega)]
  obtain ⟨c1, c2⟩ := clsUsers h hs 15
  rw [ct_0 (by omega)] at hc
  have ia : bt (r_X5_withAllUsers us (r_X6_setOf (nI a)) 15) a = true := (c2 a ha).mpr (Rch_0 ⟨ha, by rw [bt_so (by omega)]; exact decide_eq_true rfl⟩)
  refine ⟨fun x => if bt (r_X5_withAllUsers us (r_X6_setOf (nI a)) 15) x = true then rk x + rk b + 1 else rk x, fun x y hx hy hn => ?_⟩
  rw [lnk_up g (by omega) (k + 1) (by omega) x y hy] at hn
  dsimp only
  by_cases c : x = a ∧ y = b
  · rw [c.1, c.2, if_pos ia, if_neg (by rw [hc]; decide)]
    omega
  · rw [if_neg c] at hn
    have hr := ac x y hx hy hn
    obtain ⟨_, lv, lN⟩ := h.2.1 x y hx hy
    obtain ⟨xN, yN, _⟩ := lN hn
    by_cases d : bt (r_X5_withAllUsers us (r_X6_setOf (nI a)) 15) y = true
    · have : bt (r_X5_withAllUsers us (r_X6_setOf (nI a)) 15) x = true := (c2 x xN).mpr (Rch_s ((c2 y yN).mp d) ⟨yN, xN, ⟨lnk g x y - 1, by omega, bt_15 _ (by omega), by omega⟩⟩)
      rw [if_pos d, if_pos this]
      omega
    · rw [if_neg d]
      split
      · omega
      · exact hr
theorem AC_del {g : Nat → Int32} {rk : Nat → Nat} (ac : AC g rk) {a b : Nat} (hb : b < 20) : AC (upd g (43 + 20 * a + b) (nI 0)) rk := fun x y hx hy hn => by
  rw [lnk_up g hb 0 (by omega) x y hy] at hn
  by_cases c : x = a ∧ y = b
  · rw [if_pos c] at hn
    exact absurd rfl hn
  · rw [if_neg c] at hn
    exact ac x y hx hy hn
theorem rl_link {B B' N F : Nat} {ct dp dp' : Int32} {we ok : Nat → Int32} {us us' : Nat → Nat → Int32} {fc : Int32} {ft fn fh fe fo : Nat → Int32} {di : Int64} {g : Nat → Int32} (R : Rl B N F ct dp we ok us fc ft fn fh fe fo di g) {a b v : Nat} (ha : a < 20) (hb : b < 20) (L : LK N us' (upd g (43 + 20 * a + b) (nI v))) (A : ∃ rk, AC (upd g (43 + 20 * a + b) (nI v)) rk) (d1 : -(B' : Int) ≤ dp'.toInt) (d2 : dp'.toInt ≤ 60) : Rl B' N F ct dp' we ok us' fc ft fn fh fe fo di (upd (upd g (43 + 20 * a + b) (nI v)) 1 dp') := by
  have hN := R.lk.1
  have U : ∀ j, j ≠ 1 → upd (upd g (43 + 20 * a + b) (nI v)) 1 dp' j = upd g (43 + 20 * a + b) (nI v) j := fun j hj => up_n _ _ hj
  have W : ∀ j, j ≠ 1 → (j < 43 ∨ 443 ≤ j) → upd (upd g (43 + 20 * a + b) (nI v)) 1 dp' j = g j := fun j hj h2 => (U j hj).trans (up_n _ _ (by omega))
  obtain ⟨rk, ac⟩ := A
  refine ⟨R.ct, (W 0 (by omega) (by omega)).trans R.g0, (up_e _ _ _).symm, by rw [up_e]; exact d1, by rw [up_e]; exact d2, LK_c L (fun j x y => U j (by omega)), RK_c hN R.rk (fun j x y => W j (by omega) (by omega)), RW_c hN R.rw (fun j x y => W j (by omega) (by omega)), RD_c R.rd (fun j x y => W j (by omega) (by omega)), ⟨rk, AC_c ac (fun j x y => U j (by omega))⟩, ?_, FL_c R.fl (W 2 (by omega) (by omega)) (fun j x y => W j (by omega) (by omega))⟩
  rw [tc_c hN (fun j x y => W j (by omega) (by omega))]
  exact R.tc
theorem rel_removeDependency {B N F : Nat} {ct dp : Int32} {we ok : Nat → Int32} {us : Nat → Nat → Int32} {fc : Int32} {ft fn fh fe fo : Nat → Int32} {di : Int64} {g : Nat → Int32} (R : Rl B N F ct dp we ok us fc ft fn fh fe fo di g) (hB : B < 100000) (a b : Int32) : r_X6_removeDependency ct us a b = r_X7_removeDependency g a b ∧ Rl (B + 1) N F ct (w_X6_removeDependency_2_1 ct dp us a b) we ok (w_X6_removeDependency_6 ct us a b) fc ft fn fh fe fo di (w_X7_removeDependency_1 g a b) := by
  have hN := R.lk.1
  have R' := Rl_B R (Nat.le_succ B)
  unfold r_X6_removeDependency r_X7_removeDependency w_X6_removeDependency_2_1 w_X6_removeDependency_6 w_X7_removeDependency_1
  have h1 := has_eq R.g0 hN a
  have h2 := has_eq R.g0 hN b
  rw [← R.ct] at h1 h2
  by_cases c : r_X5_has ct a = 0
  · simp only [if_pos c, if_pos (h1.mp c)]
    exact ⟨trivial, R'⟩
  · simp only [if_neg c, if_neg (fun x => c (h1.mpr x))]
    obtain ⟨u, hu, rfl⟩ := (isT_iff R.g0 hN a).mp (fun x => c (h1.mpr x))
    by_cases c2 : r_X5_has ct b = 0
    · simp only [if_pos c2, if_pos (h2.mp c2)]
      exact ⟨trivial, R'⟩
    · simp only [if_neg c2, if_neg (fun x => c2 (h2.mpr x))]
      obtain ⟨w, hw, rfl⟩ := (isT_iff R.g0 hN b).mp (fun x => c2 (h2.mpr x))
      have eu : (nI u).toNatClampNeg = u := nI_clamp (by omega)
      have ew : (nI w).toNatClampNeg = w := nI_clamp (by omega)
      simp only [eu, ew]
      obtain ⟨l1, l2, l3⟩ := lo_use R.lk (a := u) (b := w) (by omega) (by omega)
      rcases kb_eq R.lk (a := u) (b := w) (by omega) (by omega) with ⟨e1, e2⟩ | ⟨k, hk, e1, e2⟩
      · have n1 : ¬ 0 ≤ r_X7_linkOf g u w := by
          have := l1.mpr e1
          rw [Int32.lt_iff_toInt_lt] at this
          rw [Int32.le_iff_toInt_le]
          omega
        simp only [if_neg n1, if_pos e2]
        exact ⟨e2, R'⟩
      · have n0 := (l2 k hk).mpr e1
        have n1 : 0 ≤ r_X7_linkOf g u w := by
          rw [n0]
          exact nI_pos' (by omega)
        have n2 : ¬ r_X5_kindBetween us (nI u) w = -10 := by
          rw [e2]
          exact nI_nm (by omega)
        simp only [if_pos n1, if_neg n2]
        refine ⟨e2.trans n0.symm, ?_⟩
        rw [e2, nI_clamp (by omega), up_n _ _ (show 1 ≠ 43 + 20 * u + w by omega)]
        unfold w_X5_disconnect_0_1 w_X5_disconnect_4
        rw [R.dp]
        obtain ⟨rk, ac⟩ := R.ac
        have d1 := R.d1
        have d2 := R.d2
        have t1 : (1 : Int32).toInt = 1 := by decide
        have e3 : (g 1 - 1).toInt = (g 1).toInt - 1 := by
          rw [fb_subI (by omega) (by omega), t1]
        exact rl_link R (by omega) (by omega) (LK_del R.lk hu hw hk e1) ⟨rk, AC_del ac (by omega)⟩ (by rw [e3]; omega) (by rw [e3]; omega)
theorem ok_iff {N : Nat} {ok g : Nat → Int32} (hN : N ≤ 20) (hk : RK N ok g) {t k : Nat} (ht : t < N) (hk3 : k < 3) : r_X6_contains (ok k) (nI t) = 0 ↔ ¬ g (3 + t) = nI k := by
  rw [ct_0 (by omega), hk.2 k hk3 t]
  exact ⟨fun x y => of_decide_eq_false x ⟨ht, y⟩, fun x => decide_eq_false fun y => x y.2⟩
