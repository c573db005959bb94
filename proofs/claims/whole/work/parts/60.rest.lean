/-! a new dependency -/
theorem dep_tail {B N F : Nat} {ct dp : Int32} {we ok : Nat → Int32} {us : Nat → Nat → Int32} {fc : Int32} {ft fn fh fe fo : Nat → Int32} {di : Int64} {g : Nat → Int32} (R : Rl B N F ct dp we ok us fc ft fn fh fe fo di g) (hB : B < 100000) {u w k : Nat} (hu : u < N) (hw : w < N) (huw : u ≠ w) (hk : k < 4) : (if r_X5_kindBetween us (nI u) w = (-10) then (if r_X6_contains (r_X5_withAllUsers us (r_X6_setOf (nI u)) 15) (nI w) = 0 then (if dp < 60 then w_X5_connect_0_1 dp else (-8)) else (-7)) else (-6)) = (if (r_X7_linkOf g u w) < 0 then (if (((r_X7_reachOf g (nI w) (-10) N) >>> (nI u &&& 31)) &&& 1) = 1 then (-7) else if (g 1) = 60 then (-8) else (upd (upd g ((43 + (20 * u)) + w) (nI k + 1)) 1 (((upd g ((43 + (20 * u)) + w) (nI k + 1)) 1) + 1)) 1) else (-6)) ∧ Rl (B + 1) N F ct (if r_X5_kindBetween us (nI u) w = (-10) then (if r_X6_contains (r_X5_withAllUsers us (r_X6_setOf (nI u)) 15) (nI w) = 0 then (if dp < 60 then w_X5_connect_0_1 dp else dp) else dp) else dp) we ok (if r_X5_kindBetween us (nI u) w = (-10) then (if r_X6_contains (r_X5_withAllUsers us (r_X6_setOf (nI u)) 15) (nI w) = 0 then (if dp < 60 then w_X5_connect_4 us (nI u) w k else us) else us) else us) fc ft fn fh fe fo di (if (r_X7_linkOf g u w) < 0 then (if (((r_X7_reachOf g (nI w) (-10) N) >>> (nI u &&& 31)) &&& 1) = 1 then g else if (g 1) = 60 then g else upd (upd g ((43 + (20 * u)) + w) (nI k + 1)) 1 (((upd g ((43 + (20 * u)) + w) (nI k + 1)) 1) + 1)) else g) := by
  have hN := R.lk.1
  have R' := Rl_B R (Nat.le_succ B)
  obtain ⟨l1, l2, l3⟩ := lo_use R.lk (a := u) (b := w) (by omega) (by omega)
  have cy := eq_cycle R.lk hu hw
  have d1 := R.d1
  have d2 := R.d2
  have t60 : (60 : Int32).toInt = 60 := by decide
  have t1 : (1 : Int32).toInt = 1 := by decide
  rcases kb_eq R.lk (a := u) (b := w) (by omega) (by omega) with ⟨e1, e2⟩ | ⟨k', hk', e1, e2⟩
  · simp only [if_pos e2, if_pos (l1.mpr e1)]
    by_cases c : r_X6_contains (r_X5_withAllUsers us (r_X6_setOf (nI u)) 15) (nI w) = 0
    · simp only [if_pos c, if_neg (cy.mp c)]
      by_cases c2 : g 1 = 60
      · have c3 : ¬ dp < 60 := by
          rw [R.dp, c2]
          decide
        simp only [if_neg c3, if_pos c2]
        exact ⟨trivial, R'⟩
      · have c4 : (g 1).toInt ≠ 60 := fun x => c2 (Int32.toInt_inj.mp (x.trans t60.symm))
        have c3 : dp < 60 := by
          rw [R.dp, Int32.lt_iff_toInt_lt]
          omega
        simp only [if_pos c3, if_neg c2]
        rw [up_n _ _ (show 1 ≠ 43 + 20 * u + w by omega), up_e]
        unfold w_X5_connect_0_1 w_X5_connect_4
        rw [R.dp]
        refine ⟨rfl, ?_⟩
        obtain ⟨rk, ac⟩ := R.ac
        have e3 : (g 1 + 1).toInt = (g 1).toInt + 1 := by
          rw [fb_addI (by omega) (by omega), t1]
        rw [show nI k + 1 = nI (k + 1) from nI_1 k]
        exact rl_link R (by omega) (by omega) (LK_set R.lk hu hw huw hk e1) (AC_set R.lk ac hu hw hk c) (by rw [e3]; omega) (by rw [e3]; omega)
    · simp only [if_neg c, if_pos (Classical.byContradiction fun x => c (cy.mpr x))]
      exact ⟨trivial, R'⟩
  · have n2 : ¬ r_X5_kindBetween us (nI u) w = -10 := by
      rw [e2]
      exact nI_nm (by omega)
    have n3 : ¬ r_X7_linkOf g u w < 0 := fun x => by
      have := l1.mp x
      omega
    simp only [if_neg n2, if_neg n3]
    exact ⟨trivial, R'⟩
theorem rel_addDependency {B N F : Nat} {ct dp : Int32} {we ok : Nat → Int32} {us : Nat → Nat → Int32} {fc : Int32} {ft fn fh fe fo : Nat → Int32} {di : Int64} {g : Nat → Int32} (R : Rl B N F ct dp we ok us fc ft fn fh fe fo di g) (hB : B < 100000) (a b kd : Int32) : r_X6_addDependency ct dp ok us a b kd = r_X7_addDependency g a b kd N ∧ Rl (B + 1) N F ct (w_X6_addDependency_2_1 ct dp ok us a b kd) we ok (w_X6_addDependency_6 ct dp ok us a b kd) fc ft fn fh fe fo di (w_X7_addDependency_1 g a b kd N) := by
  have hN := R.lk.1
  have R' := Rl_B R (Nat.le_succ B)
  unfold r_X6_addDependency r_X7_addDependency w_X6_addDependency_2_1 w_X6_addDependency_6 w_X7_addDependency_1
  have h1 := has_eq R.g0 hN a
  have h2 := has_eq R.g0 hN b
  rw [← R.ct] at h1 h2
  by_cases c : r_X5_has ct a = 0
  · simp only [if_pos c, if_pos (h1.mp c)]
    exact ⟨trivial, R'⟩
  simp only [if_neg c, if_neg (fun x => c (h1.mpr x))]
  obtain ⟨u, hu, rfl⟩ := (isT_iff R.g0 hN a).mp (fun x => c (h1.mpr x))
  by_cases c2 : r_X5_has ct b = 0
  · simp only [if_pos c2, if_pos (h2.mp c2)]
    exact ⟨trivial, R'⟩
  simp only [if_neg c2, if_neg (fun x => c2 (h2.mpr x))]
  obtain ⟨w, hw, rfl⟩ := (isT_iff R.g0 hN b).mp (fun x => c2 (h2.mpr x))
  have eu : (nI u).toNatClampNeg = u := nI_clamp (by omega)
  have ew : (nI w).toNatClampNeg = w := nI_clamp (by omega)
  by_cases c3 : nI u = nI w
  · simp only [if_pos c3]
    exact ⟨trivial, R'⟩
  simp only [if_neg c3]
  have huw : u ≠ w := fun x => c3 (by rw [x])
  rcases rng_b (v := kd) (c := 4) (d := 3) (m := 3) (by decide) (by decide) (by decide) with ⟨x, y⟩ | ⟨k, hk, k1, k2, k3, k4⟩
  · simp only [if_pos x, if_pos y]
    exact ⟨trivial, R'⟩
  simp only [if_neg k3, if_neg k4, eu, ew, k2]
  subst k1
  have T := dep_tail R hB hu hw huw (k := k) (by omega)
  have o2 := ok_iff hN R.rk (t := w) (k := 2) hw (by decide)
  have o1 := ok_iff hN R.rk (t := w) (k := 1) hw (by decide)
  have o3 := ok_iff hN R.rk (t := u) (k := 2) hu (by decide)
  have n2 : nI k = 2 ↔ k = 2 := nI_injI (b := 2) (by omega) (by decide)
  have n3 : nI k = 3 ↔ k = 3 := nI_injI (b := 3) (by omega) (by decide)
  unfold r_X7_kindOf
  by_cases q2 : g (3 + w) = 2
  · have al : r_X5_allows ok (nI u) (nI w) (nI k) = 0 := by
      unfold r_X5_allows
      rw [if_neg (fun x => o2.mp x q2)]
    simp only [if_pos al, if_pos q2]
    exact ⟨trivial, R'⟩
  have z2 := o2.mpr q2
  by_cases m2 : k = 2
  · have m3 : ¬ nI k = 3 := fun x => by have := n3.mp x; omega
    by_cases q1 : g (3 + w) = 1
    · have al : ¬ r_X5_allows ok (nI u) (nI w) (nI k) = 0 := by
        unfold r_X5_allows
        rw [if_pos z2, if_pos (n2.mpr m2)]
        exact fun x => o1.mp x q1
      simp only [if_neg al, if_neg q2, if_pos (n2.mpr m2), if_pos q1, if_neg m3]
      exact T
    · have al : r_X5_allows ok (nI u) (nI w) (nI k) = 0 := by
        unfold r_X5_allows
        rw [if_pos z2, if_pos (n2.mpr m2)]
        exact o1.mpr q1
      simp only [if_pos al, if_neg q2, if_pos (n2.mpr m2), if_neg q1]
      exact ⟨trivial, R'⟩
  · have m2' : ¬ nI k = 2 := fun x => m2 (n2.mp x)
    by_cases m3 : k = 3
    · by_cases q1 : g (3 + u) = 2
      · have al : ¬ r_X5_allows ok (nI u) (nI w) (nI k) = 0 := by
          unfold r_X5_allows
          rw [if_pos z2, if_neg m2', if_pos (n3.mpr m3), if_neg (fun x => o3.mp x q1)]
          decide
        simp only [if_neg al, if_neg q2, if_neg m2', if_pos (n3.mpr m3), if_pos q1]
        exact T
      · have al : r_X5_allows ok (nI u) (nI w) (nI k) = 0 := by
          unfold r_X5_allows
          rw [if_pos z2, if_neg m2', if_pos (n3.mpr m3), if_pos (o3.mpr q1)]
        simp only [if_pos al, if_neg q2, if_neg m2', if_pos (n3.mpr m3), if_neg q1]
        exact ⟨trivial, R'⟩
    · have m3' : ¬ nI k = 3 := fun x => m3 (n3.mp x)
      have al : ¬ r_X5_allows ok (nI u) (nI w) (nI k) = 0 := by
        unfold r_X5_allows
        rw [if_pos z2, if_neg m2', if_neg m3']
        decide
      simp only [if_neg al, if_neg q2, if_neg m2', if_neg m3']
      exact T
/-! the rest of the methods -/
theorem ct_even (p : Nat → Bool) : ∀ n, fb_ct p (2 * n) = fb_ct (fun t => p (2 * t)) n + fb_ct (fun t => p (2 * t + 1)) n
  | 0 => rfl
  | n + 1 => by
    rw [show 2 * (n + 1) = 2 * n + 1 + 1 by omega, fb_ct_succ, fb_ct_succ, fb_ct_succ, fb_ct_succ, ct_even p n]
    omega
theorem ct_tail {p q : Nat → Bool} {m n : Nat} (hm : n ≤ m) (h1 : ∀ k, k < n → p k = q k) (h2 : ∀ k, n ≤ k → k < m → p k = false) : fb_ct p m = fb_ct q n := by
  rw [show m = n + (m - n) by omega, fb_ct_split]
  have z : fb_ct (fun k => p (n + k)) (m - n) = 0 := fb_ct_zero.mpr fun k hk => h2 (n + k) (by omega) (by omega)
  rw [z, Nat.add_zero]
  exact fb_ct_cong h1
theorem ct_di {N : Nat} {di : Int64} {g : Nat → Int32} (hN : N ≤ 20) (hd : RD N di g) : fb_ct (bl di) 64 = fb_ct (fun q => decide (g (663 + q) = 1)) 40 := by
  have e : ∀ q, q < 40 → bl di (pos q) = decide (g (663 + q) = 1) := fun q hq => by
    have := hd.2.2 q hq
    unfold pb at this
    by_cases c : g (663 + q) = 1
    · rw [decide_eq_true c]
      exact this.mpr c
    · rw [decide_eq_false c]
      exact Bool.eq_false_iff.mpr fun x => c (this.mp x)
  have z : ∀ j, (20 ≤ j ∧ j < 32) ∨ 52 ≤ j → bl di j = false := fun j hj => Bool.eq_false_iff.mpr fun x => by
    obtain ⟨q, a, b⟩ := hd.1 j x
    unfold pos at b
    have : q % 2 = 0 ∨ q % 2 = 1 := by omega
    rcases this with e | e
    · rw [e] at b
      omega
    · rw [e] at b
      omega
  rw [show (64 : Nat) = 32 + 32 from rfl, fb_ct_split, show (40 : Nat) = 2 * 20 from rfl, ct_even]
  rw [ct_tail (m := 32) (n := 20) (p := bl di) (q := fun t => decide (g (663 + 2 * t) = 1)) (by decide) (fun k hk => by
    rw [← e (2 * k) (by omega)]
    congr 1
    unfold pos
    omega) (fun k a b => z k (by omega))]
  rw [ct_tail (m := 32) (n := 20) (p := fun k => bl di (32 + k)) (q := fun t => decide (g (663 + (2 * t + 1)) = 1)) (by decide) (fun k hk => by
    rw [← e (2 * k + 1) (by omega)]
    congr 1
    unfold pos
    omega) (fun k a b => z (32 + k) (by omega))]
theorem rel_clearChanges {B N F : Nat} {ct dp : Int32} {we ok : Nat → Int32} {us : Nat → Nat → Int32} {fc : Int32} {ft fn fh fe fo : Nat → Int32} {di : Int64} {g : Nat → Int32} (R : Rl B N F ct dp we ok us fc ft fn fh fe fo di g) : r_X6_clearChanges di = r_X7_clearChanges g ∧ Rl B N F ct dp we ok us fc ft fn fh fe fo w_X6_clearChanges_1_2 (w_X7_clearChanges_1 g) := by
  have hN := R.lk.1
  have K := foldN_i (f := s_X7_clearChanges_4) (n := 40) (fun j (z : Int32 × (Nat → Int32)) => z.1 = nI (fb_ct (fun q => decide (g (663 + q) = 1)) j) ∧ ∀ k, z.2 k = if 663 ≤ k ∧ k < 663 + j then 0 else g k) (fun j z hj ih => by
    obtain ⟨n1, g1⟩ := z
    obtain ⟨i1, i2⟩ := ih
    dsimp only at i1 i2
    show n1 + g1 (663 + j) = _ ∧ ∀ k, upd g1 (663 + j) 0 k = _
    constructor
    · rw [i1, i2 (663 + j), if_neg (by omega), fb_ct_succ]
      rcases R.rd.2.1 j hj with e | e
      · rw [e, if_neg (by decide)]
        exact hadd rfl rfl
      · rw [e, if_pos (by decide)]
        exact nI_1 _
    · intro k
      by_cases c : k = 663 + j
      · rw [up_i _ _ c, if_pos (by omega)]
      · rw [up_n _ _ c, i2 k]
        by_cases d : 663 ≤ k ∧ k < 663 + j
        · rw [if_pos d, if_pos (by omega)]
        · rw [if_neg d, if_neg (by omega)]) (a := (0, g)) ⟨rfl, fun k => by rw [if_neg (by omega)]⟩
  obtain ⟨K1, K2⟩ := K
  refine ⟨?_, ?_⟩
  · unfold r_X6_clearChanges r_X7_clearChanges
    rw [K1, bitc64, ct_di hN R.rd]
  · have W : ∀ k, k < 663 → w_X7_clearChanges_1 g k = g k := fun k hk => (K2 k).trans (if_neg (by omega))
    have W0 : ∀ q, q < 40 → w_X7_clearChanges_1 g (663 + q) = 0 := fun q hq => (K2 (663 + q)).trans (if_pos (by omega))
    refine Rl_file R (fun k a _ => W k (by omega)) ⟨okp_0, fun q hq => Or.inl (W0 q hq), fun q hq => ?_⟩ (FL_c R.fl (W 2 (by omega)) (fun k _ hk => W k hk))
    rw [W0 q hq]
    show bl 0 (pos q) = true ↔ _
    rw [l_0]
    exact ⟨fun x => absurd x (by decide), fun x => absurd x (by decide)⟩
theorem cntb_fb (m : Int32) : ∀ n, cntb m n = fb_ct (bt m) n
  | 0 => rfl
  | n + 1 => by
    show cntb m n + (if bt m n = true then 1 else 0) = _
    rw [fb_ct_succ, cntb_fb m n]
theorem rel_hc {B N F : Nat} {ct dp : Int32} {we ok : Nat → Int32} {us : Nat → Nat → Int32} {fc : Int32} {ft fn fh fe fo : Nat → Int32} {di : Int64} {g : Nat → Int32} (R : Rl B N F ct dp we ok us fc ft fn fh fe fo di g) : fb_ct (bt (r_X4_testsToRun ok us di)) N ≤ 10 := by
  refine Nat.le_trans (fb_ct_sub fun t ht hb => ?_) R.tc
  unfold r_X4_testsToRun at hb
  rw [b_and, R.rk.2 2 (by decide), Bool.and_eq_true] at hb
  exact decide_eq_true (of_decide_eq_true hb.2).2
theorem rel_hC {B N F : Nat} {ct dp : Int32} {we ok : Nat → Int32} {us : Nat → Nat → Int32} {fc : Int32} {ft fn fh fe fo : Nat → Int32} {di : Int64} {g : Nat → Int32} (R : Rl B N F ct dp we ok us fc ft fn fh fe fo di g) (ch : Nat → Int32) : cntb (r_X7_affectedTests g ch N) N ≤ 10 := by
  rw [cntb_fb, eq_tests R.lk R.rd R.rk]
  exact rel_hc R
theorem rel_hOk {B N F : Nat} {ct dp : Int32} {we ok : Nat → Int32} {us : Nat → Nat → Int32} {fc : Int32} {ft fn fh fe fo : Nat → Int32} {di : Int64} {g : Nat → Int32} (R : Rl B N F ct dp we ok us fc ft fn fh fe fo di g) (ch : Nat → Int32) : okm N (r_X7_affectedTests g ch N) := by
  rw [eq_tests R.lk R.rd R.rk]
  exact tests_ok R.rk
theorem rel_hOd {B N F : Nat} {ct dp : Int32} {we ok : Nat → Int32} {us : Nat → Nat → Int32} {fc : Int32} {ft fn fh fe fo : Nat → Int32} {di : Int64} {g : Nat → Int32} (R : Rl B N F ct dp we ok us fc ft fn fh fe fo di g) (ch od : Nat → Int32) : ∀ k, k < k_layOrder g ch od N → w_X7_layOrder_3 g ch od N k = nI (w_X7_layOrder_3 g ch od N k).toNatClampNeg ∧ (w_X7_layOrder_3 g ch od N k).toNatClampNeg < 20 := fun k hk => by
  have hN := R.lk.1
  obtain ⟨rk, ac⟩ := R.ac
  obtain ⟨v, hv, e, _⟩ := (eq_order R.lk R.rd ac ch od).2.2.2.2.1 k hk
  rw [e, nI_clamp (by omega)]
  exact ⟨rfl, by omega⟩
theorem rel_hWo {B N F : Nat} {ct dp : Int32} {we ok : Nat → Int32} {us : Nat → Nat → Int32} {fc : Int32} {ft fn fh fe fo : Nat → Int32} {di : Int64} {g : Nat → Int32} (R : Rl B N F ct dp we ok us fc ft fn fh fe fo di g) (ch od : Nat → Int32) : T_X7_layOrder_7 g ch od N := by
  obtain ⟨rk, ac⟩ := R.ac
  exact (eq_order R.lk R.rd ac ch od).1
theorem rel_directlyChanged {B N F : Nat} {ct dp : Int32} {we ok : Nat → Int32} {us : Nat → Nat → Int32} {fc : Int32} {ft fn fh fe fo : Nat → Int32} {di : Int64} {g : Nat → Int32} (R : Rl B N F ct dp we ok us fc ft fn fh fe fo di g) (p : Int32) : r_X6_directlyChanged di p = r_X7_directlyChanged g p N := by
  unfold r_X6_directlyChanged r_X7_directlyChanged
  by_cases c : r_X6_inRange p 2 = 0
  · rw [if_pos c, if_pos ((part_eq p).mp c)]
  · have d : ¬ r_X7_isPart p = 0 := fun x => c ((part_eq p).mpr x)
    obtain ⟨k, hk, e⟩ := (part_iff p).mp d
    rw [if_neg c, if_neg d, eq_direct R.lk.1 R.rd e hk]
theorem rel_changed {B N F : Nat} {ct dp : Int32} {we ok : Nat → Int32} {us : Nat → Nat → Int32} {fc : Int32} {ft fn fh fe fo : Nat → Int32} {di : Int64} {g : Nat → Int32} (R : Rl B N F ct dp we ok us fc ft fn fh fe fo di g) (ch : Nat → Int32) (p : Int32) : r_X6_changed us di p = r_X7_changed g ch p N := by
  unfold r_X6_changed r_X7_changed
  by_cases c : r_X6_inRange p 2 = 0
  · rw [if_pos c, if_pos ((part_eq p).mp c)]
  · have d : ¬ r_X7_isPart p = 0 := fun x => c ((part_eq p).mpr x)
    obtain ⟨k, hk, e⟩ := (part_iff p).mp d
    rw [if_neg c, if_neg d, e, nI_clamp (by omega), eq_changed R.lk R.rd ch hk]
theorem rel_affectedTests {B N F : Nat} {ct dp : Int32} {we ok : Nat → Int32} {us : Nat → Nat → Int32} {fc : Int32} {ft fn fh fe fo : Nat → Int32} {di : Int64} {g : Nat → Int32} (R : Rl B N F ct dp we ok us fc ft fn fh fe fo di g) (ch : Nat → Int32) : r_X6_affectedTests ok us di = r_X7_affectedTests g ch N := (eq_tests R.lk R.rd R.rk ch).symm
theorem rel_impact {B N F : Nat} {ct dp : Int32} {we ok : Nat → Int32} {us : Nat → Nat → Int32} {fc : Int32} {ft fn fh fe fo : Nat → Int32} {di : Int64} {g : Nat → Int32} (R : Rl B N F ct dp we ok us fc ft fn fh fe fo di g) (ch : Nat → Int32) (t p : Int32) : r_X6_impact ct we us t p = r_X7_impact g ch t p N := by
  have hN := R.lk.1
  have h1 := has_eq R.g0 hN t
  rw [← R.ct] at h1
  unfold r_X6_impact r_X7_impact
  by_cases c : r_X5_has ct t = 0
  · rw [if_pos c, if_pos (h1.mp c)]
  · rw [if_neg c, if_neg (fun x => c (h1.mpr x))]
    obtain ⟨u, hu, e⟩ := (isT_iff R.g0 hN t).mp (fun x => c (h1.mpr x))
    by_cases c2 : r_X6_inRange p 2 = 0
    · rw [if_pos c2, if_pos ((part_eq p).mp c2)]
    · have d : ¬ r_X7_isPart p = 0 := fun x => c2 ((part_eq p).mpr x)
      obtain ⟨k, hk, e2⟩ := (part_iff p).mp d
      rw [if_neg c2, if_neg d]
      show r_X5_weightRebuiltBy we us (2 * t + p) = _
      rw [pair_nat e e2]
      exact eq_impact R.lk R.rw ch (by omega)
theorem rel_mostCritical {B N F : Nat} {ct dp : Int32} {we ok : Nat → Int32} {us : Nat → Nat → Int32} {fc : Int32} {ft fn fh fe fo : Nat → Int32} {di : Int64} {g : Nat → Int32} (R : Rl B N F ct dp we ok us fc ft fn fh fe fo di g) (ch : Nat → Int32) (p : Int32) : r_X6_mostCritical we us p N = r_X7_mostCritical g ch p N := by
  unfold r_X6_mostCritical r_X7_mostCritical
  by_cases c : r_X6_inRange p 2 = 0
  · rw [if_pos c, if_pos ((part_eq p).mp c)]
  · have d : ¬ r_X7_isPart p = 0 := fun x => c ((part_eq p).mpr x)
    obtain ⟨k, hk, e⟩ := (part_iff p).mp d
    rw [if_neg c, if_neg d, eq_critical R.lk R.rw ch e hk]
theorem rel_rebuildOrder {B N F : Nat} {ct dp : Int32} {we ok : Nat → Int32} {us : Nat → Nat → Int32} {fc : Int32} {ft fn fh fe fo : Nat → Int32} {di : Int64} {g : Nat → Int32} (R : Rl B N F ct dp we ok us fc ft fn fh fe fo di g) (ch od : Nat → Int32) (ix : Int32) : r_X6_rebuildOrder us di ix = r_X7_rebuildOrder g ch od ix N := by
  obtain ⟨rk, ac⟩ := R.ac
  exact eq_rebuildOrder R.lk R.rd ac ch od ix
theorem rel_rebuildTime {B N F : Nat} {ct dp : Int32} {we ok : Nat → Int32} {us : Nat → Nat → Int32} {fc : Int32} {ft fn fh fe fo : Nat → Int32} {di : Int64} {g : Nat → Int32} (R : Rl B N F ct dp we ok us fc ft fn fh fe fo di g) (ch od rd : Nat → Int32) : r_X6_rebuildTime we us di = r_X7_rebuildTime g ch od rd N := by
  obtain ⟨rk, ac⟩ := R.ac
  exact eq_time R.lk R.rd ac R.rw ch od rd
