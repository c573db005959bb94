/-! the order of the rebuild -/
def AC (g : Nat → Int32) (rk : Nat → Nat) : Prop := ∀ a b, a < 20 → b < 20 → lnk g a b ≠ 0 → rk b < rk a
theorem foldD_F {f : Nat → Int32 → Int32} {c : Nat → Prop} {N : Nat} (hf : ∀ u a, u < N → (c u → f u a = nI u) ∧ (¬ c u → f u a = a)) : ∀ (n : Nat) (a : Int32), n ≤ N → ((∃ p, n ≤ p ∧ p < N ∧ c p ∧ (∀ p', n ≤ p' → p' < p → ¬ c p') ∧ a = nI p) ∨ ((∀ p, n ≤ p → p < N → ¬ c p) ∧ a = -10)) → IsF c N (foldD f n a)
  | 0, a, _, h => by
    rcases h with ⟨p, _, h2, h3, h4, h5⟩ | ⟨h1, h2⟩
    · exact .inl ⟨p, h2, h3, fun p' hp' => h4 p' (Nat.zero_le _) hp', h5⟩
    · exact .inr ⟨fun p hp => h1 p (Nat.zero_le _) hp, h2⟩
  | n + 1, a, hn, h => by
    rw [foldD_s]
    by_cases hc : c n
    · rw [(hf n a (by omega)).1 hc]
      exact foldD_F hf n (nI n) (by omega) (.inl ⟨n, Nat.le_refl _, by omega, hc, fun p' h1 h2 => absurd h2 (by omega), rfl⟩)
    · rw [(hf n a (by omega)).2 hc]
      refine foldD_F hf n a (by omega) ?_
      rcases h with ⟨p, h1, h2, h3, h4, h5⟩ | ⟨h1, h2⟩
      · refine .inl ⟨p, by omega, h2, h3, fun p' a1 a2 => ?_, h5⟩
        rcases Nat.lt_or_ge n p' with x | x
        · exact h4 p' (by omega) a2
        · rw [show p' = n by omega]
          exact hc
      · refine .inr ⟨fun p a1 a2 => ?_, h2⟩
        rcases Nat.lt_or_ge n p with x | x
        · exact h1 p (by omega) a2
        · rw [show p = n by omega]
          exact hc
theorem lo_49 (g : Nat → Int32) (lf : Int32) (u : Nat) {N : Nat} (hN : N ≤ 20) : foldN (s_X7_layOrder_49 g lf u) N 0 1 = 0 ↔ ∃ j, j < N ∧ bt lf j = true ∧ ¬ r_X7_waits g u j = 0 := by
  refine (foldN_i (f := s_X7_layOrder_49 g lf u) (n := N) (fun k (a : Int32) => a = 0 ↔ ∃ j, j < k ∧ bt lf j = true ∧ ¬ r_X7_waits g u j = 0) (fun k a hk ih => ?_) ⟨fun x => absurd x (by decide), fun ⟨j, hj, _⟩ => absurd hj (Nat.not_lt_zero _)⟩)
  have s1 := sh_1 (x := lf) (j := k) (by omega)
  have ext : (∃ j, j < k + 1 ∧ bt lf j = true ∧ ¬ r_X7_waits g u j = 0) ↔ (a = 0 ∨ (bt lf k = true ∧ ¬ r_X7_waits g u k = 0)) := by
    rw [ih]
    constructor
    · rintro ⟨j, a1, a2⟩
      rcases Nat.lt_or_ge j k with x | x
      · exact .inl ⟨j, x, a2⟩
      · rw [show j = k by omega] at a2
        exact .inr a2
    · rintro (⟨j, a1, a2⟩ | a2)
      · exact ⟨j, by omega, a2⟩
      · exact ⟨k, by omega, a2⟩
  rw [ext]
  unfold s_X7_layOrder_49
  by_cases c0 : a = 0
  · rw [if_pos c0]
    exact ⟨fun _ => .inl c0, fun _ => rfl⟩
  · rw [if_neg c0]
    by_cases c1 : ((lf >>> ((nI k) &&& 31)) &&& 1) = 1
    · rw [if_pos c1]
      by_cases c2 : r_X7_waits g u k = 0
      · rw [if_pos c2]
        exact ⟨fun x => absurd x (by decide), fun x => x.elim (fun y => absurd y c0) (fun y => absurd c2 y.2)⟩
      · rw [if_neg c2]
        exact ⟨fun _ => .inr ⟨s1.mp c1, c2⟩, fun _ => rfl⟩
    · rw [if_neg c1]
      exact ⟨fun x => absurd x (by decide), fun x => x.elim (fun y => absurd y c0) (fun y => absurd (s1.mpr y.1) c1)⟩
theorem lo_490 (g : Nat → Int32) (lf : Int32) (u N : Nat) : foldN (s_X7_layOrder_49 g lf u) N 0 0 = 0 :=
  foldN_i (f := s_X7_layOrder_49 g lf u) (n := N) (fun _ (a : Int32) => a = 0) (fun k a _ ih => by unfold s_X7_layOrder_49; rw [if_pos ih]) rfl
def canb (g : Nat → Int32) (N : Nat) (lf : Int32) (u : Nat) : Prop := bt lf u = true ∧ ¬ ∃ j, j < N ∧ bt lf j = true ∧ ¬ r_X7_waits g u j = 0
theorem lo_24 (g : Nat → Int32) (lf : Int32) {N : Nat} (hN : N ≤ 20) : IsF (canb g N lf) N (foldD (s_X7_layOrder_24 g N lf) N (-10)) := by
  refine foldD_F (fun u a hu => ?_) N (-10) (Nat.le_refl _) (.inr ⟨fun p h1 h2 => absurd h2 (by omega), rfl⟩)
  have s1 := sh_1 (x := lf) (j := u) (by omega)
  have s2 := lo_49 g lf u hN
  have s3 := lo_490 g lf u N
  unfold s_X7_layOrder_24 canb
  constructor
  · rintro ⟨a1, a2⟩
    rw [if_pos (s1.mpr a1), if_neg (fun x => a2 (s2.mp x))]
  · intro hc
    by_cases c1 : ((lf >>> ((nI u) &&& 31)) &&& 1) = 1
    · rw [if_pos c1, if_pos (s2.mpr (Classical.not_not.mp (fun x => hc ⟨s1.mp c1, x⟩)))]
    · rw [if_neg c1, if_pos s3]
theorem eq_next {N : Nat} {us : Nat → Nat → Int32} {g : Nat → Int32} (h : LK N us g) {lf : Int32} (hl : okm N lf) : r_X6_smallestTarget (lf &&& ((r_X5_usersOfAny us lf 7) ^^^ (-1))) = foldD (s_X7_layOrder_24 g N lf) N (-10) := by
  have h1 := h.1
  have hin : ∀ u, bt lf u = true → u < N := fun u hu => by
    rcases Nat.lt_or_ge u N with c | c
    · exact c
    · rw [hl u c] at hu
      exact absurd hu (by decide)
  refine IsF_eq (st_isF _) (lo_24 g lf h1) (fun u => ?_)
  constructor
  · rintro ⟨a, b⟩
    rw [b_and, bt_not (by omega), Bool.and_eq_true] at b
    refine ⟨hin u b.1, b.1, ?_⟩
    rintro ⟨j, x1, x2, x3⟩
    rw [(usersAny_bt h lf 7 u).mpr ⟨a, j, by omega, x2, (wait_iff h a (by omega)).mpr x3⟩] at b
    exact absurd b.2 (by decide)
  · rintro ⟨a, b, c⟩
    refine ⟨by omega, ?_⟩
    rw [b_and, bt_not (by omega), b]
    cases hv : bt (r_X5_usersOfAny us lf 7) u with
    | false => rfl
    | true =>
      obtain ⟨x1, t, x2, x3, x4⟩ := (usersAny_bt h lf 7 u).mp hv
      exact absurd ⟨t, hin t x3, x3, (wait_iff h x1 x2).mp x4⟩ c
theorem ex_next {N : Nat} {us : Nat → Nat → Int32} {g : Nat → Int32} {rk : Nat → Nat} (h : LK N us g) (ha : AC g rk) {lf : Int32} (hl : okm N lf) (hne : ¬ lf = 0) : ∃ v, v < N ∧ bt lf v = true ∧ foldD (s_X7_layOrder_24 g N lf) N (-10) = nI v := by
  have h1 := h.1
  have hin : ∀ u, bt lf u = true → u < N := fun u hu => by
    rcases Nat.lt_or_ge u N with c | c
    · exact c
    · rw [hl u c] at hu
      exact absurd hu (by decide)
  obtain ⟨j, _, hj⟩ := bt_ne0 hne
  obtain ⟨r, ⟨u, hu, er⟩, hmin⟩ := pk_least (fun r => ∃ u, bt lf u = true ∧ rk u = r) ⟨rk j, j, hj, rfl⟩
  have hc : canb g N lf u := ⟨hu, fun ⟨t, x1, x2, x3⟩ => by
    have hu2 := hin u hu
    obtain ⟨k, _, _, e⟩ := (wait_iff h (a := u) (b := t) (by omega) (by omega)).mpr x3
    have := ha u t (by omega) (by omega) (by omega)
    exact hmin (rk t) (by omega) ⟨t, x2, rfl⟩⟩
  obtain ⟨v, a1, a2, a3⟩ := IsF_some (lo_24 g lf h1) (hin u hu) hc
  exact ⟨v, a1, a2.1, a3⟩
theorem bt_del {lf : Int32} {v : Nat} (hv : v < 32) (j : Nat) : bt (lf &&& ((1 <<< (nI v &&& 31)) ^^^ (-1))) j = (bt lf j && !decide (j = v)) := by
  rw [b_and]
  rcases Nat.lt_or_ge j 32 with c | c
  · rw [bt_not c, bt_shl1 hv]
  · rw [b_big c]
    rfl
theorem ct_del {lf : Int32} {v N : Nat} (hv : v < N) (hN : N ≤ 20) (hb : bt lf v = true) : fb_ct (bt (lf &&& ((1 <<< (nI v &&& 31)) ^^^ (-1)))) N < fb_ct (bt lf) N :=
  fb_ct_lt (k := v) (fun i _ hi => by
    rw [bt_del (by omega), Bool.and_eq_true] at hi
    exact hi.1) hv hb (by rw [bt_del (by omega)]; simp)
def OJ (N k : Nat) (od : Nat → Int32) (lf rb : Int32) : Prop := (∀ i, i < k → ∃ v, v < N ∧ od i = nI v ∧ bt rb v = true ∧ bt lf v = false) ∧ (∀ i j, i < j → j < k → od i ≠ od j) ∧ ∀ v, bt lf v = true → bt rb v = true
theorem OJ_s {N k : Nat} {od : Nat → Int32} {lf rb : Int32} (hN : N ≤ 20) (h : OJ N k od lf rb) {v : Nat} (hv : v < N) (hb : bt lf v = true) : OJ N (k + 1) (upd od k (nI v)) (lf &&& ((1 <<< (nI v &&& 31)) ^^^ (-1))) rb := by
  obtain ⟨h1, h2, h3⟩ := h
  have eu : ∀ i, i < k → upd od k (nI v) i = od i := fun i hi => if_neg (by omega)
  have ek : upd od k (nI v) k = nI v := if_pos rfl
  refine ⟨fun i hi => ?_, fun i j hij hj => ?_, fun w hw => ?_⟩
  · by_cases c : i = k
    · rw [c, ek]
      exact ⟨v, hv, rfl, h3 v hb, by rw [bt_del (by omega)]; simp⟩
    · rw [eu i (by omega)]
      obtain ⟨w, a1, a2, a3, a4⟩ := h1 i (by omega)
      exact ⟨w, a1, a2, a3, by rw [bt_del (by omega), a4]; rfl⟩
  · rw [eu i (by omega)]
    by_cases c : j = k
    · rw [c, ek]
      obtain ⟨w, a1, a2, a3, a4⟩ := h1 i (by omega)
      rw [a2]
      intro e
      have := (nI_injI (a := w) (b := v) (by omega) (by omega)).mp e
      rw [this, hb] at a4
      exact absurd a4 (by decide)
    · rw [eu j (by omega)]
      exact h2 i j hij (by omega)
  · rw [bt_del (by omega), Bool.and_eq_true] at hw
    exact h3 w hw.1
theorem order_loop {N : Nat} {us : Nat → Nat → Int32} {g : Nat → Int32} {rk : Nat → Nat} (h : LK N us g) (ha : AC g rk) (rb : Int32) : ∀ (n i : Nat) (lf : Int32) (k : Nat) (od1 od2 : Nat → Int32), okm N lf → fb_ct (bt lf) N ≤ n → (∀ j, j < k → od1 j = od2 j) → OJ N k od1 lf rb → ∃ K o1 o2, whN e_X7_layOrder_7 (s_X7_layOrder_7 g N) n (lf, k, od1) = (0, K, o1) ∧ brkN b_X2_init_27 (s_X2_init_27 us) n i (lf, k, od2) = (0, K, o2) ∧ (∀ j, j < K → o1 j = o2 j) ∧ OJ N K o1 0 rb := by
  have h1 := h.1
  have hz : ∀ lf, okm N lf → fb_ct (bt lf) N ≤ 0 → lf = 0 := fun lf hl hc => (okm_eq0 hl).mpr (fb_ct_zero.mp (Nat.le_zero.mp hc))
  intro n
  induction n with
  | zero =>
    intro i lf k od1 od2 hl hc he hJ
    have e := hz lf hl hc
    subst e
    exact ⟨k, od1, od2, rfl, rfl, he, hJ⟩
  | succ n ih =>
    intro i lf k od1 od2 hl hc he hJ
    by_cases e : lf = 0
    · subst e
      exact ⟨k, od1, od2, whN_e rfl, brkN_t rfl, he, hJ⟩
    · rw [whN_s (show e_X7_layOrder_7 (lf, k, od1) = false from decide_eq_false e), brkN_f (show b_X2_init_27 (lf, k, od2) = false from decide_eq_false e)]
      obtain ⟨v, hv, hb, ev⟩ := ex_next h ha hl e
      have en := (eq_next h hl).trans ev
      have x1 : s_X7_layOrder_7 g N (lf, k, od1) = (lf &&& ((1 <<< (nI v &&& 31)) ^^^ (-1)), k + 1, upd od1 k (nI v)) := by
        simp only [s_X7_layOrder_7]
        rw [ev]
      have x2 : s_X2_init_27 us i (lf, k, od2) = (lf &&& ((1 <<< (nI v &&& 31)) ^^^ (-1)), k + 1, upd od2 k (nI v)) := by
        simp only [s_X2_init_27]
        rw [en, if_neg (nI_nm (by omega))]
        rfl
      rw [x1, x2]
      refine ih (i + 1) _ (k + 1) _ _ (okm_and2 hl) ?_ (fun j hj => ?_) (OJ_s h1 hJ hv hb)
      · have := ct_del hv h1 hb
        omega
      · by_cases c : j = k
        · rw [c]
          show upd od1 k (nI v) k = upd od2 k (nI v) k
          rw [show upd od1 k (nI v) k = nI v from if_pos rfl, show upd od2 k (nI v) k = nI v from if_pos rfl]
        · rw [show upd od1 k (nI v) j = od1 j from if_neg c, show upd od2 k (nI v) j = od2 j from if_neg c]
          exact he j (by omega)
theorem eq_order {N : Nat} {us : Nat → Nat → Int32} {g : Nat → Int32} {rk : Nat → Nat} {di : Int64} (h : LK N us g) (hd : RD N di g) (ha : AC g rk) (ch od : Nat → Int32) : T_X7_layOrder_7 g ch od N ∧ k_layOrder g ch od N = k_X2 us (r_X4_rebuilt us di) ∧ k_layOrder g ch od N ≤ 20 ∧ (∀ i, i < k_layOrder g ch od N → w_X7_layOrder_3 g ch od N i = w_X2_init_n0 us (r_X4_rebuilt us di) i) ∧ OJ N (k_layOrder g ch od N) (w_X7_layOrder_3 g ch od N) 0 (r_X4_rebuilt us di) := by
  have h1 := h.1
  have er := eq_rebuilt h hd ch
  obtain ⟨K, o1, o2, e1, e2, e3, e4⟩ := order_loop h ha (r_X4_rebuilt us di) 20 0 (r_X4_rebuilt us di) 0 od (fun _ => 0) (rebuilt_ok h hd) (by have := fb_ct_le (bt (r_X4_rebuilt us di)) N; omega) (fun j hj => absurd hj (Nat.not_lt_zero _)) ⟨fun i hi => absurd hi (Nat.not_lt_zero _), fun i j _ hj => absurd hj (Nat.not_lt_zero _), fun v hv => hv⟩
  have k1 : k_layOrder g ch od N = K := by unfold k_layOrder; rw [er, e1]
  have k2 : k_X2 us (r_X4_rebuilt us di) = K := by unfold k_X2; rw [e2]
  have w1 : w_X7_layOrder_3 g ch od N = o1 := by unfold w_X7_layOrder_3; rw [er, e1]
  have w2 : w_X2_init_n0 us (r_X4_rebuilt us di) = o2 := by unfold w_X2_init_n0; rw [e2]
  rw [k1, k2, w1, w2]
  refine ⟨by unfold T_X7_layOrder_7; rw [er, e1]; rfl, rfl, ?_, e3, e4⟩
  have := fb_holes N K (fun i => (o1 i).toNatClampNeg) (fun i hi => by
    obtain ⟨v, a1, a2, _⟩ := e4.1 i hi
    show (o1 i).toNatClampNeg < N
    rw [a2, nI_clamp (by omega)]
    exact a1) (fun i j hij hj e => by
    obtain ⟨v, a1, a2, _⟩ := e4.1 i (by omega)
    obtain ⟨w, b1, b2, _⟩ := e4.1 j hj
    have e : (o1 i).toNatClampNeg = (o1 j).toNatClampNeg := e
    rw [a2, b2, nI_clamp (by omega), nI_clamp (by omega)] at e
    exact e4.2.1 i j hij hj (by rw [a2, b2, e]))
  omega
theorem eq_rebuildOrder {N : Nat} {us : Nat → Nat → Int32} {g : Nat → Int32} {rk : Nat → Nat} {di : Int64} (h : LK N us g) (hd : RD N di g) (ha : AC g rk) (ch od : Nat → Int32) (ix : Int32) : r_X6_rebuildOrder us di ix = r_X7_rebuildOrder g ch od ix N := by
  have h1 := h.1
  obtain ⟨_, e2, e3, e4, _⟩ := eq_order h hd ha ch od
  have l1 : r_X7_layOrder g ch od N = nI (k_layOrder g ch od N) := rfl
  have l2 : w_X2_init_0_3 us (r_X4_rebuilt us di) = nI (k_layOrder g ch od N) := by
    show nI (k_X2 us (r_X4_rebuilt us di)) = _
    rw [e2]
  unfold r_X6_rebuildOrder r_X7_rebuildOrder
  rw [l1, l2]
  by_cases d : ix = -1
  · rw [if_pos d, if_pos d]
  · rw [if_neg d, if_neg d]
    have f1 := inR (v := ix) (n := k_layOrder g ch od N) (by omega)
    have f2 := in7 (v := ix) (n := k_layOrder g ch od N) (by omega)
    by_cases f : r_X6_inRange ix (nI (k_layOrder g ch od N)) = 0
    · rw [if_pos f, if_pos (Classical.byContradiction fun x => f1.mpr (f2.mp x) f)]
    · obtain ⟨k, x1, x2⟩ := f1.mp f
      rw [if_neg f, if_neg (f2.mpr ⟨k, x1, x2⟩), x2, nI_clamp (by omega), e4 k x1]
/-! the time of the rebuild -/
theorem updfold2 {f : Nat → (Nat → Int32) → (Nat → Int32)} {c : Nat → Prop} {hh : Int32 → Int32} {n : Nat} (hf : ∀ i a, i < n → (c i → f i a = upd a i (hh (a i))) ∧ (¬ c i → f i a = a)) (a : Nat → Int32) : ∀ k, ((k < n ∧ c k) → foldN f n 0 a k = hh (a k)) ∧ (¬ (k < n ∧ c k) → foldN f n 0 a k = a k) := by
  refine foldN_i (f := f) (n := n) (fun i b => ∀ k, ((k < i ∧ c k) → b k = hh (a k)) ∧ (¬ (k < i ∧ c k) → b k = a k)) (fun i b hi ih k => ?_) (fun k => ⟨fun x => absurd x.1 (Nat.not_lt_zero _), fun _ => rfl⟩)
  by_cases hc : c i
  · rw [(hf i b hi).1 hc]
    by_cases e : k = i
    · subst e
      rw [show upd b k (hh (b k)) k = hh (b k) from if_pos rfl, (ih k).2 (fun x => absurd x.1 (Nat.lt_irrefl _))]
      exact ⟨fun _ => rfl, fun x => absurd ⟨by omega, hc⟩ x⟩
    · rw [show upd b i (hh (b i)) k = b k from if_neg e]
      exact ⟨fun x => (ih k).1 ⟨by omega, x.2⟩, fun x => (ih k).2 (fun y => x ⟨by omega, y.2⟩)⟩
  · rw [(hf i b hi).2 hc]
    refine ⟨fun x => (ih k).1 ⟨?_, x.2⟩, fun x => (ih k).2 (fun y => x ⟨by omega, y.2⟩)⟩
    by_cases e : k = i
    · rw [e] at x
      exact absurd x.2 hc
    · omega
def Bg (g : Nat → Int32) (o : Nat → Int32) (rd : Nat → Int32) (u : Nat) (j : Nat) (bg : Int32) : Int32 := if r_X7_waits g u ((o j).toNatClampNeg) = 0 then bg else if rd ((o j).toNatClampNeg) ≤ bg then bg else rd ((o j).toNatClampNeg)
theorem foldN_cong {σ : Type} {f f' : Nat → σ → σ} {n : Nat} (h : ∀ i a, i < n → f i a = f' i a) (a : σ) : foldN f n 0 a = foldN f' n 0 a :=
  foldN_0 (fun _ a b => a = b) (fun j a b hj e => by rw [e, h j b hj]) rfl
theorem eq_time {N : Nat} {us : Nat → Nat → Int32} {we g : Nat → Int32} {rk : Nat → Nat} {di : Int64} (h : LK N us g) (hd : RD N di g) (ha : AC g rk) (hw : RW N we g) (ch od rd : Nat → Int32) : r_X6_rebuildTime we us di = r_X7_rebuildTime g ch od rd N := by
  have h1 := h.1
  obtain ⟨_, e2, e3, e4, hJ⟩ := eq_order h hd ha ch od
  unfold r_X6_rebuildTime r_X7_rebuildTime r_X2_time w_X2_init_0_1
  rw [← e2]
  generalize k_layOrder g ch od N = K at *
  have key := foldN_0 (f := s_X2_time_9 (r_X4_rebuilt us di) (w_X2_init_n0 us (r_X4_rebuilt us di)) we us) (f' := s_X7_rebuildTime_9 g ch od N) (n := K) (fun i (a b : Int32 × (Nat → Int32)) => a.1 = b.1 ∧ ∀ u, u < N → bt (r_X4_rebuilt us di) u = true → a.2 u = foldN (Bg g (w_X7_layOrder_3 g ch od N) b.2 u) i 0 0) (by
    rintro i ⟨en, st⟩ ⟨tm, rd1⟩ hi ⟨q1, q2⟩
    simp only at q1 q2
    subst q1
    obtain ⟨v, hv, ev, hbv, _⟩ := hJ.1 i hi
    have evc : (w_X7_layOrder_3 g ch od N i).toNatClampNeg = v := by rw [ev]; exact nI_clamp (by omega)
    have evc2 : (w_X2_init_n0 us (r_X4_rebuilt us di) i).toNatClampNeg = v := by rw [← e4 i hi]; exact evc
    have eb : foldN (s_X7_rebuildTime_28 g ch od N i rd1) i 0 0 = st v := by
      rw [q2 v hv hbv]
      refine foldN_cong (fun j a hj => ?_) 0
      show (if r_X7_waits g ((w_X7_layOrder_3 g ch od N i).toNatClampNeg) ((w_X7_layOrder_3 g ch od N j).toNatClampNeg) = 0 then a else _) = _
      rw [evc]
      rfl
    have ew : we v = r_X7_weightOf g v := (hw v hv).1
    have x1 : s_X2_time_9 (r_X4_rebuilt us di) (w_X2_init_n0 us (r_X4_rebuilt us di)) we us i (en, st) = ((if en < st v + we v then st v + we v else en), foldN (s_X2_time_70 (r_X4_rebuilt us di) (w_X2_init_n0 us (r_X4_rebuilt us di)) we us i st) 20 0 st) := by
      simp only [s_X2_time_9]
      rw [evc2]
    have x2 : s_X7_rebuildTime_9 g ch od N i (en, rd1) = if st v + we v ≤ en then (en, upd rd1 v (st v + we v)) else (st v + we v, upd rd1 v (st v + we v)) := by
      simp only [s_X7_rebuildTime_9]
      rw [evc, eb, ← ew, show upd rd1 v (st v + we v) v = st v + we v from if_pos rfl]
    have x3 : (if st v + we v ≤ en then (en, upd rd1 v (st v + we v)) else (st v + we v, upd rd1 v (st v + we v))) = ((if st v + we v ≤ en then en else st v + we v), upd rd1 v (st v + we v)) := by split <;> rfl
    rw [x1, x2, x3]
    refine ⟨?_, fun u hu hbu => ?_⟩
    · show (if en < st v + we v then st v + we v else en) = (if st v + we v ≤ en then en else st v + we v)
      by_cases c : en < st v + we v
      · rw [if_pos c, if_neg (Int32.not_le.mpr c)]
      · rw [if_neg c, if_pos (Int32.not_lt.mp c)]
    · show foldN (s_X2_time_70 (r_X4_rebuilt us di) (w_X2_init_n0 us (r_X4_rebuilt us di)) we us i st) 20 0 st u = foldN (Bg g (w_X7_layOrder_3 g ch od N) (upd rd1 v (st v + we v)) u) (i + 1) 0 0
      have hs := updfold2 (f := s_X2_time_70 (r_X4_rebuilt us di) (w_X2_init_n0 us (r_X4_rebuilt us di)) we us i st) (c := fun j => bt (r_X5_usersOf us 7 v &&& r_X4_rebuilt us di) j = true) (hh := fun x => if x < st v + we v then st v + we v else x) (n := 20) (fun j a hj => ⟨fun hc => by
        unfold s_X2_time_70
        rw [evc2, if_neg (fun e => by rw [(ct_0 (by omega)).mp e] at hc; exact absurd hc (by decide))], fun hc => by
        unfold s_X2_time_70
        rw [evc2, if_pos ((ct_0 (by omega)).mpr (by simpa using hc))]⟩) st u
      rw [foldN_snoc (Bg g (w_X7_layOrder_3 g ch od N) (upd rd1 v (st v + we v)) u) i, Nat.zero_add]
      have same : foldN (Bg g (w_X7_layOrder_3 g ch od N) (upd rd1 v (st v + we v)) u) i 0 0 = st u := by
        rw [q2 u hu hbu]
        refine foldN_cong (fun j a hj => ?_) 0
        obtain ⟨w, hw1, ew2, _⟩ := hJ.1 j (by omega)
        have ne : ¬ (w_X7_layOrder_3 g ch od N j).toNatClampNeg = v := fun e => by
          refine hJ.2.1 j i hj hi ?_
          rw [ew2, ev, ← e, ew2, nI_clamp (by omega)]
        unfold Bg
        rw [show upd rd1 v (st v + we v) ((w_X7_layOrder_3 g ch od N j).toNatClampNeg) = rd1 ((w_X7_layOrder_3 g ch od N j).toNatClampNeg) from if_neg ne]
      rw [same]
      unfold Bg
      rw [evc, show upd rd1 v (st v + we v) v = st v + we v from if_pos rfl]
      have hbit : bt (r_X5_usersOf us 7 v &&& r_X4_rebuilt us di) u = true ↔ ¬ r_X7_waits g u v = 0 := by
        rw [b_and, hbu, Bool.and_true, usersOf_bt h (by omega), ← wait_iff h (by omega) (by omega)]
        exact ⟨fun x => x.2, fun x => ⟨by omega, x⟩⟩
      by_cases c : r_X7_waits g u v = 0
      · rw [if_pos c, hs.2 (fun x => hbit.mp x.2 c)]
      · rw [if_neg c, hs.1 ⟨by omega, hbit.mpr c⟩]
        by_cases c2 : st u < st v + we v
        · rw [if_pos c2, if_neg (Int32.not_le.mpr c2)]
        · rw [if_neg c2, if_pos (Int32.not_lt.mp c2)]) (a := (0, fun _ => 0)) (b := (0, rd)) ⟨rfl, fun u _ _ => rfl⟩
  exact key.1
