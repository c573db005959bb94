/-! what holds between the class's state and the reference's array -/
theorem up_e (f : Nat → Int32) (k : Nat) (x : Int32) : upd f k x k = x := if_pos rfl
theorem up_n (f : Nat → Int32) {k j : Nat} (x : Int32) (h : j ≠ k) : upd f k x j = f j := if_neg h
theorem up_i (f : Nat → Int32) {k j : Nat} (x : Int32) (h : j = k) : upd f k x j = x := if_pos h
theorem LK_c {N : Nat} {us : Nat → Nat → Int32} {g g' : Nat → Int32} (h : LK N us g) (e : ∀ k, 43 ≤ k → k < 443 → g' k = g k) : LK N us g' := by
  have el : ∀ a b, a < 20 → b < 20 → lnk g' a b = lnk g a b := fun a b ha hb => by
    unfold lnk
    rw [e (43 + 20 * a + b) (by omega) (by omega)]
  refine ⟨h.1, fun a b ha hb => ?_, fun k b hk hb j => ?_⟩
  · rw [el a b ha hb, e (43 + 20 * a + b) (by omega) (by omega)]
    exact h.2.1 a b ha hb
  · rw [h.2.2 k b hk hb j]
    by_cases c : j < 20
    · rw [el j b c hb]
    · rw [decide_eq_false (fun x => c x.1), decide_eq_false (fun x => c x.1)]
theorem AC_c {g g' : Nat → Int32} {rk : Nat → Nat} (h : AC g rk) (e : ∀ k, 43 ≤ k → k < 443 → g' k = g k) : AC g' rk := fun a b ha hb hn => by
  refine h a b ha hb ?_
  unfold lnk at hn ⊢
  rw [e (43 + 20 * a + b) (by omega) (by omega)] at hn
  exact hn
theorem RK_c {N : Nat} {ok g g' : Nat → Int32} (hN : N ≤ 20) (h : RK N ok g) (e : ∀ k, 3 ≤ k → k < 23 → g' k = g k) : RK N ok g' := by
  refine ⟨fun t ht => ?_, fun k hk j => ?_⟩
  · rw [e (3 + t) (by omega) (by omega)]
    exact h.1 t ht
  · rw [h.2 k hk j]
    by_cases c : j < N
    · rw [e (3 + j) (by omega) (by omega)]
    · rw [decide_eq_false (fun x => c x.1), decide_eq_false (fun x => c x.1)]
theorem RW_c {N : Nat} {we g g' : Nat → Int32} (hN : N ≤ 20) (h : RW N we g) (e : ∀ k, 23 ≤ k → k < 43 → g' k = g k) : RW N we g' := fun t ht => by
  have el : wv g' t = wv g t := by
    unfold wv
    rw [e (23 + t) (by omega) (by omega)]
  rw [el, e (23 + t) (by omega) (by omega)]
  exact h t ht
theorem RD_c {N : Nat} {di : Int64} {g g' : Nat → Int32} (h : RD N di g) (e : ∀ k, 663 ≤ k → k < 703 → g' k = g k) : RD N di g' := by
  refine ⟨h.1, fun q hq => ?_, fun q hq => ?_⟩
  · rw [e (663 + q) (by omega) (by omega)]
    exact h.2.1 q hq
  · rw [e (663 + q) (by omega) (by omega)]
    exact h.2.2 q hq
def FL (N F : Nat) (fc : Int32) (ft fn fh fe fo g : Nat → Int32) : Prop := F ≤ 40 ∧ fc = nI F ∧ g 2 = nI F ∧ (∀ f, f < F → (fe f = 0 ∧ g (443 + 3 * f) < 0) ∨ (fe f = 1 ∧ ∃ t, t < N ∧ ft f = nI t ∧ g (443 + 3 * f) = nI t)) ∧ (∀ f, f < F → (fh f = 0 ∧ ¬ g (443 + 3 * f + 1) = 1) ∨ (fh f = 1 ∧ g (443 + 3 * f + 1) = 1)) ∧ (∀ f, f < F → fn f = g (443 + 3 * f + 2)) ∧ (∀ n, n < 100 → (g (563 + n) = 0 ∧ fo n = -10) ∨ ∃ f, f < F ∧ g (563 + n) = nI (f + 1) ∧ fo n = nI f) ∧ (∀ f, f < F → fe f = 1 → ∃ n, n < 100 ∧ fn f = nI n ∧ fo n = nI f) ∧ (∀ i, i < 40 → fh i = 0 ∨ fh i = 1) ∧ (∀ i, i < 40 → fe i = 0 ∨ fe i = 1)
theorem FL.hF {N F : Nat} {fc : Int32} {ft fn fh fe fo g : Nat → Int32} (h : FL N F fc ft fn fh fe fo g) : F ≤ 40 := h.1
theorem FL.cf {N F : Nat} {fc : Int32} {ft fn fh fe fo g : Nat → Int32} (h : FL N F fc ft fn fh fe fo g) : fc = nI F := h.2.1
theorem FL.g2 {N F : Nat} {fc : Int32} {ft fn fh fe fo g : Nat → Int32} (h : FL N F fc ft fn fh fe fo g) : g 2 = nI F := h.2.2.1
theorem FL.ex {N F : Nat} {fc : Int32} {ft fn fh fe fo g : Nat → Int32} (h : FL N F fc ft fn fh fe fo g) : ∀ f, f < F → (fe f = 0 ∧ g (443 + 3 * f) < 0) ∨ (fe f = 1 ∧ ∃ t, t < N ∧ ft f = nI t ∧ g (443 + 3 * f) = nI t) := h.2.2.2.1
theorem FL.hd {N F : Nat} {fc : Int32} {ft fn fh fe fo g : Nat → Int32} (h : FL N F fc ft fn fh fe fo g) : ∀ f, f < F → (fh f = 0 ∧ ¬ g (443 + 3 * f + 1) = 1) ∨ (fh f = 1 ∧ g (443 + 3 * f + 1) = 1) := h.2.2.2.2.1
theorem FL.nm {N F : Nat} {fc : Int32} {ft fn fh fe fo g : Nat → Int32} (h : FL N F fc ft fn fh fe fo g) : ∀ f, f < F → fn f = g (443 + 3 * f + 2) := h.2.2.2.2.2.1
theorem FL.ow {N F : Nat} {fc : Int32} {ft fn fh fe fo g : Nat → Int32} (h : FL N F fc ft fn fh fe fo g) : ∀ n, n < 100 → (g (563 + n) = 0 ∧ fo n = -10) ∨ ∃ f, f < F ∧ g (563 + n) = nI (f + 1) ∧ fo n = nI f := h.2.2.2.2.2.2.1
theorem FL.un {N F : Nat} {fc : Int32} {ft fn fh fe fo g : Nat → Int32} (h : FL N F fc ft fn fh fe fo g) : ∀ f, f < F → fe f = 1 → ∃ n, n < 100 ∧ fn f = nI n ∧ fo n = nI f := h.2.2.2.2.2.2.2.1
theorem FL.bh {N F : Nat} {fc : Int32} {ft fn fh fe fo g : Nat → Int32} (h : FL N F fc ft fn fh fe fo g) : ∀ i, i < 40 → fh i = 0 ∨ fh i = 1 := h.2.2.2.2.2.2.2.2.1
theorem FL.be {N F : Nat} {fc : Int32} {ft fn fh fe fo g : Nat → Int32} (h : FL N F fc ft fn fh fe fo g) : ∀ i, i < 40 → fe i = 0 ∨ fe i = 1 := h.2.2.2.2.2.2.2.2.2
theorem FL_c {N F : Nat} {fc : Int32} {ft fn fh fe fo g g' : Nat → Int32} (h : FL N F fc ft fn fh fe fo g) (e2 : g' 2 = g 2) (e : ∀ k, 443 ≤ k → k < 663 → g' k = g k) : FL N F fc ft fn fh fe fo g' := by
  obtain ⟨h1, h2, h3, h4, h5, h6, h7, h8, h9, h10⟩ := h
  refine ⟨h1, h2, e2.trans h3, fun f hf => ?_, fun f hf => ?_, fun f hf => ?_, fun n hn => ?_, h8, h9, h10⟩
  · rw [e (443 + 3 * f) (by omega) (by omega)]
    exact h4 f hf
  · rw [e (443 + 3 * f + 1) (by omega) (by omega)]
    exact h5 f hf
  · rw [e (443 + 3 * f + 2) (by omega) (by omega)]
    exact h6 f hf
  · rw [e (563 + n) (by omega) (by omega)]
    exact h7 n hn
def Rl (B N F : Nat) (ct dp : Int32) (we ok : Nat → Int32) (us : Nat → Nat → Int32) (fc : Int32) (ft fn fh fe fo : Nat → Int32) (di : Int64) (g : Nat → Int32) : Prop := ct = nI N ∧ g 0 = nI N ∧ dp = g 1 ∧ -(B : Int) ≤ (g 1).toInt ∧ (g 1).toInt ≤ 60 ∧ LK N us g ∧ RK N ok g ∧ RW N we g ∧ RD N di g ∧ (∃ rk, AC g rk) ∧ fb_ct (fun t => decide (g (3 + t) = 2)) N ≤ 10 ∧ FL N F fc ft fn fh fe fo g
theorem Rl.ct {B N F : Nat} {ct dp : Int32} {we ok : Nat → Int32} {us : Nat → Nat → Int32} {fc : Int32} {ft fn fh fe fo : Nat → Int32} {di : Int64} {g : Nat → Int32} (h : Rl B N F ct dp we ok us fc ft fn fh fe fo di g) : ct = nI N := h.1
theorem Rl.g0 {B N F : Nat} {ct dp : Int32} {we ok : Nat → Int32} {us : Nat → Nat → Int32} {fc : Int32} {ft fn fh fe fo : Nat → Int32} {di : Int64} {g : Nat → Int32} (h : Rl B N F ct dp we ok us fc ft fn fh fe fo di g) : g 0 = nI N := h.2.1
theorem Rl.dp {B N F : Nat} {ct dp : Int32} {we ok : Nat → Int32} {us : Nat → Nat → Int32} {fc : Int32} {ft fn fh fe fo : Nat → Int32} {di : Int64} {g : Nat → Int32} (h : Rl B N F ct dp we ok us fc ft fn fh fe fo di g) : dp = g 1 := h.2.2.1
theorem Rl.d1 {B N F : Nat} {ct dp : Int32} {we ok : Nat → Int32} {us : Nat → Nat → Int32} {fc : Int32} {ft fn fh fe fo : Nat → Int32} {di : Int64} {g : Nat → Int32} (h : Rl B N F ct dp we ok us fc ft fn fh fe fo di g) : -(B : Int) ≤ (g 1).toInt := h.2.2.2.1
theorem Rl.d2 {B N F : Nat} {ct dp : Int32} {we ok : Nat → Int32} {us : Nat → Nat → Int32} {fc : Int32} {ft fn fh fe fo : Nat → Int32} {di : Int64} {g : Nat → Int32} (h : Rl B N F ct dp we ok us fc ft fn fh fe fo di g) : (g 1).toInt ≤ 60 := h.2.2.2.2.1
theorem Rl.lk {B N F : Nat} {ct dp : Int32} {we ok : Nat → Int32} {us : Nat → Nat → Int32} {fc : Int32} {ft fn fh fe fo : Nat → Int32} {di : Int64} {g : Nat → Int32} (h : Rl B N F ct dp we ok us fc ft fn fh fe fo di g) : LK N us g := h.2.2.2.2.2.1
theorem Rl.rk {B N F : Nat} {ct dp : Int32} {we ok : Nat → Int32} {us : Nat → Nat → Int32} {fc : Int32} {ft fn fh fe fo : Nat → Int32} {di : Int64} {g : Nat → Int32} (h : Rl B N F ct dp we ok us fc ft fn fh fe fo di g) : RK N ok g := h.2.2.2.2.2.2.1
theorem Rl.rw {B N F : Nat} {ct dp : Int32} {we ok : Nat → Int32} {us : Nat → Nat → Int32} {fc : Int32} {ft fn fh fe fo : Nat → Int32} {di : Int64} {g : Nat → Int32} (h : Rl B N F ct dp we ok us fc ft fn fh fe fo di g) : RW N we g := h.2.2.2.2.2.2.2.1
theorem Rl.rd {B N F : Nat} {ct dp : Int32} {we ok : Nat → Int32} {us : Nat → Nat → Int32} {fc : Int32} {ft fn fh fe fo : Nat → Int32} {di : Int64} {g : Nat → Int32} (h : Rl B N F ct dp we ok us fc ft fn fh fe fo di g) : RD N di g := h.2.2.2.2.2.2.2.2.1
theorem Rl.ac {B N F : Nat} {ct dp : Int32} {we ok : Nat → Int32} {us : Nat → Nat → Int32} {fc : Int32} {ft fn fh fe fo : Nat → Int32} {di : Int64} {g : Nat → Int32} (h : Rl B N F ct dp we ok us fc ft fn fh fe fo di g) : (∃ rk, AC g rk) := h.2.2.2.2.2.2.2.2.2.1
theorem Rl.tc {B N F : Nat} {ct dp : Int32} {we ok : Nat → Int32} {us : Nat → Nat → Int32} {fc : Int32} {ft fn fh fe fo : Nat → Int32} {di : Int64} {g : Nat → Int32} (h : Rl B N F ct dp we ok us fc ft fn fh fe fo di g) : fb_ct (fun t => decide (g (3 + t) = 2)) N ≤ 10 := h.2.2.2.2.2.2.2.2.2.2.1
theorem Rl.fl {B N F : Nat} {ct dp : Int32} {we ok : Nat → Int32} {us : Nat → Nat → Int32} {fc : Int32} {ft fn fh fe fo : Nat → Int32} {di : Int64} {g : Nat → Int32} (h : Rl B N F ct dp we ok us fc ft fn fh fe fo di g) : FL N F fc ft fn fh fe fo g := h.2.2.2.2.2.2.2.2.2.2.2
theorem Rl_B {B B' N F : Nat} {ct dp : Int32} {we ok : Nat → Int32} {us : Nat → Nat → Int32} {fc : Int32} {ft fn fh fe fo : Nat → Int32} {di : Int64} {g : Nat → Int32} (h : Rl B N F ct dp we ok us fc ft fn fh fe fo di g) (hB : B ≤ B') : Rl B' N F ct dp we ok us fc ft fn fh fe fo di g := by
  obtain ⟨h1, h2, h3, h4, h5, h6, h7, h8, h9, h10, h11, h12⟩ := h
  exact ⟨h1, h2, h3, by omega, h5, h6, h7, h8, h9, h10, h11, h12⟩
theorem tc_c {N : Nat} {g g' : Nat → Int32} (hN : N ≤ 20) (e : ∀ k, 3 ≤ k → k < 23 → g' k = g k) : fb_ct (fun t => decide (g' (3 + t) = 2)) N = fb_ct (fun t => decide (g (3 + t) = 2)) N := fb_ct_cong fun t ht => by
  rw [e (3 + t) (by omega) (by omega)]
theorem Rl_file {B N F F' : Nat} {ct dp : Int32} {we ok : Nat → Int32} {us : Nat → Nat → Int32} {fc : Int32} {ft fn fh fe fo : Nat → Int32} {di : Int64} {g g' : Nat → Int32} (h : Rl B N F ct dp we ok us fc ft fn fh fe fo di g) (e : ∀ k, k < 443 → k ≠ 2 → g' k = g k) {fc' : Int32} {ft' fn' fh' fe' fo' : Nat → Int32} {di' : Int64} (hd : RD N di' g') (hf : FL N F' fc' ft' fn' fh' fe' fo' g') : Rl B N F' ct dp we ok us fc' ft' fn' fh' fe' fo' di' g' := by
  obtain ⟨h1, h2, h3, h4, h5, h6, h7, h8, h9, ⟨rk, h10⟩, h11, h12⟩ := h
  have e1 := e 1 (by decide) (by decide)
  refine ⟨h1, (e 0 (by decide) (by decide)).trans h2, h3.trans e1.symm, by rw [e1]; exact h4, by rw [e1]; exact h5, LK_c h6 (fun k a b => e k b (by omega)), RK_c h6.1 h7 (fun k a b => e k (by omega) (by omega)), RW_c h6.1 h8 (fun k a b => e k (by omega) (by omega)), hd, ⟨rk, AC_c h10 (fun k a b => e k b (by omega))⟩, ?_, hf⟩
  rw [tc_c h6.1 (fun k a b => e k (by omega) (by omega))]
  exact h11
theorem pw_dec : ∀ t, t < 20 → ∀ p, p < 2 → ∀ j, j < 64 → bl (r_X6_pairsWith (r_X6_setOf (nI t)) (nI p)) j = decide (j = pos (2 * t + p)) := by decide +kernel
theorem pw_bl {t p : Nat} (ht : t < 20) (hp : p < 2) (j : Nat) : bl (r_X6_pairsWith (r_X6_setOf (nI t)) (nI p)) j = decide (j = pos (2 * t + p)) := by
  by_cases c : j < 64
  · exact pw_dec t ht p hp j c
  · have := pos_lt (q := 2 * t + p) (by omega)
    rw [l_big (by omega), decide_eq_false (by omega)]
theorem tch_RD {N t p : Nat} {di : Int64} {g : Nat → Int32} (hN : N ≤ 20) (ht : t < N) (hp : p < 2) (hd : RD N di g) {i : Nat} (hi : i = 663 + 2 * t + p) {pp : Int32} (hpp : pp = nI p) : RD N (di ||| r_X6_pairsWith (r_X6_setOf (nI t)) pp) (upd g i 1) := by
  subst hi hpp
  obtain ⟨h1, h2, h3⟩ := hd
  have hb := pw_bl (t := t) (p := p) (by omega) hp
  refine ⟨okp_or h1 (fun j hj => ⟨2 * t + p, by omega, ?_⟩), fun q hq => ?_, fun q hq => ?_⟩
  · rw [hb] at hj
    exact of_decide_eq_true hj
  · by_cases c : q = 2 * t + p
    · exact Or.inr (up_i _ _ (by omega))
    · rw [up_n _ _ (by omega)]
      exact h2 q hq
  · have e : pb (di ||| r_X6_pairsWith (r_X6_setOf (nI t)) (nI p)) q = (pb di q || decide (pos q = pos (2 * t + p))) := by
      unfold pb
      rw [l_or, hb]
    rw [e]
    by_cases c : q = 2 * t + p
    · rw [up_i _ _ (by omega), c, decide_eq_true rfl, Bool.or_true]
      exact ⟨fun _ => rfl, fun _ => rfl⟩
    · rw [up_n _ _ (by omega), decide_eq_false (fun x => c (pos_inj hq (by omega) x)), Bool.or_false]
      exact h3 q hq
theorem tch {N : Nat} {di : Int64} {g ft fh : Nat → Int32} (hN : N ≤ 20) (hd : RD N di g) {f t : Nat} (hft : ft f = nI t) (ht : t < N) (hh : (fh f = 0 ∧ ¬ g (443 + 3 * f + 1) = 1) ∨ (fh f = 1 ∧ g (443 + 3 * f + 1) = 1)) : RD N (w_X4_touchBy_0_2 ft fh di f) (w_X7_touch_1 g t f) := by
  unfold w_X4_touchBy_0_2 w_X7_touch_1
  rw [hft]
  rcases hh with ⟨a, b⟩ | ⟨a, b⟩
  · rw [if_pos a, if_neg b]
    exact tch_RD hN ht (p := 1) (by decide) hd rfl (by decide)
  · rw [if_neg (by rw [a]; decide), if_pos b]
    exact tch_RD hN ht (p := 0) (by decide) hd rfl (by decide)
theorem tch_n (g : Nat → Int32) {t f k : Nat} (hk : k < 663) : w_X7_touch_1 g t f k = g k := by
  unfold w_X7_touch_1
  split
  · exact up_n _ _ (by omega)
  · exact up_n _ _ (by omega)
theorem fl_has {N F : Nat} {fc : Int32} {ft fn fh fe fo g : Nat → Int32} (hN : N ≤ 20) (h : FL N F fc ft fn fh fe fo g) (f : Int32) : (r_X1_has fc fe f = 0 ∧ r_X7_isFile g f = 0) ∨ ∃ k t, k < F ∧ t < N ∧ f = nI k ∧ f.toNatClampNeg = k ∧ fe k = 1 ∧ ft k = nI t ∧ g (443 + 3 * k) = nI t ∧ ¬ r_X1_has fc fe f = 0 ∧ ¬ r_X7_isFile g f = 0 := by
  have hF := h.hF
  have i1 : ¬ r_X6_inRange f fc = 0 ↔ ∃ k, k < F ∧ f = nI k := by rw [h.cf]; exact inR (by omega)
  have i2 : ¬ r_X7_in f 0 (g 2 - 1) = 0 ↔ ∃ k, k < F ∧ f = nI k := by rw [h.g2]; exact in7 (by omega)
  unfold r_X1_has r_X7_isFile
  by_cases c : ∃ k, k < F ∧ f = nI k
  · obtain ⟨k, hk, rfl⟩ := c
    have ek : (nI k).toNatClampNeg = k := nI_clamp (by omega)
    rw [if_neg (i1.mpr ⟨k, hk, rfl⟩), if_neg (i2.mpr ⟨k, hk, rfl⟩), ek]
    rcases h.ex k hk with ⟨a, b⟩ | ⟨a, t, ht, b, d⟩
    · left
      rw [if_pos a, if_pos b]
      exact ⟨rfl, rfl⟩
    · right
      refine ⟨k, t, hk, ht, rfl, rfl, a, b, d, ?_, ?_⟩
      · rw [if_neg (by rw [a]; decide)]
        decide
      · rw [if_neg (by rw [d]; exact nI_nn (by omega))]
        decide
  · left
    have a1 : r_X6_inRange f fc = 0 := Classical.byContradiction fun x => c (i1.mp x)
    have a2 : r_X7_in f 0 (g 2 - 1) = 0 := Classical.byContradiction fun x => c (i2.mp x)
    rw [if_pos a1, if_pos a2]
    exact ⟨rfl, rfl⟩
theorem named_iff (g : Nat → Int32) (nm : Int32) (F : Nat) : ¬ r_X7_isNamed g nm F = 0 ↔ ∃ f, f < F ∧ ¬ r_X7_isFile g (nI f) = 0 ∧ g (443 + 3 * f + 2) = nm := by
  have := foldN_i (f := s_X7_isNamed_4 g nm) (n := F) (fun j a => ¬ a = 0 ↔ ∃ f, f < j ∧ ¬ r_X7_isFile g (nI f) = 0 ∧ g (443 + 3 * f + 2) = nm) (fun j a hj ih => by
    unfold s_X7_isNamed_4
    by_cases c : a = 0
    · rw [if_pos c]
      have no : ¬ ∃ f, f < j ∧ ¬ r_X7_isFile g (nI f) = 0 ∧ g (443 + 3 * f + 2) = nm := fun x => ih.mpr x c
      by_cases c1 : r_X7_isFile g (nI j) = 0
      · rw [if_pos c1]
        refine ⟨fun x => absurd rfl x, fun ⟨f, hf, a1, a2⟩ => ?_⟩
        by_cases e : f = j
        · rw [e] at a1
          exact absurd c1 a1
        · exact absurd ⟨f, by omega, a1, a2⟩ no
      · rw [if_neg c1]
        by_cases c2 : g (443 + 3 * j + 2) = nm
        · rw [if_pos c2]
          exact ⟨fun _ => ⟨j, by omega, c1, c2⟩, fun _ => by decide⟩
        · rw [if_neg c2]
          refine ⟨fun x => absurd rfl x, fun ⟨f, hf, a1, a2⟩ => ?_⟩
          by_cases e : f = j
          · rw [e] at a2
            exact absurd a2 c2
          · exact absurd ⟨f, by omega, a1, a2⟩ no
    · rw [if_neg c]
      obtain ⟨f, hf, a1⟩ := ih.mp c
      exact ⟨fun _ => ⟨f, by omega, a1⟩, fun _ => by decide⟩) (a := 0) ⟨fun x => absurd rfl x, fun ⟨f, hf, _⟩ => absurd hf (by omega)⟩
  exact this
theorem fl_use {N F : Nat} {fc : Int32} {ft fn fh fe fo g : Nat → Int32} (hN : N ≤ 20) (h : FL N F fc ft fn fh fe fo g) {n : Nat} (hn : n < 100) : r_X1_isInUse fc fn fe fo (nI n) n = 0 ↔ r_X7_isNamed g (nI n) F = 0 := by
  refine iff0 ?_
  have hF := h.hF
  rw [named_iff]
  unfold r_X1_isInUse
  constructor
  · intro x
    rcases fl_has hN h (fo n) with ⟨a, b⟩ | ⟨k, t, hk, ht, e1, e2, e3, e4, e5, e6, e7⟩
    · rw [if_pos a] at x
      exact absurd rfl x
    · rw [if_neg e6, e2] at x
      by_cases c : fn k = nI n
      · refine ⟨k, hk, ?_, ?_⟩
        · rw [← e1]
          exact e7
        · rw [← h.nm k hk]
          exact c
      · rw [if_neg c] at x
        exact absurd rfl x
  · intro ⟨f, hf, a1, a2⟩
    rcases fl_has hN h (nI f) with ⟨a, b⟩ | ⟨k, t, hk, ht, e1, e2, e3, e4, e5, e6, e7⟩
    · exact absurd b a1
    · have ek : f = k := (nI_injI (by omega) (by omega)).mp e1
      subst ek
      obtain ⟨m, hm, m1, m2⟩ := h.un f hf e3
      have em : m = n := (nI_injI (by omega) (by omega)).mp (m1.symm.trans ((h.nm f hf).trans a2))
      subst em
      rw [m2, if_neg e6, e2, m1, if_pos rfl]
      decide
