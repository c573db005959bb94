/-! what is changed, rebuilt, tested, weighed: class and reference -/
theorem updfold {f : Nat → (Nat → Int32) → (Nat → Int32)} {v : Nat → Int32} {n : Nat} (hf : ∀ i a, i < n → f i a = upd a i (v i)) (a : Nat → Int32) (k : Nat) : foldN f n 0 a k = if k < n then v k else a k := by
  have key := foldN_ind (f := f) (M := n) (fun i b => ∀ k, b k = if k < i then v k else a k) (by
    intro i b hi ih k
    rw [hf i b hi]
    show (if k = i then v i else b k) = _
    by_cases c : k = i
    · subst c
      rw [if_pos rfl, if_pos (by omega)]
    · rw [if_neg c, ih k]
      by_cases d : k < i
      · rw [if_pos d, if_pos (by omega)]
      · rw [if_neg d, if_neg (by omega)]) n 0 a (by omega) (fun k => by rw [if_neg (by omega)])
  rw [Nat.zero_add] at key
  exact key k
theorem Rch_congr {R R' : Nat → Nat → Prop} {S S' : Nat → Prop} (hR : ∀ p q, R p q ↔ R' p q) (hS : ∀ q, S q ↔ S' q) (q : Nat) : Rch R S q ↔ Rch R' S' q := ⟨Rch_mono (fun p q => (hR p q).mp) (fun q => (hS q).mp), Rch_mono (fun p q => (hR p q).mpr) (fun q => (hS q).mpr)⟩
theorem Rch_in {M : Nat} {R : Nat → Nat → Prop} {S : Nat → Prop} {k : Nat} (hk : k < M) : Rch (fun p q => p < M ∧ q < M ∧ R p q) S k ↔ Rch (fun p q => p < M ∧ q < M ∧ R p q) (fun q => q < M ∧ S q) k :=
  ⟨fun h => (Rch_least (C := fun k => k < M → Rch (fun p q => p < M ∧ q < M ∧ R p q) (fun q => q < M ∧ S q) k) (fun q hq hM => Rch_0 ⟨hM, hq⟩) (fun p q hp r _ => Rch_s (hp r.1) r) h) hk, Rch_mono (fun _ _ h => h) (fun _ h => h.2)⟩
def RD (N : Nat) (di : Int64) (g : Nat → Int32) : Prop := okp (2 * N) di ∧ (∀ q, q < 40 → g (663 + q) = 0 ∨ g (663 + q) = 1) ∧ ∀ q, q < 40 → (pb di q = true ↔ g (663 + q) = 1)
theorem spreadC {N : Nat} {us : Nat → Nat → Int32} {g : Nat → Int32} (h : LK N us g) {ps : Int64} (hps : okp (2 * N) ps) {ch : Nat → Int32} (hc : ∀ q, q < 2 * N → (¬ ch q = 0 ↔ pb ps q = true)) {k : Nat} (hk : k < 2 * N) : ¬ w_X7_spread_2 g ch N k = 0 ↔ pb (r_X5_reachOf us ps) k = true := by
  have h1 := h.1
  rw [(refSpread h1 ch).2 k, (clsReach h hps).2 k hk, Rch_in hk]
  refine Rch_congr (fun p q => ?_) (fun q => ?_) k
  · constructor
    · rintro ⟨a, b, c⟩
      exact ⟨a, b, (fol_iff h (by omega) (by omega)).mp c⟩
    · rintro ⟨a, b, c⟩
      exact ⟨a, b, (fol_iff h (by omega) (by omega)).mpr c⟩
  · constructor
    · rintro ⟨a, b⟩
      exact ⟨a, (hc q a).mp b⟩
    · rintro ⟨a, b⟩
      exact ⟨a, (hc q a).mpr b⟩
theorem lay0 (g ch : Nat → Int32) {k : Nat} (hk : k < 40) : ¬ foldN (s_X7_layChanged_2 g) 40 0 ch k = 0 ↔ g (663 + k) = 1 := by
  rw [updfold (f := s_X7_layChanged_2 g) (v := fun i => if g (663 + i) = 1 then 1 else 0) (fun i a _ => by
    unfold s_X7_layChanged_2
    rw [nar1, nar0]
    by_cases c : g (663 + i) = 1
    · simp only [if_pos c]
    · simp only [if_neg c]) ch k, if_pos hk]
  by_cases c : g (663 + k) = 1
  · rw [if_pos c]
    exact ⟨fun _ => c, fun _ => by decide⟩
  · rw [if_neg c]
    exact ⟨fun x => absurd rfl x, fun x => absurd x c⟩
theorem chg {N : Nat} {us : Nat → Nat → Int32} {g : Nat → Int32} {di : Int64} (h : LK N us g) (hd : RD N di g) (ch : Nat → Int32) {k : Nat} (hk : k < 2 * N) : ¬ w_X7_layChanged_2 g ch N k = 0 ↔ pb (r_X5_reachOf us di) k = true := by
  have h1 := h.1
  exact spreadC h hd.1 (fun q hq => (lay0 g ch (by omega)).trans (hd.2.2 q (by omega)).symm) hk
theorem setOf_bt (ch : Nat → Int32) (kp : Nat) {N : Nat} (hN : N ≤ 20) (j : Nat) : bt (r_X7_setOf ch kp N) j = true ↔ j < N ∧ ¬ ch (2 * j + kp) = 0 := by
  have := or32 (f := s_X7_setOf_4 ch kp) (n := N) (c := fun i => ¬ ch (2 * i + kp) = 0) (h := fun i => 1 <<< ((nI i) &&& 31)) (fun i m hi => ⟨fun hc j => by
    unfold s_X7_setOf_4
    rw [if_neg hc, b_or], fun hc j => by
    unfold s_X7_setOf_4
    rw [if_pos (Classical.not_not.mp hc), bt_or0]⟩) j
  refine Iff.trans this ?_
  constructor
  · rintro ⟨i, hi, hc, hb⟩
    rw [bt_shl1 (by omega)] at hb
    have e := of_decide_eq_true hb
    rw [e]
    exact ⟨hi, hc⟩
  · rintro ⟨hj, hc⟩
    exact ⟨j, hj, hc, by rw [bt_shl1 (by omega)]; simp⟩
theorem tw_bt {N : Nat} (hN : N ≤ 20) {m : Int64} (hm : okp (2 * N) m) {kp : Nat} (hkp : kp < 2) (j : Nat) : bt (r_X6_targetsWith m (nI kp)) j = true ↔ j < N ∧ pb m (2 * j + kp) = true := by
  have e : bt (r_X6_targetsWith m (nI kp)) j = (decide (j < 32) && bl m (32 * kp + j)) := by
    by_cases c : j < 32
    · rw [decide_eq_true c, Bool.true_and]
      rcases (show kp = 0 ∨ kp = 1 by omega) with d | d
      · subst d
        rw [show 32 * 0 + j = j by omega]
        exact bt_tw0 m c
      · subst d
        exact bt_tw1 m c
    · rw [b_big (by omega), decide_eq_false c]
      rfl
  rw [e, Bool.and_eq_true, decide_eq_true_iff]
  constructor
  · rintro ⟨a, b⟩
    obtain ⟨q, hq, e2⟩ := hm _ b
    have e3 : 2 * j + kp = q := by unfold pos at e2; omega
    unfold pb
    rw [e3, ← e2]
    exact ⟨by omega, b⟩
  · rintro ⟨a, b⟩
    unfold pb at b
    rw [show pos (2 * j + kp) = 32 * kp + j by unfold pos; omega] at b
    exact ⟨by omega, b⟩
theorem iff_b {x y : Int32} (h : ∀ j, bt x j = true ↔ bt y j = true) : x = y := b_ext fun i _ => by
  cases hx : bt x i with
  | true => rw [(h i).mp hx]
  | false =>
    cases hy : bt y i with
    | false => rfl
    | true => rw [(h i).mpr hy] at hx; exact absurd hx (by decide)
theorem eq_changed {N : Nat} {us : Nat → Nat → Int32} {g : Nat → Int32} {di : Int64} (h : LK N us g) (hd : RD N di g) (ch : Nat → Int32) {kp : Nat} (hkp : kp < 2) : r_X7_setOf (w_X7_layChanged_2 g ch N) kp N = r_X6_targetsWith (r_X5_reachOf us di) (nI kp) := by
  refine iff_b fun j => ?_
  rw [setOf_bt _ _ h.1, tw_bt h.1 (clsReach h hd.1).1 hkp]
  constructor
  · rintro ⟨a, b⟩
    exact ⟨a, (chg h hd ch (by omega)).mp b⟩
  · rintro ⟨a, b⟩
    exact ⟨a, (chg h hd ch (by omega)).mpr b⟩
theorem eq_rebuilt {N : Nat} {us : Nat → Nat → Int32} {g : Nat → Int32} {di : Int64} (h : LK N us g) (hd : RD N di g) (ch : Nat → Int32) : r_X7_rebuilt g ch N = r_X4_rebuilt us di := eq_changed h hd ch (kp := 1) (by decide)
theorem rebuilt_ok {N : Nat} {us : Nat → Nat → Int32} {g : Nat → Int32} {di : Int64} (h : LK N us g) (hd : RD N di g) : okm N (r_X4_rebuilt us di) := fun j hj => by
  cases hb : bt (r_X4_rebuilt us di) j with
  | false => rfl
  | true =>
    have := ((tw_bt h.1 (clsReach h hd.1).1 (kp := 1) (by decide) j).mp hb).1
    omega
theorem eq_direct {N : Nat} {g : Nat → Int32} {di : Int64} (hN : N ≤ 20) (hd : RD N di g) {p : Int32} {kp : Nat} (hp : p = nI kp) (hkp : kp < 2) : foldN (s_X7_directlyChanged_14 g p) N 0 0 = r_X6_targetsWith di p := by
  have ec : p.toNatClampNeg = kp := by rw [hp]; exact nI_clamp (by omega)
  refine iff_b fun j => ?_
  rw [show r_X6_targetsWith di p = r_X6_targetsWith di (nI kp) by rw [hp], tw_bt hN hd.1 hkp]
  have := or32 (f := s_X7_directlyChanged_14 g p) (n := N) (c := fun i => g (663 + 2 * i + kp) = 1) (h := fun i => 1 <<< ((nI i) &&& 31)) (fun i m hi => ⟨fun hc j => by
    unfold s_X7_directlyChanged_14
    rw [ec, if_pos hc, b_or], fun hc j => by
    unfold s_X7_directlyChanged_14
    rw [ec, if_neg hc, bt_or0]⟩) j
  refine Iff.trans this ?_
  constructor
  · rintro ⟨i, hi, hc, hb⟩
    rw [bt_shl1 (by omega)] at hb
    have e := of_decide_eq_true hb
    rw [e]
    exact ⟨hi, (hd.2.2 _ (by omega)).mpr (by rw [← hc, Nat.add_assoc])⟩
  · rintro ⟨hj, hc⟩
    exact ⟨j, hj, by rw [Nat.add_assoc]; exact (hd.2.2 _ (by omega)).mp hc, by rw [bt_shl1 (by omega)]; simp⟩
/-! dependencies by kinds -/
theorem bt_11 : ∀ k, k < 4 → bt 11 k = !decide (k = 2) := by decide +kernel
theorem bt_15 : ∀ k, k < 4 → bt 15 k = true := by decide +kernel
theorem bt_7 : ∀ k, k < 4 → bt 7 k = !decide (k = 3) := by decide +kernel
theorem dep11 {N : Nat} {us : Nat → Nat → Int32} {g : Nat → Int32} (h : LK N us g) {a b : Nat} (ha : a < 20) (hb : b < 20) : DepK g 11 a b ↔ (¬ r_X7_linkOf g a b < 0 ∧ ¬ r_X7_linkOf g a b = 2) := by
  obtain ⟨l1, l2, _⟩ := lo_use h ha hb
  have l3 : r_X7_linkOf g a b = 2 ↔ lnk g a b = 3 := l2 2 (by decide)
  rw [l1, l3]
  have hv := (h.2.1 a b ha hb).2.1
  constructor
  · rintro ⟨k, hk, hb, e⟩
    rw [bt_11 k hk] at hb
    have : k ≠ 2 := by simpa using hb
    omega
  · rintro ⟨x, y⟩
    refine ⟨lnk g a b - 1, by omega, ?_, by omega⟩
    rw [bt_11 _ (by omega), decide_eq_false (by omega)]
    rfl
theorem dep15 {N : Nat} {us : Nat → Nat → Int32} {g : Nat → Int32} (h : LK N us g) {a b : Nat} (ha : a < 20) (hb : b < 20) : DepK g 15 a b ↔ (¬ r_X7_linkOf g a b < 0 ∧ ¬ r_X7_linkOf g a b = -10) := by
  obtain ⟨l1, _, l3⟩ := lo_use h ha hb
  rw [l1]
  have hv := (h.2.1 a b ha hb).2.1
  constructor
  · rintro ⟨k, hk, hb, e⟩
    exact ⟨by omega, l3⟩
  · rintro ⟨x, y⟩
    exact ⟨lnk g a b - 1, by omega, bt_15 _ (by omega), by omega⟩
theorem wait_iff {N : Nat} {us : Nat → Nat → Int32} {g : Nat → Int32} (h : LK N us g) {a b : Nat} (ha : a < 20) (hb : b < 20) : DepK g 7 a b ↔ ¬ r_X7_waits g a b = 0 := by
  obtain ⟨l1, l2, _⟩ := lo_use h ha hb
  have l3 : r_X7_linkOf g a b = 3 ↔ lnk g a b = 4 := l2 3 (by decide)
  have hv := (h.2.1 a b ha hb).2.1
  have hw : ¬ r_X7_waits g a b = 0 ↔ (¬ r_X7_linkOf g a b < 0 ∧ ¬ r_X7_linkOf g a b = 3) := by
    unfold r_X7_waits
    by_cases c : r_X7_linkOf g a b < 0
    · simp [c]
    · by_cases d : r_X7_linkOf g a b = 3
      · simp [d]
      · simp [c, d]
  rw [hw, l1, l3]
  constructor
  · rintro ⟨k, hk, hb, e⟩
    rw [bt_7 k hk] at hb
    have : k ≠ 3 := by simpa using hb
    omega
  · rintro ⟨x, y⟩
    refine ⟨lnk g a b - 1, by omega, ?_, by omega⟩
    rw [bt_7 _ (by omega), decide_eq_false (by omega)]
    rfl
theorem users_rev {N : Nat} {us : Nat → Nat → Int32} {g : Nat → Int32} (h : LK N us g) {kd wo : Int32} (hk : ∀ a b, a < 20 → b < 20 → (DepK g kd a b ↔ (¬ r_X7_linkOf g a b < 0 ∧ ¬ r_X7_linkOf g a b = wo))) {s : Int32} (hs : okm N s) {t : Nat} (ht : t < N) : bt (r_X5_withAllUsers us s kd) t = true ↔ ∃ u, bt (r_X7_reachOf g (nI t) wo N) u = true ∧ bt s u = true := by
  have h1 := h.1
  have hin : ∀ u, bt s u = true → u < N := fun u hu => by
    rcases Nat.lt_or_ge u N with c | c
    · exact c
    · rw [hs u c] at hu
      exact absurd hu (by decide)
  rw [(clsUsers h hs kd).2 t ht]
  constructor
  · intro hr
    obtain ⟨u, ⟨hu, hb⟩, hr⟩ := Rch_from hr
    refine ⟨u, (refReachB h1 (by omega) u).mpr ?_, hb⟩
    exact Rch_mono (fun p q r => ⟨r.2.1, r.1, (hk p q (by omega) (by omega)).mp r.2.2⟩) (fun _ h => h) (Rch_rev hr)
  · rintro ⟨u, hu, hb⟩
    have hr := (refReachB h1 (by omega) u).mp hu
    refine Rch_to (a := u) ⟨hin u hb, hb⟩ ?_
    exact Rch_mono (fun p q r => ⟨r.2.1, r.1, (hk q p (by omega) (by omega)).mpr r.2.2⟩) (fun _ h => h) (Rch_rev hr)
def RK (N : Nat) (ok : Nat → Int32) (g : Nat → Int32) : Prop := (∀ t, t < N → g (3 + t) = 0 ∨ g (3 + t) = 1 ∨ g (3 + t) = 2) ∧ ∀ k, k < 3 → ∀ j, bt (ok k) j = decide (j < N ∧ g (3 + j) = nI k)
theorem eq_tests {N : Nat} {us : Nat → Nat → Int32} {ok g : Nat → Int32} {di : Int64} (h : LK N us g) (hd : RD N di g) (hk : RK N ok g) (ch : Nat → Int32) : r_X7_affectedTests g ch N = r_X4_testsToRun ok us di := by
  have h1 := h.1
  have hr := eq_rebuilt h hd ch
  refine iff_b fun j => ?_
  have := or32 (f := s_X7_affectedTests_9 g ch N) (n := N) (c := fun i => g (3 + i) = 2 ∧ ¬ ((r_X7_reachOf g (nI i) 2 N) &&& (r_X7_rebuilt g ch N)) = 0) (h := fun i => 1 <<< ((nI i) &&& 31)) (fun i m hi => ⟨fun hc j => by
    unfold s_X7_affectedTests_9
    rw [if_pos (show r_X7_kindOf g i = 2 from hc.1), if_neg hc.2, b_or], fun hc j => by
    unfold s_X7_affectedTests_9
    by_cases a : r_X7_kindOf g i = 2
    · rw [if_pos a]
      by_cases b : ((r_X7_reachOf g (nI i) 2 N) &&& (r_X7_rebuilt g ch N)) = 0
      · rw [if_pos b, bt_or0]
      · exact absurd ⟨a, b⟩ hc
    · rw [if_neg a, bt_or0]⟩) j
  refine Iff.trans this ?_
  have ne : ∀ i, ¬ ((r_X7_reachOf g (nI i) 2 N) &&& (r_X7_rebuilt g ch N)) = 0 ↔ ∃ u, bt (r_X7_reachOf g (nI i) 2 N) u = true ∧ bt (r_X4_rebuilt us di) u = true := fun i => by
    rw [hr]
    constructor
    · intro x
      obtain ⟨u, _, hu⟩ := bt_ne0 x
      rw [b_and, Bool.and_eq_true] at hu
      exact ⟨u, hu⟩
    · rintro ⟨u, a, b⟩ x
      have := (b_eq0.mp x) u
      rw [b_and, a, b] at this
      exact absurd this (by decide)
  unfold r_X4_testsToRun
  rw [b_and, Bool.and_eq_true, hk.2 2 (by decide), decide_eq_true_iff]
  constructor
  · rintro ⟨i, hi, ⟨a, b⟩, hb⟩
    rw [bt_shl1 (by omega)] at hb
    have e := of_decide_eq_true hb
    rw [e]
    exact ⟨(users_rev h (fun a b ha hb => dep11 h ha hb) (rebuilt_ok h hd) hi).mpr ((ne i).mp b), hi, a⟩
  · rintro ⟨a, hj, b⟩
    exact ⟨j, hj, ⟨b, (ne j).mpr ((users_rev h (fun a b ha hb => dep11 h ha hb) (rebuilt_ok h hd) hj).mp a)⟩, by rw [bt_shl1 (by omega)]; simp⟩
theorem tests_ok {N : Nat} {us : Nat → Nat → Int32} {ok g : Nat → Int32} {di : Int64} (hk : RK N ok g) : okm N (r_X4_testsToRun ok us di) := fun j hj => by
  unfold r_X4_testsToRun
  rw [b_and, hk.2 2 (by decide), decide_eq_false (by omega)]
  simp
theorem eq_cycle {N : Nat} {us : Nat → Nat → Int32} {g : Nat → Int32} (h : LK N us g) {a b : Nat} (ha : a < N) (hb : b < N) : r_X6_contains (r_X5_withAllUsers us (r_X6_setOf (nI a)) 15) (nI b) = 0 ↔ ¬ ((r_X7_reachOf g (nI b) (-10) N) >>> (nI a &&& 31)) &&& 1 = 1 := by
  have h1 := h.1
  have hs : okm N (r_X6_setOf (nI a)) := fun j hj => by rw [bt_so (by omega), decide_eq_false (by omega)]
  rw [ct_0 (by omega), sh_1 (by omega)]
  have := users_rev h (fun a b ha hb => dep15 h ha hb) hs hb
  constructor
  · intro x y
    rw [this.mpr ⟨a, y, by rw [bt_so (by omega)]; simp⟩] at x
    exact absurd x (by decide)
  · intro x
    cases hv : bt (r_X5_withAllUsers us (r_X6_setOf (nI a)) 15) b with
    | false => rfl
    | true =>
      obtain ⟨u, hu, hb2⟩ := this.mp hv
      rw [bt_so (by omega)] at hb2
      rw [of_decide_eq_true hb2] at hu
      exact absurd hu x
