/-! the graph: links, the pairs that follow, and what is reached, in the reference and in the class -/
theorem nar1 : vp_nar .boolean 1 = 1 := by decide
theorem nar0 : vp_nar .boolean 0 = 0 := by decide
theorem nI_injI {a b : Nat} (ha : a < 2 ^ 31) (hb : b < 2 ^ 31) : nI a = nI b ↔ a = b := ⟨fun h => by
  have := congrArg Int32.toNatClampNeg h
  rwa [nI_clamp ha, nI_clamp hb] at this, fun h => by rw [h]⟩
theorem or64 {f : Nat → Int64 → Int64} {n : Nat} {c : Nat → Prop} {h : Nat → Int64} (hf : ∀ i m, i < n → (c i → ∀ j, bl (f i m) j = (bl m j || bl (h i) j)) ∧ (¬ c i → ∀ j, bl (f i m) j = bl m j)) (j : Nat) : bl (foldN f n 0 0) j = true ↔ ∃ i, i < n ∧ c i ∧ bl (h i) j = true := by
  have key := foldN_ind (f := f) (M := n) (fun k m => bl m j = true ↔ ∃ i, i < k ∧ c i ∧ bl (h i) j = true) (by
    intro k m hk ih
    by_cases hc : c k
    · rw [(hf k m hk).1 hc j, Bool.or_eq_true, ih]
      constructor
      · rintro (⟨i, a, b⟩ | b)
        · exact ⟨i, by omega, b⟩
        · exact ⟨k, by omega, hc, b⟩
      · rintro ⟨i, a, b, d⟩
        rcases Nat.lt_or_ge i k with e | e
        · exact .inl ⟨i, e, b, d⟩
        · have e2 : i = k := by omega
          rw [e2] at d
          exact .inr d
    · rw [(hf k m hk).2 hc j, ih]
      constructor
      · rintro ⟨i, a, b⟩
        exact ⟨i, by omega, b⟩
      · rintro ⟨i, a, b, d⟩
        rcases Nat.lt_or_ge i k with e | e
        · exact ⟨i, e, b, d⟩
        · have e2 : i = k := by omega
          rw [e2] at b
          exact absurd b hc) n 0 0 (by omega) (by
    rw [l_0]
    exact ⟨fun h => absurd h (by decide), fun ⟨i, a, _⟩ => absurd a (Nat.not_lt_zero _)⟩)
  rw [Nat.zero_add] at key
  exact key
theorem or32 {f : Nat → Int32 → Int32} {n : Nat} {c : Nat → Prop} {h : Nat → Int32} (hf : ∀ i m, i < n → (c i → ∀ j, bt (f i m) j = (bt m j || bt (h i) j)) ∧ (¬ c i → ∀ j, bt (f i m) j = bt m j)) (j : Nat) : bt (foldN f n 0 0) j = true ↔ ∃ i, i < n ∧ c i ∧ bt (h i) j = true := by
  have key := foldN_ind (f := f) (M := n) (fun k m => bt m j = true ↔ ∃ i, i < k ∧ c i ∧ bt (h i) j = true) (by
    intro k m hk ih
    by_cases hc : c k
    · rw [(hf k m hk).1 hc j, Bool.or_eq_true, ih]
      constructor
      · rintro (⟨i, a, b⟩ | b)
        · exact ⟨i, by omega, b⟩
        · exact ⟨k, by omega, hc, b⟩
      · rintro ⟨i, a, b, d⟩
        rcases Nat.lt_or_ge i k with e | e
        · exact .inl ⟨i, e, b, d⟩
        · have e2 : i = k := by omega
          rw [e2] at d
          exact .inr d
    · rw [(hf k m hk).2 hc j, ih]
      constructor
      · rintro ⟨i, a, b⟩
        exact ⟨i, by omega, b⟩
      · rintro ⟨i, a, b, d⟩
        rcases Nat.lt_or_ge i k with e | e
        · exact ⟨i, e, b, d⟩
        · have e2 : i = k := by omega
          rw [e2] at b
          exact absurd b hc) n 0 0 (by omega) (by
    rw [b_0]
    exact ⟨fun h => absurd h (by decide), fun ⟨i, a, _⟩ => absurd a (Nat.not_lt_zero _)⟩)
  rw [Nat.zero_add] at key
  exact key
theorem bt_or0 (s : Int32) (k : Nat) : bt (s ||| 0) k = bt s k := by rw [b_or, b_0, Bool.or_false]
theorem stReach (g : Nat → Int32) (wo : Int32) {N : Nat} (hN : N ≤ 20) : StA N (fun p q => ¬ r_X7_linkOf g p q < 0 ∧ ¬ r_X7_linkOf g p q = wo) (fun (z : Int32 × Int32) k => bt z.1 k) (fun z => !decide (z.2 = 0)) (s_X7_reachOf_32 g wo) := by
  intro i j z hi hj
  obtain ⟨s, m⟩ := z
  have a := sh_1 (x := s) (j := i) (by omega)
  have b := sh_0 (x := s) (j := j) (by omega)
  have lf : (∀ k, bt (if m = 0 then (s ||| 0, (0 : Int32)) else (s ||| 0, 1)).1 k = bt s k) ∧ (!decide ((if m = 0 then (s ||| 0, (0 : Int32)) else (s ||| 0, 1)).2 = 0)) = !decide (m = 0) := by
    by_cases h : m = 0
    · rw [if_pos h, h]
      exact ⟨fun k => bt_or0 s k, rfl⟩
    · rw [if_neg h]
      exact ⟨fun k => bt_or0 s k, by rw [decide_eq_false h]; rfl⟩
  constructor
  · rintro ⟨h1, h2, h3, h4⟩
    have e : s_X7_reachOf_32 g wo i j (s, m) = (s ||| (1 <<< ((nI j) &&& 31)), 1) := by
      simp only [s_X7_reachOf_32]
      rw [if_pos (a.mpr h1), if_pos (b.mpr h2), if_neg h3, if_neg h4]
    rw [e]
    exact ⟨fun k => by
      show bt (s ||| _) k = _
      rw [b_or, bt_shl1 (by omega)], rfl⟩
  · intro hc
    have e : s_X7_reachOf_32 g wo i j (s, m) = if m = 0 then (s ||| 0, (0 : Int32)) else (s ||| 0, 1) := by
      simp only [s_X7_reachOf_32]
      by_cases c1 : ((s >>> ((nI i) &&& 31)) &&& 1) = 1
      · rw [if_pos c1]
        by_cases c2 : ((s >>> ((nI j) &&& 31)) &&& 1) = 0
        · rw [if_pos c2]
          by_cases c3 : r_X7_linkOf g i j < 0
          · rw [if_pos c3]
          · rw [if_neg c3]
            by_cases c4 : r_X7_linkOf g i j = wo
            · rw [if_pos c4]
            · exact absurd ⟨a.mp c1, b.mp c2, c3, c4⟩ hc
        · rw [if_neg c2]
      · rw [if_neg c1]
    rw [e]
    exact lf
theorem refReach {g : Nat → Int32} {wo : Int32} {N : Nat} (hN : N ≤ 20) (z : Int32 × Int32) (hz : ¬ z.2 = 0) : e_X7_reachOf_7 (whN e_X7_reachOf_7 (s_X7_reachOf_7 g wo N) 21 z) = true ∧ ∀ k, bt (whN e_X7_reachOf_7 (s_X7_reachOf_7 g wo N) 21 z).1 k = true ↔ Rch (fun p q => p < N ∧ q < N ∧ (¬ r_X7_linkOf g p q < 0 ∧ ¬ r_X7_linkOf g p q = wo)) (fun k => bt z.1 k = true) k :=
  closeA_iff (stReach g wo hN) (rs := fun z => (z.1, 0)) (fun z => by cases z; simp [e_X7_reachOf_7]) (fun z => rfl) (fun z => ⟨fun k => rfl, rfl⟩) z (by simp [hz]) (by omega)
theorem refReachT {g : Nat → Int32} {N : Nat} (hN : N ≤ 20) (t wo : Int32) : T_X7_reachOf_7 g t wo N := (refReach hN (1 <<< (t &&& 31), 1) (by show ¬ (1 : Int32) = 0; decide)).1
theorem refReachB {g : Nat → Int32} {wo : Int32} {N t : Nat} (hN : N ≤ 20) (ht : t < 32) (k : Nat) : bt (r_X7_reachOf g (nI t) wo N) k = true ↔ Rch (fun p q => p < N ∧ q < N ∧ (¬ r_X7_linkOf g p q < 0 ∧ ¬ r_X7_linkOf g p q = wo)) (fun k => k = t) k := by
  refine ((refReach (g := g) (wo := wo) hN (1 <<< (nI t &&& 31), 1) (by show ¬ (1 : Int32) = 0; decide)).2 k).trans ?_
  constructor
  · exact Rch_mono (fun _ _ h => h) (fun q h => by
      have h : bt (1 <<< (nI t &&& 31)) q = true := h
      rw [bt_shl1 ht] at h
      exact of_decide_eq_true h)
  · exact Rch_mono (fun _ _ h => h) (fun q h => by
      show bt (1 <<< (nI t &&& 31)) q = true
      rw [bt_shl1 ht]
      exact decide_eq_true h)
theorem stSpread (g : Nat → Int32) (M : Nat) : StA M (fun p q => ¬ r_X7_follows g (nI p) (nI q) p q = 0) (fun (z : Int32 × (Nat → Int32)) k => !decide (z.2 k = 0)) (fun z => !decide (z.1 = 0)) (s_X7_spread_24 g) := by
  intro i j z hi hj
  obtain ⟨m, ch⟩ := z
  constructor
  · rintro ⟨h1, h2, h3⟩
    have h1 : ¬ ch i = 0 := by simpa using h1
    have h2 : ch j = 0 := by simpa using h2
    have e : s_X7_spread_24 g i j (m, ch) = (1, upd ch j (vp_nar .boolean 1)) := by
      simp only [s_X7_spread_24]
      rw [if_neg h1, if_pos h2, if_neg h3]
    rw [e, nar1]
    refine ⟨fun k => ?_, rfl⟩
    show (!decide (upd ch j 1 k = 0)) = (!decide (ch k = 0) || decide (k = j))
    by_cases c : k = j
    · subst c
      simp [upd]
    · simp [upd, c]
  · intro hc
    have e : s_X7_spread_24 g i j (m, ch) = (m, ch) := by
      simp only [s_X7_spread_24]
      by_cases c1 : ch i = 0
      · rw [if_pos c1]
      · rw [if_neg c1]
        by_cases c2 : ch j = 0
        · rw [if_pos c2]
          by_cases c3 : r_X7_follows g (nI i) (nI j) i j = 0
          · rw [if_pos c3]
          · exact absurd ⟨by simpa using c1, by simpa using c2, c3⟩ hc
        · rw [if_neg c2]
    rw [e]
    exact ⟨fun _ => rfl, rfl⟩
theorem refSpread {g : Nat → Int32} {N : Nat} (hN : N ≤ 20) (ch : Nat → Int32) : T_X7_spread_2 g ch N ∧ ∀ k, ¬ w_X7_spread_2 g ch N k = 0 ↔ Rch (fun p q => p < 2 * N ∧ q < 2 * N ∧ ¬ r_X7_follows g (nI p) (nI q) p q = 0) (fun k => ¬ ch k = 0) k := by
  have h := closeA_iff (stSpread g (2 * N)) (e := e_X7_spread_2) (ps := s_X7_spread_2 g N) (rs := fun z => (0, z.2)) (fun z => by cases z; simp [e_X7_spread_2]) (fun z => rfl) (fun z => ⟨fun k => rfl, rfl⟩) (n := 41) (1, ch) rfl (by omega)
  refine ⟨h.1, fun k => ?_⟩
  have h2 := h.2 k
  constructor
  · intro hk
    exact Rch_mono (fun _ _ h => h) (fun q h => by simpa using h) (h2.mp (by simpa [w_X7_spread_2] using hk))
  · intro hk
    have := h2.mpr (Rch_mono (fun _ _ h => h) (fun q h => by simpa using h) hk)
    simpa [w_X7_spread_2] using this
/-! links -/
def lnk (g : Nat → Int32) (a b : Nat) : Nat := (g (43 + 20 * a + b)).toNatClampNeg
def LK (N : Nat) (us : Nat → Nat → Int32) (g : Nat → Int32) : Prop := N ≤ 20 ∧ (∀ a b, a < 20 → b < 20 → g (43 + 20 * a + b) = nI (lnk g a b) ∧ lnk g a b ≤ 4 ∧ (lnk g a b ≠ 0 → a < N ∧ b < N ∧ a ≠ b)) ∧ ∀ k b, k < 4 → b < 20 → ∀ j, bt (us k b) j = decide (j < 20 ∧ lnk g j b = k + 1)
theorem lo_dec : ∀ v, v ≤ 4 → (nI v - 1 < 0 ↔ v = 0) ∧ (∀ k, k < 4 → (nI v - 1 = nI k ↔ v = k + 1)) ∧ ¬ nI v - 1 = -10 := by decide
theorem lo_use {N : Nat} {us : Nat → Nat → Int32} {g : Nat → Int32} (h : LK N us g) {a b : Nat} (ha : a < 20) (hb : b < 20) : (r_X7_linkOf g a b < 0 ↔ lnk g a b = 0) ∧ (∀ k, k < 4 → (r_X7_linkOf g a b = nI k ↔ lnk g a b = k + 1)) ∧ ¬ r_X7_linkOf g a b = -10 := by
  obtain ⟨e, hv, _⟩ := h.2.1 a b ha hb
  have : r_X7_linkOf g a b = nI (lnk g a b) - 1 := by show g (43 + 20 * a + b) - 1 = _; rw [e]
  rw [this]
  exact lo_dec _ hv
def FW (g : Nat → Int32) (p q : Nat) : Prop := (p % 2 = 0 ∧ q % 2 = 0 ∧ lnk g (q / 2) (p / 2) = 1) ∨ (p % 2 = 0 ∧ q % 2 = 1 ∧ (p / 2 = q / 2 ∨ lnk g (q / 2) (p / 2) = 2)) ∨ (p % 2 = 1 ∧ q % 2 = 0 ∧ lnk g (q / 2) (p / 2) = 3)
theorem par_dec : ∀ p, p < 40 → (nI p - nI p / 2 * 2 = 0 ↔ p % 2 = 0) ∧ (nI p - nI p / 2 * 2 = 1 ↔ p % 2 = 1) ∧ nI p / 2 = nI (p / 2) := by decide +kernel
theorem fol_iff {N : Nat} {us : Nat → Nat → Int32} {g : Nat → Int32} (h : LK N us g) {p q : Nat} (hp : p < 40) (hq : q < 40) : ¬ r_X7_follows g (nI p) (nI q) p q = 0 ↔ FW g p q := by
  obtain ⟨P0, _, P2⟩ := par_dec p hp
  obtain ⟨Q0, _, Q2⟩ := par_dec q hq
  have D : nI p / 2 = nI q / 2 ↔ p / 2 = q / 2 := by rw [P2, Q2, nI_injI (by omega) (by omega)]
  obtain ⟨_, L, _⟩ := lo_use h (a := q / 2) (b := p / 2) (by omega) (by omega)
  have L0 : r_X7_linkOf g (q / 2) (p / 2) = 0 ↔ lnk g (q / 2) (p / 2) = 1 := L 0 (by decide)
  have L1 : r_X7_linkOf g (q / 2) (p / 2) = 1 ↔ lnk g (q / 2) (p / 2) = 2 := L 1 (by decide)
  have L2 : r_X7_linkOf g (q / 2) (p / 2) = 2 ↔ lnk g (q / 2) (p / 2) = 3 := L 2 (by decide)
  have S : p / 2 = q / 2 → lnk g (q / 2) (p / 2) = 0 := fun e => by
    have := (h.2.1 (q / 2) (p / 2) (by omega) (by omega)).2.2
    omega
  have A : ∀ {P : Prop}, ¬ P → (¬ (0 : Int32) = 0 ↔ P) := fun hP => ⟨fun h => absurd rfl h, fun h => absurd h hP⟩
  have B : ∀ {P : Prop}, P → (¬ (1 : Int32) = 0 ↔ P) := fun hP => ⟨fun _ => hP, fun _ => by decide⟩
  unfold r_X7_follows
  by_cases a : p % 2 = 0
  · rw [if_pos (P0.mpr a)]
    by_cases b : q % 2 = 0
    · rw [if_pos (Q0.mpr b)]
      by_cases c : p / 2 = q / 2
      · rw [if_pos (D.mpr c)]
        exact A (by unfold FW; have := S c; omega)
      · rw [if_neg (fun x => c (D.mp x))]
        by_cases d : lnk g (q / 2) (p / 2) = 1
        · rw [if_pos (L0.mpr d)]
          exact B (by unfold FW; omega)
        · rw [if_neg (fun x => d (L0.mp x))]
          exact A (by unfold FW; omega)
    · rw [if_neg (fun x => b (Q0.mp x))]
      by_cases c : p / 2 = q / 2
      · rw [if_pos (D.mpr c)]
        exact B (by unfold FW; omega)
      · rw [if_neg (fun x => c (D.mp x))]
        by_cases d : lnk g (q / 2) (p / 2) = 2
        · rw [if_pos (L1.mpr d)]
          exact B (by unfold FW; omega)
        · rw [if_neg (fun x => d (L1.mp x))]
          exact A (by unfold FW; omega)
  · rw [if_neg (fun x => a (P0.mp x))]
    by_cases b : q % 2 = 0
    · rw [if_pos (Q0.mpr b)]
      by_cases c : p / 2 = q / 2
      · rw [if_pos (D.mpr c)]
        exact A (by unfold FW; have := S c; omega)
      · rw [if_neg (fun x => c (D.mp x))]
        by_cases d : lnk g (q / 2) (p / 2) = 3
        · rw [if_pos (L2.mpr d)]
          exact B (by unfold FW; omega)
        · rw [if_neg (fun x => d (L2.mp x))]
          exact A (by unfold FW; omega)
    · rw [if_neg (fun x => b (Q0.mp x))]
      exact A (by unfold FW; omega)
theorem fw_lt {N : Nat} {us : Nat → Nat → Int32} {g : Nat → Int32} (h : LK N us g) {p q : Nat} (hp : p < 2 * N) (hq : q < 40) (hw : FW g p q) : q < 2 * N := by
  have h1 := h.1
  have := (h.2.1 (q / 2) (p / 2) (by omega) (by omega)).2.2
  unfold FW at hw
  omega
theorem folX_bl {N : Nat} {us : Nat → Nat → Int32} {g : Nat → Int32} (h : LK N us g) {p : Nat} (hp : p < 40) (j : Nat) : bl (r_X5_followersOf us (nI p) p) j = true ↔ ∃ q, q < 40 ∧ j = pos q ∧ FW g p q := by
  obtain ⟨P0, P1, P2⟩ := par_dec p hp
  have U : ∀ k, k < 4 → ∀ j, bt (us k (p / 2)) j = decide (j < 20 ∧ lnk g j (p / 2) = k + 1) := fun k hk => h.2.2 k (p / 2) hk (by omega)
  unfold r_X5_followersOf
  by_cases a : p % 2 = 1
  · rw [if_pos (P1.mpr a), bl_pw0 (by rw [U 2 (by decide)]; simp), U 2 (by decide), decide_eq_true_iff]
    constructor
    · rintro ⟨h1, h2⟩
      exact ⟨2 * j, by omega, by unfold pos; omega, .inr (.inr ⟨a, by omega, by rw [show 2 * j / 2 = j by omega]; exact h2⟩)⟩
    · rintro ⟨q, h1, h2, h3⟩
      unfold FW at h3
      unfold pos at h2
      have e : j = q / 2 := by omega
      rw [e]
      omega
  · rw [if_neg (fun x => a (P1.mp x)), l_or, bl_pw0 (by rw [U 0 (by decide)]; simp), bl_pw1, b_or, U 0 (by decide), U 1 (by decide), P2, bt_so (by omega)]
    rw [Bool.or_eq_true, Bool.and_eq_true, Bool.or_eq_true, decide_eq_true_iff, decide_eq_true_iff, decide_eq_true_iff, decide_eq_true_iff]
    constructor
    · rintro (⟨h1, h2⟩ | ⟨h1, ⟨h2, h3⟩ | h2⟩)
      · exact ⟨2 * j, by omega, by unfold pos; omega, .inl ⟨by omega, by omega, by rw [show 2 * j / 2 = j by omega]; exact h2⟩⟩
      · exact ⟨2 * (j - 32) + 1, by omega, by unfold pos; omega, .inr (.inl ⟨by omega, by omega, .inr (by rw [show (2 * (j - 32) + 1) / 2 = j - 32 by omega]; exact h3)⟩)⟩
      · exact ⟨2 * (j - 32) + 1, by omega, by unfold pos; omega, .inr (.inl ⟨by omega, by omega, .inl (by omega)⟩)⟩
    · rintro ⟨q, h1, h2, h3⟩
      unfold FW at h3
      unfold pos at h2
      rcases h3 with ⟨_, b, c⟩ | ⟨_, b, c⟩ | ⟨b, _, _⟩
      · have e : j = q / 2 := by omega
        rw [e]
        exact .inl ⟨by omega, c⟩
      · have e : j - 32 = q / 2 := by omega
        rw [e]
        refine .inr ⟨by omega, ?_⟩
        rcases c with c | c
        · exact .inr (by omega)
        · exact .inl ⟨by omega, c⟩
      · omega
theorem folAny {N : Nat} {us : Nat → Nat → Int32} {g : Nat → Int32} (h : LK N us g) (ps : Int64) (j : Nat) : bl (r_X5_followersOfAny us ps) j = true ↔ ∃ p, p < 40 ∧ pb ps p = true ∧ ∃ q, q < 40 ∧ j = pos q ∧ FW g p q := by
  have := or64 (f := s_X5_followersOfAny_5 us ps) (n := 40) (c := fun p => pb ps p = true) (h := fun p => r_X5_followersOf us (nI p) p) (fun i m hi => ⟨fun hc j => by
    unfold s_X5_followersOfAny_5
    rw [if_neg (fun e => by rw [(cp_0 hi).mp e] at hc; exact absurd hc (by decide)), l_or], fun hc j => by
    unfold s_X5_followersOfAny_5
    rw [if_pos ((cp_0 hi).mpr (by simpa using hc))]⟩) j
  refine Iff.trans this ?_
  constructor
  · rintro ⟨p, hp, hc, hb⟩
    exact ⟨p, hp, hc, (folX_bl h hp j).mp hb⟩
  · rintro ⟨p, hp, hc, hb⟩
    exact ⟨p, hp, hc, (folX_bl h hp j).mpr hb⟩
theorem okp_lt {M : Nat} {m : Int64} (hm : okp M m) (hM : M ≤ 40) {p : Nat} (hp : p < 40) (h : pb m p = true) : p < M := by
  obtain ⟨q, hq, e⟩ := hm _ h
  have := pos_inj hp (by omega) e
  omega
theorem folAny_ok {N : Nat} {us : Nat → Nat → Int32} {g : Nat → Int32} (h : LK N us g) {ps : Int64} (hps : okp (2 * N) ps) : okp (2 * N) (r_X5_followersOfAny us ps) := fun j hj => by
  obtain ⟨p, hp, hb, q, hq, e, hw⟩ := (folAny h ps j).mp hj
  have h1 := h.1
  exact ⟨q, fw_lt h (okp_lt hps (by omega) hp hb) hq hw, e⟩
theorem folAny_pb {N : Nat} {us : Nat → Nat → Int32} {g : Nat → Int32} (h : LK N us g) {ps : Int64} (hps : okp (2 * N) ps) {q : Nat} (hq : q < 40) : pb (r_X5_followersOfAny us ps) q = true ↔ ∃ p, p < 2 * N ∧ pb ps p = true ∧ FW g p q := by
  unfold pb
  rw [folAny h]
  have h1 := h.1
  constructor
  · rintro ⟨p, hp, hb, q', hq', e, hw⟩
    have := pos_inj hq hq' e
    subst this
    exact ⟨p, okp_lt hps (by omega) hp hb, hb, hw⟩
  · rintro ⟨p, hp, hb, hw⟩
    exact ⟨p, by omega, hb, q, hq, rfl, hw⟩
theorem clsReach {N : Nat} {us : Nat → Nat → Int32} {g : Nat → Int32} (h : LK N us g) {ps : Int64} (hps : okp (2 * N) ps) : okp (2 * N) (r_X5_reachOf us ps) ∧ ∀ q, q < 2 * N → (pb (r_X5_reachOf us ps) q = true ↔ Rch (fun p q => p < 2 * N ∧ q < 2 * N ∧ FW g p q) (fun q => q < 2 * N ∧ pb ps q = true) q) := by
  have h1 := h.1
  have := closeB_iff (M := 2 * N) (R := FW g) (vf := fun (z : Int64 × Int64) q => pb z.1 q) (vr := fun z q => pb z.2 q) (I := fun z => okp (2 * N) z.1 ∧ okp (2 * N) z.2) (b := b_X5_reachOf_8) (f := s_X5_reachOf_8 us) (fun i z hz => ⟨okp_or hz.1 (okp_and (folAny_ok h hz.2)), okp_and (folAny_ok h hz.2)⟩) (fun z hz => by
      have : b_X5_reachOf_8 z = decide (lg_cmp z.2 0 = 0) := rfl
      rw [this, decide_eq_true_iff, lg_cmp_0, okp_eq0 hz.2]) (fun i z hz q hq => by
      have e1 : pb (s_X5_reachOf_8 us i z).2 q = (pb (r_X5_followersOfAny us z.2) q && !pb z.1 q) := by
        show bl (r_X5_followersOfAny us z.2 &&& (z.1 ^^^ (-1))) (pos q) = _
        rw [l_and, l_not (pos_lt (by omega))]
        rfl
      refine ⟨?_, ?_⟩
      · rw [e1, Bool.and_eq_true, folAny_pb h hz.2 (by omega)]
        simp
      · show bl (z.1 ||| (s_X5_reachOf_8 us i z).2) (pos q) = _
        rw [l_or]
        rfl) (n := 40) (i := 0) (by omega) (ps, ps) ⟨hps, hps⟩ (fun q => rfl)
  exact ⟨this.1.1, this.2⟩
/-! users -/
def DepK (g : Nat → Int32) (kd : Int32) (a b : Nat) : Prop := ∃ k, k < 4 ∧ bt kd k = true ∧ lnk g a b = k + 1
theorem usersOf_bt {N : Nat} {us : Nat → Nat → Int32} {g : Nat → Int32} (h : LK N us g) {t : Nat} (ht : t < 20) (kd : Int32) (j : Nat) : bt (r_X5_usersOf us kd t) j = true ↔ j < 20 ∧ DepK g kd j t := by
  have := or32 (f := s_X5_usersOf_5 us kd t) (n := 4) (c := fun k => bt kd k = true) (h := fun k => us k t) (fun i m hi => ⟨fun hc j => by
    unfold s_X5_usersOf_5
    rw [if_neg (fun e => by rw [(us_0 (by omega)).mp e] at hc; exact absurd hc (by decide)), b_or], fun hc j => by
    unfold s_X5_usersOf_5
    rw [if_pos ((us_0 (by omega)).mpr (by simpa using hc))]⟩) j
  refine Iff.trans this ?_
  unfold DepK
  constructor
  · rintro ⟨k, hk, hc, hb⟩
    rw [h.2.2 k t hk ht, decide_eq_true_iff] at hb
    exact ⟨hb.1, k, hk, hc, hb.2⟩
  · rintro ⟨hj, k, hk, hc, hb⟩
    refine ⟨k, hk, hc, ?_⟩
    rw [h.2.2 k t hk ht, decide_eq_true_iff]
    exact ⟨hj, hb⟩
theorem usersAny_bt {N : Nat} {us : Nat → Nat → Int32} {g : Nat → Int32} (h : LK N us g) (s kd : Int32) (j : Nat) : bt (r_X5_usersOfAny us s kd) j = true ↔ j < 20 ∧ ∃ t, t < 20 ∧ bt s t = true ∧ DepK g kd j t := by
  have := or32 (f := s_X5_usersOfAny_5 us s kd) (n := 20) (c := fun t => bt s t = true) (h := fun t => r_X5_usersOf us kd t) (fun i m hi => ⟨fun hc j => by
    unfold s_X5_usersOfAny_5
    rw [if_neg (fun e => by rw [(ct_0 (by omega)).mp e] at hc; exact absurd hc (by decide)), b_or], fun hc j => by
    unfold s_X5_usersOfAny_5
    rw [if_pos ((ct_0 (by omega)).mpr (by simpa using hc))]⟩) j
  refine Iff.trans this ?_
  constructor
  · rintro ⟨t, ht, hc, hb⟩
    have := (usersOf_bt h ht kd j).mp hb
    exact ⟨this.1, t, ht, hc, this.2⟩
  · rintro ⟨hj, t, ht, hc, hb⟩
    exact ⟨t, ht, hc, (usersOf_bt h ht kd j).mpr ⟨hj, hb⟩⟩
theorem dep_lt {N : Nat} {us : Nat → Nat → Int32} {g : Nat → Int32} (h : LK N us g) {kd : Int32} {a b : Nat} (ha : a < 20) (hb : b < 20) (hd : DepK g kd a b) : a < N ∧ b < N := by
  obtain ⟨k, _, _, e⟩ := hd
  have := (h.2.1 a b ha hb).2.2 (by omega)
  exact ⟨this.1, this.2.1⟩
theorem okm_eq0 {N : Nat} {m : Int32} (h : okm N m) : m = 0 ↔ ∀ q, q < N → bt m q = false := by
  rw [b_eq0]
  constructor
  · exact fun a q _ => a q
  · intro a j
    rcases Nat.lt_or_ge j N with c | c
    · exact a j c
    · exact h j c
theorem usersAny_ok {N : Nat} {us : Nat → Nat → Int32} {g : Nat → Int32} (h : LK N us g) (s kd : Int32) : okm N (r_X5_usersOfAny us s kd) := fun j hj => by
  cases hb : bt (r_X5_usersOfAny us s kd) j with
  | false => rfl
  | true =>
    obtain ⟨h1, t, ht, _, hd⟩ := (usersAny_bt h s kd j).mp hb
    have := (dep_lt h h1 ht hd).1
    omega
theorem okm_or2 {N : Nat} {x y : Int32} (hx : okm N x) (hy : okm N y) : okm N (x ||| y) := fun j hj => by rw [b_or, hx j hj, hy j hj]; rfl
theorem okm_and2 {N : Nat} {x y : Int32} (hx : okm N x) : okm N (x &&& y) := fun j hj => by rw [b_and, hx j hj]; rfl
theorem clsUsers {N : Nat} {us : Nat → Nat → Int32} {g : Nat → Int32} (h : LK N us g) {s : Int32} (hs : okm N s) (kd : Int32) : okm N (r_X5_withAllUsers us s kd) ∧ ∀ q, q < N → (bt (r_X5_withAllUsers us s kd) q = true ↔ Rch (fun p q => p < N ∧ q < N ∧ DepK g kd q p) (fun q => q < N ∧ bt s q = true) q) := by
  have h1 := h.1
  have := closeB_iff (M := N) (R := fun p q => DepK g kd q p) (vf := fun (z : Int32 × Int32) q => bt z.1 q) (vr := fun z q => bt z.2 q) (I := fun z => okm N z.1 ∧ okm N z.2) (b := b_X5_withAllUsers_8) (f := s_X5_withAllUsers_8 us kd) (fun i z hz => ⟨okm_or2 hz.1 (okm_and2 (usersAny_ok h z.2 kd)), okm_and2 (usersAny_ok h z.2 kd)⟩) (fun z hz => by
      have : b_X5_withAllUsers_8 z = decide (z.2 = 0) := rfl
      rw [this, decide_eq_true_iff, okm_eq0 hz.2]) (fun i z hz q hq => by
      have e1 : bt (s_X5_withAllUsers_8 us kd i z).2 q = (bt (r_X5_usersOfAny us z.2 kd) q && !bt z.1 q) := by
        show bt (r_X5_usersOfAny us z.2 kd &&& (z.1 ^^^ (-1))) q = _
        rw [b_and, bt_not (by omega)]
      refine ⟨?_, ?_⟩
      · rw [e1, Bool.and_eq_true, usersAny_bt h]
        constructor
        · rintro ⟨⟨a, t, b, c, d⟩, e⟩
          exact ⟨⟨t, (dep_lt h a b d).2, c, d⟩, by simpa using e⟩
        · rintro ⟨⟨t, a, b, c⟩, e⟩
          exact ⟨⟨by omega, t, by omega, b, c⟩, by simpa using e⟩
      · show bt (z.1 ||| (s_X5_withAllUsers_8 us kd i z).2) q = _
        rw [b_or]) (n := 20) (i := 0) (by omega) (s, s) ⟨hs, hs⟩ (fun q => rfl)
  exact ⟨this.1.1, this.2⟩
