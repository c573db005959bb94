/-! how many steps off: the reference's distances -/
theorem upd_self (f : Nat → Int32) (k : Nat) : upd f k (f k) = f := funext fun j => by
  unfold upd
  by_cases c : j = k
  · rw [if_pos c, c]
  · rw [if_neg c]
theorem ls_inner {N : Nat} {us : Nat → Nat → Int32} {g : Nat → Int32} (h : LK N us g) {d p : Nat} (hd : d < 41) (hp : p < 2 * N) (st : Nat → Int32) : ∀ (n i : Nat), i + n = 2 * N → (∀ q, q < i → ¬ (st q = nI d ∧ FW g p q)) → (¬ st p < 0 → brkN (b_X7_laySteps_56 p) (s_X7_laySteps_56 g d p) n i st = st) ∧ (st p < 0 → (∃ q, q < 2 * N ∧ st q = nI d ∧ FW g p q) → brkN (b_X7_laySteps_56 p) (s_X7_laySteps_56 g d p) n i st = upd st p (nI (d + 1))) ∧ (st p < 0 → ¬ (∃ q, q < 2 * N ∧ st q = nI d ∧ FW g p q) → brkN (b_X7_laySteps_56 p) (s_X7_laySteps_56 g d p) n i st = st)
  | 0, i, hi, hn => ⟨fun _ => rfl, fun _ ⟨q, a, b⟩ => absurd b (hn q (by omega)), fun _ _ => rfl⟩
  | n + 1, i, hi, hn => by
    have h1 := h.1
    have hb : b_X7_laySteps_56 p st = decide (0 ≤ st p) := rfl
    by_cases hs : st p < 0
    · have hbf : b_X7_laySteps_56 p st = false := by
        rw [hb, decide_eq_false_iff_not]
        exact Int32.not_le.mpr hs
      rw [brkN_f hbf]
      have hf := fol_iff h (p := p) (q := i) (by omega) (by omega)
      by_cases c : st i = nI d ∧ FW g p i
      · have e : s_X7_laySteps_56 g d p i st = upd st p (nI (d + 1)) := by
          unfold s_X7_laySteps_56
          rw [if_pos c.1, if_neg (hf.mpr c.2), nI_1]
        have e2 : brkN (b_X7_laySteps_56 p) (s_X7_laySteps_56 g d p) n (i + 1) (upd st p (nI (d + 1))) = upd st p (nI (d + 1)) := brkN_t (by
          show decide (0 ≤ upd st p (nI (d + 1)) p) = true
          rw [show upd st p (nI (d + 1)) p = nI (d + 1) from if_pos rfl]
          exact decide_eq_true (show (0 : Int32) ≤ nI (d + 1) from nI_le (Nat.zero_le _) (by omega)))
        rw [e, e2]
        exact ⟨fun x => absurd hs x, fun _ _ => rfl, fun _ x => absurd ⟨i, by omega, c⟩ x⟩
      · have e : s_X7_laySteps_56 g d p i st = st := by
          unfold s_X7_laySteps_56
          by_cases a : st i = nI d
          · rw [if_pos a, if_pos (Classical.not_not.mp (fun x => c ⟨a, hf.mp x⟩)), upd_self]
          · rw [if_neg a, upd_self]
        rw [e]
        refine ls_inner h hd hp st n (i + 1) (by omega) (fun q hq => ?_)
        rcases Nat.lt_or_ge q i with x | x
        · exact hn q x
        · rw [show q = i by omega]
          exact c
    · rw [brkN_t (by rw [hb, decide_eq_true_iff]; exact Int32.not_lt.mp hs)]
      exact ⟨fun _ => rfl, fun x => absurd x hs, fun x => absurd x hs⟩
theorem ls_round {N : Nat} {us : Nat → Nat → Int32} {g : Nat → Int32} (h : LK N us g) {d : Nat} (hd : d < 41) (st0 : Nat → Int32) : ∀ x, ((x < 2 * N ∧ st0 x < 0 ∧ ∃ q, q < 2 * N ∧ st0 q = nI d ∧ FW g x q) → s_X7_laySteps_33 g N d st0 x = nI (d + 1)) ∧ (¬ (x < 2 * N ∧ st0 x < 0 ∧ ∃ q, q < 2 * N ∧ st0 q = nI d ∧ FW g x q) → s_X7_laySteps_33 g N d st0 x = st0 x) := by
  unfold s_X7_laySteps_33
  refine foldN_i (f := s_X7_laySteps_41 g N d) (n := 2 * N) (fun p st => ∀ x, ((x < p ∧ st0 x < 0 ∧ ∃ q, q < 2 * N ∧ st0 q = nI d ∧ FW g x q) → st x = nI (d + 1)) ∧ (¬ (x < p ∧ st0 x < 0 ∧ ∃ q, q < 2 * N ∧ st0 q = nI d ∧ FW g x q) → st x = st0 x)) (fun p st hp ih => ?_) (a := st0) (fun x => ⟨fun y => absurd y.1 (Nat.not_lt_zero _), fun _ => rfl⟩)
  have ep : st p = st0 p := (ih p).2 (fun y => absurd y.1 (Nat.lt_irrefl _))
  have eq : ∀ q, st q = nI d ↔ st0 q = nI d := fun q => by
    by_cases c : q < p ∧ st0 q < 0 ∧ ∃ q', q' < 2 * N ∧ st0 q' = nI d ∧ FW g q q'
    · rw [(ih q).1 c]
      constructor
      · intro e
        have := (nI_injI (a := d + 1) (b := d) (by omega) (by omega)).mp e
        omega
      · intro e
        have := c.2.1
        rw [e] at this
        exact absurd this (nI_nn (by omega))
    · rw [(ih q).2 c]
  have ec : (∃ q, q < 2 * N ∧ st q = nI d ∧ FW g p q) ↔ ∃ q, q < 2 * N ∧ st0 q = nI d ∧ FW g p q := by
    constructor
    · rintro ⟨q, a, b, c⟩
      exact ⟨q, a, (eq q).mp b, c⟩
    · rintro ⟨q, a, b, c⟩
      exact ⟨q, a, (eq q).mpr b, c⟩
  obtain ⟨i1, i2, i3⟩ := ls_inner h hd hp st (2 * N) 0 (by omega) (fun q hq => absurd hq (Nat.not_lt_zero _))
  rw [ep] at i1 i2 i3
  intro x
  show ((x < p + 1 ∧ _) → brkN (b_X7_laySteps_56 p) (s_X7_laySteps_56 g d p) (2 * N) 0 st x = _) ∧ (_ → brkN (b_X7_laySteps_56 p) (s_X7_laySteps_56 g d p) (2 * N) 0 st x = _)
  by_cases a : st0 p < 0 ∧ ∃ q, q < 2 * N ∧ st0 q = nI d ∧ FW g p q
  · rw [i2 a.1 (ec.mpr a.2)]
    by_cases c : x = p
    · subst c
      rw [show upd st x (nI (d + 1)) x = nI (d + 1) from if_pos rfl]
      exact ⟨fun _ => rfl, fun y => absurd ⟨by omega, a⟩ y⟩
    · rw [show upd st p (nI (d + 1)) x = st x from if_neg c]
      exact ⟨fun y => (ih x).1 ⟨by omega, y.2⟩, fun y => (ih x).2 (fun z => y ⟨by omega, z.2⟩)⟩
  · have e : brkN (b_X7_laySteps_56 p) (s_X7_laySteps_56 g d p) (2 * N) 0 st = st := by
      by_cases b : st0 p < 0
      · exact i3 b (fun x => a ⟨b, ec.mp x⟩)
      · exact i1 b
    rw [e]
    refine ⟨fun y => (ih x).1 ⟨?_, y.2⟩, fun y => (ih x).2 (fun z => y ⟨by omega, z.2⟩)⟩
    by_cases c : x = p
    · subst c
      exact absurd y.2 a
    · omega
theorem ls_0 (stp : Nat → Int32) {go k : Nat} (hg : go < 40) (hk : k < 40) : foldN (s_X7_laySteps_2 (nI go)) 40 0 stp k = if k = go then 0 else -10 := by
  rw [updfold (f := s_X7_laySteps_2 (nI go)) (v := fun i => if nI i = nI go then 0 else -10) (fun i a _ => by
    unfold s_X7_laySteps_2
    by_cases c : nI i = nI go
    · simp only [if_pos c]
    · simp only [if_neg c]) stp k, if_pos hk]
  have := nI_injI (a := k) (b := go) (by omega) (by omega)
  by_cases c : k = go
  · rw [if_pos c, if_pos (this.mpr c)]
  · rw [if_neg c, if_neg (fun x => c (this.mp x))]
theorem steps {N : Nat} {us : Nat → Nat → Int32} {g : Nat → Int32} (h : LK N us g) {go : Nat} (hgo : go < 2 * N) (stp : Nat → Int32) : ∀ p, p < 2 * N → (∀ d, d ≤ 40 → MN (RF N g) go d p → w_X7_laySteps_2 g stp (nI go) N p = nI d) ∧ ((∀ d, d ≤ 40 → ¬ MN (RF N g) go d p) → w_X7_laySteps_2 g stp (nI go) N p = -10) := by
  have h1 := h.1
  unfold w_X7_laySteps_2
  refine foldN_i (f := s_X7_laySteps_33 g N) (n := 40) (fun k st => ∀ p, p < 2 * N → (∀ d, d ≤ k → MN (RF N g) go d p → st p = nI d) ∧ ((∀ d, d ≤ k → ¬ MN (RF N g) go d p) → st p = -10)) (fun k st hk ih => ?_) (fun p hp => ?_)
  · have back : ∀ q, q < 2 * N → st q = nI k → MN (RF N g) go k q := fun q hq e => by
      by_cases c : ∃ d, d ≤ k ∧ MN (RF N g) go d q
      · obtain ⟨d, a, b⟩ := c
        have := (ih q hq).1 d a b
        rw [e] at this
        have := (nI_injI (a := k) (b := d) (by omega) (by omega)).mp this
        rw [this]
        exact b
      · have := (ih q hq).2 (fun d a b => c ⟨d, a, b⟩)
        rw [e] at this
        exact absurd this (nI_nm (by omega))
    intro p hp
    obtain ⟨r1, r2⟩ := ls_round h (d := k) (by omega) st p
    constructor
    · intro d hd hm
      by_cases c : d ≤ k
      · have e := (ih p hp).1 d c hm
        rw [r2 (fun y => by
          have := y.2.1
          rw [e] at this
          exact nI_nn (by omega) this), e]
      · have ed : d = k + 1 := by omega
        subst ed
        have e := (ih p hp).2 (fun d' a b => by
          have := MN_u b hm
          omega)
        obtain ⟨q, r, hq⟩ := MN_s hm
        exact r1 ⟨hp, by rw [e]; decide, q, r.2.1, (ih q r.2.1).1 k (Nat.le_refl _) hq, r.2.2⟩
    · intro hn
      have e := (ih p hp).2 (fun d a b => hn d (by omega) b)
      rw [r2 (fun y => ?_), e]
      obtain ⟨_, _, q, hq, eq, hw⟩ := y
      have hm := back q hq eq
      have w : WK (RF N g) go (k + 1) p := ⟨q, ⟨hp, hq, hw⟩, hm.1⟩
      obtain ⟨d', a, b⟩ := MN_w w
      exact hn d' a b
  · rw [ls_0 stp (by omega) (by omega)]
    constructor
    · intro d hd hm
      have : d = 0 := by omega
      subst this
      rw [if_pos (show p = go from hm.1)]
      rfl
    · intro hn
      rw [if_neg (fun e : p = go => hn 0 (Nat.le_refl _) ⟨e, fun d' hd' => absurd hd' (Nat.not_lt_zero _)⟩)]
theorem steps_iff {N : Nat} {us : Nat → Nat → Int32} {g : Nat → Int32} (h : LK N us g) {go : Nat} (hgo : go < 2 * N) (stp : Nat → Int32) {p d : Nat} (hp : p < 2 * N) (hd : d ≤ 40) : w_X7_laySteps_2 g stp (nI go) N p = nI d ↔ MN (RF N g) go d p := by
  obtain ⟨a, b⟩ := steps h hgo stp p hp
  constructor
  · intro e
    by_cases c : ∃ d', d' ≤ 40 ∧ MN (RF N g) go d' p
    · obtain ⟨d', x, y⟩ := c
      have := a d' x y
      rw [e] at this
      rw [(nI_injI (a := d) (b := d') (by omega) (by omega)).mp this]
      exact y
    · have := b (fun d' x y => c ⟨d', x, y⟩)
      rw [e] at this
      exact absurd this (nI_nm (by omega))
  · exact a d hd
theorem foldN_snoc {σ : Type} (f : Nat → σ → σ) : ∀ (n i : Nat) (a : σ), foldN f (n + 1) i a = f (i + n) (foldN f n i a)
  | 0, _, _ => rfl
  | n + 1, i, a => by
    show foldN f (n + 1) (i + 1) (f i a) = _
    rw [foldN_snoc f n (i + 1) (f i a), show i + 1 + n = i + (n + 1) by omega]
    rfl
theorem nI_sub1 {D k : Nat} (h : k < D) : nI D - 1 - nI k = nI (D - (k + 1)) := by
  have e : nI D = nI (D - (k + 1)) + nI k + 1 := by rw [nI_add, nI_1, show D - (k + 1) + k + 1 = D by omega]
  rw [e, Int32.add_sub_cancel, Int32.add_sub_cancel]
/-! the chain itself -/
theorem chain_D {N : Nat} {us : Nat → Nat → Int32} {g : Nat → Int32} {di : Int64} (h : LK N us g) (hd : RD N di g) {go : Nat} (hgo : go < 2 * N) (hc : pb (r_X5_reachOf us di) go = true) : ∃ D, D < 40 ∧ (∃ p, p < 2 * N ∧ pb di p = true ∧ MN (RF N g) go D p) ∧ ∀ d, d < D → ∀ p, p < 2 * N → WK (RF N g) go d p → pb di p = false := by
  have h1 := h.1
  have hr := ((clsReach h hd.1).2 go hgo).mp hc
  obtain ⟨d0, p0, hp0, hw0⟩ := WK_Rch.mp hr
  obtain ⟨D, ⟨p, hp, hw⟩, hmin⟩ := pk_least (fun d => ∃ p, (p < 2 * N ∧ pb di p = true) ∧ WK (RF N g) go d p) ⟨d0, p0, hp0, hw0⟩
  have hm : MN (RF N g) go D p := ⟨hw, fun d' hd' w => hmin d' hd' ⟨p, hp, w⟩⟩
  have := MN_le (M := 2 * N) (fun p q r => r.1) hgo hm
  refine ⟨D, by omega, ⟨p, hp.1, hp.2, hm⟩, fun d hd p hp w => ?_⟩
  cases hb : pb di p with
  | false => rfl
  | true => exact absurd ⟨p, ⟨hp, hb⟩, w⟩ (hmin d hd)
theorem ref_off {N : Nat} {us : Nat → Nat → Int32} {g : Nat → Int32} {di : Int64} (h : LK N us g) (hd : RD N di g) {go D : Nat} (hgo : go < 2 * N) (stp : Nat → Int32) {t p : Int32} (hg : 2 * t + p = nI go) (hD : D < 40) (hex : ∃ p, p < 2 * N ∧ pb di p = true ∧ MN (RF N g) go D p) (hmin : ∀ d, d < D → ∀ p, p < 2 * N → WK (RF N g) go d p → pb di p = false) : ∀ n d, d ≤ D → D ≤ d + n → whN (e_X7_chain_52 g stp t p N) s_X7_chain_52 n (nI d) = nI D ∧ e_X7_chain_52 g stp t p N (nI D) = true := by
  have h1 := h.1
  have ee : ∀ d, e_X7_chain_52 g stp t p N (nI d) = decide (0 ≤ r_X7_smallest g (w_X7_laySteps_2 g stp (nI go) N) (nI d) (-10) N) := fun d => by
    unfold e_X7_chain_52
    rw [hg]
  have eT : e_X7_chain_52 g stp t p N (nI D) = true := by
    obtain ⟨x, hx, hb, hm⟩ := hex
    obtain ⟨v, hv, _, e⟩ := IsF_some (sm_isF0 g (w_X7_laySteps_2 g stp (nI go) N) (nI D) N) hx ⟨(hd.2.2 x (by omega)).mp hb, (steps_iff h hgo stp hx (by omega)).mpr hm⟩
    rw [ee, e]
    exact decide_eq_true (show (0 : Int32) ≤ nI v from nI_le (Nat.zero_le _) (by omega))
  intro n
  induction n with
  | zero =>
    intro d a b
    rw [show d = D by omega]
    exact ⟨rfl, eT⟩
  | succ n ih =>
    intro d a b
    by_cases c : d = D
    · rw [c]
      exact ⟨whN_e eT, eT⟩
    · have ef : e_X7_chain_52 g stp t p N (nI d) = false := by
        rw [ee, IsF_none (sm_isF0 g (w_X7_laySteps_2 g stp (nI go) N) (nI d) N) (fun x hx y => by
          have hm := (steps_iff h hgo stp hx (by omega)).mp y.2
          have := hmin d (by omega) x hx hm.1
          rw [(hd.2.2 x (by omega)).mpr y.1] at this
          exact absurd this (by decide))]
        decide
      rw [whN_s ef]
      show whN _ _ n (nI d + 1) = _ ∧ _
      rw [nI_1]
      exact ih (d + 1) (by omega) (by omega)
def cseq (g stp : Nat → Int32) (t p : Int32) (N : Nat) (k : Nat) : Int32 := foldN (s_X7_chain_105 g stp t p N) k 0 (r_X7_smallest g (w_X7_laySteps_2 g stp ((2 * t) + p) N) (whN (e_X7_chain_52 g stp t p N) s_X7_chain_52 40 0) (-10) N)
theorem cseq_ok {N : Nat} {us : Nat → Nat → Int32} {g : Nat → Int32} {di : Int64} (h : LK N us g) (hd : RD N di g) {go D : Nat} (hgo : go < 2 * N) (stp : Nat → Int32) {t p : Int32} (hg : 2 * t + p = nI go) (hD : D < 40) (hex : ∃ p, p < 2 * N ∧ pb di p = true ∧ MN (RF N g) go D p) (hoff : whN (e_X7_chain_52 g stp t p N) s_X7_chain_52 40 0 = nI D) : cseq g stp t p N 0 = r_X7_smallest g (w_X7_laySteps_2 g stp (nI go) N) (nI D) (-10) N ∧ (∀ k, k < D → cseq g stp t p N (k + 1) = r_X7_smallest g (w_X7_laySteps_2 g stp (nI go) N) (nI (D - (k + 1))) (cseq g stp t p N k) N) ∧ ∀ k, k ≤ D → ∃ v, v < 2 * N ∧ cseq g stp t p N k = nI v ∧ MN (RF N g) go (D - k) v := by
  have h1 := h.1
  have c0 : cseq g stp t p N 0 = r_X7_smallest g (w_X7_laySteps_2 g stp (nI go) N) (nI D) (-10) N := by
    show r_X7_smallest _ _ _ _ _ = _
    rw [hoff, hg]
  have cs : ∀ k, k < D → cseq g stp t p N (k + 1) = r_X7_smallest g (w_X7_laySteps_2 g stp (nI go) N) (nI (D - (k + 1))) (cseq g stp t p N k) N := fun k hk => by
    unfold cseq
    rw [foldN_snoc, Nat.zero_add]
    rw [show ∀ x, s_X7_chain_105 g stp t p N k x = r_X7_smallest g (w_X7_laySteps_2 g stp ((2 * t) + p) N) (((whN (e_X7_chain_52 g stp t p N) s_X7_chain_52 40 0) - 1) - (nI k)) x N from fun x => rfl, hoff, hg, nI_sub1 hk]
  refine ⟨c0, cs, fun k => ?_⟩
  induction k with
  | zero =>
    intro _
    obtain ⟨x, hx, hb, hm⟩ := hex
    obtain ⟨v, hv, hv2, e⟩ := IsF_some (sm_isF0 g (w_X7_laySteps_2 g stp (nI go) N) (nI D) N) hx ⟨(hd.2.2 x (by omega)).mp hb, (steps_iff h hgo stp hx (by omega)).mpr hm⟩
    exact ⟨v, hv, c0.trans e, (steps_iff h hgo stp hv (by omega)).mp hv2.2⟩
  | succ k ih =>
    intro hk
    obtain ⟨v, hv, e, hm⟩ := ih (by omega)
    rw [show D - k = D - (k + 1) + 1 by omega] at hm
    obtain ⟨q, r, hq⟩ := MN_s hm
    obtain ⟨w, hw, hw2, e2⟩ := IsF_some (sm_isF (g := g) (w_X7_laySteps_2 g stp (nI go) N) (nI (D - (k + 1))) N (v := v) (by omega)) r.2.1 ⟨(fol_iff h (by omega) (by have := r.2.1; omega)).mpr r.2.2, (steps_iff h hgo stp r.2.1 (by omega)).mpr hq⟩
    exact ⟨w, hw, (cs k (by omega)).trans (by rw [e]; exact e2), (steps_iff h hgo stp hw (by omega)).mp hw2.2⟩
