/-! ranges -/
theorem nI_nn {k : Nat} (hk : k < 2 ^ 31) : ¬ nI k < 0 := fun x => by
  have := (nI_ltI (a := k) (b := 0) hk (by decide)).mp x
  omega
theorem nI_nm {k : Nat} (hk : k < 2 ^ 31) : ¬ nI k = -10 := fun x => nI_nn hk (by rw [x]; decide)
theorem inR {v : Int32} {n : Nat} (hn : n < 2 ^ 31) : ¬ r_X6_inRange v (nI n) = 0 ↔ ∃ k, k < n ∧ v = nI k := by
  unfold r_X6_inRange
  constructor
  · intro hne
    rcases pk_ix v hn with a | a | a
    · exact absurd (if_pos a) hne
    · refine absurd ?_ hne
      by_cases c : v < 0
      · rw [if_pos c]
      · rw [if_neg c, if_pos a]
    · exact a
  · rintro ⟨k, hk, e⟩
    rw [e, if_neg (nI_nn (by omega)), if_neg (nI_ge hk hn)]
    decide
theorem in7 {v : Int32} {n : Nat} (hn : n < 2 ^ 30) : ¬ r_X7_in v 0 (nI n - 1) = 0 ↔ ∃ k, k < n ∧ v = nI k := by
  constructor
  · intro h
    have := in_use hn h
    exact ⟨_, this.2, this.1⟩
  · rintro ⟨k, hk, e⟩
    have e1 : (nI n - 1).toInt = (n : Int) - 1 := pk_sub_toInt (a := n) (b := 1) hn (by decide)
    unfold r_X7_in
    rw [e, if_neg (nI_nn (by omega)), if_neg (fun x => by
      rw [Int32.lt_iff_toInt_lt, e1, nI_toInt (by omega)] at x
      omega)]
    decide
theorem in7K {v : Int32} {m : Nat} (hm : m < 2 ^ 31) : ¬ r_X7_in v 0 (nI m) = 0 ↔ ∃ k, k ≤ m ∧ v = nI k := by
  constructor
  · intro h
    have := in_useK (nI_toInt hm) h
    exact ⟨_, this.2, this.1⟩
  · rintro ⟨k, hk, e⟩
    unfold r_X7_in
    rw [e, if_neg (nI_nn (by omega)), if_neg (fun x => by
      have := (nI_ltI (a := m) (b := k) hm (by omega)).mp x
      omega)]
    decide
theorem iff0 {x y : Int32} (h : ¬ x = 0 ↔ ¬ y = 0) : x = 0 ↔ y = 0 := ⟨fun a => Classical.byContradiction fun b => h.mpr b a, fun a => Classical.byContradiction fun b => h.mp b a⟩
/-! walks to a goal -/
def WK (R : Nat → Nat → Prop) (go : Nat) : Nat → Nat → Prop
  | 0, p => p = go
  | n + 1, p => ∃ q, R p q ∧ WK R go n q
def MN (R : Nat → Nat → Prop) (go d p : Nat) : Prop := WK R go d p ∧ ∀ d', d' < d → ¬ WK R go d' p
theorem MN_s {R : Nat → Nat → Prop} {go d p : Nat} (h : MN R go (d + 1) p) : ∃ q, R p q ∧ MN R go d q := by
  obtain ⟨⟨q, r, w⟩, h⟩ := h
  exact ⟨q, r, w, fun d' hd' w' => h (d' + 1) (by omega) ⟨q, r, w'⟩⟩
theorem MN_of {R : Nat → Nat → Prop} {go d p q : Nat} (hp : MN R go (d + 1) p) (r : R p q) (w : WK R go d q) : MN R go d q := ⟨w, fun d' hd' w' => hp.2 (d' + 1) (by omega) ⟨q, r, w'⟩⟩
theorem MN_u {R : Nat → Nat → Prop} {go d d' p : Nat} (h : MN R go d p) (h' : MN R go d' p) : d = d' := by
  rcases Nat.lt_trichotomy d d' with c | c | c
  · exact absurd h.1 (h'.2 d c)
  · exact c
  · exact absurd h'.1 (h.2 d' c)
theorem MN_w {R : Nat → Nat → Prop} {go p : Nat} : ∀ {d : Nat}, WK R go d p → ∃ d', d' ≤ d ∧ MN R go d' p := by
  intro d
  induction d using Nat.strongRecOn with
  | ind d ih =>
    intro h
    by_cases c : ∃ d', d' < d ∧ WK R go d' p
    · obtain ⟨d', h1, h2⟩ := c
      obtain ⟨e, h3, h4⟩ := ih d' h1 h2
      exact ⟨e, by omega, h4⟩
    · exact ⟨d, Nat.le_refl _, h, fun d' h1 h2 => c ⟨d', h1, h2⟩⟩
theorem MN_all {R : Nat → Nat → Prop} {go M : Nat} (hR : ∀ p q, R p q → p < M) (hgo : go < M) : ∀ {D p : Nat}, MN R go D p → ∀ d, d ≤ D → ∃ q, q < M ∧ MN R go d q
  | 0, p, h, d, hd => by
    have e : d = 0 := by omega
    subst e
    exact ⟨go, hgo, rfl, fun d' h => absurd h (Nat.not_lt_zero _)⟩
  | D + 1, p, h, d, hd => by
    by_cases c : d = D + 1
    · subst c
      obtain ⟨q, r, _⟩ := h.1
      exact ⟨p, hR p q r, h⟩
    · obtain ⟨q, _, hq⟩ := MN_s h
      exact MN_all hR hgo hq d (by omega)
theorem MN_le {R : Nat → Nat → Prop} {go M : Nat} (hR : ∀ p q, R p q → p < M) (hgo : go < M) {D p : Nat} (h : MN R go D p) : D < M := by
  have hh := MN_all hR hgo h
  have hf : ∀ d, ∃ q, d ≤ D → q < M ∧ MN R go d q := fun d => by
    by_cases c : d ≤ D
    · obtain ⟨q, hq⟩ := hh d c
      exact ⟨q, fun _ => hq⟩
    · exact ⟨0, fun x => absurd x c⟩
  have := fb_holes M (D + 1) (fun d => Classical.choose (hf d)) (fun i hi => (Classical.choose_spec (hf i) (by omega)).1) (fun i j hij hj e => by
    have h1 := (Classical.choose_spec (hf i) (by omega)).2
    have h2 := (Classical.choose_spec (hf j) (by omega)).2
    have e : Classical.choose (hf i) = Classical.choose (hf j) := e
    rw [e] at h1
    have := MN_u h1 h2
    omega)
  omega
theorem WK_down {R : Nat → Nat → Prop} {go : Nat} : ∀ {D p : Nat}, WK R go D p → ∀ d, d ≤ D → ∃ q, WK R go d q
  | 0, p, h, d, hd => ⟨p, by rw [show d = 0 by omega]; exact h⟩
  | D + 1, p, h, d, hd => by
    by_cases c : d = D + 1
    · rw [c]
      exact ⟨p, h⟩
    · obtain ⟨q, _, hq⟩ := h
      exact WK_down hq d (by omega)
theorem WK_snoc {R : Nat → Nat → Prop} {p q : Nat} (r : R p q) : ∀ {d x : Nat}, WK R p d x → WK R q (d + 1) x
  | 0, x, h => ⟨q, by rw [show x = p from h]; exact r, rfl⟩
  | d + 1, x, h => by
    obtain ⟨y, hy, hw⟩ := h
    exact ⟨y, hy, WK_snoc r hw⟩
theorem WK_Rch {R : Nat → Nat → Prop} {S : Nat → Prop} {go : Nat} : Rch R S go ↔ ∃ d p, S p ∧ WK R go d p := by
  constructor
  · exact Rch_least (C := fun k => ∃ d p, S p ∧ WK R k d p) (fun q h => ⟨0, q, h, rfl⟩) (fun p q h r => by
      obtain ⟨d, x, hx, hw⟩ := h
      exact ⟨d + 1, x, hx, WK_snoc r hw⟩)
  · rintro ⟨d, p, hp, hw⟩
    refine Rch_to hp ?_
    induction d generalizing p S with
    | zero =>
      rw [show p = go from hw]
      exact Rch_0 rfl
    | succ d ih =>
      obtain ⟨q, r, hw⟩ := hw
      exact Rch_head r (ih (S := fun x => x = q) (p := q) rfl hw)
theorem fw_gt {N : Nat} {us : Nat → Nat → Int32} {g : Nat → Int32} (h : LK N us g) {p q : Nat} (hp : p < 40) (hq : q < 2 * N) (hw : FW g p q) : p < 2 * N := by
  have h1 := h.1
  have := (h.2.1 (q / 2) (p / 2) (by omega) (by omega)).2.2
  unfold FW at hw
  omega
def RF (N : Nat) (g : Nat → Int32) (p q : Nat) : Prop := p < 2 * N ∧ q < 2 * N ∧ FW g p q
theorem causes {N : Nat} {us : Nat → Nat → Int32} {g : Nat → Int32} (h : LK N us g) {ps : Int64} (hps : okp (2 * N) ps) : okp (2 * N) (r_X5_causesOfAny us ps) ∧ ∀ p, p < 2 * N → (pb (r_X5_causesOfAny us ps) p = true ↔ ∃ q, RF N g p q ∧ pb ps q = true) := by
  have h1 := h.1
  have hc : ∀ i, i < 40 → (lg_cmp ((r_X5_followersOf us (nI i) i) &&& ps) 0 = 0 ↔ ¬ ∃ q, RF N g i q ∧ pb ps q = true) := fun i hi => by
    rw [lg_cmp_0, l_eq0]
    constructor
    · rintro e ⟨q, ⟨_, hq, hw⟩, hb⟩
      have := e (pos q)
      rw [l_and, (folX_bl h hi (pos q)).mpr ⟨q, by omega, rfl, hw⟩, show bl ps (pos q) = true from hb] at this
      exact absurd this (by decide)
    · intro hn j
      cases hj : bl ((r_X5_followersOf us (nI i) i) &&& ps) j with
      | false => rfl
      | true =>
        rw [l_and, Bool.and_eq_true] at hj
        obtain ⟨q, hq, e, hw⟩ := (folX_bl h hi j).mp hj.1
        obtain ⟨q', hq', e'⟩ := hps j hj.2
        have := pos_inj hq (by omega) (e.symm.trans e')
        subst this
        exact absurd ⟨q, ⟨fw_gt h hi hq' hw, hq', hw⟩, by unfold pb; rw [← e]; exact hj.2⟩ hn
  have hb : ∀ j, bl (r_X5_causesOfAny us ps) j = true ↔ ∃ i, i < 40 ∧ (∃ q, RF N g i q ∧ pb ps q = true) ∧ bl (r_X6_setOfPair (nI i)) j = true := fun j => or64 (f := s_X5_causesOfAny_5 us ps) (n := 40) (c := fun i => ∃ q, RF N g i q ∧ pb ps q = true) (h := fun i => r_X6_setOfPair (nI i)) (fun i m hi => ⟨fun hh j => by
    unfold s_X5_causesOfAny_5
    rw [if_neg (fun e => (hc i hi).mp e hh), l_or], fun hh j => by
    unfold s_X5_causesOfAny_5
    rw [if_pos ((hc i hi).mpr hh)]⟩) j
  constructor
  · intro j hj
    obtain ⟨i, hi, ⟨q, r, _⟩, hs⟩ := (hb j).mp hj
    rw [bl_sop hi] at hs
    exact ⟨i, r.1, of_decide_eq_true hs⟩
  · intro p hp
    unfold pb
    rw [hb]
    constructor
    · rintro ⟨i, hi, hq, hs⟩
      rw [bl_sop hi] at hs
      have := pos_inj (by omega) hi (of_decide_eq_true hs)
      rw [this]
      exact hq
    · intro hq
      exact ⟨p, by omega, hq, by rw [bl_sop (by omega)]; simp⟩
def LY (N : Nat) (g : Nat → Int32) (go la : Nat) (ly : Nat → Int64) : Prop := ∀ d, d ≤ la → okp (2 * N) (ly d) ∧ ∀ p, p < 2 * N → (pb (ly d) p = true ↔ WK (RF N g) go d p)
theorem layersN {N : Nat} {us : Nat → Nat → Int32} {g : Nat → Int32} (h : LK N us g) {di : Int64} {go : Nat} : ∀ (n la : Nat) (ly : Nat → Int64), la ≤ 39 → 39 ≤ la + n → LY N g go la ly → (∀ d, d < la → ∀ p, p < 2 * N → WK (RF N g) go d p → pb di p = false) → ∃ la' ly', whN (e_X0_init_30 di) (s_X0_init_30 us) n (la, ly) = (la', ly') ∧ la' ≤ 39 ∧ LY N g go la' ly' ∧ (∀ d, d < la' → ∀ p, p < 2 * N → WK (RF N g) go d p → pb di p = false) ∧ (la' = 39 ∨ ly' la' = 0 ∨ ¬ (ly' la' &&& di) = 0)
  | 0, la, ly, h1, h2, h3, h4 => ⟨la, ly, rfl, h1, h3, h4, .inl (by omega)⟩
  | n + 1, la, ly, h1, h2, h3, h4 => by
    have h0 := h.1
    have ee : e_X0_init_30 di (la, ly) = decide ((39 ≤ (nI la)) ∨ ((lg_cmp (ly la) 0) = 0) ∨ (¬ ((lg_cmp ((ly la) &&& di) 0) = 0))) := rfl
    cases he : e_X0_init_30 di (la, ly) with
    | true =>
      refine ⟨la, ly, whN_e he, h1, h3, h4, ?_⟩
      rw [ee, decide_eq_true_iff, lg_cmp_0, lg_cmp_0] at he
      rcases he with a | a | a
      · have := (nI_leI (a := 39) (b := la) (by decide) (by omega)).mp a
        exact .inl (by omega)
      · exact .inr (.inl a)
      · exact .inr (.inr a)
    | false =>
      rw [whN_s he]
      rw [ee, decide_eq_false_iff_not, lg_cmp_0, lg_cmp_0] at he
      have a1 : la < 39 := by
        rcases Nat.lt_or_ge la 39 with c | c
        · exact c
        · exact absurd (.inl (nI_le (a := 39) (b := la) c (by omega))) he
      have a3 : ly la &&& di = 0 := Classical.byContradiction fun x => he (.inr (.inr x))
      have hl := h3 la (Nat.le_refl _)
      have hcs := causes h hl.1
      refine layersN h n (la + 1) (vp_updL ly (la + 1) (r_X5_causesOfAny us (ly la))) (by omega) (by omega) (fun d hd => ?_) (fun d hd p hp hw => ?_)
      · by_cases c : d = la + 1
        · subst c
          have e : vp_updL ly (la + 1) (r_X5_causesOfAny us (ly la)) (la + 1) = r_X5_causesOfAny us (ly la) := if_pos rfl
          rw [e]
          refine ⟨hcs.1, fun p hp => ?_⟩
          rw [hcs.2 p hp]
          constructor
          · rintro ⟨q, r, hb⟩
            exact ⟨q, r, (hl.2 q r.2.1).mp hb⟩
          · rintro ⟨q, r, hb⟩
            exact ⟨q, r, (hl.2 q r.2.1).mpr hb⟩
        · have e : vp_updL ly (la + 1) (r_X5_causesOfAny us (ly la)) d = ly d := if_neg c
          rw [e]
          exact h3 d (by omega)
      · by_cases c : d = la
        · subst c
          have hb := (hl.2 p hp).mpr hw
          have := (l_eq0.mp a3) (pos p)
          rw [l_and, show bl (ly d) (pos p) = true from hb] at this
          simpa [pb] using this
        · exact h4 d (by omega) p hp hw
/-! the first that .. -/
def IsF (c : Nat → Prop) (n : Nat) (r : Int32) : Prop := (∃ p, p < n ∧ c p ∧ (∀ p', p' < p → ¬ c p') ∧ r = nI p) ∨ ((∀ p, p < n → ¬ c p) ∧ r = -10)
theorem IsF_eq {c c' : Nat → Prop} {n n' : Nat} {r r' : Int32} (h : IsF c n r) (h' : IsF c' n' r') (e : ∀ p, (p < n ∧ c p) ↔ (p < n' ∧ c' p)) : r = r' := by
  rcases h with ⟨p, a1, a2, a3, a4⟩ | ⟨a1, a2⟩
  · rcases h' with ⟨q, b1, b2, b3, b4⟩ | ⟨b1, b2⟩
    · have : p = q := by
        rcases Nat.lt_trichotomy p q with x | x | x
        · exact absurd ((e p).mp ⟨a1, a2⟩).2 (b3 p x)
        · exact x
        · exact absurd ((e q).mpr ⟨b1, b2⟩).2 (a3 q x)
      rw [a4, b4, this]
    · have := (e p).mp ⟨a1, a2⟩
      exact absurd this.2 (b1 p this.1)
  · rcases h' with ⟨q, b1, b2, b3, b4⟩ | ⟨b1, b2⟩
    · have := (e q).mpr ⟨b1, b2⟩
      exact absurd this.2 (a1 q this.1)
    · rw [a2, b2]
theorem IsF_some {c : Nat → Prop} {n : Nat} {r : Int32} (h : IsF c n r) {p : Nat} (hp : p < n) (hc : c p) : ∃ v, v < n ∧ c v ∧ r = nI v := by
  rcases h with ⟨v, a1, a2, a3, a4⟩ | ⟨a1, a2⟩
  · exact ⟨v, a1, a2, a4⟩
  · exact absurd hc (a1 p hp)
theorem IsF_none {c : Nat → Prop} {n : Nat} {r : Int32} (h : IsF c n r) (hn : ∀ p, p < n → ¬ c p) : r = -10 := by
  rcases h with ⟨v, a1, a2, a3, a4⟩ | ⟨a1, a2⟩
  · exact absurd a2 (hn v a1)
  · exact a2
theorem isF_find {F : Nat → Nat → Int32} {c : Nat → Prop} {K : Nat} (h0 : ∀ i, F 0 i = -10) (h1 : ∀ n i, i < K → (c i → F (n + 1) i = nI i) ∧ (¬ c i → F (n + 1) i = F n (i + 1))) : ∀ n i, i + n = K → (∀ p, p < i → ¬ c p) → IsF c K (F n i)
  | 0, i, hi, hn => .inr ⟨fun p hp => hn p (by omega), h0 i⟩
  | n + 1, i, hi, hn => by
    by_cases hc : c i
    · exact .inl ⟨i, by omega, hc, hn, (h1 n i (by omega)).1 hc⟩
    · rw [(h1 n i (by omega)).2 hc]
      refine isF_find h0 h1 n (i + 1) (by omega) (fun p hp => ?_)
      rcases Nat.lt_or_ge p i with x | x
      · exact hn p x
      · rw [show p = i by omega]
        exact hc
theorem sp_isF (m : Int64) : IsF (fun p => pb m p = true) 40 (r_X6_smallestPair m) :=
  isF_find (F := s_X6_smallestPair_2 m) (fun i => rfl) (fun n i hi => ⟨fun hc => by
    show (if r_X6_containsPair m (nI i) = 0 then _ else nI i) = nI i
    rw [if_neg (fun e => by rw [(cp_0 hi).mp e] at hc; exact absurd hc (by decide))], fun hc => by
    show (if r_X6_containsPair m (nI i) = 0 then _ else nI i) = _
    rw [if_pos ((cp_0 hi).mpr (by simpa using hc))]⟩) 40 0 rfl (fun p hp => absurd hp (Nat.not_lt_zero _))
theorem st_isF (m : Int32) : IsF (fun p => bt m p = true) 20 (r_X6_smallestTarget m) :=
  isF_find (F := s_X6_smallestTarget_2 m) (fun i => rfl) (fun n i hi => ⟨fun hc => by
    show (if r_X6_contains m (nI i) = 0 then _ else nI i) = nI i
    rw [if_neg (fun e => by rw [(ct_0 (by omega)).mp e] at hc; exact absurd hc (by decide))], fun hc => by
    show (if r_X6_contains m (nI i) = 0 then _ else nI i) = _
    rw [if_pos ((ct_0 (by omega)).mpr (by simpa using hc))]⟩) 20 0 rfl (fun p hp => absurd hp (Nat.not_lt_zero _))
theorem sm_isF0 (g stp : Nat → Int32) (of : Int32) (N : Nat) : IsF (fun p => g (663 + p) = 1 ∧ stp p = of) (2 * N) (r_X7_smallest g stp of (-10) N) :=
  isF_find (F := s_X7_smallest_2 g stp of (-10)) (fun i => rfl) (fun n i hi => ⟨fun hc => by
    unfold s_X7_smallest_2
    rw [if_neg (by decide), if_pos hc.1, if_pos hc.2], fun hc => by
    show (if (0 : Int32) ≤ -10 then _ else if g (663 + i) = 1 then (if stp i = of then nI i else _) else _) = _
    rw [if_neg (by decide)]
    by_cases a : g (663 + i) = 1
    · rw [if_pos a, if_neg (fun b => hc ⟨a, b⟩)]
    · rw [if_neg a]⟩) (2 * N) 0 (by omega) (fun p hp => absurd hp (Nat.not_lt_zero _))
theorem sm_isF {g : Nat → Int32} (stp : Nat → Int32) (of : Int32) (N : Nat) {v : Nat} (hv : v < 40) : IsF (fun p => ¬ r_X7_follows g (nI v) (nI p) v p = 0 ∧ stp p = of) (2 * N) (r_X7_smallest g stp of (nI v) N) :=
  isF_find (F := s_X7_smallest_2 g stp of (nI v)) (fun i => rfl) (fun n i hi => ⟨fun hc => by
    unfold s_X7_smallest_2
    rw [if_pos (show (0 : Int32) ≤ nI v from nI_le (Nat.zero_le v) (by omega)), nI_clamp (by omega), if_neg hc.1, if_pos hc.2], fun hc => by
    show (if 0 ≤ nI v then (if r_X7_follows g (nI v) (nI i) (nI v).toNatClampNeg i = 0 then _ else if stp i = of then nI i else _) else _) = _
    rw [if_pos (show (0 : Int32) ≤ nI v from nI_le (Nat.zero_le v) (by omega)), nI_clamp (by omega)]
    by_cases a : r_X7_follows g (nI v) (nI i) v i = 0
    · rw [if_pos a]
    · rw [if_neg a, if_neg (fun b => hc ⟨a, b⟩)]⟩) (2 * N) 0 (by omega) (fun p hp => absurd hp (Nat.not_lt_zero _))
