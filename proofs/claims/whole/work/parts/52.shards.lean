/-! the shards -/
theorem foldN_split {σ : Type} (f : Nat → σ → σ) : ∀ (a b i : Nat) (z : σ), foldN f (a + b) i z = foldN f b (i + a) (foldN f a i z)
  | 0, b, i, z => by rw [Nat.zero_add]; rfl
  | a + 1, b, i, z => by
    rw [show a + 1 + b = a + b + 1 by omega]
    show foldN f (a + b) (i + 1) (f i z) = foldN f b (i + (a + 1)) (foldN f a (i + 1) (f i z))
    rw [foldN_split f a b (i + 1) (f i z), show i + 1 + a = i + (a + 1) by omega]
theorem foldN_id {σ : Type} {f : Nat → σ → σ} : ∀ (n i : Nat) (z : σ), (∀ j, i ≤ j → j < i + n → f j z = z) → foldN f n i z = z
  | 0, _, _, _ => rfl
  | n + 1, i, z, h => by
    show foldN f n (i + 1) (f i z) = z
    rw [h i (Nat.le_refl _) (by omega)]
    exact foldN_id n (i + 1) z (fun j h1 h2 => h j (by omega) (by omega))
theorem heavy {N : Nat} {we g : Nat → Int32} (hN : N ≤ 20) (hw : RW N we g) {lf : Int32} (hl : okm N lf) : r_X5_heaviest we lf = foldN (s_X7_layShards_57 g lf) N 0 (-10) ∧ (¬ lf = 0 → ∃ v, v < N ∧ bt lf v = true ∧ foldN (s_X7_layShards_57 g lf) N 0 (-10) = nI v) := by
  have key := foldN_0 (f := s_X5_heaviest_8 we lf) (f' := s_X7_layShards_57 g lf) (n := N) (fun i (a : Int32 × Int32) (b : Int32) => a.1 = b ∧ ((b = -10 ∧ a.2 = 0 ∧ ∀ j, j < i → bt lf j = false) ∨ ∃ v, v < N ∧ b = nI v ∧ a.2 = we v ∧ bt lf v = true)) (by
    rintro i ⟨b1, m1⟩ nx hi ⟨q1, q2⟩
    simp only at q1 q2
    subst q1
    have c0 := ct_0 (m := lf) (j := i) (by omega)
    have s1 := sh_1 (x := lf) (j := i) (by omega)
    obtain ⟨w1, w2, w3, w4⟩ := hw i hi
    have x1 : s_X5_heaviest_8 we lf i (b1, m1) = if r_X6_contains lf (nI i) = 0 then (b1, m1) else if we i ≤ m1 then (b1, m1) else (nI i, we i) := rfl
    have x2 : s_X7_layShards_57 g lf i b1 = if ((lf >>> ((nI i) &&& 31)) &&& 1) = 1 then (if b1 < 0 then nI i else if g (23 + i) ≤ g (23 + b1.toNatClampNeg) then b1 else nI i) else b1 := rfl
    rw [x1, x2]
    cases hb : bt lf i with
    | false =>
      rw [if_pos (c0.mpr hb), if_neg (fun x => by rw [s1.mp x] at hb; exact absurd hb (by decide))]
      refine ⟨rfl, ?_⟩
      rcases q2 with ⟨a1, a2, a3⟩ | a
      · refine .inl ⟨a1, a2, fun j hj => ?_⟩
        rcases Nat.lt_or_ge j i with x | x
        · exact a3 j x
        · rw [show j = i by omega]
          exact hb
      · exact .inr a
    | true =>
      rw [if_neg (fun x => by rw [c0.mp x] at hb; exact absurd hb (by decide)), if_pos (s1.mpr hb)]
      rcases q2 with ⟨a1, a2, a3⟩ | ⟨v, a1, a2, a3, a4⟩
      · rw [a1, a2, w1, w2, if_neg (fun x => by
          have := (nI_leI (a := wv g i) (b := 0) (by omega) (by omega)).mp x
          omega), if_pos (show (-10 : Int32) < 0 by decide)]
        exact ⟨rfl, .inr ⟨i, hi, rfl, by show nI (wv g i) = we i; rw [w1, w2], hb⟩⟩
      · obtain ⟨y1, y2, y3, y4⟩ := hw v a1
        rw [a2, if_neg (nI_nn (by omega)), nI_clamp (by omega), a3, w1, y1]
        by_cases c : g (23 + i) ≤ g (23 + v)
        · rw [if_pos c, if_pos c]
          exact ⟨rfl, .inr ⟨v, a1, rfl, y1.symm, a4⟩⟩
        · rw [if_neg c, if_neg c]
          exact ⟨rfl, .inr ⟨i, hi, rfl, w1.symm, hb⟩⟩) (a := ((-10), 0)) (b := -10) ⟨rfl, .inl ⟨rfl, rfl, fun j hj => absurd hj (Nat.not_lt_zero _)⟩⟩
  have tail : foldN (s_X5_heaviest_8 we lf) 20 0 ((-10), 0) = foldN (s_X5_heaviest_8 we lf) N 0 ((-10), 0) := by
    rw [show foldN (s_X5_heaviest_8 we lf) 20 0 ((-10), 0) = foldN (s_X5_heaviest_8 we lf) (N + (20 - N)) 0 ((-10), 0) by rw [show N + (20 - N) = 20 by omega], foldN_split]
    refine foldN_id _ _ _ (fun j h1 h2 => ?_)
    generalize foldN (s_X5_heaviest_8 we lf) N 0 ((-10), 0) = z
    obtain ⟨b1, m1⟩ := z
    show (if r_X6_contains lf (nI j) = 0 then (b1, m1) else _) = _
    rw [if_pos ((ct_0 (by omega)).mpr (hl j (by omega)))]
  refine ⟨by unfold r_X5_heaviest; rw [tail]; exact key.1, fun hne => ?_⟩
  rcases key.2 with ⟨a1, a2, a3⟩ | ⟨v, a1, a2, a3, a4⟩
  · exact absurd ((okm_eq0 hl).mpr a3) hne
  · exact ⟨v, a1, a4, a2⟩
theorem least_eq {S : Nat} (hS : 1 ≤ S) {ld ld' : Nat → Int32} (h : ∀ s, s < S → ld s = ld' s) : foldN (s_X7_layShards_127 ld) (S - 1) 1 0 = k_X3_leastLoaded S ld' ∧ k_X3_leastLoaded S ld' < S := by
  have := foldN_rel (f := s_X7_layShards_127 ld) (f' := s_X3_leastLoaded_4 ld') (M := S) (fun _ (a b : Nat) => a = b ∧ b < S) (by
    rintro j a b hj ⟨e, hb⟩
    subst e
    show (if ld a ≤ ld j then a else j) = (if ld' a ≤ ld' j then a else j) ∧ (if ld' a ≤ ld' j then a else j) < S
    rw [h a hb, h j hj]
    refine ⟨rfl, ?_⟩
    split
    · exact hb
    · exact hj) (S - 1) 1 0 0 (by omega) ⟨rfl, by omega⟩
  exact this
def SM (h : Nat → Nat) (m : Int32) (N : Nat) : Nat := fb_sm (fun t => if bt m t = true then h t else 0) N
theorem SM_del {h : Nat → Nat} {lf : Int32} {v N : Nat} (hv : v < N) (hN : N ≤ 20) (hb : bt lf v = true) : SM h (lf &&& ((1 <<< (nI v &&& 31)) ^^^ (-1))) N + h v = SM h lf N := by
  have := fb_sm_upd (fun t => if bt lf t = true then h t else 0) 0 hv
  rw [if_pos hb, Nat.add_zero] at this
  unfold SM
  rw [← this]
  congr 1
  refine fb_sm_cong (fun t _ => ?_)
  rw [bt_del (by omega)]
  by_cases c : t = v
  · rw [if_pos c]
    simp [c]
  · rw [if_neg c]
    simp [c]
theorem SM_0 (h : Nat → Nat) (N : Nat) : SM h 0 N = 0 := by
  have := fb_sm_bound (f := fun t => if bt 0 t = true then h t else 0) (c := 0) (n := N) (fun k _ => by rw [b_0]; simp)
  unfold SM
  omega
def SJ (N S : Nat) (g : Nat → Int32) (set lf : Int32) (i : Nat) (τ : Nat → Nat) (gv wg ld : Nat → Int32) : Prop :=
  (∀ j, j < i → τ j < N ∧ bt set (τ j) = true ∧ bt lf (τ j) = false ∧ wg j = nI (wv g (τ j)) ∧ ∃ s, s < S ∧ gv (τ j) = nI s) ∧ (∀ j j', j < j' → j' < i → τ j ≠ τ j') ∧ (∀ h : Nat → Nat, fb_sm (fun j => h (τ j)) i + SM h lf N = SM h set N) ∧ (∀ s, s < S → ld s = nI (fb_sm (fun j => if gv (τ j) = nI s then wv g (τ j) else 0) i)) ∧ ∀ t, bt lf t = true → bt set t = true
theorem SJ_s {N S : Nat} {g : Nat → Int32} {set lf : Int32} {i : Nat} {τ : Nat → Nat} {gv wg ld : Nat → Int32} (hN : N ≤ 20) (hS : S ≤ 4) (h : SJ N S g set lf i τ gv wg ld) {v q : Nat} (hv : v < N) (hb : bt lf v = true) (hq : q < S) : SJ N S g set (lf &&& ((1 <<< (nI v &&& 31)) ^^^ (-1))) (i + 1) (fun j => if j = i then v else τ j) (upd gv v (nI q)) (upd wg i (nI (wv g v))) (upd ld q (ld q + nI (wv g v))) := by
  obtain ⟨h1, h2, h3, h4, h5⟩ := h
  have et : ∀ j, j < i → (if j = i then v else τ j) = τ j := fun j hj => if_neg (by omega)
  have ei : (if i = i then v else τ i) = v := if_pos rfl
  have ne : ∀ j, j < i → τ j ≠ v := fun j hj e => by
    have := (h1 j hj).2.2.1
    rw [e, hb] at this
    exact absurd this (by decide)
  have eg : ∀ j, j < i → upd gv v (nI q) (τ j) = gv (τ j) := fun j hj => if_neg (ne j hj)
  refine ⟨fun j hj => ?_, fun j j' hjj hj => ?_, fun h => ?_, fun s hs => ?_, fun t ht => ?_⟩
  · simp only
    by_cases c : j = i
    · subst c
      rw [if_pos rfl]
      refine ⟨hv, h5 v hb, by rw [bt_del (by omega)]; simp, if_pos rfl, q, hq, if_pos rfl⟩
    · rw [if_neg c]
      obtain ⟨a1, a2, a3, a4, a5⟩ := h1 j (by omega)
      refine ⟨a1, a2, by rw [bt_del (by omega), a3]; rfl, ?_, ?_⟩
      · rw [show upd wg i (nI (wv g v)) j = wg j from if_neg c]
        exact a4
      · rw [eg j (by omega)]
        exact a5
  · simp only
    rw [et j (by omega)]
    by_cases c : j' = i
    · rw [if_pos c]
      exact ne j (by omega)
    · rw [if_neg c]
      exact h2 j j' hjj (by omega)
  · rw [fb_sm_succ]
    simp only [if_true]
    rw [fb_sm_cong (f := fun j => h (if j = i then v else τ j)) (g := fun j => h (τ j)) (fun k hk => by rw [if_neg (by omega)])]
    have a := h3 h
    have b := SM_del (h := h) hv hN hb
    omega
  · rw [fb_sm_succ]
    simp only [if_true]
    rw [show upd gv v (nI q) v = nI q from if_pos rfl]
    rw [fb_sm_cong (f := fun j => if upd gv v (nI q) (if j = i then v else τ j) = nI s then wv g (if j = i then v else τ j) else 0) (g := fun j => if gv (τ j) = nI s then wv g (τ j) else 0) (fun k hk => by
      rw [if_neg (show ¬ k = i by omega), eg k hk])]
    by_cases c : s = q
    · subst c
      rw [show upd ld s (ld s + nI (wv g v)) s = ld s + nI (wv g v) from if_pos rfl, h4 s hs, nI_add, if_pos rfl]
    · rw [show upd ld q (ld q + nI (wv g v)) s = ld s from if_neg c, h4 s hs, if_neg (fun e => c ((nI_injI (a := q) (b := s) (by omega) (by omega)).mp e).symm), Nat.add_zero]
  · rw [bt_del (by omega), Bool.and_eq_true] at ht
    exact h5 t ht.1
theorem shard_loop {N S : Nat} {we g : Nat → Int32} (hN : N ≤ 20) (hS1 : 1 ≤ S) (hS : S ≤ 4) (hw : RW N we g) (set : Int32) : ∀ (n i : Nat) (lf : Int32) (ld sh gv wg ld' : Nat → Int32) (τ : Nat → Nat), okm N lf → fb_ct (bt lf) N ≤ n → (∀ s, s < S → ld s = ld' s) → (∀ t, t < 20 → bt set t = true → bt lf t = false → sh t = gv t) → (∀ t, t < 20 → bt set t = false → sh t = -10) → SJ N S g set lf i τ gv wg ld' → ∃ ld1 sh1 K gv1 wg1 ld2 τ1, whN e_X7_layShards_47 (s_X7_layShards_47 g S N) (n + 10) (lf, ld, sh) = (0, ld1, sh1) ∧ brkN b_X3_init_31 (s_X3_init_31 (nI N) we S) n i (lf, i, gv, wg, ld') = (0, K, gv1, wg1, ld2) ∧ (∀ s, s < S → ld1 s = ld2 s) ∧ (∀ t, t < 20 → bt set t = true → sh1 t = gv1 t) ∧ (∀ t, t < 20 → bt set t = false → sh1 t = -10) ∧ SJ N S g set 0 K τ1 gv1 wg1 ld2 ∧ K ≤ i + n := by
  have hz : ∀ lf, okm N lf → fb_ct (bt lf) N ≤ 0 → lf = 0 := fun lf hl hc => (okm_eq0 hl).mpr (fb_ct_zero.mp (Nat.le_zero.mp hc))
  intro n
  induction n with
  | zero =>
    intro i lf ld sh gv wg ld' τ hl hc e1 e2 e3 hJ
    have e := hz lf hl hc
    subst e
    exact ⟨ld, sh, i, gv, wg, ld', τ, whN_e rfl, rfl, e1, fun t ht hb => e2 t ht hb (b_0 t), e3, hJ, by omega⟩
  | succ n ih =>
    intro i lf ld sh gv wg ld' τ hl hc e1 e2 e3 hJ
    by_cases e : lf = 0
    · subst e
      exact ⟨ld, sh, i, gv, wg, ld', τ, whN_e rfl, brkN_t rfl, e1, fun t ht hb => e2 t ht hb (b_0 t), e3, hJ, by omega⟩
    · rw [show n + 1 + 10 = (n + 10) + 1 by omega, whN_s (show e_X7_layShards_47 (lf, ld, sh) = false from decide_eq_false e), brkN_f (show b_X3_init_31 (lf, i, gv, wg, ld') = false from decide_eq_false e)]
      obtain ⟨h1, h2⟩ := heavy hN hw hl
      obtain ⟨v, hv, hb, ev⟩ := h2 e
      have en := h1.trans ev
      obtain ⟨l1, l2⟩ := least_eq hS1 e1
      have ewv : we v = nI (wv g v) := by
        obtain ⟨a, b, _⟩ := hw v hv
        rw [a, b]
      have ewg : r_X7_weightOf g v = nI (wv g v) := (hw v hv).2.1
      have x1 : s_X7_layShards_47 g S N (lf, ld, sh) = (lf &&& ((1 <<< (nI v &&& 31)) ^^^ (-1)), upd ld (k_X3_leastLoaded S ld') (ld (k_X3_leastLoaded S ld') + nI (wv g v)), upd sh v (nI (k_X3_leastLoaded S ld'))) := by
        simp only [s_X7_layShards_47]
        rw [ev, l1, nI_clamp (by omega), ewg]
      have hh : ¬ r_X5_has (nI N) (nI v) = 0 := (has_iff hN (nI v)).mpr ⟨v, hv, rfl⟩
      have x2 : s_X3_init_31 (nI N) we S i (lf, i, gv, wg, ld') = (lf &&& ((1 <<< (nI v &&& 31)) ^^^ (-1)), i + 1, upd gv v (nI (k_X3_leastLoaded S ld')), upd wg i (nI (wv g v)), upd ld' (k_X3_leastLoaded S ld') (ld' (k_X3_leastLoaded S ld') + nI (wv g v))) := by
        simp only [s_X3_init_31]
        rw [en, if_neg hh, nI_clamp (by omega), ewv]
        rfl
      rw [x1, x2]
      obtain ⟨ld1, sh1, K, gv1, wg1, ld2, τ1, r1, r2, r3, r4, r5, r6, r7⟩ := ih (i + 1) (lf &&& ((1 <<< (nI v &&& 31)) ^^^ (-1))) (upd ld (k_X3_leastLoaded S ld') (ld (k_X3_leastLoaded S ld') + nI (wv g v))) (upd sh v (nI (k_X3_leastLoaded S ld'))) (upd gv v (nI (k_X3_leastLoaded S ld'))) (upd wg i (nI (wv g v))) (upd ld' (k_X3_leastLoaded S ld') (ld' (k_X3_leastLoaded S ld') + nI (wv g v))) (fun j => if j = i then v else τ j) (okm_and2 hl) (by
          have := ct_del hv hN hb
          omega) (fun s hs => by
          unfold upd
          by_cases c : s = k_X3_leastLoaded S ld'
          · rw [if_pos c, if_pos c, e1 _ l2]
          · rw [if_neg c, if_neg c, e1 s hs]) (fun t ht a b => by
          unfold upd
          by_cases c : t = v
          · rw [if_pos c, if_pos c]
          · rw [if_neg c, if_neg c]
            refine e2 t ht a ?_
            rw [bt_del (by omega)] at b
            simpa [c] using b) (fun t ht a => by
          have c : ¬ t = v := fun c => by
            rw [c, hJ.2.2.2.2 v hb] at a
            exact absurd a (by decide)
          rw [show upd sh v (nI (k_X3_leastLoaded S ld')) t = sh t from if_neg c]
          exact e3 t ht a) (SJ_s hN hS hJ hv hb l2)
      exact ⟨ld1, sh1, K, gv1, wg1, ld2, τ1, r1, r2, r3, r4, r5, r6, by omega⟩
theorem eq_shards {N S : Nat} {we g : Nat → Int32} (hN : N ≤ 20) (hS1 : 1 ≤ S) (hS : S ≤ 4) (hw : RW N we g) {set : Int32} (hl : okm N set) (hc : fb_ct (bt set) N ≤ 10) (ld sh : Nat → Int32) : ∃ ld1 sh1 K gv1 wg1 ld2 τ1, whN e_X7_layShards_47 (s_X7_layShards_47 g S N) 20 (set, (foldN s_X7_layShards_7 4 0 ld), (foldN s_X7_layShards_27 20 0 sh)) = (0, ld1, sh1) ∧ brkN b_X3_init_31 (s_X3_init_31 (nI N) we S) 10 0 (set, 0, fun _ => 0, fun _ => 0, fun _ => 0) = (0, K, gv1, wg1, ld2) ∧ (∀ s, s < S → ld1 s = ld2 s) ∧ (∀ t, t < 20 → bt set t = true → sh1 t = gv1 t) ∧ (∀ t, t < 20 → bt set t = false → sh1 t = -10) ∧ SJ N S g set 0 K τ1 gv1 wg1 ld2 ∧ K ≤ 10 := by
  obtain ⟨ld1, sh1, K, gv1, wg1, ld2, τ1, r1, r2, r3, r4, r5, r6, r7⟩ := shard_loop hN hS1 hS hw set 10 0 set (foldN s_X7_layShards_7 4 0 ld) (foldN s_X7_layShards_27 20 0 sh) (fun _ => 0) (fun _ => 0) (fun _ => 0) (fun _ => 0) hl hc (fun s hs => by
    rw [updfold (f := s_X7_layShards_7) (v := fun _ => 0) (fun i a _ => rfl) ld s, if_pos (by omega)]) (fun t ht a b => by rw [a] at b; exact absurd b (by decide)) (fun t ht a => by
    rw [updfold (f := s_X7_layShards_27) (v := fun _ => -10) (fun i a _ => rfl) sh t, if_pos ht]) ⟨fun j hj => absurd hj (Nat.not_lt_zero _), fun j j' _ hj => absurd hj (Nat.not_lt_zero _), fun h => by rw [show fb_sm (fun j => h ((fun _ => 0) j)) 0 = 0 from rfl, Nat.zero_add], fun s _ => rfl, fun t ht => ht⟩
  exact ⟨ld1, sh1, K, gv1, wg1, ld2, τ1, r1, r2, r3, r4, r5, r6, by omega⟩
theorem shc_iff (s : Int32) : ¬ r_X6_isShardCount s = 0 ↔ ∃ k, 1 ≤ k ∧ k ≤ 4 ∧ s = nI k := by
  unfold r_X6_isShardCount
  constructor
  · intro h
    by_cases a : s < 1
    · rw [if_pos a] at h; exact absurd rfl h
    rw [if_neg a] at h
    by_cases b : 4 < s
    · rw [if_pos b] at h; exact absurd rfl h
    have n0 : ¬ s < 0 := fun x => a (Int32.lt_trans x (by decide))
    obtain ⟨k, hk, rfl⟩ := nI_of n0
    refine ⟨k, ?_, ?_, rfl⟩
    · rcases Nat.lt_or_ge k 1 with x | x
      · exact absurd ((nI_ltI (a := k) (b := 1) hk (by decide)).mpr x) a
      · exact x
    · rcases Nat.lt_or_ge 4 k with x | x
      · exact absurd ((nI_ltI (a := 4) (b := k) (by decide) hk).mpr x) b
      · exact x
  · rintro ⟨k, h1, h2, rfl⟩
    rw [if_neg (fun x => by
      have := (nI_ltI (a := k) (b := 1) (by omega) (by decide)).mp x
      omega), if_neg (fun x => by
      have := (nI_ltI (a := 4) (b := k) (by decide) (by omega)).mp x
      omega)]
    decide
theorem shc_eq (s : Int32) : r_X6_isShardCount s = 0 ↔ r_X7_areShards s = 0 := by
  have : r_X6_isShardCount s = r_X7_areShards s := rfl
  rw [this]
theorem eq_shardOf {N : Nat} {us : Nat → Nat → Int32} {we ok g : Nat → Int32} {di : Int64} (h : LK N us g) (hd : RD N di g) (hk : RK N ok g) (hw : RW N we g) (h0 : g 0 = nI N) (hc : fb_ct (bt (r_X4_testsToRun ok us di)) N ≤ 10) (ch ld sh : Nat → Int32) (t sd : Int32) : r_X6_shardOf (nI N) we ok us di t sd = r_X7_shardOf g ch ld sh t sd N := by
  have h1 := h.1
  have et := eq_tests h hd hk ch
  unfold r_X6_shardOf r_X7_shardOf
  by_cases a : r_X7_isTarget g t = 0
  · rw [if_pos a, if_pos ((has_eq h0 h1 t).mpr a)]
  rw [if_neg a, if_neg (fun x => a ((has_eq h0 h1 t).mp x))]
  by_cases b : r_X6_isShardCount sd = 0
  · rw [if_pos b, if_pos ((shc_eq sd).mp b)]
  rw [if_neg b, if_neg (fun x => b ((shc_eq sd).mpr x))]
  obtain ⟨kt, hkt, e1⟩ := (isT_iff h0 h1 t).mp a
  obtain ⟨S, hS1, hS, e2⟩ := (shc_iff sd).mp b
  obtain ⟨ld1, sh1, K, gv1, wg1, ld2, τ1, r1, r2, r3, r4, r5, r6, r7⟩ := eq_shards h1 hS1 hS hw (tests_ok (us := us) (di := di) hk) hc ld sh
  unfold w_X7_layShards_4 w_X3_init_n0
  rw [et, e2, nI_clamp (by omega), r1, r2, e1, nI_clamp (by omega)]
  cases hb : bt (r_X4_testsToRun ok us di) kt with
  | false =>
    rw [if_pos ((ct_0 (by omega)).mpr hb)]
    exact (r5 kt (by omega) hb).symm
  | true =>
    rw [if_neg (fun x => by rw [(ct_0 (by omega)).mp x] at hb; exact absurd hb (by decide))]
    exact (r4 kt (by omega) hb).symm
theorem eq_shardLoad {N : Nat} {us : Nat → Nat → Int32} {we ok g : Nat → Int32} {di : Int64} (h : LK N us g) (hd : RD N di g) (hk : RK N ok g) (hw : RW N we g) (hc : fb_ct (bt (r_X4_testsToRun ok us di)) N ≤ 10) (ch ld sh : Nat → Int32) (sd ow : Int32) : r_X6_shardLoad (nI N) we ok us di sd ow = r_X7_shardLoad g ch ld sh sd ow N := by
  have h1 := h.1
  have et := eq_tests h hd hk ch
  unfold r_X6_shardLoad r_X7_shardLoad
  by_cases b : r_X6_isShardCount sd = 0
  · rw [if_pos b, if_pos ((shc_eq sd).mp b)]
  rw [if_neg b, if_neg (fun x => b ((shc_eq sd).mpr x))]
  obtain ⟨S, hS1, hS, e2⟩ := (shc_iff sd).mp b
  rw [e2]
  have f1 := inR (v := ow) (n := S) (by omega)
  have f2 := in7 (v := ow) (n := S) (by omega)
  by_cases c : r_X6_inRange ow (nI S) = 0
  · rw [if_pos c, if_pos (Classical.byContradiction fun x => f1.mpr (f2.mp x) c)]
  obtain ⟨o, ho, e3⟩ := f1.mp c
  rw [if_neg c, if_neg (f2.mpr ⟨o, ho, e3⟩)]
  obtain ⟨ld1, sh1, K, gv1, wg1, ld2, τ1, r1, r2, r3, r4, r5, r6, r7⟩ := eq_shards h1 hS1 hS hw (tests_ok (us := us) (di := di) hk) hc ld sh
  unfold w_X7_layShards_3 w_X3_init_n2
  rw [et, nI_clamp (by omega), r1, r2, e3, nI_clamp (by omega)]
  exact (r3 o ho).symm
theorem shards_T {N : Nat} {us : Nat → Nat → Int32} {we ok g : Nat → Int32} {di : Int64} (h : LK N us g) (hd : RD N di g) (hk : RK N ok g) (hw : RW N we g) (hc : fb_ct (bt (r_X4_testsToRun ok us di)) N ≤ 10) (ch ld sh : Nat → Int32) (S : Nat) (hS1 : 1 ≤ S) (hS : S ≤ 4) : T_X7_layShards_47 g ch ld sh S N := by
  obtain ⟨ld1, sh1, K, gv1, wg1, ld2, τ1, r1, _⟩ := eq_shards h.1 hS1 hS hw (tests_ok (us := us) (di := di) hk) hc ld sh
  unfold T_X7_layShards_47
  rw [eq_tests h hd hk ch, r1]
  rfl
