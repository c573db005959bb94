/-! weights that a pair would have rebuilt -/
theorem foldN_rel {σ τ : Type} {f : Nat → σ → σ} {f' : Nat → τ → τ} {M : Nat} (P : Nat → σ → τ → Prop) (h : ∀ j a b, j < M → P j a b → P (j + 1) (f j a) (f' j b)) : ∀ (n i : Nat) (a : σ) (b : τ), i + n ≤ M → P i a b → P (i + n) (foldN f n i a) (foldN f' n i b)
  | 0, _, _, _, _, ha => ha
  | n + 1, i, a, b, hM, ha => by
    have := foldN_rel P h n (i + 1) (f i a) (f' i b) (by omega) (h i a b (by omega) ha)
    rw [show i + (n + 1) = i + 1 + n by omega]
    exact this
theorem foldN_0 {σ τ : Type} {f : Nat → σ → σ} {f' : Nat → τ → τ} {n : Nat} (P : Nat → σ → τ → Prop) (h : ∀ j a b, j < n → P j a b → P (j + 1) (f j a) (f' j b)) {a : σ} {b : τ} (h0 : P 0 a b) : P n (foldN f n 0 a) (foldN f' n 0 b) := by
  have := foldN_rel P h n 0 a b (by omega) h0
  rw [Nat.zero_add] at this
  exact this
theorem foldN_i {σ : Type} {f : Nat → σ → σ} {n : Nat} (P : Nat → σ → Prop) (h : ∀ j a, j < n → P j a → P (j + 1) (f j a)) {a : σ} (h0 : P 0 a) : P n (foldN f n 0 a) := by
  have := foldN_ind P h n 0 a (by omega) h0
  rw [Nat.zero_add] at this
  exact this
theorem sumfold {f : Nat → Int32 → Int32} {v : Nat → Nat} {n : Nat} (hf : ∀ i m, i < n → f i (nI m) = nI (m + v i)) : foldN f n 0 0 = nI (fb_sm v n) :=
  foldN_i (fun i a => a = nI (fb_sm v i)) (fun i a hi h => by rw [h, hf i _ hi, fb_sm_succ]) rfl
def wv (g : Nat → Int32) (t : Nat) : Nat := (g (23 + t)).toNatClampNeg
def RW (N : Nat) (we g : Nat → Int32) : Prop := ∀ t, t < N → we t = g (23 + t) ∧ g (23 + t) = nI (wv g t) ∧ 1 ≤ wv g t ∧ wv g t ≤ 100
def impv (g : Nat → Int32) (X : Int64) (i : Nat) : Nat := if pb X (2 * i + 1) = true then wv g i else 0
theorem sm_tail {v w : Nat → Nat} {N : Nat} : ∀ {n : Nat}, N ≤ n → (∀ i, i < N → v i = w i) → (∀ i, N ≤ i → v i = 0) → fb_sm v n = fb_sm w N
  | 0, hn, _, _ => by
    have : N = 0 := by omega
    subst this
    rfl
  | n + 1, hn, h1, h2 => by
    rcases Nat.lt_or_ge n N with c | c
    · have e : N = n + 1 := by omega
      rw [e]
      exact fb_sm_cong (fun k hk => h1 k (by omega))
    · rw [fb_sm_succ, sm_tail c h1 h2, h2 n c, Nat.add_zero]
theorem cls_impact {N : Nat} {us : Nat → Nat → Int32} {we g : Nat → Int32} (h : LK N us g) (hw : RW N we g) {q : Nat} (hq : q < 2 * N) : r_X5_weightRebuiltBy we us (nI q) = nI (fb_sm (impv g (r_X5_reachOf us (r_X6_setOfPair (nI q)))) N) := by
  have h1 := h.1
  have hX := (clsReach h (okp_sop (q := q) (M := 2 * N) (by omega) hq)).1
  have hb : ∀ i, i < 20 → (r_X6_contains (r_X6_targetsWith (r_X5_reachOf us (r_X6_setOfPair (nI q))) 1) (nI i) = 0 ↔ ¬ (i < N ∧ pb (r_X5_reachOf us (r_X6_setOfPair (nI q))) (2 * i + 1) = true)) := fun i hi => by
    rw [ct_0 (by omega), ← tw_bt h1 hX (kp := 1) (by decide) i]
    show bt (r_X6_targetsWith (r_X5_reachOf us (r_X6_setOfPair (nI q))) 1) i = false ↔ ¬ bt (r_X6_targetsWith (r_X5_reachOf us (r_X6_setOfPair (nI q))) 1) i = true
    simp
  unfold r_X5_weightRebuiltBy
  rw [sumfold (v := fun i => if i < N then impv g (r_X5_reachOf us (r_X6_setOfPair (nI q))) i else 0) (fun i m hi => by
    unfold s_X5_weightRebuiltBy_18
    by_cases c : i < N ∧ pb (r_X5_reachOf us (r_X6_setOfPair (nI q))) (2 * i + 1) = true
    · rw [if_neg (fun e => (hb i hi).mp e c), if_pos c.1]
      obtain ⟨e1, e2, _, _⟩ := hw i c.1
      rw [e1, e2, nI_add]
      unfold impv
      rw [if_pos c.2]
    · rw [if_pos ((hb i hi).mpr c)]
      by_cases d : i < N
      · rw [if_pos d]
        unfold impv
        rw [if_neg (fun e => c ⟨d, e⟩), Nat.add_zero]
      · rw [if_neg d, Nat.add_zero])]
  rw [sm_tail (w := impv g (r_X5_reachOf us (r_X6_setOfPair (nI q)))) h1 (fun i hi => if_pos hi) (fun i hi => if_neg (by omega))]
theorem imp0 (ch : Nat → Int32) {q k : Nat} (hq : q < 40) (hk : k < 40) : ¬ foldN (s_X7_impactOf_2 (nI q)) 40 0 ch k = 0 ↔ k = q := by
  rw [updfold (f := s_X7_impactOf_2 (nI q)) (v := fun i => if nI i = nI q then 1 else 0) (fun i a _ => by
    unfold s_X7_impactOf_2
    rw [nar1, nar0]
    by_cases c : nI i = nI q
    · simp only [if_pos c]
    · simp only [if_neg c]) ch k, if_pos hk]
  have := nI_injI (a := k) (b := q) (by omega) (by omega)
  by_cases c : nI k = nI q
  · rw [if_pos c]
    exact ⟨fun _ => this.mp c, fun _ => by decide⟩
  · rw [if_neg c]
    exact ⟨fun x => absurd rfl x, fun x => absurd (this.mpr x) c⟩
theorem ref_impact {N : Nat} {us : Nat → Nat → Int32} {we g : Nat → Int32} (h : LK N us g) (hw : RW N we g) (ch : Nat → Int32) {q : Nat} (hq : q < 2 * N) : r_X7_impactOf g ch (nI q) N = nI (fb_sm (impv g (r_X5_reachOf us (r_X6_setOfPair (nI q)))) N) := by
  have h1 := h.1
  have hs : ∀ k, k < 2 * N → (¬ w_X7_spread_2 g (foldN (s_X7_impactOf_2 (nI q)) 40 0 ch) N k = 0 ↔ pb (r_X5_reachOf us (r_X6_setOfPair (nI q))) k = true) := fun k hk =>
    spreadC h (okp_sop (by omega) hq) (fun p hp => by
      rw [imp0 ch (by omega) (by omega), pb_sop (by omega) (by omega), decide_eq_true_iff]) hk
  unfold r_X7_impactOf
  rw [sumfold (v := impv g (r_X5_reachOf us (r_X6_setOfPair (nI q)))) (fun i m hi => by
    unfold s_X7_impactOf_38 impv
    have e2 := (hw i hi).2.1
    by_cases c : pb (r_X5_reachOf us (r_X6_setOfPair (nI q))) (2 * i + 1) = true
    · rw [if_neg ((hs _ (by omega)).mpr c), if_pos c]
      show nI m + g (23 + i) = _
      rw [e2, nI_add]
    · rw [if_neg c, if_pos (Classical.not_not.mp (fun e => c ((hs _ (by omega)).mp e)))]
      show nI m + nI 0 = _
      rw [nI_add])]
theorem imp_rng {N : Nat} {us : Nat → Nat → Int32} {we g : Nat → Int32} (h : LK N us g) (hw : RW N we g) {t kp : Nat} (ht : t < N) (hkp : kp < 2) : 1 ≤ fb_sm (impv g (r_X5_reachOf us (r_X6_setOfPair (nI (2 * t + kp))))) N ∧ fb_sm (impv g (r_X5_reachOf us (r_X6_setOfPair (nI (2 * t + kp))))) N ≤ 2000 := by
  have h1 := h.1
  have hs : pb (r_X5_reachOf us (r_X6_setOfPair (nI (2 * t + kp)))) (2 * t + 1) = true := by
    rw [(clsReach h (okp_sop (q := 2 * t + kp) (M := 2 * N) (by omega) (by omega))).2 _ (by omega)]
    have st : Rch (fun p q => p < 2 * N ∧ q < 2 * N ∧ FW g p q) (fun q => q < 2 * N ∧ pb (r_X6_setOfPair (nI (2 * t + kp))) q = true) (2 * t + kp) := Rch_0 ⟨by omega, by rw [pb_sop (by omega) (by omega)]; simp⟩
    rcases (show kp = 1 ∨ kp = 0 by omega) with c | c
    · subst c
      exact st
    · subst c
      exact Rch_s st ⟨by omega, by omega, .inr (.inl ⟨by omega, by omega, .inl (by omega)⟩)⟩
  constructor
  · have := fb_sm_part (impv g (r_X5_reachOf us (r_X6_setOfPair (nI (2 * t + kp))))) ht
    have e : impv g (r_X5_reachOf us (r_X6_setOfPair (nI (2 * t + kp)))) t = wv g t := if_pos hs
    have := (hw t ht).2.2.1
    omega
  · have := fb_sm_bound (f := impv g (r_X5_reachOf us (r_X6_setOfPair (nI (2 * t + kp))))) (c := 100) (n := N) (fun k hk => by
      unfold impv
      split
      · exact (hw k hk).2.2.2
      · omega)
    omega
theorem eq_impact {N : Nat} {us : Nat → Nat → Int32} {we g : Nat → Int32} (h : LK N us g) (hw : RW N we g) (ch : Nat → Int32) {q : Nat} (hq : q < 2 * N) : r_X5_weightRebuiltBy we us (nI q) = r_X7_impactOf g ch (nI q) N := (cls_impact h hw hq).trans (ref_impact h hw ch hq).symm
theorem pair_nat {t p : Int32} {kt kp : Nat} (ht : t = nI kt) (hp : p = nI kp) : 2 * t + p = nI (2 * kt + kp) := hadd (hmul (show (2 : Int32) = nI 2 by decide) ht) hp
theorem eq_critical {N : Nat} {us : Nat → Nat → Int32} {we g : Nat → Int32} (h : LK N us g) (hw : RW N we g) (ch : Nat → Int32) {p : Int32} {kp : Nat} (hp : p = nI kp) (hkp : kp < 2) : (foldN (s_X6_mostCritical_19 we us p) N 0 ((-10), 0)).1 = (foldN (s_X7_mostCritical_18 g p N) N 0 ((-10), 0, ch)).1 := by
  have key := foldN_0 (f := s_X6_mostCritical_19 we us p) (f' := s_X7_mostCritical_18 g p N) (n := N) (fun i (a : Int32 × Int32) (b : Int32 × Int32 × (Nat → Int32)) => a.1 = b.1 ∧ a.2 = b.2.1 ∧ (i = 0 → b.1 = -10 ∧ b.2.1 = 0) ∧ (0 < i → ∃ k, k < 20 ∧ b.1 = nI k)) (by
    rintro i ⟨a1, a2⟩ ⟨b1, b2, c⟩ hi ⟨e1, e2, e3, e4⟩
    simp only at e1 e2 e3 e4
    subst e1 e2
    have h1 := h.1
    have ep := pair_nat (t := nI i) (kt := i) rfl hp
    have ei := ref_impact h hw c (q := 2 * i + kp) (by omega)
    have ec := cls_impact h hw (q := 2 * i + kp) (by omega)
    have er := imp_rng h hw hi hkp
    have x1 : s_X6_mostCritical_19 we us p i (a1, a2) = if nI (fb_sm (impv g (r_X5_reachOf us (r_X6_setOfPair (nI (2 * i + kp))))) N) ≤ a2 then (a1, a2) else (nI i, nI (fb_sm (impv g (r_X5_reachOf us (r_X6_setOfPair (nI (2 * i + kp))))) N)) := by
      show (if r_X5_weightRebuiltBy we us (2 * nI i + p) ≤ a2 then (a1, a2) else (nI i, r_X5_weightRebuiltBy we us (2 * nI i + p))) = _
      rw [ep, ec]
    have x2 : s_X7_mostCritical_18 g p N i (a1, a2, c) = if a1 < 0 then (nI i, nI (fb_sm (impv g (r_X5_reachOf us (r_X6_setOfPair (nI (2 * i + kp))))) N), w_X7_impactOf_2 g c (2 * nI i + p) N) else if nI (fb_sm (impv g (r_X5_reachOf us (r_X6_setOfPair (nI (2 * i + kp))))) N) ≤ a2 then (a1, a2, w_X7_impactOf_2 g c (2 * nI i + p) N) else (nI i, nI (fb_sm (impv g (r_X5_reachOf us (r_X6_setOfPair (nI (2 * i + kp))))) N), w_X7_impactOf_2 g c (2 * nI i + p) N) := by
      show (if a1 < 0 then (nI i, r_X7_impactOf g c (2 * nI i + p) N, w_X7_impactOf_2 g c (2 * nI i + p) N) else if r_X7_impactOf g c (2 * nI i + p) N ≤ a2 then (a1, a2, w_X7_impactOf_2 g c (2 * nI i + p) N) else (nI i, r_X7_impactOf g c (2 * nI i + p) N, w_X7_impactOf_2 g c (2 * nI i + p) N)) = _
      rw [ep, ei]
    rw [x1, x2]
    generalize fb_sm (impv g (r_X5_reachOf us (r_X6_setOfPair (nI (2 * i + kp))))) N = v at er ⊢
    by_cases z : i = 0
    · obtain ⟨f1, f2⟩ := e3 z
      rw [f1, f2, if_neg (show ¬ nI v ≤ 0 from fun x => by
        have := (nI_leI (a := v) (b := 0) (by omega) (by omega)).mp x
        omega), if_pos (by decide)]
      exact ⟨rfl, rfl, fun x => by omega, fun _ => ⟨i, by omega, rfl⟩⟩
    · obtain ⟨k, hk, f1⟩ := e4 (by omega)
      have nn : ¬ a1 < 0 := by
        rw [f1]
        intro x
        have := (nI_ltI (a := k) (b := 0) (by omega) (by omega)).mp x
        omega
      rw [if_neg nn]
      by_cases d : nI v ≤ a2
      · rw [if_pos d, if_pos d]
        exact ⟨rfl, rfl, fun x => by omega, fun _ => ⟨k, hk, f1⟩⟩
      · rw [if_neg d, if_neg d]
        exact ⟨rfl, rfl, fun x => by omega, fun _ => ⟨i, by omega, rfl⟩⟩) (a := ((-10), 0)) (b := ((-10), 0, ch)) ⟨rfl, rfl, fun _ => ⟨rfl, rfl⟩, fun x => absurd x (by omega)⟩
  exact key.1
