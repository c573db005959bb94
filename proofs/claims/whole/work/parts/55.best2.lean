/-! both are the least over all ways to give the tests of the set to the shards -/
def GS (g : Nat → Int32) (set : Int32) (N S : Nat) (ψ : Nat → Nat) : Nat := grN (fun s => SM (fun t => if ψ t = s then wv g t else 0) set N) S
theorem toSet {N S m : Nat} {g : Nat → Int32} {set : Int32} {τ : Nat → Nat} (hinj : ∀ j j', j < j' → j' < m → τ j ≠ τ j') (hsum : ∀ h : Nat → Nat, fb_sm (fun j => h (τ j)) m = SM h set N) (hS1 : 1 ≤ S) : (∀ ψ : Nat → Nat, grN (cl (fun j => wv g (τ j)) (fun j => ψ (τ j)) (fun _ => 0) 0 m) S = GS g set N S ψ) ∧ ∀ φ : Nat → Nat, (∀ j, φ j < S) → ∃ ψ : Nat → Nat, (∀ t, ψ t < S) ∧ grN (cl (fun j => wv g (τ j)) φ (fun _ => 0) 0 m) S = GS g set N S ψ := by
  have h1 : ∀ ψ : Nat → Nat, grN (cl (fun j => wv g (τ j)) (fun j => ψ (τ j)) (fun _ => 0) 0 m) S = GS g set N S ψ := fun ψ => by
    unfold GS
    refine grN_cong (fun s _ => ?_)
    rw [← hsum]
    unfold cl
    simp only [Nat.zero_add]
  refine ⟨h1, fun φ hφ => ?_⟩
  have hψ : ∀ t, ∃ v, v < S ∧ ∀ j, j < m → τ j = t → φ j = v := fun t => by
    by_cases c : ∃ j, j < m ∧ τ j = t
    · obtain ⟨j, hj, e⟩ := c
      refine ⟨φ j, hφ j, fun j' hj' e' => ?_⟩
      have : j' = j := by
        rcases Nat.lt_trichotomy j j' with x | x | x
        · exact absurd (e.trans e'.symm) (hinj j j' x hj')
        · exact x.symm
        · exact absurd (e'.trans e.symm) (hinj j' j x hj)
      rw [this]
    · exact ⟨0, hS1, fun j hj e => absurd ⟨j, hj, e⟩ c⟩
  refine ⟨fun t => Classical.choose (hψ t), fun t => (Classical.choose_spec (hψ t)).1, ?_⟩
  rw [← h1]
  refine grN_cong (fun s _ => cl_cong (fun j hj => ?_))
  rw [Nat.zero_add]
  exact (Classical.choose_spec (hψ (τ j))).2 j hj rfl
theorem eq_best {N : Nat} {us : Nat → Nat → Int32} {we ok g : Nat → Int32} {di : Int64} (h : LK N us g) (hd : RD N di g) (hk : RK N ok g) (hw : RW N we g) (hc : fb_ct (bt (r_X4_testsToRun ok us di)) N ≤ 10) (ch ld wt : Nat → Int32) (sd : Int32) : r_X6_bestGreatestLoad (nI N) we ok us di sd = r_X7_bestGreatestLoad g ch ld wt sd N := by
  have h1 := h.1
  have et := eq_tests h hd hk ch
  by_cases b : r_X6_isShardCount sd = 0
  · unfold r_X6_bestGreatestLoad r_X7_bestGreatestLoad
    rw [if_pos b, if_pos ((shc_eq sd).mp b)]
  have b7 : ¬ r_X7_areShards sd = 0 := fun x => b ((shc_eq sd).mpr x)
  obtain ⟨S, hS1, hS, e2⟩ := (shc_iff sd).mp b
  obtain ⟨R, mn, wt1, τ, eR, hRC, hB⟩ := ref_best h1 hw hc et e2 hS1 hS b7 ld wt
  obtain ⟨ld1, sh1, K, gv, wg, ld2, τ1, _, r2, _, _, _, hJ, hK⟩ := eq_shards h1 hS1 hS hw (tests_ok (us := us) (di := di) hk) hc ld ld
  obtain ⟨j1, j2, j3, j4, _⟩ := hJ
  have j3' : ∀ f : Nat → Nat, fb_sm (fun j => f (τ1 j)) K = SM f (r_X4_testsToRun ok us di) N := fun f => by
    have := j3 f
    rw [SM_0, Nat.add_zero] at this
    exact this
  obtain ⟨t1, t2⟩ := toSet (g := g) (S := S) j2 j3' hS1
  obtain ⟨u1, u2⟩ := toSet (N := N) (g := g) (set := r_X4_testsToRun ok us di) (S := S) hRC.2.2.1 hRC.2.2.2 hS1
  have hwg : ∀ i, i < K → wg i = nI (wv g (τ1 i)) ∧ wv g (τ1 i) ≤ 100 := fun i hi => ⟨(j1 i hi).2.2.2.1, (hw (τ1 i) (j1 i hi).1).2.2.2⟩
  -- the greedy loads
  have hsd2 : ∀ s, s < S → ld2 s = nI (fb_sm (fun j => if gv (τ1 j) = nI s then wv g (τ1 j) else 0) K) ∧ fb_sm (fun j => if gv (τ1 j) = nI s then wv g (τ1 j) else 0) K < 2 ^ 31 := fun s hs => ⟨j4 s hs, by
    have := fb_sm_bound (f := fun j => if gv (τ1 j) = nI s then wv g (τ1 j) else 0) (c := 100) (n := K) (fun k hk => by
      split
      · exact (hwg k hk).2
      · omega)
    omega⟩
  obtain ⟨eg, hgb⟩ := gr_cls hsd2
  have hψ0 : ∀ t, ∃ v, v < S ∧ ∀ s, s < S → gv t = nI s → v = s := fun t => by
    by_cases c : ∃ s, s < S ∧ gv t = nI s
    · obtain ⟨s, hs, e⟩ := c
      exact ⟨s, hs, fun s' hs' e' => (nI_injI (a := s) (b := s') (by omega) (by omega)).mp (e.symm.trans e')⟩
    · exact ⟨0, hS1, fun s hs e => absurd ⟨s, hs, e⟩ c⟩
  have glim : grN (fun s => fb_sm (fun j => if gv (τ1 j) = nI s then wv g (τ1 j) else 0) K) S = GS g (r_X4_testsToRun ok us di) N S (fun t => Classical.choose (hψ0 t)) := by
    rw [← t1]
    refine grN_cong (fun s hs => ?_)
    unfold cl
    simp only [Nat.zero_add]
    refine fb_sm_cong (fun j hj => ?_)
    obtain ⟨s', hs', e⟩ := (j1 j hj).2.2.2.2
    have e3 := (Classical.choose_spec (hψ0 (τ1 j))).2 s' hs' e
    rw [e3, e]
    by_cases c : s' = s
    · rw [if_pos c, if_pos (by rw [c])]
    · rw [if_neg c, if_neg (fun x => c ((nI_injI (a := s') (b := s) (by omega) (by omega)).mp x))]
  obtain ⟨Q, eQ, m1, m2, m3⟩ := improve_ok (w := fun j => wv g (τ1 j)) hS1 hK hwg 10 0 (fun _ => 0) (grN (fun s => fb_sm (fun j => if gv (τ1 j) = nI s then wv g (τ1 j) else 0) K) S) (fun _ => 0) rfl (fun s _ => ⟨rfl, Nat.zero_le _⟩) hgb
  have eC : r_X6_bestGreatestLoad (nI N) we ok us di sd = nI Q := by
    unfold r_X6_bestGreatestLoad
    rw [if_neg b, e2, nI_clamp (by omega)]
    unfold w_X3_init_n2 w_X3_init_n1 k_X3 r_X3_leastGreatestLoad
    rw [r2, eg]
    exact eQ
  rw [eC, eR]
  congr 1
  rw [Nat.sub_zero] at m2 m3
  have hQ1 : ∀ ψ : Nat → Nat, (∀ t, ψ t < S) → Q ≤ GS g (r_X4_testsToRun ok us di) N S ψ := fun ψ hψ => by
    rw [← t1]
    exact m2 _ (fun j => hψ (τ1 j))
  have hQ2 : ∃ ψ : Nat → Nat, (∀ t, ψ t < S) ∧ Q = GS g (r_X4_testsToRun ok us di) N S ψ := by
    rcases m3 with m3 | ⟨φ, hφ, m3⟩
    · exact ⟨fun t => Classical.choose (hψ0 t), fun t => (Classical.choose_spec (hψ0 t)).1, by rw [m3]; exact glim⟩
    · obtain ⟨ψ, p1, p2⟩ := t2 φ hφ
      exact ⟨ψ, p1, by rw [m3]; exact p2⟩
  have hR1 : ∀ ψ : Nat → Nat, (∀ t, ψ t < S) → R ≤ GS g (r_X4_testsToRun ok us di) N S ψ := fun ψ hψ => by
    rw [← u1]
    exact hB.1 _ (fun j => hψ (τ j))
  have hR2 : ∃ ψ : Nat → Nat, (∀ t, ψ t < S) ∧ R = GS g (r_X4_testsToRun ok us di) N S ψ := by
    obtain ⟨φ, hφ, e⟩ := hB.2
    obtain ⟨ψ, p1, p2⟩ := u2 φ hφ
    exact ⟨ψ, p1, by rw [e]; exact p2⟩
  obtain ⟨ψ1, p1, p2⟩ := hQ2
  obtain ⟨ψ2, q1, q2⟩ := hR2
  have a := hQ1 ψ2 q1
  have b := hR1 ψ1 p1
  omega
