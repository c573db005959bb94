/-! the reference: all ways -/
def dg (S w j : Nat) : Nat := (w / S ^ j) % S
theorem enc {S : Nat} (hS : 1 ≤ S) : ∀ (n : Nat) (φ : Nat → Nat), (∀ j, φ j < S) → ∃ w, w < S ^ n ∧ ∀ j, j < n → dg S w j = φ j
  | 0, φ, _ => ⟨0, by simp, fun j hj => absurd hj (Nat.not_lt_zero _)⟩
  | n + 1, φ, h => by
    obtain ⟨w, h1, h2⟩ := enc hS n (fun j => φ (j + 1)) (fun j => h (j + 1))
    have h0 := h 0
    refine ⟨φ 0 + S * w, ?_, fun j hj => ?_⟩
    · rw [Nat.pow_succ]
      have : S * (w + 1) ≤ S * S ^ n := Nat.mul_le_mul_left S h1
      rw [Nat.mul_add, Nat.mul_one] at this
      rw [Nat.mul_comm (S ^ n) S]
      omega
    · cases j with
      | zero =>
        unfold dg
        rw [Nat.pow_zero, Nat.div_one, Nat.add_mul_mod_self_left, Nat.mod_eq_of_lt h0]
      | succ j =>
        have := h2 j (by omega)
        unfold dg at this ⊢
        rw [Nat.pow_succ, Nat.mul_comm (S ^ j) S, ← Nat.div_div_eq_div_mul, Nat.add_mul_div_left _ _ hS, Nat.div_eq_of_lt h0, Nat.zero_add]
        exact this
theorem dg_lt {S : Nat} (hS : 1 ≤ S) (w j : Nat) : dg S w j < S := Nat.mod_lt _ hS
theorem cl_bd {w φ : Nat → Nat} {n s : Nat} (hw : ∀ j, j < n → w j ≤ 100) : cl w φ (fun _ => 0) 0 n s ≤ n * 100 := by
  unfold cl
  have := fb_sm_bound (f := fun j => if φ (0 + j) = s then w (0 + j) else 0) (c := 100) (n := n) (fun k hk => by
    split
    · rw [Nat.zero_add]
      exact hw k hk
    · omega)
  show 0 + fb_sm (fun j => if φ (0 + j) = s then w (0 + j) else 0) n ≤ n * 100
  omega
theorem ways_by {S mn : Nat} (hS1 : 1 ≤ S) (hS : S ≤ 4) (hmn : mn ≤ 10) {wt : Nat → Int32} {w : Nat → Nat} (hw : ∀ j, j < mn → wt j = nI (w j) ∧ w j ≤ 100) (ld : Nat → Int32) (way : Nat) : r_X7_greatestBy ld wt way mn S = nI (grN (cl w (dg S way) (fun _ => 0) 0 mn) S) ∧ grN (cl w (dg S way) (fun _ => 0) 0 mn) S ≤ 1000 := by
  have hbd : ∀ n s, n ≤ mn → cl w (dg S way) (fun _ => 0) 0 n s ≤ 1000 := fun n s hn => by
    have := cl_bd (w := w) (φ := dg S way) (n := n) (s := s) (fun j hj => (hw j (by omega)).2)
    omega
  have k1 := foldN_i (f := s_X7_greatestBy_29 wt S) (n := mn) (fun j (z : Nat × (Nat → Int32)) => z.1 = way / S ^ j ∧ ∀ s, s < S → z.2 s = nI (cl w (dg S way) (fun _ => 0) 0 j s)) (by
    rintro j ⟨lf, l2⟩ hj ⟨q1, q2⟩
    simp only at q1 q2
    subst q1
    refine ⟨?_, fun s hs => ?_⟩
    · show way / S ^ j / S = _
      rw [Nat.div_div_eq_div_mul, Nat.pow_succ]
    · show upd l2 (dg S way j) (l2 (dg S way j) + wt j) s = _
      have e : cl w (dg S way) (fun _ => 0) 0 (j + 1) s = cl w (dg S way) (fun _ => 0) 0 j s + (if dg S way j = s then w j else 0) := by
        unfold cl
        simp only [fb_sm_succ, Nat.zero_add]
      rw [e]
      by_cases c : s = dg S way j
      · rw [c, show upd l2 (dg S way j) (l2 (dg S way j) + wt j) (dg S way j) = l2 (dg S way j) + wt j from if_pos rfl, q2 _ (dg_lt hS1 way j), (hw j hj).1, nI_add, if_pos rfl]
      · rw [show upd l2 (dg S way j) (l2 (dg S way j) + wt j) s = l2 s from if_neg c, q2 s hs, if_neg (fun x => c x.symm), Nat.add_zero]) (a := (way, foldN s_X7_greatestBy_3 4 0 ld)) ⟨by show way = way / S ^ 0; rw [Nat.pow_zero, Nat.div_one], fun s hs => by
      show foldN s_X7_greatestBy_3 4 0 ld s = _
      rw [updfold (f := s_X7_greatestBy_3) (v := fun _ => 0) (fun i a _ => rfl) ld s, if_pos (by omega)]
      rfl⟩
  have k2 := foldN_i (f := s_X7_greatestBy_72 ld wt way mn S) (n := S) (fun i (a : Int32) => a = nI (grN (cl w (dg S way) (fun _ => 0) 0 mn) i) ∧ grN (cl w (dg S way) (fun _ => 0) 0 mn) i ≤ 1000) (by
    rintro i a hi ⟨e, hb⟩
    unfold s_X7_greatestBy_72
    rw [k1.2 i hi, e]
    have h1 := hbd mn i (Nat.le_refl _)
    have := nI_leI (a := cl w (dg S way) (fun _ => 0) 0 mn i) (b := grN (cl w (dg S way) (fun _ => 0) 0 mn) i) (by omega) (by omega)
    show (if nI (cl w (dg S way) (fun _ => 0) 0 mn i) ≤ nI (grN (cl w (dg S way) (fun _ => 0) 0 mn) i) then _ else _) = nI (max (grN (cl w (dg S way) (fun _ => 0) 0 mn) i) (cl w (dg S way) (fun _ => 0) 0 mn i)) ∧ max (grN (cl w (dg S way) (fun _ => 0) 0 mn) i) (cl w (dg S way) (fun _ => 0) 0 mn i) ≤ 1000
    by_cases c : cl w (dg S way) (fun _ => 0) 0 mn i ≤ grN (cl w (dg S way) (fun _ => 0) 0 mn) i
    · rw [if_pos (this.mpr c), Nat.max_eq_left c]
      exact ⟨rfl, hb⟩
    · rw [if_neg (fun x => c (this.mp x)), Nat.max_eq_right (by omega)]
      exact ⟨rfl, h1⟩) (a := 0) ⟨rfl, Nat.zero_le _⟩
  exact k2
/-- a number that is the least greatest load of the weights w over S shards -/
def IsB (w : Nat → Nat) (S n R : Nat) : Prop := (∀ φ : Nat → Nat, (∀ j, φ j < S) → R ≤ grN (cl w φ (fun _ => 0) 0 n) S) ∧ ∃ φ : Nat → Nat, (∀ j, φ j < S) ∧ R = grN (cl w φ (fun _ => 0) 0 n) S
theorem ways_all {S mn : Nat} (hS1 : 1 ≤ S) {w : Nat → Nat} {R : Nat} (h1 : ∀ way, way < max 1 (S ^ mn / S) → R ≤ grN (cl w (dg S way) (fun _ => 0) 0 mn) S) (h2 : ∃ way, R = grN (cl w (dg S way) (fun _ => 0) 0 mn) S) : IsB w S mn R := by
  refine ⟨fun φ hφ => ?_, ?_⟩
  · cases mn with
    | zero =>
      have := h1 0 (by omega)
      exact Nat.le_trans this (Nat.le_of_eq (grN_cong (fun s _ => rfl)))
    | succ m =>
      have e : S ^ (m + 1) / S = S ^ m := by rw [Nat.pow_succ, Nat.mul_div_cancel _ hS1]
      have hb : ∀ j, sw 0 (φ m) (φ j) < S := fun j => sw_lt hS1 (hφ m) (hφ j)
      obtain ⟨way, w1, w2⟩ := enc hS1 m (fun j => sw 0 (φ m) (φ j)) hb
      have h3 := h1 way (by rw [e]; omega)
      have top : dg S way m = sw 0 (φ m) (φ m) := by
        unfold dg
        rw [Nat.div_eq_of_lt w1, Nat.zero_mod]
        unfold sw
        by_cases c : φ m = 0
        · rw [if_pos c, c]
        · rw [if_neg c, if_pos rfl]
      have e2 : grN (cl w (dg S way) (fun _ => 0) 0 (m + 1)) S = grN (cl w φ (fun _ => 0) 0 (m + 1)) S := by
        rw [← grN_sw (L := cl w φ (fun _ => 0) 0 (m + 1)) (a := 0) (b := φ m) hS1 (hφ m)]
        refine grN_cong (fun s _ => ?_)
        rw [← cl_sw (L := fun _ => 0) (fun _ => rfl) s]
        refine cl_cong (fun j hj => ?_)
        rw [Nat.zero_add]
        by_cases c : j = m
        · rw [c]
          exact top
        · exact w2 j (by omega)
      rw [e2] at h3
      exact h3
  · obtain ⟨way, h⟩ := h2
    exact ⟨dg S way, dg_lt hS1 way, h⟩
def RC (N : Nat) (g : Nat → Int32) (set : Int32) (i mn : Nat) (τ : Nat → Nat) (wt : Nat → Int32) : Prop := mn = fb_ct (bt set) i ∧ (∀ j, j < mn → τ j < i ∧ bt set (τ j) = true ∧ wt j = nI (wv g (τ j))) ∧ (∀ j j', j < j' → j' < mn → τ j ≠ τ j') ∧ ∀ h : Nat → Nat, fb_sm (fun j => h (τ j)) mn = fb_sm (fun t => if bt set t = true then h t else 0) i
theorem ref_collect {N S : Nat} {we g : Nat → Int32} (hN : N ≤ 20) (hw : RW N we g) {set : Int32} {ch : Nat → Int32} (es : r_X7_affectedTests g ch N = set) {sd : Int32} (hsd : sd.toNatClampNeg = S) (wt : Nat → Int32) : ∃ mn wt1 τ, foldN (s_X7_bestGreatestLoad_23 g ch sd N) N 0 (0, 1, wt) = (mn, S ^ mn, wt1) ∧ RC N g set N mn τ wt1 := by
  have key := foldN_i (f := s_X7_bestGreatestLoad_23 g ch sd N) (n := N) (fun i (z : Nat × Nat × (Nat → Int32)) => z.2.1 = S ^ z.1 ∧ ∃ τ, RC N g set i z.1 τ z.2.2) (by
    rintro i ⟨mn, wy, wt1⟩ hi ⟨q1, τ, c1, c2, c3, c4⟩
    simp only at q1 c1 c2 c3 c4
    have s1 := sh_1 (x := set) (j := i) (by omega)
    have x : s_X7_bestGreatestLoad_23 g ch sd N i (mn, wy, wt1) = if ((set >>> ((nI i) &&& 31)) &&& 1) = 1 then (mn + 1, wy * S, upd wt1 mn (nI (wv g i))) else (mn, wy, wt1) := by
      simp only [s_X7_bestGreatestLoad_23]
      rw [es, hsd, show r_X7_weightOf g i = nI (wv g i) from (hw i hi).2.1]
    rw [x]
    cases hb : bt set i with
    | false =>
      rw [if_neg (fun y => by rw [s1.mp y] at hb; exact absurd hb (by decide))]
      refine ⟨q1, τ, ?_, fun j hj => ?_, c3, fun h => ?_⟩
      · rw [fb_ct_succ, hb]
        simpa using c1
      · obtain ⟨a, b⟩ := c2 j hj
        exact ⟨by omega, b⟩
      · rw [fb_sm_succ, hb]
        simpa using c4 h
    | true =>
      rw [if_pos (s1.mpr hb)]
      have et : ∀ j, j < mn → (if j = mn then i else τ j) = τ j := fun j hj => if_neg (by omega)
      refine ⟨by show wy * S = S ^ (mn + 1); rw [q1, Nat.pow_succ], fun j => if j = mn then i else τ j, ?_, fun j hj => ?_, fun j j' hjj hj => ?_, fun h => ?_⟩
      · rw [fb_ct_succ, hb]
        simpa using c1
      · dsimp only
        by_cases c : j = mn
        · rw [if_pos c, c]
          exact ⟨by omega, hb, if_pos rfl⟩
        · rw [if_neg c, show upd wt1 mn (nI (wv g i)) j = wt1 j from if_neg c]
          obtain ⟨a, b⟩ := c2 j (by have : j < mn + 1 := hj; omega)
          exact ⟨by omega, b⟩
      · have hj : j' < mn + 1 := hj
        dsimp only
        rw [et j (by omega)]
        by_cases c : j' = mn
        · rw [if_pos c]
          have := (c2 j (by omega)).1
          omega
        · rw [if_neg c]
          exact c3 j j' hjj (by omega)
      · show fb_sm (fun j => h (if j = mn then i else τ j)) (mn + 1) = _
        rw [fb_sm_succ, fb_sm_succ, fb_sm_cong (f := fun j => h (if j = mn then i else τ j)) (g := fun j => h (τ j)) (fun k hk => by rw [if_neg (by omega)]), c4 h]
        simp [hb]) (a := (0, 1, wt)) ⟨rfl, fun _ => 0, rfl, fun j hj => absurd hj (Nat.not_lt_zero _), fun j j' _ hj => absurd hj (Nat.not_lt_zero _), fun h => rfl⟩
  obtain ⟨q, τ, hR⟩ := key
  refine ⟨(foldN (s_X7_bestGreatestLoad_23 g ch sd N) N 0 (0, 1, wt)).1, (foldN (s_X7_bestGreatestLoad_23 g ch sd N) N 0 (0, 1, wt)).2.2, τ, ?_, hR⟩
  rw [← q]
theorem ref_best {N S : Nat} {we g : Nat → Int32} (hN : N ≤ 20) (hw : RW N we g) {set : Int32} (hc : fb_ct (bt set) N ≤ 10) {ch : Nat → Int32} (es : r_X7_affectedTests g ch N = set) {sd : Int32} (hsd : sd = nI S) (hS1 : 1 ≤ S) (hS : S ≤ 4) (hsh : ¬ r_X7_areShards sd = 0) (ld wt : Nat → Int32) : ∃ R mn wt1 τ, r_X7_bestGreatestLoad g ch ld wt sd N = nI R ∧ RC N g set N mn τ wt1 ∧ IsB (fun j => wv g (τ j)) S mn R := by
  have ec : sd.toNatClampNeg = S := by rw [hsd]; exact nI_clamp (by omega)
  obtain ⟨mn, wt1, τ, ef, hR⟩ := ref_collect hN hw es ec wt
  have hmn : mn ≤ 10 := by rw [hR.1]; exact hc
  have hwt : ∀ j, j < mn → wt1 j = nI (wv g (τ j)) ∧ wv g (τ j) ≤ 100 := fun j hj => by
    obtain ⟨a, _, b⟩ := hR.2.1 j hj
    exact ⟨b, (hw (τ j) (by omega)).2.2.2⟩
  have by_ : ∀ ld way, r_X7_greatestBy ld wt1 way mn S = nI (grN (cl (fun j => wv g (τ j)) (dg S way) (fun _ => 0) 0 mn) S) ∧ grN (cl (fun j => wv g (τ j)) (dg S way) (fun _ => 0) 0 mn) S ≤ 1000 := fun ld way => ways_by hS1 hS hmn hwt ld way
  have key := foldN_ind (f := s_X7_bestGreatestLoad_83 g ch wt sd N) (M := max 1 (S ^ mn / S)) (fun i (z : Int32 × (Nat → Int32)) => ∃ R, z.1 = nI R ∧ R ≤ 1000 ∧ (∀ way, way < i → R ≤ grN (cl (fun j => wv g (τ j)) (dg S way) (fun _ => 0) 0 mn) S) ∧ ∃ way, R = grN (cl (fun j => wv g (τ j)) (dg S way) (fun _ => 0) 0 mn) S) (by
    rintro i ⟨be, ld1⟩ hi ⟨R, r1, r2, r3, r4⟩
    simp only at r1
    subst r1
    have x : s_X7_bestGreatestLoad_83 g ch wt sd N i (nI R, ld1) = if nI R ≤ r_X7_greatestBy ld1 wt1 i mn S then (nI R, w_X7_greatestBy_1 ld1 wt1 i mn S) else (r_X7_greatestBy ld1 wt1 i mn S, w_X7_greatestBy_1 ld1 wt1 i mn S) := by
      simp only [s_X7_bestGreatestLoad_83]
      rw [ef, ec]
    obtain ⟨e, hb⟩ := by_ ld1 i
    rw [x, e]
    have := nI_leI (a := R) (b := grN (cl (fun j => wv g (τ j)) (dg S i) (fun _ => 0) 0 mn) S) (by omega) (by omega)
    by_cases c : R ≤ grN (cl (fun j => wv g (τ j)) (dg S i) (fun _ => 0) 0 mn) S
    · rw [if_pos (this.mpr c)]
      refine ⟨R, rfl, r2, fun way hway => ?_, r4⟩
      rcases Nat.lt_or_ge way i with y | y
      · exact r3 way y
      · rw [show way = i by omega]
        exact c
    · rw [if_neg (fun y => c (this.mp y))]
      refine ⟨_, rfl, hb, fun way hway => ?_, i, rfl⟩
      rcases Nat.lt_or_ge way i with y | y
      · have := r3 way y
        omega
      · rw [show way = i by omega]
        exact Nat.le_refl _) (max 1 (S ^ mn / S) - 1) 1 (r_X7_greatestBy ld wt1 0 mn S, w_X7_greatestBy_1 ld wt1 0 mn S) (by omega) ⟨_, (by_ ld 0).1, (by_ ld 0).2, fun way hway => by rw [show way = 0 by omega]; exact Nat.le_refl _, 0, rfl⟩
  obtain ⟨R, r1, r2, r3, r4⟩ := key
  refine ⟨R, mn, wt1, τ, ?_, hR, ways_all hS1 (fun way hway => r3 way (by omega)) r4⟩
  unfold r_X7_bestGreatestLoad
  rw [if_neg hsh, ef, ec]
  exact r1
