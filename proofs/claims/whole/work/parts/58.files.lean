/-! the files -/
theorem rng_b {v c d : Int32} {m : Nat} (hm : m < 2 ^ 30) (hc : c = nI (m + 1)) (hd : d = nI m) : (r_X6_inRange v c = 0 ∧ r_X7_in v 0 d = 0) ∨ ∃ n, n ≤ m ∧ v = nI n ∧ v.toNatClampNeg = n ∧ ¬ r_X6_inRange v c = 0 ∧ ¬ r_X7_in v 0 d = 0 := by
  subst hc hd
  have i1 : ¬ r_X6_inRange v (nI (m + 1)) = 0 ↔ ∃ k, k < m + 1 ∧ v = nI k := inR (by omega)
  have i2 : ¬ r_X7_in v 0 (nI m) = 0 ↔ ∃ k, k ≤ m ∧ v = nI k := in7K (by omega)
  by_cases c : r_X6_inRange v (nI (m + 1)) = 0
  · refine Or.inl ⟨c, Classical.byContradiction fun x => ?_⟩
    obtain ⟨k, hk, e⟩ := i2.mp x
    exact i1.mpr ⟨k, by omega, e⟩ c
  · obtain ⟨k, hk, e⟩ := i1.mp c
    exact Or.inr ⟨k, by omega, e, by rw [e]; exact nI_clamp (by omega), c, i2.mpr ⟨k, by omega, e⟩⟩
theorem fl_is {N F : Nat} {fc : Int32} {ft fn fh fe fo g : Nat → Int32} (h : FL N F fc ft fn fh fe fo g) (hN : N ≤ 20) {f : Nat} (hf : f < F) (he : fe f = 1) : ¬ r_X7_isFile g (nI f) = 0 := by
  have hF := h.hF
  rcases fl_has hN h (nI f) with ⟨a, b⟩ | ⟨k, t, hk, ht, e1, e2, e3, e4, e5, e6, e7⟩
  · refine absurd a ?_
    unfold r_X1_has
    rw [if_neg (by rw [h.cf]; exact (inR (by omega)).mpr ⟨f, hf, rfl⟩), nI_clamp (by omega), he]
    decide
  · exact e7
theorem fl_free {N F : Nat} {fc : Int32} {ft fn fh fe fo g : Nat → Int32} (h : FL N F fc ft fn fh fe fo g) (hN : N ≤ 20) {n : Nat} (hn : n < 100) (hu : r_X1_isInUse fc fn fe fo (nI n) n = 0) {f : Nat} (hf : f < F) (he : fe f = 1) {m : Nat} (hm : fn f = nI m) : m ≠ n := fun e => by
  subst e
  refine (named_iff g (nI m) F).mpr ⟨f, hf, fl_is h hN hf he, ?_⟩ ((fl_use hN h hn).mp hu)
  rw [← h.nm f hf]
  exact hm
theorem fl_name {N F : Nat} {fc : Int32} {ft fn fh fe fo g : Nat → Int32} (h : FL N F fc ft fn fh fe fo g) (hN : N ≤ 20) {k n : Nat} (hk : k < F) (hn : n < 100) (hu : r_X1_isInUse fc fn fe fo (nI n) n = 0) : FL N F fc ft (upd fn k (nI n)) fh fe (upd fo n (nI k)) (w_X7_giveName_1 g (nI k) (nI n) k n) := by
  have hF := h.hF
  have G1 : ∀ j, j ≠ 443 + 3 * k + 2 → j ≠ 563 + n → w_X7_giveName_1 g (nI k) (nI n) k n j = g j := fun j a b => (up_n _ _ b).trans (up_n _ _ a)
  have G2 : w_X7_giveName_1 g (nI k) (nI n) k n (443 + 3 * k + 2) = nI n := (up_n _ _ (by omega)).trans (up_e _ _ _)
  have G3 : w_X7_giveName_1 g (nI k) (nI n) k n (563 + n) = nI (k + 1) := (up_e _ _ _).trans (nI_1 k)
  refine ⟨hF, h.cf, (G1 2 (by omega) (by omega)).trans h.g2, fun f hf => ?_, fun f hf => ?_, fun f hf => ?_, fun m hm => ?_, fun f hf he => ?_, h.bh, h.be⟩
  · rw [G1 (443 + 3 * f) (by omega) (by omega)]
    exact h.ex f hf
  · rw [G1 (443 + 3 * f + 1) (by omega) (by omega)]
    exact h.hd f hf
  · by_cases c : f = k
    · rw [c, G2, up_e]
    · rw [G1 (443 + 3 * f + 2) (by omega) (by omega), up_n _ _ c]
      exact h.nm f hf
  · by_cases c : m = n
    · exact Or.inr ⟨k, hk, by rw [c]; exact G3, by rw [c]; exact up_e _ _ _⟩
    · rw [G1 (563 + m) (by omega) (by omega), up_n _ _ c]
      exact h.ow m hm
  · by_cases c : f = k
    · exact ⟨n, hn, by rw [c]; exact up_e _ _ _, by rw [c]; exact up_e _ _ _⟩
    · obtain ⟨m, hm, m1, m2⟩ := h.un f hf he
      exact ⟨m, hm, by rw [up_n _ _ c]; exact m1, by rw [up_n _ _ (fl_free h hN hn hu hf he m1)]; exact m2⟩
theorem fl_add {N F : Nat} {fc : Int32} {ft fn fh fe fo g : Nat → Int32} (h : FL N F fc ft fn fh fe fo g) (hN : N ≤ 20) {t n : Nat} (hF : F < 40) (ht : t < N) (hn : n < 100) (hu : r_X1_isInUse fc fn fe fo (nI n) n = 0) {hv : Int32} (hh : hv = 0 ∨ hv = 1) : FL N (F + 1) (nI F + 1) (upd ft F (nI t)) (upd fn F (nI n)) (upd fh F hv) (upd fe F 1) (upd fo n (nI F)) (w_X7_giveName_1 (upd (upd (upd g 2 (nI F + 1)) (443 + 3 * F) (nI t)) (443 + 3 * F + 1) hv) (nI F) (nI n) F n) := by
  generalize hG : w_X7_giveName_1 (upd (upd (upd g 2 (nI F + 1)) (443 + 3 * F) (nI t)) (443 + 3 * F + 1) hv) (nI F) (nI n) F n = G
  have G1 : ∀ j, j ≠ 2 → j ≠ 443 + 3 * F → j ≠ 443 + 3 * F + 1 → j ≠ 443 + 3 * F + 2 → j ≠ 563 + n → G j = g j := fun j a b c d e => by
    rw [← hG]
    exact (up_n _ _ e).trans ((up_n _ _ d).trans ((up_n _ _ c).trans ((up_n _ _ b).trans (up_n _ _ a))))
  have G2 : G 2 = nI (F + 1) := by
    rw [← hG]
    exact (up_n _ _ (by omega)).trans ((up_n _ _ (by omega)).trans ((up_n _ _ (by omega)).trans ((up_n _ _ (by omega)).trans ((up_e _ _ _).trans (nI_1 F)))))
  have G3 : G (443 + 3 * F) = nI t := by
    rw [← hG]
    exact (up_n _ _ (by omega)).trans ((up_n _ _ (by omega)).trans ((up_n _ _ (by omega)).trans (up_e _ _ _)))
  have G4 : G (443 + 3 * F + 1) = hv := by
    rw [← hG]
    exact (up_n _ _ (by omega)).trans ((up_n _ _ (by omega)).trans (up_e _ _ _))
  have G5 : G (443 + 3 * F + 2) = nI n := by
    rw [← hG]
    exact (up_n _ _ (by omega)).trans (up_e _ _ _)
  have G6 : G (563 + n) = nI (F + 1) := by
    rw [← hG]
    exact (up_e _ _ _).trans (nI_1 F)
  refine ⟨by omega, nI_1 F, G2, fun f hf => ?_, fun f hf => ?_, fun f hf => ?_, fun m hm => ?_, fun f hf he => ?_, fun i hi => ?_, fun i hi => ?_⟩
  · by_cases c : f = F
    · rw [c, G3, up_e, up_e]
      exact Or.inr ⟨rfl, t, ht, rfl, rfl⟩
    · rw [G1 (443 + 3 * f) (by omega) (by omega) (by omega) (by omega) (by omega), up_n _ _ c, up_n _ _ c]
      exact h.ex f (by omega)
  · by_cases c : f = F
    · rw [c, G4, up_e]
      rcases hh with e | e
      · rw [e]
        exact Or.inl ⟨rfl, by decide⟩
      · rw [e]
        exact Or.inr ⟨rfl, rfl⟩
    · rw [G1 (443 + 3 * f + 1) (by omega) (by omega) (by omega) (by omega) (by omega), up_n _ _ c]
      exact h.hd f (by omega)
  · by_cases c : f = F
    · rw [c, G5, up_e]
    · rw [G1 (443 + 3 * f + 2) (by omega) (by omega) (by omega) (by omega) (by omega), up_n _ _ c]
      exact h.nm f (by omega)
  · by_cases c : m = n
    · exact Or.inr ⟨F, by omega, by rw [c]; exact G6, by rw [c]; exact up_e _ _ _⟩
    · rw [G1 (563 + m) (by omega) (by omega) (by omega) (by omega) (by omega), up_n _ _ c]
      rcases h.ow m hm with a | ⟨f, a, b⟩
      · exact Or.inl a
      · exact Or.inr ⟨f, by omega, b⟩
  · by_cases c : f = F
    · exact ⟨n, hn, by rw [c]; exact up_e _ _ _, by rw [c]; exact up_e _ _ _⟩
    · rw [up_n _ _ c] at he
      obtain ⟨m, hm, m1, m2⟩ := h.un f (by omega) he
      exact ⟨m, hm, by rw [up_n _ _ c]; exact m1, by rw [up_n _ _ (fl_free h hN hn hu (by omega) he m1)]; exact m2⟩
  · by_cases c : i = F
    · rw [c, up_e]
      exact hh
    · rw [up_n _ _ c]
      exact h.bh i hi
  · by_cases c : i = F
    · rw [c, up_e]
      exact Or.inr rfl
    · rw [up_n _ _ c]
      exact h.be i hi
theorem fl_move {N F : Nat} {fc : Int32} {ft fn fh fe fo g : Nat → Int32} (h : FL N F fc ft fn fh fe fo g) {k t : Nat} (hk : k < F) (ht : t < N) (he : fe k = 1) : FL N F fc (upd ft k (nI t)) fn fh fe fo (upd g (443 + 3 * k) (nI t)) := by
  have hF := h.hF
  refine ⟨hF, h.cf, (up_n _ _ (by omega)).trans h.g2, fun f hf => ?_, fun f hf => ?_, fun f hf => ?_, fun m hm => ?_, h.un, h.bh, h.be⟩
  · by_cases c : f = k
    · rw [c, up_e, up_e]
      exact Or.inr ⟨he, t, ht, rfl, rfl⟩
    · rw [up_n _ _ c, up_n _ _ (show 443 + 3 * f ≠ 443 + 3 * k by omega)]
      exact h.ex f hf
  · rw [up_n _ _ (show 443 + 3 * f + 1 ≠ 443 + 3 * k by omega)]
    exact h.hd f hf
  · rw [up_n _ _ (show 443 + 3 * f + 2 ≠ 443 + 3 * k by omega)]
    exact h.nm f hf
  · rw [up_n _ _ (show 563 + m ≠ 443 + 3 * k by omega)]
    exact h.ow m hm
theorem fl_del {N F : Nat} {fc : Int32} {ft fn fh fe fo g : Nat → Int32} (h : FL N F fc ft fn fh fe fo g) {k : Nat} (hk : k < F) : FL N F fc ft fn fh (upd fe k 0) fo (upd g (443 + 3 * k) (-1)) := by
  have hF := h.hF
  refine ⟨hF, h.cf, (up_n _ _ (by omega)).trans h.g2, fun f hf => ?_, fun f hf => ?_, fun f hf => ?_, fun m hm => ?_, fun f hf he => ?_, h.bh, fun i hi => ?_⟩
  · by_cases c : f = k
    · rw [c, up_e, up_e]
      exact Or.inl ⟨rfl, by decide⟩
    · rw [up_n _ _ c, up_n _ _ (show 443 + 3 * f ≠ 443 + 3 * k by omega)]
      exact h.ex f hf
  · rw [up_n _ _ (show 443 + 3 * f + 1 ≠ 443 + 3 * k by omega)]
    exact h.hd f hf
  · rw [up_n _ _ (show 443 + 3 * f + 2 ≠ 443 + 3 * k by omega)]
    exact h.nm f hf
  · rw [up_n _ _ (show 563 + m ≠ 443 + 3 * k by omega)]
    exact h.ow m hm
  · by_cases c : f = k
    · rw [c, up_e] at he
      exact absurd he (by decide)
    · rw [up_n _ _ c] at he
      exact h.un f hf he
  · by_cases c : i = k
    · rw [c, up_e]
      exact Or.inl rfl
    · rw [up_n _ _ c]
      exact h.be i hi
theorem fl_T {N F : Nat} {fc : Int32} {ft fn fh fe fo g : Nat → Int32} (h : FL N F fc ft fn fh fe fo g) (hN : N ≤ 20) : ∀ k, k < F → ¬ g (443 + 3 * k) < 0 → g (443 + 3 * k) = nI (g (443 + 3 * k)).toNatClampNeg ∧ (g (443 + 3 * k)).toNatClampNeg < 20 := fun k hk hn => by
  rcases h.ex k hk with ⟨a, b⟩ | ⟨a, t, ht, b, d⟩
  · exact absurd b hn
  · rw [d, nI_clamp (by omega)]
    exact ⟨rfl, by omega⟩
theorem rel_edit {B N F : Nat} {ct dp : Int32} {we ok : Nat → Int32} {us : Nat → Nat → Int32} {fc : Int32} {ft fn fh fe fo : Nat → Int32} {di : Int64} {g : Nat → Int32} (R : Rl B N F ct dp we ok us fc ft fn fh fe fo di g) (f : Int32) : r_X6_edit fc ft fe f = r_X7_edit g f ∧ Rl B N F ct dp we ok us fc ft fn fh fe fo (w_X6_edit_1_2 fc ft fh fe di f) (w_X7_edit_1 g f) := by
  have hN := R.lk.1
  have hF := R.fl.hF
  unfold r_X6_edit r_X7_edit w_X6_edit_1_2 w_X7_edit_1
  rcases fl_has hN R.fl f with ⟨a, b⟩ | ⟨k, t, hk, ht, e1, e2, e3, e4, e5, e6, e7⟩
  · rw [if_pos a, if_pos b, if_pos a, if_pos b]
    exact ⟨rfl, R⟩
  · have et : (nI t).toNatClampNeg = t := nI_clamp (by omega)
    rw [if_neg e6, if_neg e7, if_neg e6, if_neg e7, e2, e5, et]
    refine ⟨?_, ?_⟩
    · rw [tch_n _ (by omega), e4, e5]
    · exact Rl_file R (fun j hj _ => tch_n _ (by omega)) (tch hN R.rd e4 ht (R.fl.hd k hk)) (FL_c R.fl (tch_n _ (by omega)) (fun j _ hj => tch_n _ hj))
theorem rel_rename {B N F : Nat} {ct dp : Int32} {we ok : Nat → Int32} {us : Nat → Nat → Int32} {fc : Int32} {ft fn fh fe fo : Nat → Int32} {di : Int64} {g : Nat → Int32} (R : Rl B N F ct dp we ok us fc ft fn fh fe fo di g) (f nm : Int32) : r_X6_rename fc fn fe fo f nm = r_X7_rename g f nm F ∧ Rl B N F ct dp we ok us fc ft (w_X6_rename_12 fc fn fe fo f nm) fh fe (w_X6_rename_15 fc fn fe fo f nm) (w_X6_rename_1_2 fc ft fn fh fe fo di f nm) (w_X7_rename_1 g f nm F) := by
  have hN := R.lk.1
  have hF := R.fl.hF
  unfold r_X6_rename r_X7_rename w_X6_rename_12 w_X6_rename_15 w_X6_rename_1_2 w_X7_rename_1
  rcases fl_has hN R.fl f with ⟨a, b⟩ | ⟨k, t, hk, ht, e1, e2, e3, e4, e5, e6, e7⟩
  · simp only [if_pos a, if_pos b]
    exact ⟨trivial, R⟩
  · simp only [if_neg e6, if_neg e7, e2]
    rcases rng_b (v := nm) (c := 100) (d := 99) (m := 99) (by decide) (by decide) (by decide) with ⟨a, b⟩ | ⟨n, hn, n1, n2, n3, n4⟩
    · simp only [if_pos a, if_pos b]
      exact ⟨trivial, R⟩
    · simp only [if_neg n3, if_neg n4, n2]
      subst n1
      by_cases c : r_X1_isInUse fc fn fe fo (nI n) n = 0
      · simp only [if_pos c, if_pos ((fl_use hN R.fl (by omega)).mp c)]
        refine ⟨R.fl.nm k hk, ?_⟩
        subst e1
        have FG := fl_name R.fl hN hk (n := n) (by omega) c
        have G1 : ∀ j, j ≠ 443 + 3 * k + 2 → j ≠ 563 + n → w_X7_giveName_1 g (nI k) (nI n) k n j = g j := fun j a b => (up_n _ _ b).trans (up_n _ _ a)
        have RG : RD N di (w_X7_giveName_1 g (nI k) (nI n) k n) := RD_c R.rd (fun j a b => G1 j (by omega) (by omega))
        have hh := FG.hd k hk
        have et : (nI t).toNatClampNeg = t := nI_clamp (by omega)
        rw [e5, et]
        rcases hh with ⟨x, y⟩ | ⟨x, y⟩
        · rw [if_pos x, if_neg y]
          exact Rl_file R (fun j a b => G1 j (by omega) (by omega)) RG FG
        · rw [if_neg (by rw [x]; decide), if_pos y]
          exact Rl_file R (fun j a b => (tch_n _ (by omega)).trans (G1 j (by omega) (by omega))) (tch hN RG e4 ht (FG.hd k hk)) (FL_c FG (tch_n _ (by omega)) (fun j _ hj => tch_n _ hj))
      · simp only [if_neg c, if_neg (fun x => c ((fl_use hN R.fl (by omega)).mpr x))]
        exact ⟨trivial, R⟩
theorem rel_deleteFile {B N F : Nat} {ct dp : Int32} {we ok : Nat → Int32} {us : Nat → Nat → Int32} {fc : Int32} {ft fn fh fe fo : Nat → Int32} {di : Int64} {g : Nat → Int32} (R : Rl B N F ct dp we ok us fc ft fn fh fe fo di g) (f : Int32) : r_X6_deleteFile fc fn fe f = r_X7_deleteFile g f ∧ Rl B N F ct dp we ok us fc ft fn fh (w_X6_deleteFile_14 fc fe f) fo (w_X6_deleteFile_1_2 fc ft fh fe di f) (w_X7_deleteFile_1 g f) := by
  have hN := R.lk.1
  have hF := R.fl.hF
  unfold r_X6_deleteFile r_X7_deleteFile w_X6_deleteFile_14 w_X6_deleteFile_1_2 w_X7_deleteFile_1
  rcases fl_has hN R.fl f with ⟨a, b⟩ | ⟨k, t, hk, ht, e1, e2, e3, e4, e5, e6, e7⟩
  · simp only [if_pos a, if_pos b]
    exact ⟨trivial, R⟩
  · have et : (nI t).toNatClampNeg = t := nI_clamp (by omega)
    simp only [if_neg e6, if_neg e7, e2, e5, et, nar0]
    refine ⟨?_, ?_⟩
    · rw [up_n _ _ (by omega), tch_n _ (by omega)]
      exact R.fl.nm k hk
    · have U : ∀ j, j ≠ 443 + 3 * k → upd (w_X7_touch_1 g t k) (443 + 3 * k) (-1) j = w_X7_touch_1 g t k j := fun j hj => up_n _ _ hj
      exact Rl_file R (fun j hj _ => (U j (by omega)).trans (tch_n _ (by omega))) (RD_c (tch hN R.rd e4 ht (R.fl.hd k hk)) (fun j a b => U j (by omega))) (fl_del (FL_c R.fl (tch_n _ (by omega)) (fun j _ hj => tch_n _ hj)) hk)
theorem rel_targetOf {B N F : Nat} {ct dp : Int32} {we ok : Nat → Int32} {us : Nat → Nat → Int32} {fc : Int32} {ft fn fh fe fo : Nat → Int32} {di : Int64} {g : Nat → Int32} (R : Rl B N F ct dp we ok us fc ft fn fh fe fo di g) (f : Int32) : r_X6_targetOf fc ft fe f = r_X7_targetOf g f := by
  unfold r_X6_targetOf r_X7_targetOf
  rcases fl_has R.lk.1 R.fl f with ⟨a, b⟩ | ⟨k, t, hk, ht, e1, e2, e3, e4, e5, e6, e7⟩
  · rw [if_pos a, if_pos b]
  · rw [if_neg e6, if_neg e7, e2, e4, e5]
theorem rel_nameOf {B N F : Nat} {ct dp : Int32} {we ok : Nat → Int32} {us : Nat → Nat → Int32} {fc : Int32} {ft fn fh fe fo : Nat → Int32} {di : Int64} {g : Nat → Int32} (R : Rl B N F ct dp we ok us fc ft fn fh fe fo di g) (f : Int32) : r_X6_nameOf fc fn fe f = r_X7_nameOf g f := by
  unfold r_X6_nameOf r_X7_nameOf
  rcases fl_has R.lk.1 R.fl f with ⟨a, b⟩ | ⟨k, t, hk, ht, e1, e2, e3, e4, e5, e6, e7⟩
  · rw [if_pos a, if_pos b]
  · rw [if_neg e6, if_neg e7, e2]
    exact R.fl.nm k hk
theorem rel_follow {B N F : Nat} {ct dp : Int32} {we ok : Nat → Int32} {us : Nat → Nat → Int32} {fc : Int32} {ft fn fh fe fo : Nat → Int32} {di : Int64} {g : Nat → Int32} (R : Rl B N F ct dp we ok us fc ft fn fh fe fo di g) (nm : Int32) : r_X6_follow fc fe fo nm = r_X7_follow g nm := by
  have hF := R.fl.hF
  unfold r_X6_follow r_X7_follow
  rcases rng_b (v := nm) (c := 100) (d := 99) (m := 99) (by decide) (by decide) (by decide) with ⟨a, b⟩ | ⟨n, hn, n1, n2, n3, n4⟩
  · rw [if_pos a, if_pos b]
  · rw [if_neg n3, if_neg n4, n2]
    rcases R.fl.ow n (by omega) with ⟨a, b⟩ | ⟨f, hf, a, b⟩
    · rw [a, b]
      rcases fl_has R.lk.1 R.fl (-10) with ⟨x, y⟩ | ⟨k, t, hk, ht, e1, e2⟩
      · rcases fl_has R.lk.1 R.fl (0 - 1) with ⟨x', y'⟩ | ⟨k, t, hk, ht, e1, e2⟩
        · rw [if_pos x, if_pos y']
        · exact absurd (show nI k < 0 by rw [← e1]; decide) (nI_nn (by omega))
      · exact absurd e1.symm (nI_nm (by omega))
    · rw [a, b, nI_pred]
      rcases fl_has R.lk.1 R.fl (nI f) with ⟨x, y⟩ | ⟨k, t, hk, ht, e1, e2, e3, e4, e5, e6, e7⟩
      · rw [if_pos x, if_pos y]
      · rw [if_neg e6, if_neg e7]
theorem rel_move {B N F : Nat} {ct dp : Int32} {we ok : Nat → Int32} {us : Nat → Nat → Int32} {fc : Int32} {ft fn fh fe fo : Nat → Int32} {di : Int64} {g : Nat → Int32} (R : Rl B N F ct dp we ok us fc ft fn fh fe fo di g) (f t' : Int32) : r_X6_move ct fc ft fe f t' = r_X7_move g f t' ∧ Rl B N F ct dp we ok us fc (w_X6_move_11 ct fc ft fe f t') fn fh fe fo (w_X6_move_1_2 ct fc ft fh fe di f t') (w_X7_move_1 g f t') := by
  have hN := R.lk.1
  have hF := R.fl.hF
  unfold r_X6_move r_X7_move w_X6_move_11 w_X6_move_1_2 w_X7_move_1
  rcases fl_has hN R.fl f with ⟨a, b⟩ | ⟨k, t, hk, ht, e1, e2, e3, e4, e5, e6, e7⟩
  · simp only [if_pos a, if_pos b]
    exact ⟨trivial, R⟩
  · have et : (nI t).toNatClampNeg = t := nI_clamp (by omega)
    simp only [if_neg e6, if_neg e7, e2, e5, e4, et]
    have hh := has_eq R.g0 hN t'
    have hi := isT_iff R.g0 hN t'
    rw [← R.ct] at hh
    by_cases c : r_X5_has ct t' = 0
    · simp only [if_pos c, if_pos (hh.mp c)]
      exact ⟨trivial, R⟩
    · simp only [if_neg c, if_neg (fun x => c (hh.mpr x))]
      obtain ⟨u, hu, rfl⟩ := hi.mp (fun x => c (hh.mpr x))
      have eu : (nI u).toNatClampNeg = u := nI_clamp (by omega)
      by_cases c2 : nI t = nI u
      · simp only [if_pos c2]
        exact ⟨trivial, R⟩
      · simp only [if_neg c2, eu]
        refine ⟨trivial, ?_⟩
        have R1 := tch hN R.rd e4 ht (R.fl.hd k hk)
        have F1 : FL N F fc ft fn fh fe fo (w_X7_touch_1 g t k) := FL_c R.fl (tch_n _ (by omega)) (fun j _ hj => tch_n _ hj)
        have R2 := tch hN R1 (ft := upd ft k (nI u)) (up_e _ _ _) hu (F1.hd k hk)
        have F2 : FL N F fc ft fn fh fe fo (w_X7_touch_1 (w_X7_touch_1 g t k) u k) := FL_c F1 (tch_n _ (by omega)) (fun j _ hj => tch_n _ hj)
        have U : ∀ j, j ≠ 443 + 3 * k → upd (w_X7_touch_1 (w_X7_touch_1 g t k) u k) (443 + 3 * k) (nI u) j = w_X7_touch_1 (w_X7_touch_1 g t k) u k j := fun j hj => up_n _ _ hj
        exact Rl_file R (fun j hj _ => (U j (by omega)).trans ((tch_n _ (by omega)).trans (tch_n _ (by omega)))) (RD_c R2 (fun j a b => U j (by omega))) (fl_move F2 hk hu e3)
theorem rel_addFile {B N F : Nat} {ct dp : Int32} {we ok : Nat → Int32} {us : Nat → Nat → Int32} {fc : Int32} {ft fn fh fe fo : Nat → Int32} {di : Int64} {g : Nat → Int32} (R : Rl B N F ct dp we ok us fc ft fn fh fe fo di g) (t' hd nm : Int32) (hh0 : hd = 0 ∨ hd = 1) : r_X6_addFile ct fc fn fe fo t' nm = r_X7_addFile g t' nm F ∧ ∃ F', Rl B N F' ct dp we ok us (w_X6_addFile_10_0 ct fc fn fe fo t' nm) (w_X6_addFile_11 ct fc ft fn fe fo t' nm F) (w_X6_addFile_12 ct fc fn fe fo t' nm F) (w_X6_addFile_13 ct fc fn fh fe fo t' hd nm F) (w_X6_addFile_14 ct fc fn fe fo t' nm F) (w_X6_addFile_15 ct fc fn fe fo t' nm) (w_X6_addFile_1_2 ct fc ft fn fh fe fo di t' hd nm F) (w_X7_addFile_1 g t' hd nm F) := by
  have hN := R.lk.1
  have hF := R.fl.hF
  unfold r_X6_addFile r_X7_addFile w_X6_addFile_10_0 w_X6_addFile_11 w_X6_addFile_12 w_X6_addFile_13 w_X6_addFile_14 w_X6_addFile_15 w_X6_addFile_1_2 w_X7_addFile_1
  have hh := has_eq R.g0 hN t'
  have hi := isT_iff R.g0 hN t'
  rw [← R.ct] at hh
  by_cases c : r_X5_has ct t' = 0
  · simp only [if_pos c, if_pos (hh.mp c)]
    exact ⟨trivial, F, R⟩
  · simp only [if_neg c, if_neg (fun x => c (hh.mpr x))]
    obtain ⟨u, hu, rfl⟩ := hi.mp (fun x => c (hh.mpr x))
    have eu : (nI u).toNatClampNeg = u := nI_clamp (by omega)
    rcases rng_b (v := nm) (c := 100) (d := 99) (m := 99) (by decide) (by decide) (by decide) with ⟨a, b⟩ | ⟨n, hn, n1, n2, n3, n4⟩
    · simp only [if_pos a, if_pos b]
      exact ⟨trivial, F, R⟩
    · simp only [if_neg n3, if_neg n4, n2]
      subst n1
      by_cases c1 : r_X1_isInUse fc fn fe fo (nI n) n = 0
      · simp only [if_pos c1, if_pos ((fl_use hN R.fl (by omega)).mp c1)]
        by_cases c2 : F < 40
        · have l1 : fc < 40 := by rw [R.fl.cf]; exact nI_lt (b := 40) c2 (by decide)
          have l2 : ¬ g 2 = 40 := by rw [R.fl.g2]; exact fun x => absurd ((nI_injI (b := 40) (by omega) (by decide)).mp x) (by omega)
          have key : ∀ hv : Int32, hv = 0 ∨ hv = 1 → vp_nar .boolean hd = hv → Rl B N (F + 1) ct dp we ok us (w_X1_append_0_0 fc) (w_X1_append_1 ft (nI u) F) (w_X1_append_2 fn (nI n) F) (w_X1_append_3 fh hd F) (w_X1_append_4 fe F) (w_X1_append_5 fc fo n) (w_X4_touchBy_0_2 (w_X1_append_1 ft (nI u) F) (w_X1_append_3 fh hd F) di F) (w_X7_touch_1 (w_X7_giveName_1 (upd (upd (upd g 2 ((g 2) + 1)) (443 + 3 * F) (nI u)) ((443 + 3 * F) + 1) hv) (g 2) (nI n) F n) u F) := fun hv h1 h2 => by
            have FG := fl_add R.fl hN c2 hu (n := n) (by omega) c1 h1
            unfold w_X1_append_0_0 w_X1_append_1 w_X1_append_2 w_X1_append_3 w_X1_append_4 w_X1_append_5 w_X1_giveName_2 w_X1_giveName_5
            rw [h2, nar1, R.fl.cf, R.fl.g2]
            generalize hG : w_X7_giveName_1 (upd (upd (upd g 2 (nI F + 1)) (443 + 3 * F) (nI u)) (443 + 3 * F + 1) hv) (nI F) (nI n) F n = G at FG ⊢
            have G1 : ∀ j, j ≠ 2 → j ≠ 443 + 3 * F → j ≠ 443 + 3 * F + 1 → j ≠ 443 + 3 * F + 2 → j ≠ 563 + n → G j = g j := fun j a b c d e => by
              rw [← hG]
              exact (up_n _ _ e).trans ((up_n _ _ d).trans ((up_n _ _ c).trans ((up_n _ _ b).trans (up_n _ _ a))))
            have RG : RD N di G := RD_c R.rd (fun j a b => G1 j (by omega) (by omega) (by omega) (by omega) (by omega))
            exact Rl_file R (fun j a b => (tch_n _ (by omega)).trans (G1 j b (by omega) (by omega) (by omega) (by omega))) (tch hN RG (up_e _ _ _) hu (FG.hd F (by omega))) (FL_c FG (tch_n _ (by omega)) (fun j _ hj => tch_n _ hj))
          simp only [if_pos l1, if_neg l2, eu]
          refine ⟨R.fl.cf.trans R.fl.g2.symm, F + 1, ?_⟩
          rcases hh0 with e | e
          · rw [if_pos e]
            exact key 0 (Or.inl rfl) (by rw [e]; exact nar0)
          · rw [if_neg (by rw [e]; decide)]
            exact key 1 (Or.inr rfl) (by rw [e]; exact nar1)
        · have l1 : ¬ fc < 40 := by rw [R.fl.cf]; exact nI_nlt (b := 40) (by omega) (by omega)
          have l2 : g 2 = 40 := by rw [R.fl.g2, show F = 40 by omega]; rfl
          simp only [if_neg l1, if_pos l2]
          exact ⟨trivial, F, R⟩
      · simp only [if_neg c1, if_neg (fun x => c1 ((fl_use hN R.fl (by omega)).mpr x))]
        exact ⟨trivial, F, R⟩
