/-! save and restore, on the relation -/
theorem KP_get {B : Nat} {D : va_G} {sv : Nat → Option Nat} {sl zs : Nat → Int32} {tl : va_W} (K : KP B D sv sl zs tl) {j : Nat} (hj : j < 2) : (sv j = none ∧ zs j = 0 ∧ sv (1 - j) = none ∧ zs (1 - j) = 0 ∧ tl = []) ∨ (sv j = none ∧ zs j = 0 ∧ ∃ p : Nat → Nat, sv (1 - j) = some (p 0) ∧ ¬ zs (1 - j) = 0 ∧ SVX B D p tl (slc sl (1 - j))) ∨ (∃ p : Nat → Nat, sv j = some (p 0) ∧ ¬ zs j = 0 ∧ SVX B D p tl (slc sl j) ∧ sv (1 - j) = none ∧ zs (1 - j) = 0) ∨ (∃ (p p' : Nat → Nat) (w w' : va_W), sv j = some (p 0) ∧ sv (1 - j) = some (p' 0) ∧ ¬ zs j = 0 ∧ ¬ zs (1 - j) = 0 ∧ SVX B D p w (slc sl j) ∧ SVX B D p' w' (slc sl (1 - j)) ∧ (tl = w ++ w' ∨ tl = w' ++ w)) := by
  rcases K with ⟨a0, a1, b0, b1, e⟩ | ⟨j0, p, h1, h2, h3, h4, h5, h6⟩ | ⟨j0, p, p', w, w', h1, h2, h3, h4, h5, h6, h7, h8⟩
  · rcases (show j = 0 ∨ j = 1 by omega) with c | c
    · subst c
      exact Or.inl ⟨a0, b0, a1, b1, e⟩
    · subst c
      exact Or.inl ⟨a1, b1, a0, b0, e⟩
  · by_cases c : j = j0
    · subst c
      exact Or.inr (Or.inr (Or.inl ⟨p, h2, h4, h6, h3, h5⟩))
    · have e : j0 = 1 - j := by omega
      have e2 : 1 - j0 = j := by omega
      rw [e2] at h3 h5
      rw [e] at h2 h4 h6
      exact Or.inr (Or.inl ⟨h3, h5, p, h2, h4, h6⟩)
  · by_cases c : j = j0
    · subst c
      exact Or.inr (Or.inr (Or.inr ⟨p, p', w, w', h2, h3, h4, h5, h7, h8, Or.inl h6⟩))
    · have e : j0 = 1 - j := by omega
      have e2 : 1 - j0 = j := by omega
      rw [e2] at h3 h5 h8
      rw [e] at h2 h4 h7
      exact Or.inr (Or.inr (Or.inr ⟨p', p, w', w, h3, h2, h5, h4, h8, h7, Or.inr h6⟩))
theorem zs_j (zs : Nat → Int32) {j : Nat} (hj : j < 2) : ¬ w_X7_save_3 zs (nI j) j = 0 := by
  have hr : ¬ r_X7_in (nI j) 0 1 = 0 := (in7K (m := 1) (by decide)).mpr ⟨j, by omega, rfl⟩
  have ej : (nI j).toNatClampNeg = j := nI_clamp (by omega)
  unfold w_X7_save_3
  rw [if_neg hr, ej, up_e, nar1]
  decide
theorem zs_o (zs : Nat → Int32) {j : Nat} (hj : j < 2) : w_X7_save_3 zs (nI j) (1 - j) = zs (1 - j) := by
  have hr : ¬ r_X7_in (nI j) 0 1 = 0 := (in7K (m := 1) (by decide)).mpr ⟨j, by omega, rfl⟩
  have ej : (nI j).toNatClampNeg = j := nI_clamp (by omega)
  unfold w_X7_save_3
  rw [if_neg hr, ej, up_n _ _ (by omega)]
set_option maxRecDepth 20000 in
theorem v_swap {Z : BX} {D : va_G} {kc ks pc : Nat} {lv : List (Option Value)} {st : List Value} (x0 x1 : Nat) (sv : Nat → Option Nat) (q : Nat → Nat) (ct dp : Int32) (we ok : Nat → Int32) (us : Nat → Nat → Int32) (fc : Int32) (ft fn fh fe fo : Nat → Int32) (di : Int64) (r : Nat → Nat) (g sl zs ch stp od rd ld sh wt : Nat → Int32) (p : Nat → Nat) (ct3 dp3 : Int32) (we3 ok3 : Nat → Int32) (us3 : Nat → Nat → Int32) (fc3 : Int32) (ft3 fn3 fh3 fe3 fo3 : Nat → Int32) (di3 : Int64) (p4 : Nat → Nat) (ct4 dp4 : Int32) (we4 ok4 : Nat → Int32) (us4 : Nat → Nat → Int32) (fc4 : Int32) (ft4 fn4 fh4 fe4 fo4 : Nat → Int32) (di4 : Int64) (k : V Z D kc ks (BWc D x0 x1 sv q ct dp we ok us fc ft fn fh fe fo di r g sl zs ch stp od rd ld sh wt ++ (SVc D p ct3 dp3 we3 ok3 us3 fc3 ft3 fn3 fh3 fe3 fo3 di3 ++ SVc D p4 ct4 dp4 we4 ok4 us4 fc4 ft4 fn4 fh4 fe4 fo4 di4)) lv st pc) : V Z D kc ks (BWc D x0 x1 sv q ct dp we ok us fc ft fn fh fe fo di r g sl zs ch stp od rd ld sh wt ++ (SVc D p4 ct4 dp4 we4 ok4 us4 fc4 ft4 fn4 fh4 fe4 fo4 di4 ++ SVc D p ct3 dp3 we3 ok3 us3 fc3 ft3 fn3 fh3 fe3 fo3 di3)) lv st pc := v_sub [0, 1, 2, 3, 4, 5, 6, 7, 8, 9, 10, 11, 12, 13, 14, 15, 16, 17, 18, 19, 20, 21, 22, 23, 24, 25, 26, 27, 43, 44, 45, 46, 47, 48, 49, 50, 51, 52, 53, 54, 55, 56, 57, 28, 29, 30, 31, 32, 33, 34, 35, 36, 37, 38, 39, 40, 41, 42] rfl rfl k
set_option maxRecDepth 20000 in
theorem lp_save {Z : BX} {D : va_G} (E : EF Z D cL_law RL room_1 4) {b L : Nat} {xs : Nat → Int32} (SX : SXF Z b L xs) {B c i : Nat} (hi : i + 3 < L) (hc : c ≤ 520) (hB : B < 100000) (H : LPt Z D b (B + 1) (c + 1) i 856) : LPt Z D b B c i 810 := by
  intro N F x0 x1 sv q ct dp we ok us fc ft fn fh fe fo di r g sl zs ch stp od rd ld sh wt tl R K
  have R1 := Rl_B R (Nat.le_succ B)
  by_cases hb : r_X6_inRange (xs (i + 1)) 2 = 0
  · have hr : r_X7_in (xs (i + 1)) 0 1 = 0 := (part_eq (xs (i + 1))).mp hb
    have e1 : w_X7_save_2 g sl (xs (i + 1)) = sl := if_pos hr
    have e2 : w_X7_save_3 zs (xs (i + 1)) = zs := if_pos hr
    refine law_save_b E SX i hi (by omega) (by omega) x0 x1 sv q ct dp we ok us fc ft fn fh fe fo di r g sl zs ch stp od rd ld sh wt hb (show (-3 : Int32) = r_X7_save g (xs (i + 1)) from (if_pos hr).symm) ?_
    refine v_widen (c1 := 100 + 15 * (c + 1)) (s1 := 3000 + 400 * (c + 1)) (by omega) (by omega) ?_
    rw [e1, e2]
    exact H N F x0 x1 sv q ct dp we ok us fc ft fn fh fe fo di r g sl zs ch stp od rd ld sh wt tl R1 (KP_B K (Nat.le_succ B))
  · obtain ⟨j, hj, hs⟩ := (inR (v := (xs (i + 1))) (n := 2) (by decide)).mp hb
    have hr : ¬ r_X7_in (xs (i + 1)) 0 1 = 0 := fun x => hb ((part_eq (xs (i + 1))).mpr x)
    have hq : ct = r_X7_save g (xs (i + 1)) := by
      unfold r_X7_save
      rw [if_neg hr]
      exact R.ct.trans R.g0.symm
    obtain ⟨hfh, hfe⟩ := Rl_fits R
    rcases KP_get K hj with ⟨k1, k2, k3, k4, k5⟩ | ⟨k1, k2, p, k3, k4, k5⟩ | ⟨p, k1, k2, k3, k4, k5⟩ | ⟨p, p4, w3, w4, k1, k2, k3, k4, k5, k6, k7⟩
    · subst k5
      refine v_wd (List.append_nil _) ?_
      refine law_save_n0 E SX i hi (by omega) (by omega) x0 x1 sv q ct dp we ok us fc ft fn fh fe fo di r g sl zs ch stp od rd ld sh wt j hs hj k1 hfh hfe hq (fun u => ?_)
      refine v_widen (c1 := 100 + 15 * (c + 1)) (s1 := 3000 + 400 * (c + 1)) (by omega) (by omega) ?_
      refine v_wd (wd2 := BWc D x0 x1 (va_up sv j (some (u 0))) q ct dp we ok us fc ft fn fh fe fo di r g (w_X7_save_2 g sl (xs (i + 1))) (w_X7_save_3 zs (xs (i + 1))) ch stp od rd ld sh wt ++ SVc D u (w_save_n_n1_0 ct) (w_save_n_n1_1 dp) (w_save_n_n2 we) (w_save_n_n3 ok) (w_X4_copyFrom_5 us0 us) (w_save_n_n9_0 fc) (w_save_n_n10 ft) (w_save_n_n11 fn) (w_save_n_n12 fh) (w_save_n_n13 fe) (w_save_n_n14 fo) (w_save_n_n0_2 di)) rfl ?_
      refine H N F _ _ _ _ _ _ _ _ _ _ _ _ _ _ _ _ _ _ _ _ _ _ _ _ _ _ _ _ R1 ?_
      rw [hs]
      exact Or.inr (Or.inl ⟨j, u, hj, va_up_self _ _ _, (va_up_ne _ _ (by omega)).trans k3, zs_j zs hj, (zs_o zs hj).trans k4, ⟨N, F, _, _, _, _, _, _, _, _, _, _, _, _, rfl, Rl_g (Rl_B (Rl_cpy R (fun _ => 0) (fun _ => 0) us0 (fun _ => 0) (fun _ => 0) (fun _ => 0) (fun _ => 0) w_X4_init_n13) (Nat.le_succ B)) (fun k hk => save_in g sl hj hk)⟩⟩)
    · obtain ⟨N3, F3, ct3, dp3, we3, ok3, us3, fc3, ft3, fn3, fh3, fe3, fo3, di3, w3e, R3⟩ := k5
      subst w3e
      refine law_save_n1 E SX i hi (by omega) (by omega) x0 x1 sv q ct dp we ok us fc ft fn fh fe fo di r g sl zs ch stp od rd ld sh wt p ct3 dp3 we3 ok3 us3 fc3 ft3 fn3 fh3 fe3 fo3 di3 j hs hj k1 hfh hfe hq (fun u => ?_)
      refine v_widen (c1 := 100 + 15 * (c + 1)) (s1 := 3000 + 400 * (c + 1)) (by omega) (by omega) ?_
      refine v_wd (wd2 := BWc D x0 x1 (va_up sv j (some (u 0))) q ct dp we ok us fc ft fn fh fe fo di r g (w_X7_save_2 g sl (xs (i + 1))) (w_X7_save_3 zs (xs (i + 1))) ch stp od rd ld sh wt ++ (SVc D u (w_save_n_n1_0 ct) (w_save_n_n1_1 dp) (w_save_n_n2 we) (w_save_n_n3 ok) (w_X4_copyFrom_5 us0 us) (w_save_n_n9_0 fc) (w_save_n_n10 ft) (w_save_n_n11 fn) (w_save_n_n12 fh) (w_save_n_n13 fe) (w_save_n_n14 fo) (w_save_n_n0_2 di) ++ SVc D p ct3 dp3 we3 ok3 us3 fc3 ft3 fn3 fh3 fe3 fo3 di3)) rfl ?_
      refine H N F _ _ _ _ _ _ _ _ _ _ _ _ _ _ _ _ _ _ _ _ _ _ _ _ _ _ _ _ R1 ?_
      rw [hs]
      exact Or.inr (Or.inr ⟨j, u, p, _, _, hj, va_up_self _ _ _, (va_up_ne _ _ (by omega)).trans k3, zs_j zs hj, fun x => k4 ((zs_o zs hj).symm.trans x), rfl, ⟨N, F, _, _, _, _, _, _, _, _, _, _, _, _, rfl, Rl_g (Rl_B (Rl_cpy R (fun _ => 0) (fun _ => 0) us0 (fun _ => 0) (fun _ => 0) (fun _ => 0) (fun _ => 0) w_X4_init_n13) (Nat.le_succ B)) (fun k hk => save_in g sl hj hk)⟩, ⟨N3, F3, _, _, _, _, _, _, _, _, _, _, _, _, rfl, Rl_g (Rl_B R3 (Nat.le_succ B)) (fun k hk => save_out g sl hj (by omega) (by omega) hk)⟩⟩)
    · obtain ⟨N3, F3, ct3, dp3, we3, ok3, us3, fc3, ft3, fn3, fh3, fe3, fo3, di3, w3e, R3⟩ := k3
      subst w3e
      refine law_save_s0 E SX i hi (by omega) (by omega) x0 x1 sv q ct dp we ok us fc ft fn fh fe fo di r g sl zs ch stp od rd ld sh wt p ct3 dp3 we3 ok3 us3 fc3 ft3 fn3 fh3 fe3 fo3 di3 j hs hj k1 hfh hfe hq ?_
      refine v_widen (c1 := 100 + 15 * (c + 1)) (s1 := 3000 + 400 * (c + 1)) (by omega) (by omega) ?_
      refine v_wd (wd2 := BWc D x0 x1 sv q ct dp we ok us fc ft fn fh fe fo di r g (w_X7_save_2 g sl (xs (i + 1))) (w_X7_save_3 zs (xs (i + 1))) ch stp od rd ld sh wt ++ SVc D p (w_save_s_18_0 ct) (w_save_s_18_1 dp) (w_save_s_19 we we3) (w_save_s_20 ok ok3) (w_save_s_22 us us3) (w_save_s_26_0 fc) (w_save_s_27 ft ft3) (w_save_s_28 fn fn3) (w_save_s_29 fh fh3) (w_save_s_30 fe fe3) (w_save_s_31 fo fo3) (w_save_s_17_2 di)) rfl ?_
      refine H N F _ _ _ _ _ _ _ _ _ _ _ _ _ _ _ _ _ _ _ _ _ _ _ _ _ _ _ _ R1 ?_
      rw [hs]
      exact Or.inr (Or.inl ⟨j, p, hj, k1, k4, zs_j zs hj, (zs_o zs hj).trans k5, ⟨N, F, _, _, _, _, _, _, _, _, _, _, _, _, rfl, Rl_g (Rl_B (Rl_cpy R we3 ok3 us3 ft3 fn3 fh3 fe3 fo3) (Nat.le_succ B)) (fun k hk => save_in g sl hj hk)⟩⟩)
    · obtain ⟨N3, F3, ct3, dp3, we3, ok3, us3, fc3, ft3, fn3, fh3, fe3, fo3, di3, w3e, R3⟩ := k5
      obtain ⟨N4, F4, ct4, dp4, we4, ok4, us4, fc4, ft4, fn4, fh4, fe4, fo4, di4, w4e, R4⟩ := k6
      subst w3e w4e
      have core : V Z D (100 + 15 * c) (3000 + 400 * c) (BWc D x0 x1 sv q ct dp we ok us fc ft fn fh fe fo di r g sl zs ch stp od rd ld sh wt ++ (SVc D p ct3 dp3 we3 ok3 us3 fc3 ft3 fn3 fh3 fe3 fo3 di3 ++ SVc D p4 ct4 dp4 we4 ok4 us4 fc4 ft4 fn4 fh4 fe4 fo4 di4)) [some (.ref b), some (.ref x0), some (.ref (r 0)), some (.int (nI i))] [] 810 := by
        refine law_save_s1 E SX i hi (by omega) (by omega) x0 x1 sv q ct dp we ok us fc ft fn fh fe fo di r g sl zs ch stp od rd ld sh wt p ct3 dp3 we3 ok3 us3 fc3 ft3 fn3 fh3 fe3 fo3 di3 p4 ct4 dp4 we4 ok4 us4 fc4 ft4 fn4 fh4 fe4 fo4 di4 j hs hj k1 hfh hfe hq ?_
        refine v_widen (c1 := 100 + 15 * (c + 1)) (s1 := 3000 + 400 * (c + 1)) (by omega) (by omega) ?_
        refine v_wd (wd2 := BWc D x0 x1 sv q ct dp we ok us fc ft fn fh fe fo di r g (w_X7_save_2 g sl (xs (i + 1))) (w_X7_save_3 zs (xs (i + 1))) ch stp od rd ld sh wt ++ (SVc D p (w_save_s_18_0 ct) (w_save_s_18_1 dp) (w_save_s_19 we we3) (w_save_s_20 ok ok3) (w_save_s_22 us us3) (w_save_s_26_0 fc) (w_save_s_27 ft ft3) (w_save_s_28 fn fn3) (w_save_s_29 fh fh3) (w_save_s_30 fe fe3) (w_save_s_31 fo fo3) (w_save_s_17_2 di) ++ SVc D p4 ct4 dp4 we4 ok4 us4 fc4 ft4 fn4 fh4 fe4 fo4 di4)) rfl ?_
        refine H N F _ _ _ _ _ _ _ _ _ _ _ _ _ _ _ _ _ _ _ _ _ _ _ _ _ _ _ _ R1 ?_
        rw [hs]
        exact Or.inr (Or.inr ⟨j, p, p4, _, _, hj, k1, k2, zs_j zs hj, fun x => k4 ((zs_o zs hj).symm.trans x), rfl, ⟨N, F, _, _, _, _, _, _, _, _, _, _, _, _, rfl, Rl_g (Rl_B (Rl_cpy R we3 ok3 us3 ft3 fn3 fh3 fe3 fo3) (Nat.le_succ B)) (fun k hk => save_in g sl hj hk)⟩, ⟨N4, F4, _, _, _, _, _, _, _, _, _, _, _, _, rfl, Rl_g (Rl_B R4 (Nat.le_succ B)) (fun k hk => save_out g sl hj (by omega) (by omega) hk)⟩⟩)
      rcases k7 with e | e
      · subst e
        exact core
      · subst e
        exact v_swap x0 x1 sv q ct dp we ok us fc ft fn fh fe fo di r g sl zs ch stp od rd ld sh wt p ct3 dp3 we3 ok3 us3 fc3 ft3 fn3 fh3 fe3 fo3 di3 p4 ct4 dp4 we4 ok4 us4 fc4 ft4 fn4 fh4 fe4 fo4 di4 core
set_option maxRecDepth 20000 in
theorem lp_restore {Z : BX} {D : va_G} (E : EF Z D cL_law RL room_1 4) {b L : Nat} {xs : Nat → Int32} (SX : SXF Z b L xs) {B c i : Nat} (hi : i + 3 < L) (hc : c ≤ 520) (hB : B < 100000) (H : LPt Z D b (B + 1) (c + 1) i 856) : LPt Z D b B c i 833 := by
  intro N F x0 x1 sv q ct dp we ok us fc ft fn fh fe fo di r g sl zs ch stp od rd ld sh wt tl R K
  have R1 := Rl_B R (Nat.le_succ B)
  by_cases hb : r_X6_inRange (xs (i + 1)) 2 = 0
  · have hr : r_X7_in (xs (i + 1)) 0 1 = 0 := (part_eq (xs (i + 1))).mp hb
    have e1 : w_X7_restore_1 g sl zs (xs (i + 1)) = g := if_pos hr
    refine law_restore_b E SX i hi (by omega) (by omega) x0 x1 sv q ct dp we ok us fc ft fn fh fe fo di r g sl zs ch stp od rd ld sh wt hb (show (-3 : Int32) = r_X7_restore g sl zs (xs (i + 1)) from (if_pos hr).symm) ?_
    refine v_widen (c1 := 100 + 15 * (c + 1)) (s1 := 3000 + 400 * (c + 1)) (by omega) (by omega) ?_
    rw [e1]
    exact H N F x0 x1 sv q ct dp we ok us fc ft fn fh fe fo di r g sl zs ch stp od rd ld sh wt tl R1 (KP_B K (Nat.le_succ B))
  · obtain ⟨j, hj, hs⟩ := (inR (v := (xs (i + 1))) (n := 2) (by decide)).mp hb
    have hr : ¬ r_X7_in (xs (i + 1)) 0 1 = 0 := fun x => hb ((part_eq (xs (i + 1))).mpr x)
    have none : sv j = none → zs j = 0 → V Z D (100 + 15 * c) (3000 + 400 * c) (BWc D x0 x1 sv q ct dp we ok us fc ft fn fh fe fo di r g sl zs ch stp od rd ld sh wt ++ tl) [some (.ref b), some (.ref x0), some (.ref (r 0)), some (.int (nI i))] [] 833 := fun k1 k2 => by
      have hz : zs (xs (i + 1)).toNatClampNeg = 0 := by rw [hs, nI_clamp (by omega)]; exact k2
      have e1 : w_X7_restore_1 g sl zs (xs (i + 1)) = g := by
        unfold w_X7_restore_1
        rw [if_neg hr, if_pos hz]
      have hq : (-11 : Int32) = r_X7_restore g sl zs (xs (i + 1)) := by
        unfold r_X7_restore
        rw [if_neg hr, if_pos hz]
      refine law_restore_n E SX i hi (by omega) (by omega) x0 x1 sv q ct dp we ok us fc ft fn fh fe fo di r g sl zs ch stp od rd ld sh wt j hs hj k1 hq ?_
      refine v_widen (c1 := 100 + 15 * (c + 1)) (s1 := 3000 + 400 * (c + 1)) (by omega) (by omega) ?_
      rw [e1]
      exact H N F x0 x1 sv q ct dp we ok us fc ft fn fh fe fo di r g sl zs ch stp od rd ld sh wt tl R1 (KP_B K (Nat.le_succ B))
    rcases KP_get K hj with ⟨k1, k2, k3, k4, k5⟩ | ⟨k1, k2, p, k3, k4, k5⟩ | ⟨p, k1, k2, k3, k4, k5⟩ | ⟨p, p4, w3, w4, k1, k2, k3, k4, k5, k6, k7⟩
    · exact none k1 k2
    · exact none k1 k2
    · obtain ⟨N3, F3, ct3, dp3, we3, ok3, us3, fc3, ft3, fn3, fh3, fe3, fo3, di3, w3e, R3⟩ := k3
      subst w3e
      obtain ⟨hfh, hfe⟩ := Rl_fits R3
      have hq : ct3 = r_X7_restore g sl zs (xs (i + 1)) := by
        have h0 := rest_at g sl zs hj k2 0
        unfold w_X7_restore_1 at h0
        have ej : (nI j).toNatClampNeg = j := nI_clamp (by omega)
        rw [hs] at hr ⊢
        unfold r_X7_restore
        rw [if_neg hr, ej, if_neg k2, if_pos (by decide)] at h0
        rw [if_neg hr, ej, if_neg k2, h0]
        exact R3.ct.trans R3.g0.symm
      refine law_restore_s0 E SX i hi (by omega) (by omega) x0 x1 sv q ct dp we ok us fc ft fn fh fe fo di r g sl zs ch stp od rd ld sh wt p ct3 dp3 we3 ok3 us3 fc3 ft3 fn3 fh3 fe3 fo3 di3 j hs hj k1 hfh hfe hq ?_
      refine v_widen (c1 := 100 + 15 * (c + 1)) (s1 := 3000 + 400 * (c + 1)) (by omega) (by omega) ?_
      refine v_wd (wd2 := BWc D x0 x1 sv q (w_restore_s_3_0 ct3) (w_restore_s_3_1 dp3) (w_restore_s_4 we we3) (w_restore_s_5 ok ok3) (w_restore_s_7 us us3) (w_restore_s_11_0 fc3) (w_restore_s_12 ft ft3) (w_restore_s_13 fn fn3) (w_restore_s_14 fh fh3) (w_restore_s_15 fe fe3) (w_restore_s_16 fo fo3) (w_restore_s_2_2 di3) r (w_X7_restore_1 g sl zs (xs (i + 1))) sl zs ch stp od rd ld sh wt ++ SVc D p ct3 dp3 we3 ok3 us3 fc3 ft3 fn3 fh3 fe3 fo3 di3) rfl ?_
      exact H N3 F3 _ _ _ _ _ _ _ _ _ _ _ _ _ _ _ _ _ _ _ _ _ _ _ _ _ _ _ _ (by rw [hs]; exact Rl_g (Rl_B (Rl_cpy R3 we ok us ft fn fh fe fo) (Nat.le_succ B)) (fun k hk => (rest_at g sl zs hj k2 k).trans (if_pos hk))) (KP_B K (Nat.le_succ B))
    · obtain ⟨N3, F3, ct3, dp3, we3, ok3, us3, fc3, ft3, fn3, fh3, fe3, fo3, di3, w3e, R3⟩ := k5
      obtain ⟨N4, F4, ct4, dp4, we4, ok4, us4, fc4, ft4, fn4, fh4, fe4, fo4, di4, w4e, R4⟩ := k6
      subst w3e w4e
      have core : V Z D (100 + 15 * c) (3000 + 400 * c) (BWc D x0 x1 sv q ct dp we ok us fc ft fn fh fe fo di r g sl zs ch stp od rd ld sh wt ++ (SVc D p ct3 dp3 we3 ok3 us3 fc3 ft3 fn3 fh3 fe3 fo3 di3 ++ SVc D p4 ct4 dp4 we4 ok4 us4 fc4 ft4 fn4 fh4 fe4 fo4 di4)) [some (.ref b), some (.ref x0), some (.ref (r 0)), some (.int (nI i))] [] 833 := by
        obtain ⟨hfh, hfe⟩ := Rl_fits R3
        have hq : ct3 = r_X7_restore g sl zs (xs (i + 1)) := by
          have h0 := rest_at g sl zs hj k3 0
          unfold w_X7_restore_1 at h0
          have ej : (nI j).toNatClampNeg = j := nI_clamp (by omega)
          rw [hs] at hr ⊢
          unfold r_X7_restore
          rw [if_neg hr, ej, if_neg k3, if_pos (by decide)] at h0
          rw [if_neg hr, ej, if_neg k3, h0]
          exact R3.ct.trans R3.g0.symm
        refine law_restore_s1 E SX i hi (by omega) (by omega) x0 x1 sv q ct dp we ok us fc ft fn fh fe fo di r g sl zs ch stp od rd ld sh wt p ct3 dp3 we3 ok3 us3 fc3 ft3 fn3 fh3 fe3 fo3 di3 p4 ct4 dp4 we4 ok4 us4 fc4 ft4 fn4 fh4 fe4 fo4 di4 j hs hj k1 hfh hfe hq ?_
        refine v_widen (c1 := 100 + 15 * (c + 1)) (s1 := 3000 + 400 * (c + 1)) (by omega) (by omega) ?_
        refine v_wd (wd2 := BWc D x0 x1 sv q (w_restore_s_3_0 ct3) (w_restore_s_3_1 dp3) (w_restore_s_4 we we3) (w_restore_s_5 ok ok3) (w_restore_s_7 us us3) (w_restore_s_11_0 fc3) (w_restore_s_12 ft ft3) (w_restore_s_13 fn fn3) (w_restore_s_14 fh fh3) (w_restore_s_15 fe fe3) (w_restore_s_16 fo fo3) (w_restore_s_2_2 di3) r (w_X7_restore_1 g sl zs (xs (i + 1))) sl zs ch stp od rd ld sh wt ++ (SVc D p ct3 dp3 we3 ok3 us3 fc3 ft3 fn3 fh3 fe3 fo3 di3 ++ SVc D p4 ct4 dp4 we4 ok4 us4 fc4 ft4 fn4 fh4 fe4 fo4 di4)) rfl ?_
        exact H N3 F3 _ _ _ _ _ _ _ _ _ _ _ _ _ _ _ _ _ _ _ _ _ _ _ _ _ _ _ _ (by rw [hs]; exact Rl_g (Rl_B (Rl_cpy R3 we ok us ft fn fh fe fo) (Nat.le_succ B)) (fun k hk => (rest_at g sl zs hj k3 k).trans (if_pos hk))) (Or.inr (Or.inr ⟨j, p, p4, _, _, hj, k1, k2, k3, k4, rfl, ⟨N3, F3, _, _, _, _, _, _, _, _, _, _, _, _, rfl, Rl_B R3 (Nat.le_succ B)⟩, ⟨N4, F4, _, _, _, _, _, _, _, _, _, _, _, _, rfl, Rl_B R4 (Nat.le_succ B)⟩⟩))
      rcases k7 with e | e
      · subst e
        exact core
      · subst e
        exact v_swap x0 x1 sv q ct dp we ok us fc ft fn fh fe fo di r g sl zs ch stp od rd ld sh wt p ct3 dp3 we3 ok3 us3 fc3 ft3 fn3 fh3 fe3 fo3 di3 p4 ct4 dp4 we4 ok4 us4 fc4 ft4 fn4 fh4 fe4 fo4 di4 core
