/-! ChangeImpact: the public methods that make no objects -/
theorem nle_lt {x y : Int32} {a b : Nat} (hx : x = nI a) (hy : y = nI b) (hb : b < 2 ^ 31) (h : ¬ x ≤ y) : b < a := by
  rcases Nat.lt_or_ge b a with q | q
  · exact q
  · exact absurd (by rw [hx, hy]; exact nI_le q hb) h
theorem lt_lt {x y : Int32} {a b : Nat} (hx : x = nI a) (hy : y = nI b) (ha : a < 2 ^ 31) (h : x < y) : a < b := by
  rcases Nat.lt_or_ge a b with q | q
  · exact q
  · exact absurd h (by rw [hx, hy]; exact nI_nlt q ha)
theorem kb_use {us : Nat → Nat → Int32} {a : Int32} {kb : Nat} (h : ¬ r_X5_kindBetween us a kb = -10) : r_X5_kindBetween us a kb = nI (r_X5_kindBetween us a kb).toNatClampNeg ∧ (r_X5_kindBetween us a kb).toNatClampNeg < 4 := by
  have key : ∀ n i : Nat, i + n = 4 → ∀ r, r = s_X5_kindBetween_2 us a kb n i → r = -10 ∨ ∃ k, k < 4 ∧ r = nI k := by
    intro n
    induction n with
    | zero => intro i hi r hr; exact Or.inl hr
    | succ n ih =>
      intro i hi r hr
      unfold s_X5_kindBetween_2 at hr
      have h1 := ih (i + 1) (by omega) _ rfl
      have h2 : ∃ k, k < 4 ∧ nI i = nI k := ⟨i, by omega, rfl⟩
      repeat' split at hr
      all_goals subst hr
      all_goals first | exact h1 | exact Or.inr h2
  rcases key 4 0 rfl (r_X5_kindBetween us a kb) rfl with e | ⟨k, hk, e⟩
  · exact absurd e h
  · rw [e, nI_clamp (by omega)]
    exact ⟨rfl, hk⟩
def r_X6_addTarget (ct : Int32) (ok : Nat → Int32) (kd : Int32) (w : Int32) : Int32 := if (r_X6_inRange kd 3) = 0 then (-3) else if w < 1 then (-3) else if w ≤ 100 then (if 20 ≤ ct then (-8) else if kd = 2 then (if (r_X5_testCount ok) < 10 then (r_X5_append ct) else (-8)) else (r_X5_append ct)) else (-3)
def w_X6_addTarget_2_0 (ct : Int32) (ok : Nat → Int32) (kd : Int32) (w : Int32) : Int32 := if (r_X6_inRange kd 3) = 0 then ct else if w < 1 then ct else if w ≤ 100 then (if 20 ≤ ct then ct else if kd = 2 then (if (r_X5_testCount ok) < 10 then (w_X5_append_0_0 ct) else ct) else (w_X5_append_0_0 ct)) else ct
def w_X6_addTarget_3 (ct : Int32) (we : Nat → Int32) (ok : Nat → Int32) (kd : Int32) (w : Int32) (N : Nat) : Nat → Int32 := if (r_X6_inRange kd 3) = 0 then we else if w < 1 then we else if w ≤ 100 then (if 20 ≤ ct then we else if kd = 2 then (if (r_X5_testCount ok) < 10 then (w_X5_append_1 we w N) else we) else (w_X5_append_1 we w N)) else we
def w_X6_addTarget_4 (ct : Int32) (ok : Nat → Int32) (kd : Int32) (w : Int32) : Nat → Int32 := if (r_X6_inRange kd 3) = 0 then ok else if w < 1 then ok else if w ≤ 100 then (if 20 ≤ ct then ok else if kd = 2 then (if (r_X5_testCount ok) < 10 then (w_X5_append_2 ct ok kd.toNatClampNeg) else ok) else (w_X5_append_2 ct ok kd.toNatClampNeg)) else ok
set_option maxRecDepth 20000 in
/-- X6_addTarget -/
theorem c_X6_addTarget (D : va_G) (x0 : Nat) (x1 : Nat) (q : Nat → Nat) (ct : Int32) (dp : Int32) (we : Nat → Int32) (ok : Nat → Int32) (us : Nat → Nat → Int32) (fc : Int32) (ft : Nat → Int32) (fn : Nat → Int32) (fh : Nat → Int32) (fe : Nat → Int32) (fo : Nat → Int32) (di : Int64) (kd : Int32) (w : Int32) (N : Nat) (hct : ct = nI N) (hN : N ≤ 20) (l : Launch) : Ct l yX6_addTarget cX6_addTarget 4 (some .int) (rmM 2 43 0 0) D [.ref x0, .int kd, .int w] [(x0, .inr (6, [.ref (q 0), .ref x1])), (q 0, .inr (4, [.ref (q 1), .ref (q 9), .long di])), (q 1, .inr (5, [.int ct, .int dp, .ref (q 2), .ref (q 3), .ref (q 4)])), (q 2, aI D 20 we), (q 3, aI D 3 ok), (q 4, aG D 4 (gU q 5)), (q 5, aI D 20 (us 0)), (q 6, aI D 20 (us 1)), (q 7, aI D 20 (us 2)), (q 8, aI D 20 (us 3)), (q 9, .inr (1, [.int fc, .ref (q 10), .ref (q 11), .ref (q 12), .ref (q 13), .ref (q 14)])), (q 10, aI D 40 ft), (q 11, aI D 40 fn), (q 12, aZ D 40 fh), (q 13, aZ D 40 fe), (q 14, aI D 100 fo)] (QI1 D (r_X6_addTarget ct ok kd w) [(x0, .inr (6, [.ref (q 0), .ref x1])), (q 0, .inr (4, [.ref (q 1), .ref (q 9), .long di])), (q 1, .inr (5, [.int (w_X6_addTarget_2_0 ct ok kd w), .int dp, .ref (q 2), .ref (q 3), .ref (q 4)])), (q 2, aI D 20 (w_X6_addTarget_3 ct we ok kd w N)), (q 3, aI D 3 (w_X6_addTarget_4 ct ok kd w)), (q 4, aG D 4 (gU q 5)), (q 5, aI D 20 (us 0)), (q 6, aI D 20 (us 1)), (q 7, aI D 20 (us 2)), (q 8, aI D 20 (us 3)), (q 9, .inr (1, [.int fc, .ref (q 10), .ref (q 11), .ref (q 12), .ref (q 13), .ref (q 14)])), (q 10, aI D 40 ft), (q 11, aI D 40 fn), (q 12, aZ D 40 fh), (q 13, aZ D 40 fe), (q 14, aI D 100 fo)]) := by
  refine Ct.ofV 1 (lv0 := [some (.ref x0), some (.int kd), some (.int w), none]) (by decide) rfl rfl (fun Z E F => ?_)
  refine v_aload_n E dX6_addTarget_0 rfl ?_
  refine v_get E dX6_addTarget_1 (ci := 6) rfl iwX6 0 rfl 0 rfl fl_X6_12 rfl ?_
  refine v_get E dX6_addTarget_4 (ci := 4) rfl iwX4 1 rfl 0 rfl fl_X6_20 rfl ?_
  refine v_astore_n E dX6_addTarget_7 rfl rfl ?_
  refine v_iload_n E dX6_addTarget_8 rfl ?_
  refine v_iconst E dX6_addTarget_9 (v := 3) (by decide) ?_
  refine v_cS_i E dX6_addTarget_10 (c_X6_inRange D kd 3) cs_X6_24 rfl rfl rfl (Nat.le_of_ble_eq_true rfl) [] rfl rfl ⟨Nat.le_of_ble_eq_true rfl, Nat.le_of_ble_eq_true rfl⟩ ?_
  refine v_if_eq E 27 dX6_addTarget_13 (by decide) (fun c_13 => ?_) (fun c_13 => ?_)
  · refine v_bipush E dX6_addTarget_27 (v := -3) (by decide) ?_
    exact v_iret E F dX6_addTarget_29 rfl rfl () (by simp only [r_X6_addTarget, if_pos c_13]) (by simp only [w_X6_addTarget_2_0, w_X6_addTarget_3, w_X6_addTarget_4, if_pos c_13] <;> rfl) (Nat.le_of_ble_eq_true rfl) (Nat.le_of_ble_eq_true rfl)
  · refine v_iload_n E dX6_addTarget_16 rfl ?_
    refine v_iconst E dX6_addTarget_17 (v := 1) (by decide) ?_
    refine v_icmp_lt E 27 dX6_addTarget_18 (by decide) (fun c_18 => ?_) (fun c_18 => ?_)
    · refine v_bipush E dX6_addTarget_27 (v := -3) (by decide) ?_
      exact v_iret E F dX6_addTarget_29 rfl rfl () (by simp only [r_X6_addTarget, if_neg c_13, if_pos c_18]) (by simp only [w_X6_addTarget_2_0, w_X6_addTarget_3, w_X6_addTarget_4, if_neg c_13, if_pos c_18] <;> rfl) (Nat.le_of_ble_eq_true rfl) (Nat.le_of_ble_eq_true rfl)
    · refine v_iload_n E dX6_addTarget_21 rfl ?_
      refine v_bipush E dX6_addTarget_22 (v := 100) (by decide) ?_
      refine v_icmp_le E 30 dX6_addTarget_24 (by decide) (fun c_24 => ?_) (fun c_24 => ?_)
      · refine v_aload_n E dX6_addTarget_30 rfl ?_
        refine v_get E dX6_addTarget_31 (ci := 5) rfl iwX5 2 rfl 0 rfl fl_X6_28 rfl ?_
        refine v_bipush E dX6_addTarget_34 (v := 20) (by decide) ?_
        refine v_icmp_ge E 53 dX6_addTarget_36 (by decide) (fun c_36 => ?_) (fun c_36 => ?_)
        · refine v_bipush E dX6_addTarget_53 (v := -8) (by decide) ?_
          exact v_iret E F dX6_addTarget_55 rfl rfl () (by simp only [r_X6_addTarget, if_neg c_13, if_neg c_18, if_pos c_24, if_pos c_36]) (by simp only [w_X6_addTarget_2_0, w_X6_addTarget_3, w_X6_addTarget_4, if_neg c_13, if_neg c_18, if_pos c_24, if_pos c_36] <;> rfl) (Nat.le_of_ble_eq_true rfl) (Nat.le_of_ble_eq_true rfl)
        · refine v_iload_n E dX6_addTarget_39 rfl ?_
          refine v_iconst E dX6_addTarget_40 (v := 2) (by decide) ?_
          refine v_icmp_ne E 56 dX6_addTarget_41 (by decide) (fun c_41 => ?_) (fun c_41 => ?_)
          · obtain ⟨hkd1, hkd2⟩ := inR_use (F := 3) (v := kd) (show (3 : Int32) = nI 3 by decide) (by omega) c_13
            have hN2 : N < 20 := nle_lt (show (20 : Int32) = nI 20 by decide) hct (by omega) c_36
            refine v_aload_n E dX6_addTarget_56 rfl ?_
            refine v_iload_n E dX6_addTarget_57 rfl ?_
            refine v_iload_n E dX6_addTarget_58 rfl ?_
            refine v_cV_iU E dX6_addTarget_59 (c_X5_append D q ct dp we ok us kd w kd.toNatClampNeg N hkd1 (by omega) hct hN2) cs_X6_38 rfl rfl rfl (Nat.le_of_ble_eq_true rfl) 2 rfl rfl [2, 3, 4, 5, 6, 7, 8, 9] rfl rfl ⟨Nat.le_of_ble_eq_true rfl, Nat.le_of_ble_eq_true rfl⟩ [q 1, q 2, q 3, q 4, q 5, q 6, q 7, q 8] rfl rfl ?_
            refine v_wd (wd2 := [(x0, .inr (6, [.ref (q 0), .ref x1])), (q 0, .inr (4, [.ref (q 1), .ref (q 9), .long di])), (q 1, .inr (5, [.int (w_X5_append_0_0 ct), .int dp, .ref (q 2), .ref (q 3), .ref (q 4)])), (q 2, aI D 20 (w_X5_append_1 we w N)), (q 3, aI D 3 (w_X5_append_2 ct ok kd.toNatClampNeg)), (q 4, aG D 4 (gU q 5)), (q 5, aI D 20 (us 0)), (q 6, aI D 20 (us 1)), (q 7, aI D 20 (us 2)), (q 8, aI D 20 (us 3)), (q 9, .inr (1, [.int fc, .ref (q 10), .ref (q 11), .ref (q 12), .ref (q 13), .ref (q 14)])), (q 10, aI D 40 ft), (q 11, aI D 40 fn), (q 12, aZ D 40 fh), (q 13, aZ D 40 fe), (q 14, aI D 100 fo)]) rfl ?_
            exact v_iret E F dX6_addTarget_62 rfl rfl () (by simp only [r_X6_addTarget, if_neg c_13, if_neg c_18, if_pos c_24, if_neg c_36, if_neg c_41]) (by simp only [w_X6_addTarget_2_0, w_X6_addTarget_3, w_X6_addTarget_4, if_neg c_13, if_neg c_18, if_pos c_24, if_neg c_36, if_neg c_41] <;> rfl) (Nat.le_of_ble_eq_true rfl) (Nat.le_of_ble_eq_true rfl)
          · refine v_aload_n E dX6_addTarget_44 rfl ?_
            refine v_cV_i E dX6_addTarget_45 (c_X5_testCount D q ct dp we ok us) cs_X6_34 rfl rfl rfl (Nat.le_of_ble_eq_true rfl) 2 rfl rfl [2, 3, 4, 5, 6, 7, 8, 9] rfl rfl ⟨Nat.le_of_ble_eq_true rfl, Nat.le_of_ble_eq_true rfl⟩ ?_
            refine v_bipush E dX6_addTarget_48 (v := 10) (by decide) ?_
            refine v_icmp_lt E 56 dX6_addTarget_50 (by decide) (fun c_50 => ?_) (fun c_50 => ?_)
            · obtain ⟨hkd1, hkd2⟩ := inR_use (F := 3) (v := kd) (show (3 : Int32) = nI 3 by decide) (by omega) c_13
              have hN2 : N < 20 := nle_lt (show (20 : Int32) = nI 20 by decide) hct (by omega) c_36
              refine v_aload_n E dX6_addTarget_56 rfl ?_
              refine v_iload_n E dX6_addTarget_57 rfl ?_
              refine v_iload_n E dX6_addTarget_58 rfl ?_
              refine v_cV_iU E dX6_addTarget_59 (c_X5_append D q ct dp we ok us kd w kd.toNatClampNeg N hkd1 (by omega) hct hN2) cs_X6_38 rfl rfl rfl (Nat.le_of_ble_eq_true rfl) 2 rfl rfl [2, 3, 4, 5, 6, 7, 8, 9] rfl rfl ⟨Nat.le_of_ble_eq_true rfl, Nat.le_of_ble_eq_true rfl⟩ [q 1, q 2, q 3, q 4, q 5, q 6, q 7, q 8] rfl rfl ?_
              refine v_wd (wd2 := [(x0, .inr (6, [.ref (q 0), .ref x1])), (q 0, .inr (4, [.ref (q 1), .ref (q 9), .long di])), (q 1, .inr (5, [.int (w_X5_append_0_0 ct), .int dp, .ref (q 2), .ref (q 3), .ref (q 4)])), (q 2, aI D 20 (w_X5_append_1 we w N)), (q 3, aI D 3 (w_X5_append_2 ct ok kd.toNatClampNeg)), (q 4, aG D 4 (gU q 5)), (q 5, aI D 20 (us 0)), (q 6, aI D 20 (us 1)), (q 7, aI D 20 (us 2)), (q 8, aI D 20 (us 3)), (q 9, .inr (1, [.int fc, .ref (q 10), .ref (q 11), .ref (q 12), .ref (q 13), .ref (q 14)])), (q 10, aI D 40 ft), (q 11, aI D 40 fn), (q 12, aZ D 40 fh), (q 13, aZ D 40 fe), (q 14, aI D 100 fo)]) rfl ?_
              exact v_iret E F dX6_addTarget_62 rfl rfl () (by simp only [r_X6_addTarget, if_neg c_13, if_neg c_18, if_pos c_24, if_neg c_36, if_pos c_41, if_pos c_50]) (by simp only [w_X6_addTarget_2_0, w_X6_addTarget_3, w_X6_addTarget_4, if_neg c_13, if_neg c_18, if_pos c_24, if_neg c_36, if_pos c_41, if_pos c_50] <;> rfl) (Nat.le_of_ble_eq_true rfl) (Nat.le_of_ble_eq_true rfl)
            · refine v_bipush E dX6_addTarget_53 (v := -8) (by decide) ?_
              exact v_iret E F dX6_addTarget_55 rfl rfl () (by simp only [r_X6_addTarget, if_neg c_13, if_neg c_18, if_pos c_24, if_neg c_36, if_pos c_41, if_neg c_50]) (by simp only [w_X6_addTarget_2_0, w_X6_addTarget_3, w_X6_addTarget_4, if_neg c_13, if_neg c_18, if_pos c_24, if_neg c_36, if_pos c_41, if_neg c_50] <;> rfl) (Nat.le_of_ble_eq_true rfl) (Nat.le_of_ble_eq_true rfl)
      · refine v_bipush E dX6_addTarget_27 (v := -3) (by decide) ?_
        exact v_iret E F dX6_addTarget_29 rfl rfl () (by simp only [r_X6_addTarget, if_neg c_13, if_neg c_18, if_neg c_24]) (by simp only [w_X6_addTarget_2_0, w_X6_addTarget_3, w_X6_addTarget_4, if_neg c_13, if_neg c_18, if_neg c_24] <;> rfl) (Nat.le_of_ble_eq_true rfl) (Nat.le_of_ble_eq_true rfl)

def r_X6_targetCount (ct : Int32) : Int32 := ct
set_option maxRecDepth 20000 in
/-- X6_targetCount -/
theorem c_X6_targetCount (D : va_G) (x0 : Nat) (x1 : Nat) (q : Nat → Nat) (ct : Int32) (dp : Int32) (we : Nat → Int32) (ok : Nat → Int32) (us : Nat → Nat → Int32) (fc : Int32) (ft : Nat → Int32) (fn : Nat → Int32) (fh : Nat → Int32) (fe : Nat → Int32) (fo : Nat → Int32) (di : Int64) (l : Launch) : Ct l yX6_targetCount cX6_targetCount 1 (some .int) (rmM 0 0 0 0) D [.ref x0] [(x0, .inr (6, [.ref (q 0), .ref x1])), (q 0, .inr (4, [.ref (q 1), .ref (q 9), .long di])), (q 1, .inr (5, [.int ct, .int dp, .ref (q 2), .ref (q 3), .ref (q 4)])), (q 2, aI D 20 we), (q 3, aI D 3 ok), (q 4, aG D 4 (gU q 5)), (q 5, aI D 20 (us 0)), (q 6, aI D 20 (us 1)), (q 7, aI D 20 (us 2)), (q 8, aI D 20 (us 3)), (q 9, .inr (1, [.int fc, .ref (q 10), .ref (q 11), .ref (q 12), .ref (q 13), .ref (q 14)])), (q 10, aI D 40 ft), (q 11, aI D 40 fn), (q 12, aZ D 40 fh), (q 13, aZ D 40 fe), (q 14, aI D 100 fo)] (QI1 D (r_X6_targetCount ct) [(x0, .inr (6, [.ref (q 0), .ref x1])), (q 0, .inr (4, [.ref (q 1), .ref (q 9), .long di])), (q 1, .inr (5, [.int ct, .int dp, .ref (q 2), .ref (q 3), .ref (q 4)])), (q 2, aI D 20 we), (q 3, aI D 3 ok), (q 4, aG D 4 (gU q 5)), (q 5, aI D 20 (us 0)), (q 6, aI D 20 (us 1)), (q 7, aI D 20 (us 2)), (q 8, aI D 20 (us 3)), (q 9, .inr (1, [.int fc, .ref (q 10), .ref (q 11), .ref (q 12), .ref (q 13), .ref (q 14)])), (q 10, aI D 40 ft), (q 11, aI D 40 fn), (q 12, aZ D 40 fh), (q 13, aZ D 40 fe), (q 14, aI D 100 fo)]) := by
  refine Ct.ofV 0 (lv0 := [some (.ref x0)]) (by decide) rfl rfl (fun Z E F => ?_)
  refine v_aload_n E dX6_targetCount_0 rfl ?_
  refine v_get E dX6_targetCount_1 (ci := 6) rfl iwX6 0 rfl 0 rfl fl_X6_12 rfl ?_
  refine v_get E dX6_targetCount_4 (ci := 4) rfl iwX4 1 rfl 0 rfl fl_X6_20 rfl ?_
  refine v_get E dX6_targetCount_7 (ci := 5) rfl iwX5 2 rfl 0 rfl fl_X6_28 rfl ?_
  exact v_iret E F dX6_targetCount_10 rfl rfl () rfl rfl (Nat.le_of_ble_eq_true rfl) (Nat.le_of_ble_eq_true rfl)

def r_X6_addDependency (ct : Int32) (dp : Int32) (ok : Nat → Int32) (us : Nat → Nat → Int32) (a : Int32) (b : Int32) (kd : Int32) : Int32 := if (r_X5_has ct a) = 0 then (-1) else if (r_X5_has ct b) = 0 then (-1) else if a = b then (-4) else if (r_X6_inRange kd 4) = 0 then (-3) else if (r_X5_allows ok a b kd) = 0 then (-5) else if (r_X5_kindBetween us a b.toNatClampNeg) = (-10) then (if (r_X6_contains (r_X5_withAllUsers us (r_X6_setOf a) 15) b) = 0 then (if dp < 60 then (w_X5_connect_0_1 dp) else (-8)) else (-7)) else (-6)
def w_X6_addDependency_2_1 (ct : Int32) (dp : Int32) (ok : Nat → Int32) (us : Nat → Nat → Int32) (a : Int32) (b : Int32) (kd : Int32) : Int32 := if (r_X5_has ct a) = 0 then dp else if (r_X5_has ct b) = 0 then dp else if a = b then dp else if (r_X6_inRange kd 4) = 0 then dp else if (r_X5_allows ok a b kd) = 0 then dp else if (r_X5_kindBetween us a b.toNatClampNeg) = (-10) then (if (r_X6_contains (r_X5_withAllUsers us (r_X6_setOf a) 15) b) = 0 then (if dp < 60 then (w_X5_connect_0_1 dp) else dp) else dp) else dp
def w_X6_addDependency_6 (ct : Int32) (dp : Int32) (ok : Nat → Int32) (us : Nat → Nat → Int32) (a : Int32) (b : Int32) (kd : Int32) : Nat → Nat → Int32 := if (r_X5_has ct a) = 0 then us else if (r_X5_has ct b) = 0 then us else if a = b then us else if (r_X6_inRange kd 4) = 0 then us else if (r_X5_allows ok a b kd) = 0 then us else if (r_X5_kindBetween us a b.toNatClampNeg) = (-10) then (if (r_X6_contains (r_X5_withAllUsers us (r_X6_setOf a) 15) b) = 0 then (if dp < 60 then (w_X5_connect_4 us a b.toNatClampNeg kd.toNatClampNeg) else us) else us) else us
set_option maxRecDepth 20000 in
/-- X6_addDependency -/
theorem c_X6_addDependency (D : va_G) (x0 : Nat) (x1 : Nat) (q : Nat → Nat) (ct : Int32) (dp : Int32) (we : Nat → Int32) (ok : Nat → Int32) (us : Nat → Nat → Int32) (fc : Int32) (ft : Nat → Int32) (fn : Nat → Int32) (fh : Nat → Int32) (fe : Nat → Int32) (fo : Nat → Int32) (di : Int64) (a : Int32) (b : Int32) (kd : Int32) (N : Nat) (hct : ct = nI N) (hN : N ≤ 20) (l : Launch) : Ct l yX6_addDependency cX6_addDependency 5 (some .int) (rmM 3 73 0 0) D [.ref x0, .int a, .int b, .int kd] [(x0, .inr (6, [.ref (q 0), .ref x1])), (q 0, .inr (4, [.ref (q 1), .ref (q 9), .long di])), (q 1, .inr (5, [.int ct, .int dp, .ref (q 2), .ref (q 3), .ref (q 4)])), (q 2, aI D 20 we), (q 3, aI D 3 ok), (q 4, aG D 4 (gU q 5)), (q 5, aI D 20 (us 0)), (q 6, aI D 20 (us 1)), (q 7, aI D 20 (us 2)), (q 8, aI D 20 (us 3)), (q 9, .inr (1, [.int fc, .ref (q 10), .ref (q 11), .ref (q 12), .ref (q 13), .ref (q 14)])), (q 10, aI D 40 ft), (q 11, aI D 40 fn), (q 12, aZ D 40 fh), (q 13, aZ D 40 fe), (q 14, aI D 100 fo)] (QI1 D (r_X6_addDependency ct dp ok us a b kd) [(x0, .inr (6, [.ref (q 0), .ref x1])), (q 0, .inr (4, [.ref (q 1), .ref (q 9), .long di])), (q 1, .inr (5, [.int ct, .int (w_X6_addDependency_2_1 ct dp ok us a b kd), .ref (q 2), .ref (q 3), .ref (q 4)])), (q 2, aI D 20 we), (q 3, aI D 3 ok), (q 4, aG D 4 (gU q 5)), (q 5, aI D 20 ((w_X6_addDependency_6 ct dp ok us a b kd) 0)), (q 6, aI D 20 ((w_X6_addDependency_6 ct dp ok us a b kd) 1)), (q 7, aI D 20 ((w_X6_addDependency_6 ct dp ok us a b kd) 2)), (q 8, aI D 20 ((w_X6_addDependency_6 ct dp ok us a b kd) 3)), (q 9, .inr (1, [.int fc, .ref (q 10), .ref (q 11), .ref (q 12), .ref (q 13), .ref (q 14)])), (q 10, aI D 40 ft), (q 11, aI D 40 fn), (q 12, aZ D 40 fh), (q 13, aZ D 40 fe), (q 14, aI D 100 fo)]) := by
  refine Ct.ofV 1 (lv0 := [some (.ref x0), some (.int a), some (.int b), some (.int kd), none]) (by decide) rfl rfl (fun Z E F => ?_)
  refine v_aload_n E dX6_addDependency_0 rfl ?_
  refine v_get E dX6_addDependency_1 (ci := 6) rfl iwX6 0 rfl 0 rfl fl_X6_12 rfl ?_
  refine v_get E dX6_addDependency_4 (ci := 4) rfl iwX4 1 rfl 0 rfl fl_X6_20 rfl ?_
  refine v_astore E dX6_addDependency_7 rfl rfl ?_
  refine v_aload E dX6_addDependency_9 rfl ?_
  refine v_iload_n E dX6_addDependency_11 rfl ?_
  refine v_cV_i E dX6_addDependency_12 (c_X5_has D q ct dp we ok us a) cs_X6_42 rfl rfl rfl (Nat.le_of_ble_eq_true rfl) 2 rfl rfl [2, 3, 4, 5, 6, 7, 8, 9] rfl rfl ⟨Nat.le_of_ble_eq_true rfl, Nat.le_of_ble_eq_true rfl⟩ ?_
  refine v_if_eq E 27 dX6_addDependency_15 (by decide) (fun c_15 => ?_) (fun c_15 => ?_)
  · refine v_iconst E dX6_addDependency_27 (v := -1) (by decide) ?_
    exact v_iret E F dX6_addDependency_28 rfl rfl () (by simp only [r_X6_addDependency, if_pos c_15]) (by simp only [w_X6_addDependency_2_1, w_X6_addDependency_6, if_pos c_15] <;> rfl) (Nat.le_of_ble_eq_true rfl) (Nat.le_of_ble_eq_true rfl)
  · refine v_aload E dX6_addDependency_18 rfl ?_
    refine v_iload_n E dX6_addDependency_20 rfl ?_
    refine v_cV_i E dX6_addDependency_21 (c_X5_has D q ct dp we ok us b) cs_X6_42 rfl rfl rfl (Nat.le_of_ble_eq_true rfl) 2 rfl rfl [2, 3, 4, 5, 6, 7, 8, 9] rfl rfl ⟨Nat.le_of_ble_eq_true rfl, Nat.le_of_ble_eq_true rfl⟩ ?_
    refine v_if_ne E 29 dX6_addDependency_24 (by decide) (fun c_24 => ?_) (fun c_24 => ?_)
    · obtain ⟨ha1, ha2⟩ := inR_use hct (by omega) c_15
      obtain ⟨hb1, hb2⟩ := inR_use hct (by omega) c_24
      refine v_iload_n E dX6_addDependency_29 rfl ?_
      refine v_iload_n E dX6_addDependency_30 rfl ?_
      refine v_icmp_ne E 37 dX6_addDependency_31 (by decide) (fun c_31 => ?_) (fun c_31 => ?_)
      · refine v_iload_n E dX6_addDependency_37 rfl ?_
        refine v_iconst E dX6_addDependency_38 (v := 4) (by decide) ?_
        refine v_cS_i E dX6_addDependency_39 (c_X6_inRange D kd 4) cs_X6_24 rfl rfl rfl (Nat.le_of_ble_eq_true rfl) [] rfl rfl ⟨Nat.le_of_ble_eq_true rfl, Nat.le_of_ble_eq_true rfl⟩ ?_
        refine v_if_ne E 48 dX6_addDependency_42 (by decide) (fun c_42 => ?_) (fun c_42 => ?_)
        · obtain ⟨hkd1, hkd2⟩ := inR_use (F := 4) (v := kd) (show (4 : Int32) = nI 4 by decide) (by omega) c_42
          refine v_aload E dX6_addDependency_48 rfl ?_
          refine v_iload_n E dX6_addDependency_50 rfl ?_
          refine v_iload_n E dX6_addDependency_51 rfl ?_
          refine v_iload_n E dX6_addDependency_52 rfl ?_
          refine v_cV_i E dX6_addDependency_53 (c_X5_allows D q ct dp we ok us a b kd) cs_X6_46 rfl rfl rfl (Nat.le_of_ble_eq_true rfl) 2 rfl rfl [2, 3, 4, 5, 6, 7, 8, 9] rfl rfl ⟨Nat.le_of_ble_eq_true rfl, Nat.le_of_ble_eq_true rfl⟩ ?_
          refine v_if_ne E 62 dX6_addDependency_56 (by decide) (fun c_56 => ?_) (fun c_56 => ?_)
          · refine v_aload E dX6_addDependency_62 rfl ?_
            refine v_iload_n E dX6_addDependency_64 rfl ?_
            refine v_iload_n E dX6_addDependency_65 rfl ?_
            refine v_cV_i E dX6_addDependency_66 (c_X5_kindBetween D q ct dp we ok us a b b.toNatClampNeg hb1 (by omega)) cs_X6_50 rfl rfl rfl (Nat.le_of_ble_eq_true rfl) 2 rfl rfl [2, 3, 4, 5, 6, 7, 8, 9] rfl rfl ⟨Nat.le_of_ble_eq_true rfl, Nat.le_of_ble_eq_true rfl⟩ ?_
            refine v_bipush E dX6_addDependency_69 (v := -10) (by decide) ?_
            refine v_icmp_eq E 77 dX6_addDependency_71 (by decide) (fun c_71 => ?_) (fun c_71 => ?_)
            · refine v_aload E dX6_addDependency_77 rfl ?_
              refine v_iload_n E dX6_addDependency_79 rfl ?_
              refine v_cS_i E dX6_addDependency_80 (c_X6_setOf D a) cs_X6_53 rfl rfl rfl (Nat.le_of_ble_eq_true rfl) [] rfl rfl ⟨Nat.le_of_ble_eq_true rfl, Nat.le_of_ble_eq_true rfl⟩ ?_
              refine v_bipush E dX6_addDependency_83 (v := 15) (by decide) ?_
              refine v_cV_i E dX6_addDependency_85 (c_X5_withAllUsers D q ct dp we ok us (r_X6_setOf a) 15) cs_X6_57 rfl rfl rfl (Nat.le_of_ble_eq_true rfl) 2 rfl rfl [2, 3, 4, 5, 6, 7, 8, 9] rfl rfl ⟨Nat.le_of_ble_eq_true rfl, Nat.le_of_ble_eq_true rfl⟩ ?_
              refine v_iload_n E dX6_addDependency_88 rfl ?_
              refine v_cS_i E dX6_addDependency_89 (c_X6_contains D (r_X5_withAllUsers us (r_X6_setOf a) 15) b) cs_X6_60 rfl rfl rfl (Nat.le_of_ble_eq_true rfl) [] rfl rfl ⟨Nat.le_of_ble_eq_true rfl, Nat.le_of_ble_eq_true rfl⟩ ?_
              refine v_if_eq E 98 dX6_addDependency_92 (by decide) (fun c_92 => ?_) (fun c_92 => ?_)
              · refine v_aload E dX6_addDependency_98 rfl ?_
                refine v_get E dX6_addDependency_100 (ci := 5) rfl iwX5 2 rfl 1 rfl fl_X6_63 rfl ?_
                refine v_bipush E dX6_addDependency_103 (v := 60) (by decide) ?_
                refine v_icmp_lt E 111 dX6_addDependency_105 (by decide) (fun c_105 => ?_) (fun c_105 => ?_)
                · refine v_aload E dX6_addDependency_111 rfl ?_
                  refine v_iload_n E dX6_addDependency_113 rfl ?_
                  refine v_iload_n E dX6_addDependency_114 rfl ?_
                  refine v_iload_n E dX6_addDependency_115 rfl ?_
                  refine v_cV_vU E dX6_addDependency_116 (c_X5_connect D q ct dp we ok us a b kd b.toNatClampNeg kd.toNatClampNeg hb1 hkd1 (by omega) (by omega)) cs_X6_66 rfl rfl rfl (Nat.le_of_ble_eq_true rfl) 2 rfl rfl [2, 3, 4, 5, 6, 7, 8, 9] rfl rfl ⟨Nat.le_of_ble_eq_true rfl, Nat.le_of_ble_eq_true rfl⟩ [q 1, q 2, q 3, q 4, q 5, q 6, q 7, q 8] rfl rfl ?_
                  refine v_wd (wd2 := [(x0, .inr (6, [.ref (q 0), .ref x1])), (q 0, .inr (4, [.ref (q 1), .ref (q 9), .long di])), (q 1, .inr (5, [.int ct, .int (w_X5_connect_0_1 dp), .ref (q 2), .ref (q 3), .ref (q 4)])), (q 2, aI D 20 we), (q 3, aI D 3 ok), (q 4, aG D 4 (gU q 5)), (q 5, aI D 20 ((w_X5_connect_4 us a b.toNatClampNeg kd.toNatClampNeg) 0)), (q 6, aI D 20 ((w_X5_connect_4 us a b.toNatClampNeg kd.toNatClampNeg) 1)), (q 7, aI D 20 ((w_X5_connect_4 us a b.toNatClampNeg kd.toNatClampNeg) 2)), (q 8, aI D 20 ((w_X5_connect_4 us a b.toNatClampNeg kd.toNatClampNeg) 3)), (q 9, .inr (1, [.int fc, .ref (q 10), .ref (q 11), .ref (q 12), .ref (q 13), .ref (q 14)])), (q 10, aI D 40 ft), (q 11, aI D 40 fn), (q 12, aZ D 40 fh), (q 13, aZ D 40 fe), (q 14, aI D 100 fo)]) rfl ?_
                  refine v_aload E dX6_addDependency_119 rfl ?_
                  refine v_get E dX6_addDependency_121 (ci := 5) rfl iwX5 2 rfl 1 rfl fl_X6_63 rfl ?_
                  exact v_iret E F dX6_addDependency_124 rfl rfl () (by simp only [r_X6_addDependency, if_neg c_15, if_neg c_24, if_neg c_31, if_neg c_42, if_neg c_56, if_pos c_71, if_pos c_92, if_pos c_105]) (by simp only [w_X6_addDependency_2_1, w_X6_addDependency_6, if_neg c_15, if_neg c_24, if_neg c_31, if_neg c_42, if_neg c_56, if_pos c_71, if_pos c_92, if_pos c_105] <;> rfl) (Nat.le_of_ble_eq_true rfl) (Nat.le_of_ble_eq_true rfl)
                · refine v_bipush E dX6_addDependency_108 (v := -8) (by decide) ?_
                  exact v_iret E F dX6_addDependency_110 rfl rfl () (by simp only [r_X6_addDependency, if_neg c_15, if_neg c_24, if_neg c_31, if_neg c_42, if_neg c_56, if_pos c_71, if_pos c_92, if_neg c_105]) (by simp only [w_X6_addDependency_2_1, w_X6_addDependency_6, if_neg c_15, if_neg c_24, if_neg c_31, if_neg c_42, if_neg c_56, if_pos c_71, if_pos c_92, if_neg c_105] <;> rfl) (Nat.le_of_ble_eq_true rfl) (Nat.le_of_ble_eq_true rfl)
              · refine v_bipush E dX6_addDependency_95 (v := -7) (by decide) ?_
                exact v_iret E F dX6_addDependency_97 rfl rfl () (by simp only [r_X6_addDependency, if_neg c_15, if_neg c_24, if_neg c_31, if_neg c_42, if_neg c_56, if_pos c_71, if_neg c_92]) (by simp only [w_X6_addDependency_2_1, w_X6_addDependency_6, if_neg c_15, if_neg c_24, if_neg c_31, if_neg c_42, if_neg c_56, if_pos c_71, if_neg c_92] <;> rfl) (Nat.le_of_ble_eq_true rfl) (Nat.le_of_ble_eq_true rfl)
            · refine v_bipush E dX6_addDependency_74 (v := -6) (by decide) ?_
              exact v_iret E F dX6_addDependency_76 rfl rfl () (by simp only [r_X6_addDependency, if_neg c_15, if_neg c_24, if_neg c_31, if_neg c_42, if_neg c_56, if_neg c_71]) (by simp only [w_X6_addDependency_2_1, w_X6_addDependency_6, if_neg c_15, if_neg c_24, if_neg c_31, if_neg c_42, if_neg c_56, if_neg c_71] <;> rfl) (Nat.le_of_ble_eq_true rfl) (Nat.le_of_ble_eq_true rfl)
          · refine v_bipush E dX6_addDependency_59 (v := -5) (by decide) ?_
            exact v_iret E F dX6_addDependency_61 rfl rfl () (by simp only [r_X6_addDependency, if_neg c_15, if_neg c_24, if_neg c_31, if_neg c_42, if_pos c_56]) (by simp only [w_X6_addDependency_2_1, w_X6_addDependency_6, if_neg c_15, if_neg c_24, if_neg c_31, if_neg c_42, if_pos c_56] <;> rfl) (Nat.le_of_ble_eq_true rfl) (Nat.le_of_ble_eq_true rfl)
        · refine v_bipush E dX6_addDependency_45 (v := -3) (by decide) ?_
          exact v_iret E F dX6_addDependency_47 rfl rfl () (by simp only [r_X6_addDependency, if_neg c_15, if_neg c_24, if_neg c_31, if_pos c_42]) (by simp only [w_X6_addDependency_2_1, w_X6_addDependency_6, if_neg c_15, if_neg c_24, if_neg c_31, if_pos c_42] <;> rfl) (Nat.le_of_ble_eq_true rfl) (Nat.le_of_ble_eq_true rfl)
      · refine v_bipush E dX6_addDependency_34 (v := -4) (by decide) ?_
        exact v_iret E F dX6_addDependency_36 rfl rfl () (by simp only [r_X6_addDependency, if_neg c_15, if_neg c_24, if_pos c_31]) (by simp only [w_X6_addDependency_2_1, w_X6_addDependency_6, if_neg c_15, if_neg c_24, if_pos c_31] <;> rfl) (Nat.le_of_ble_eq_true rfl) (Nat.le_of_ble_eq_true rfl)
    · refine v_iconst E dX6_addDependency_27 (v := -1) (by decide) ?_
      exact v_iret E F dX6_addDependency_28 rfl rfl () (by simp only [r_X6_addDependency, if_neg c_15, if_pos c_24]) (by simp only [w_X6_addDependency_2_1, w_X6_addDependency_6, if_neg c_15, if_pos c_24] <;> rfl) (Nat.le_of_ble_eq_true rfl) (Nat.le_of_ble_eq_true rfl)

def r_X6_removeDependency (ct : Int32) (us : Nat → Nat → Int32) (a : Int32) (b : Int32) : Int32 := if (r_X5_has ct a) = 0 then (-1) else if (r_X5_has ct b) = 0 then (-1) else (r_X5_kindBetween us a b.toNatClampNeg)
def w_X6_removeDependency_2_1 (ct : Int32) (dp : Int32) (us : Nat → Nat → Int32) (a : Int32) (b : Int32) : Int32 := if (r_X5_has ct a) = 0 then dp else if (r_X5_has ct b) = 0 then dp else if (r_X5_kindBetween us a b.toNatClampNeg) = (-10) then dp else (w_X5_disconnect_0_1 dp)
def w_X6_removeDependency_6 (ct : Int32) (us : Nat → Nat → Int32) (a : Int32) (b : Int32) : Nat → Nat → Int32 := if (r_X5_has ct a) = 0 then us else if (r_X5_has ct b) = 0 then us else if (r_X5_kindBetween us a b.toNatClampNeg) = (-10) then us else (w_X5_disconnect_4 us a b.toNatClampNeg ((r_X5_kindBetween us a b.toNatClampNeg).toNatClampNeg))
set_option maxRecDepth 20000 in
/-- X6_removeDependency -/
theorem c_X6_removeDependency (D : va_G) (x0 : Nat) (x1 : Nat) (q : Nat → Nat) (ct : Int32) (dp : Int32) (we : Nat → Int32) (ok : Nat → Int32) (us : Nat → Nat → Int32) (fc : Int32) (ft : Nat → Int32) (fn : Nat → Int32) (fh : Nat → Int32) (fe : Nat → Int32) (fo : Nat → Int32) (di : Int64) (a : Int32) (b : Int32) (N : Nat) (hct : ct = nI N) (hN : N ≤ 20) (l : Launch) : Ct l yX6_removeDependency cX6_removeDependency 5 (some .int) (rmM 2 44 0 0) D [.ref x0, .int a, .int b] [(x0, .inr (6, [.ref (q 0), .ref x1])), (q 0, .inr (4, [.ref (q 1), .ref (q 9), .long di])), (q 1, .inr (5, [.int ct, .int dp, .ref (q 2), .ref (q 3), .ref (q 4)])), (q 2, aI D 20 we), (q 3, aI D 3 ok), (q 4, aG D 4 (gU q 5)), (q 5, aI D 20 (us 0)), (q 6, aI D 20 (us 1)), (q 7, aI D 20 (us 2)), (q 8, aI D 20 (us 3)), (q 9, .inr (1, [.int fc, .ref (q 10), .ref (q 11), .ref (q 12), .ref (q 13), .ref (q 14)])), (q 10, aI D 40 ft), (q 11, aI D 40 fn), (q 12, aZ D 40 fh), (q 13, aZ D 40 fe), (q 14, aI D 100 fo)] (QI1 D (r_X6_removeDependency ct us a b) [(x0, .inr (6, [.ref (q 0), .ref x1])), (q 0, .inr (4, [.ref (q 1), .ref (q 9), .long di])), (q 1, .inr (5, [.int ct, .int (w_X6_removeDependency_2_1 ct dp us a b), .ref (q 2), .ref (q 3), .ref (q 4)])), (q 2, aI D 20 we), (q 3, aI D 3 ok), (q 4, aG D 4 (gU q 5)), (q 5, aI D 20 ((w_X6_removeDependency_6 ct us a b) 0)), (q 6, aI D 20 ((w_X6_removeDependency_6 ct us a b) 1)), (q 7, aI D 20 ((w_X6_removeDependency_6 ct us a b) 2)), (q 8, aI D 20 ((w_X6_removeDependency_6 ct us a b) 3)), (q 9, .inr (1, [.int fc, .ref (q 10), .ref (q 11), .ref (q 12), .ref (q 13), .ref (q 14)])), (q 10, aI D 40 ft), (q 11, aI D 40 fn), (q 12, aZ D 40 fh), (q 13, aZ D 40 fe), (q 14, aI D 100 fo)]) := by
  refine Ct.ofV 2 (lv0 := [some (.ref x0), some (.int a), some (.int b), none, none]) (by decide) rfl rfl (fun Z E F => ?_)
  refine v_aload_n E dX6_removeDependency_0 rfl ?_
  refine v_get E dX6_removeDependency_1 (ci := 6) rfl iwX6 0 rfl 0 rfl fl_X6_12 rfl ?_
  refine v_get E dX6_removeDependency_4 (ci := 4) rfl iwX4 1 rfl 0 rfl fl_X6_20 rfl ?_
  refine v_astore_n E dX6_removeDependency_7 rfl rfl ?_
  refine v_aload_n E dX6_removeDependency_8 rfl ?_
  refine v_iload_n E dX6_removeDependency_9 rfl ?_
  refine v_cV_i E dX6_removeDependency_10 (c_X5_has D q ct dp we ok us a) cs_X6_42 rfl rfl rfl (Nat.le_of_ble_eq_true rfl) 2 rfl rfl [2, 3, 4, 5, 6, 7, 8, 9] rfl rfl ⟨Nat.le_of_ble_eq_true rfl, Nat.le_of_ble_eq_true rfl⟩ ?_
  refine v_if_eq E 24 dX6_removeDependency_13 (by decide) (fun c_13 => ?_) (fun c_13 => ?_)
  · refine v_iconst E dX6_removeDependency_24 (v := -1) (by decide) ?_
    exact v_iret E F dX6_removeDependency_25 rfl rfl () (by simp only [r_X6_removeDependency, if_pos c_13]) (by simp only [w_X6_removeDependency_2_1, w_X6_removeDependency_6, if_pos c_13] <;> rfl) (Nat.le_of_ble_eq_true rfl) (Nat.le_of_ble_eq_true rfl)
  · refine v_aload_n E dX6_removeDependency_16 rfl ?_
    refine v_iload_n E dX6_removeDependency_17 rfl ?_
    refine v_cV_i E dX6_removeDependency_18 (c_X5_has D q ct dp we ok us b) cs_X6_42 rfl rfl rfl (Nat.le_of_ble_eq_true rfl) 2 rfl rfl [2, 3, 4, 5, 6, 7, 8, 9] rfl rfl ⟨Nat.le_of_ble_eq_true rfl, Nat.le_of_ble_eq_true rfl⟩ ?_
    refine v_if_ne E 26 dX6_removeDependency_21 (by decide) (fun c_21 => ?_) (fun c_21 => ?_)
    · obtain ⟨ha1, ha2⟩ := inR_use hct (by omega) c_13
      obtain ⟨hb1, hb2⟩ := inR_use hct (by omega) c_21
      refine v_aload_n E dX6_removeDependency_26 rfl ?_
      refine v_iload_n E dX6_removeDependency_27 rfl ?_
      refine v_iload_n E dX6_removeDependency_28 rfl ?_
      refine v_cV_i E dX6_removeDependency_29 (c_X5_kindBetween D q ct dp we ok us a b b.toNatClampNeg hb1 (by omega)) cs_X6_50 rfl rfl rfl (Nat.le_of_ble_eq_true rfl) 2 rfl rfl [2, 3, 4, 5, 6, 7, 8, 9] rfl rfl ⟨Nat.le_of_ble_eq_true rfl, Nat.le_of_ble_eq_true rfl⟩ ?_
      refine v_istore E dX6_removeDependency_32 rfl rfl ?_
      refine v_iload E dX6_removeDependency_34 rfl ?_
      refine v_bipush E dX6_removeDependency_36 (v := -10) (by decide) ?_
      refine v_icmp_eq E 49 dX6_removeDependency_38 (by decide) (fun c_38 => ?_) (fun c_38 => ?_)
      · refine v_iload E dX6_removeDependency_49 rfl ?_
        exact v_iret E F dX6_removeDependency_51 rfl rfl () (by simp only [r_X6_removeDependency, if_neg c_13, if_neg c_21, if_pos c_38]) (by simp only [w_X6_removeDependency_2_1, w_X6_removeDependency_6, if_neg c_13, if_neg c_21, if_pos c_38] <;> rfl) (Nat.le_of_ble_eq_true rfl) (Nat.le_of_ble_eq_true rfl)
      · obtain ⟨hk1, hk2⟩ := kb_use c_38
        refine v_aload_n E dX6_removeDependency_41 rfl ?_
        refine v_iload_n E dX6_removeDependency_42 rfl ?_
        refine v_iload_n E dX6_removeDependency_43 rfl ?_
        refine v_iload E dX6_removeDependency_44 rfl ?_
        refine v_cV_vU E dX6_removeDependency_46 (c_X5_disconnect D q ct dp we ok us a b (r_X5_kindBetween us a b.toNatClampNeg) b.toNatClampNeg ((r_X5_kindBetween us a b.toNatClampNeg).toNatClampNeg) hb1 hk1 (by omega) (by omega)) cs_X6_70 rfl rfl rfl (Nat.le_of_ble_eq_true rfl) 2 rfl rfl [2, 3, 4, 5, 6, 7, 8, 9] rfl rfl ⟨Nat.le_of_ble_eq_true rfl, Nat.le_of_ble_eq_true rfl⟩ [q 1, q 2, q 3, q 4, q 5, q 6, q 7, q 8] rfl rfl ?_
        refine v_wd (wd2 := [(x0, .inr (6, [.ref (q 0), .ref x1])), (q 0, .inr (4, [.ref (q 1), .ref (q 9), .long di])), (q 1, .inr (5, [.int ct, .int (w_X5_disconnect_0_1 dp), .ref (q 2), .ref (q 3), .ref (q 4)])), (q 2, aI D 20 we), (q 3, aI D 3 ok), (q 4, aG D 4 (gU q 5)), (q 5, aI D 20 ((w_X5_disconnect_4 us a b.toNatClampNeg ((r_X5_kindBetween us a b.toNatClampNeg).toNatClampNeg)) 0)), (q 6, aI D 20 ((w_X5_disconnect_4 us a b.toNatClampNeg ((r_X5_kindBetween us a b.toNatClampNeg).toNatClampNeg)) 1)), (q 7, aI D 20 ((w_X5_disconnect_4 us a b.toNatClampNeg ((r_X5_kindBetween us a b.toNatClampNeg).toNatClampNeg)) 2)), (q 8, aI D 20 ((w_X5_disconnect_4 us a b.toNatClampNeg ((r_X5_kindBetween us a b.toNatClampNeg).toNatClampNeg)) 3)), (q 9, .inr (1, [.int fc, .ref (q 10), .ref (q 11), .ref (q 12), .ref (q 13), .ref (q 14)])), (q 10, aI D 40 ft), (q 11, aI D 40 fn), (q 12, aZ D 40 fh), (q 13, aZ D 40 fe), (q 14, aI D 100 fo)]) rfl ?_
        refine v_iload E dX6_removeDependency_49 rfl ?_
        exact v_iret E F dX6_removeDependency_51 rfl rfl () (by simp only [r_X6_removeDependency, if_neg c_13, if_neg c_21, if_neg c_38]) (by simp only [w_X6_removeDependency_2_1, w_X6_removeDependency_6, if_neg c_13, if_neg c_21, if_neg c_38] <;> rfl) (Nat.le_of_ble_eq_true rfl) (Nat.le_of_ble_eq_true rfl)
    · refine v_iconst E dX6_removeDependency_24 (v := -1) (by decide) ?_
      exact v_iret E F dX6_removeDependency_25 rfl rfl () (by simp only [r_X6_removeDependency, if_neg c_13, if_pos c_21]) (by simp only [w_X6_removeDependency_2_1, w_X6_removeDependency_6, if_neg c_13, if_pos c_21] <;> rfl) (Nat.le_of_ble_eq_true rfl) (Nat.le_of_ble_eq_true rfl)

def r_X6_addFile (ct : Int32) (fc : Int32) (fn : Nat → Int32) (fe : Nat → Int32) (fo : Nat → Int32) (t : Int32) (nm : Int32) : Int32 := if (r_X5_has ct t) = 0 then (-1) else if (r_X6_inRange nm 100) = 0 then (-3) else if (r_X1_isInUse fc fn fe fo nm nm.toNatClampNeg) = 0 then (if fc < 40 then (r_X1_append fc) else (-8)) else (-9)
def w_X6_addFile_1_2 (ct : Int32) (fc : Int32) (ft : Nat → Int32) (fn : Nat → Int32) (fh : Nat → Int32) (fe : Nat → Int32) (fo : Nat → Int32) (di : Int64) (t : Int32) (hd : Int32) (nm : Int32) (F0 : Nat) : Int64 := if (r_X5_has ct t) = 0 then di else if (r_X6_inRange nm 100) = 0 then di else if (r_X1_isInUse fc fn fe fo nm nm.toNatClampNeg) = 0 then (if fc < 40 then (w_X4_touchBy_0_2 (w_X1_append_1 ft t F0) (w_X1_append_3 fh hd F0) di F0) else di) else di
def w_X6_addFile_10_0 (ct : Int32) (fc : Int32) (fn : Nat → Int32) (fe : Nat → Int32) (fo : Nat → Int32) (t : Int32) (nm : Int32) : Int32 := if (r_X5_has ct t) = 0 then fc else if (r_X6_inRange nm 100) = 0 then fc else if (r_X1_isInUse fc fn fe fo nm nm.toNatClampNeg) = 0 then (if fc < 40 then (w_X1_append_0_0 fc) else fc) else fc
def w_X6_addFile_11 (ct : Int32) (fc : Int32) (ft : Nat → Int32) (fn : Nat → Int32) (fe : Nat → Int32) (fo : Nat → Int32) (t : Int32) (nm : Int32) (F0 : Nat) : Nat → Int32 := if (r_X5_has ct t) = 0 then ft else if (r_X6_inRange nm 100) = 0 then ft else if (r_X1_isInUse fc fn fe fo nm nm.toNatClampNeg) = 0 then (if fc < 40 then (w_X1_append_1 ft t F0) else ft) else ft
def w_X6_addFile_12 (ct : Int32) (fc : Int32) (fn : Nat → Int32) (fe : Nat → Int32) (fo : Nat → Int32) (t : Int32) (nm : Int32) (F0 : Nat) : Nat → Int32 := if (r_X5_has ct t) = 0 then fn else if (r_X6_inRange nm 100) = 0 then fn else if (r_X1_isInUse fc fn fe fo nm nm.toNatClampNeg) = 0 then (if fc < 40 then (w_X1_append_2 fn nm F0) else fn) else fn
def w_X6_addFile_13 (ct : Int32) (fc : Int32) (fn : Nat → Int32) (fh : Nat → Int32) (fe : Nat → Int32) (fo : Nat → Int32) (t : Int32) (hd : Int32) (nm : Int32) (F0 : Nat) : Nat → Int32 := if (r_X5_has ct t) = 0 then fh else if (r_X6_inRange nm 100) = 0 then fh else if (r_X1_isInUse fc fn fe fo nm nm.toNatClampNeg) = 0 then (if fc < 40 then (w_X1_append_3 fh hd F0) else fh) else fh
def w_X6_addFile_14 (ct : Int32) (fc : Int32) (fn : Nat → Int32) (fe : Nat → Int32) (fo : Nat → Int32) (t : Int32) (nm : Int32) (F0 : Nat) : Nat → Int32 := if (r_X5_has ct t) = 0 then fe else if (r_X6_inRange nm 100) = 0 then fe else if (r_X1_isInUse fc fn fe fo nm nm.toNatClampNeg) = 0 then (if fc < 40 then (w_X1_append_4 fe F0) else fe) else fe
def w_X6_addFile_15 (ct : Int32) (fc : Int32) (fn : Nat → Int32) (fe : Nat → Int32) (fo : Nat → Int32) (t : Int32) (nm : Int32) : Nat → Int32 := if (r_X5_has ct t) = 0 then fo else if (r_X6_inRange nm 100) = 0 then fo else if (r_X1_isInUse fc fn fe fo nm nm.toNatClampNeg) = 0 then (if fc < 40 then (w_X1_append_5 fc fo nm.toNatClampNeg) else fo) else fo
set_option maxRecDepth 20000 in
/-- X6_addFile -/
theorem c_X6_addFile (D : va_G) (x0 : Nat) (x1 : Nat) (q : Nat → Nat) (ct : Int32) (dp : Int32) (we : Nat → Int32) (ok : Nat → Int32) (us : Nat → Nat → Int32) (fc : Int32) (ft : Nat → Int32) (fn : Nat → Int32) (fh : Nat → Int32) (fe : Nat → Int32) (fo : Nat → Int32) (di : Int64) (t : Int32) (hd : Int32) (nm : Int32) (N : Nat) (F0 : Nat) (hct : ct = nI N) (hN : N ≤ 20) (hfc : fc = nI F0) (hF : F0 ≤ 40) (l : Launch) : Ct l yX6_addFile cX6_addFile 6 (some .int) (rmM 3 64 0 0) D [.ref x0, .int t, .int hd, .int nm] [(x0, .inr (6, [.ref (q 0), .ref x1])), (q 0, .inr (4, [.ref (q 1), .ref (q 9), .long di])), (q 1, .inr (5, [.int ct, .int dp, .ref (q 2), .ref (q 3), .ref (q 4)])), (q 2, aI D 20 we), (q 3, aI D 3 ok), (q 4, aG D 4 (gU q 5)), (q 5, aI D 20 (us 0)), (q 6, aI D 20 (us 1)), (q 7, aI D 20 (us 2)), (q 8, aI D 20 (us 3)), (q 9, .inr (1, [.int fc, .ref (q 10), .ref (q 11), .ref (q 12), .ref (q 13), .ref (q 14)])), (q 10, aI D 40 ft), (q 11, aI D 40 fn), (q 12, aZ D 40 fh), (q 13, aZ D 40 fe), (q 14, aI D 100 fo)] (QI1 D (r_X6_addFile ct fc fn fe fo t nm) [(x0, .inr (6, [.ref (q 0), .ref x1])), (q 0, .inr (4, [.ref (q 1), .ref (q 9), .long (w_X6_addFile_1_2 ct fc ft fn fh fe fo di t hd nm F0)])), (q 1, .inr (5, [.int ct, .int dp, .ref (q 2), .ref (q 3), .ref (q 4)])), (q 2, aI D 20 we), (q 3, aI D 3 ok), (q 4, aG D 4 (gU q 5)), (q 5, aI D 20 (us 0)), (q 6, aI D 20 (us 1)), (q 7, aI D 20 (us 2)), (q 8, aI D 20 (us 3)), (q 9, .inr (1, [.int (w_X6_addFile_10_0 ct fc fn fe fo t nm), .ref (q 10), .ref (q 11), .ref (q 12), .ref (q 13), .ref (q 14)])), (q 10, aI D 40 (w_X6_addFile_11 ct fc ft fn fe fo t nm F0)), (q 11, aI D 40 (w_X6_addFile_12 ct fc fn fe fo t nm F0)), (q 12, aZ D 40 (w_X6_addFile_13 ct fc fn fh fe fo t hd nm F0)), (q 13, aZ D 40 (w_X6_addFile_14 ct fc fn fe fo t nm F0)), (q 14, aI D 100 (w_X6_addFile_15 ct fc fn fe fo t nm))]) := by
  refine Ct.ofV 2 (lv0 := [some (.ref x0), some (.int t), some (.int hd), some (.int nm), none, none]) (by decide) rfl rfl (fun Z E F => ?_)
  refine v_aload_n E dX6_addFile_0 rfl ?_
  refine v_get E dX6_addFile_1 (ci := 6) rfl iwX6 0 rfl 0 rfl fl_X6_12 rfl ?_
  refine v_get E dX6_addFile_4 (ci := 4) rfl iwX4 1 rfl 1 rfl fl_X6_73 rfl ?_
  refine v_astore E dX6_addFile_7 rfl rfl ?_
  refine v_aload_n E dX6_addFile_9 rfl ?_
  refine v_get E dX6_addFile_10 (ci := 6) rfl iwX6 0 rfl 0 rfl fl_X6_12 rfl ?_
  refine v_get E dX6_addFile_13 (ci := 4) rfl iwX4 1 rfl 0 rfl fl_X6_20 rfl ?_
  refine v_iload_n E dX6_addFile_16 rfl ?_
  refine v_cV_i E dX6_addFile_17 (c_X5_has D q ct dp we ok us t) cs_X6_42 rfl rfl rfl (Nat.le_of_ble_eq_true rfl) 2 rfl rfl [2, 3, 4, 5, 6, 7, 8, 9] rfl rfl ⟨Nat.le_of_ble_eq_true rfl, Nat.le_of_ble_eq_true rfl⟩ ?_
  refine v_if_ne E 25 dX6_addFile_20 (by decide) (fun c_20 => ?_) (fun c_20 => ?_)
  · refine v_iload_n E dX6_addFile_25 rfl ?_
    refine v_bipush E dX6_addFile_26 (v := 100) (by decide) ?_
    refine v_cS_i E dX6_addFile_28 (c_X6_inRange D nm 100) cs_X6_24 rfl rfl rfl (Nat.le_of_ble_eq_true rfl) [] rfl rfl ⟨Nat.le_of_ble_eq_true rfl, Nat.le_of_ble_eq_true rfl⟩ ?_
    refine v_if_ne E 37 dX6_addFile_31 (by decide) (fun c_31 => ?_) (fun c_31 => ?_)
    · obtain ⟨hnm1, hnm2⟩ := inR_use (F := 100) (v := nm) (show (100 : Int32) = nI 100 by decide) (by omega) c_31
      refine v_aload E dX6_addFile_37 rfl ?_
      refine v_iload_n E dX6_addFile_39 rfl ?_
      refine v_cV_i E dX6_addFile_40 (c_X1_isInUse D q fc ft fn fh fe fo nm nm.toNatClampNeg F0 hnm1 (by omega) hfc hF) cs_X6_77 rfl rfl rfl (Nat.le_of_ble_eq_true rfl) 10 rfl rfl [10, 11, 12, 13, 14, 15] rfl rfl ⟨Nat.le_of_ble_eq_true rfl, Nat.le_of_ble_eq_true rfl⟩ ?_
      refine v_if_eq E 49 dX6_addFile_43 (by decide) (fun c_43 => ?_) (fun c_43 => ?_)
      · refine v_aload E dX6_addFile_49 rfl ?_
        refine v_get E dX6_addFile_51 (ci := 1) rfl iwX1 10 rfl 0 rfl fl_X6_82 rfl ?_
        refine v_bipush E dX6_addFile_54 (v := 40) (by decide) ?_
        refine v_icmp_lt E 62 dX6_addFile_56 (by decide) (fun c_56 => ?_) (fun c_56 => ?_)
        · have hF4 : F0 < 40 := lt_lt hfc (show (40 : Int32) = nI 40 by decide) (by omega) c_56
          refine v_aload E dX6_addFile_62 rfl ?_
          refine v_iload_n E dX6_addFile_64 rfl ?_
          refine v_iload_n E dX6_addFile_65 rfl ?_
          refine v_iload_n E dX6_addFile_66 rfl ?_
          refine v_cV_iU E dX6_addFile_67 (c_X1_append D q fc ft fn fh fe fo t hd nm nm.toNatClampNeg F0 hnm1 (by omega) hfc hF4) cs_X6_83 rfl rfl rfl (Nat.le_of_ble_eq_true rfl) 10 rfl rfl [10, 11, 12, 13, 14, 15] rfl rfl ⟨Nat.le_of_ble_eq_true rfl, Nat.le_of_ble_eq_true rfl⟩ [q 9, q 10, q 11, q 12, q 13, q 14] rfl rfl ?_
          refine v_wd (wd2 := [(x0, .inr (6, [.ref (q 0), .ref x1])), (q 0, .inr (4, [.ref (q 1), .ref (q 9), .long di])), (q 1, .inr (5, [.int ct, .int dp, .ref (q 2), .ref (q 3), .ref (q 4)])), (q 2, aI D 20 we), (q 3, aI D 3 ok), (q 4, aG D 4 (gU q 5)), (q 5, aI D 20 (us 0)), (q 6, aI D 20 (us 1)), (q 7, aI D 20 (us 2)), (q 8, aI D 20 (us 3)), (q 9, .inr (1, [.int (w_X1_append_0_0 fc), .ref (q 10), .ref (q 11), .ref (q 12), .ref (q 13), .ref (q 14)])), (q 10, aI D 40 (w_X1_append_1 ft t F0)), (q 11, aI D 40 (w_X1_append_2 fn nm F0)), (q 12, aZ D 40 (w_X1_append_3 fh hd F0)), (q 13, aZ D 40 (w_X1_append_4 fe F0)), (q 14, aI D 100 (w_X1_append_5 fc fo nm.toNatClampNeg))]) rfl ?_
          refine v_istore E dX6_addFile_70 rfl rfl ?_
          refine v_aload_n E dX6_addFile_72 rfl ?_
          refine v_get E dX6_addFile_73 (ci := 6) rfl iwX6 0 rfl 0 rfl fl_X6_12 rfl ?_
          refine v_iload E dX6_addFile_76 rfl ?_
          refine v_cV_vU E dX6_addFile_78 (c_X4_touchBy D q ct dp we ok us (w_X1_append_0_0 fc) (w_X1_append_1 ft t F0) (w_X1_append_2 fn nm F0) (w_X1_append_3 fh hd F0) (w_X1_append_4 fe F0) (w_X1_append_5 fc fo nm.toNatClampNeg) di (r_X1_append fc) F0 (show r_X1_append fc = nI F0 from hfc) (by omega)) cs_X6_86 rfl rfl rfl (Nat.le_of_ble_eq_true rfl) 1 rfl rfl [1, 2, 3, 4, 5, 6, 7, 8, 9, 10, 11, 12, 13, 14, 15] rfl rfl ⟨Nat.le_of_ble_eq_true rfl, Nat.le_of_ble_eq_true rfl⟩ [q 0, q 1, q 2, q 3, q 4, q 5, q 6, q 7, q 8, q 9, q 10, q 11, q 12, q 13, q 14] rfl rfl ?_
          refine v_wd (wd2 := [(x0, .inr (6, [.ref (q 0), .ref x1])), (q 0, .inr (4, [.ref (q 1), .ref (q 9), .long (w_X4_touchBy_0_2 (w_X1_append_1 ft t F0) (w_X1_append_3 fh hd F0) di F0)])), (q 1, .inr (5, [.int ct, .int dp, .ref (q 2), .ref (q 3), .ref (q 4)])), (q 2, aI D 20 we), (q 3, aI D 3 ok), (q 4, aG D 4 (gU q 5)), (q 5, aI D 20 (us 0)), (q 6, aI D 20 (us 1)), (q 7, aI D 20 (us 2)), (q 8, aI D 20 (us 3)), (q 9, .inr (1, [.int (w_X1_append_0_0 fc), .ref (q 10), .ref (q 11), .ref (q 12), .ref (q 13), .ref (q 14)])), (q 10, aI D 40 (w_X1_append_1 ft t F0)), (q 11, aI D 40 (w_X1_append_2 fn nm F0)), (q 12, aZ D 40 (w_X1_append_3 fh hd F0)), (q 13, aZ D 40 (w_X1_append_4 fe F0)), (q 14, aI D 100 (w_X1_append_5 fc fo nm.toNatClampNeg))]) rfl ?_
          refine v_iload E dX6_addFile_81 rfl ?_
          exact v_iret E F dX6_addFile_83 rfl rfl () (by simp only [r_X6_addFile, if_neg c_20, if_neg c_31, if_pos c_43, if_pos c_56]) (by simp only [w_X6_addFile_1_2, w_X6_addFile_10_0, w_X6_addFile_11, w_X6_addFile_12, w_X6_addFile_13, w_X6_addFile_14, w_X6_addFile_15, if_neg c_20, if_neg c_31, if_pos c_43, if_pos c_56] <;> rfl) (Nat.le_of_ble_eq_true rfl) (Nat.le_of_ble_eq_true rfl)
        · refine v_bipush E dX6_addFile_59 (v := -8) (by decide) ?_
          exact v_iret E F dX6_addFile_61 rfl rfl () (by simp only [r_X6_addFile, if_neg c_20, if_neg c_31, if_pos c_43, if_neg c_56]) (by simp only [w_X6_addFile_1_2, w_X6_addFile_10_0, w_X6_addFile_11, w_X6_addFile_12, w_X6_addFile_13, w_X6_addFile_14, w_X6_addFile_15, if_neg c_20, if_neg c_31, if_pos c_43, if_neg c_56] <;> rfl) (Nat.le_of_ble_eq_true rfl) (Nat.le_of_ble_eq_true rfl)
      · refine v_bipush E dX6_addFile_46 (v := -9) (by decide) ?_
        exact v_iret E F dX6_addFile_48 rfl rfl () (by simp only [r_X6_addFile, if_neg c_20, if_neg c_31, if_neg c_43]) (by simp only [w_X6_addFile_1_2, w_X6_addFile_10_0, w_X6_addFile_11, w_X6_addFile_12, w_X6_addFile_13, w_X6_addFile_14, w_X6_addFile_15, if_neg c_20, if_neg c_31, if_neg c_43] <;> rfl) (Nat.le_of_ble_eq_true rfl) (Nat.le_of_ble_eq_true rfl)
    · refine v_bipush E dX6_addFile_34 (v := -3) (by decide) ?_
      exact v_iret E F dX6_addFile_36 rfl rfl () (by simp only [r_X6_addFile, if_neg c_20, if_pos c_31]) (by simp only [w_X6_addFile_1_2, w_X6_addFile_10_0, w_X6_addFile_11, w_X6_addFile_12, w_X6_addFile_13, w_X6_addFile_14, w_X6_addFile_15, if_neg c_20, if_pos c_31] <;> rfl) (Nat.le_of_ble_eq_true rfl) (Nat.le_of_ble_eq_true rfl)
  · refine v_iconst E dX6_addFile_23 (v := -1) (by decide) ?_
    exact v_iret E F dX6_addFile_24 rfl rfl () (by simp only [r_X6_addFile, if_pos c_20]) (by simp only [w_X6_addFile_1_2, w_X6_addFile_10_0, w_X6_addFile_11, w_X6_addFile_12, w_X6_addFile_13, w_X6_addFile_14, w_X6_addFile_15, if_pos c_20] <;> rfl) (Nat.le_of_ble_eq_true rfl) (Nat.le_of_ble_eq_true rfl)

def r_X6_edit (fc : Int32) (ft : Nat → Int32) (fe : Nat → Int32) (f : Int32) : Int32 := if (r_X1_has fc fe f) = 0 then (-2) else ft f.toNatClampNeg
def w_X6_edit_1_2 (fc : Int32) (ft : Nat → Int32) (fh : Nat → Int32) (fe : Nat → Int32) (di : Int64) (f : Int32) : Int64 := if (r_X1_has fc fe f) = 0 then di else (w_X4_touchBy_0_2 ft fh di f.toNatClampNeg)
set_option maxRecDepth 20000 in
/-- X6_edit -/
theorem c_X6_edit (D : va_G) (x0 : Nat) (x1 : Nat) (q : Nat → Nat) (ct : Int32) (dp : Int32) (we : Nat → Int32) (ok : Nat → Int32) (us : Nat → Nat → Int32) (fc : Int32) (ft : Nat → Int32) (fn : Nat → Int32) (fh : Nat → Int32) (fe : Nat → Int32) (fo : Nat → Int32) (di : Int64) (f : Int32) (F0 : Nat) (hfc : fc = nI F0) (hF : F0 ≤ 40) (l : Launch) : Ct l yX6_edit cX6_edit 2 (some .int) (rmM 2 43 0 0) D [.ref x0, .int f] [(x0, .inr (6, [.ref (q 0), .ref x1])), (q 0, .inr (4, [.ref (q 1), .ref (q 9), .long di])), (q 1, .inr (5, [.int ct, .int dp, .ref (q 2), .ref (q 3), .ref (q 4)])), (q 2, aI D 20 we), (q 3, aI D 3 ok), (q 4, aG D 4 (gU q 5)), (q 5, aI D 20 (us 0)), (q 6, aI D 20 (us 1)), (q 7, aI D 20 (us 2)), (q 8, aI D 20 (us 3)), (q 9, .inr (1, [.int fc, .ref (q 10), .ref (q 11), .ref (q 12), .ref (q 13), .ref (q 14)])), (q 10, aI D 40 ft), (q 11, aI D 40 fn), (q 12, aZ D 40 fh), (q 13, aZ D 40 fe), (q 14, aI D 100 fo)] (QI1 D (r_X6_edit fc ft fe f) [(x0, .inr (6, [.ref (q 0), .ref x1])), (q 0, .inr (4, [.ref (q 1), .ref (q 9), .long (w_X6_edit_1_2 fc ft fh fe di f)])), (q 1, .inr (5, [.int ct, .int dp, .ref (q 2), .ref (q 3), .ref (q 4)])), (q 2, aI D 20 we), (q 3, aI D 3 ok), (q 4, aG D 4 (gU q 5)), (q 5, aI D 20 (us 0)), (q 6, aI D 20 (us 1)), (q 7, aI D 20 (us 2)), (q 8, aI D 20 (us 3)), (q 9, .inr (1, [.int fc, .ref (q 10), .ref (q 11), .ref (q 12), .ref (q 13), .ref (q 14)])), (q 10, aI D 40 ft), (q 11, aI D 40 fn), (q 12, aZ D 40 fh), (q 13, aZ D 40 fe), (q 14, aI D 100 fo)]) := by
  refine Ct.ofV 0 (lv0 := [some (.ref x0), some (.int f)]) (by decide) rfl rfl (fun Z E F => ?_)
  refine v_aload_n E dX6_edit_0 rfl ?_
  refine v_get E dX6_edit_1 (ci := 6) rfl iwX6 0 rfl 0 rfl fl_X6_12 rfl ?_
  refine v_get E dX6_edit_4 (ci := 4) rfl iwX4 1 rfl 1 rfl fl_X6_73 rfl ?_
  refine v_iload_n E dX6_edit_7 rfl ?_
  refine v_cV_i E dX6_edit_8 (c_X1_has D q fc ft fn fh fe fo f F0 hfc hF) cs_X6_90 rfl rfl rfl (Nat.le_of_ble_eq_true rfl) 10 rfl rfl [10, 11, 12, 13, 14, 15] rfl rfl ⟨Nat.le_of_ble_eq_true rfl, Nat.le_of_ble_eq_true rfl⟩ ?_
  refine v_if_ne E 17 dX6_edit_11 (by decide) (fun c_11 => ?_) (fun c_11 => ?_)
  · obtain ⟨hf1, hf2, hf3⟩ := has_use hfc hF c_11
    refine v_aload_n E dX6_edit_17 rfl ?_
    refine v_get E dX6_edit_18 (ci := 6) rfl iwX6 0 rfl 0 rfl fl_X6_12 rfl ?_
    refine v_iload_n E dX6_edit_21 rfl ?_
    refine v_cV_vU E dX6_edit_22 (c_X4_touchBy D q ct dp we ok us fc ft fn fh fe fo di f f.toNatClampNeg hf1 (by omega)) cs_X6_86 rfl rfl rfl (Nat.le_of_ble_eq_true rfl) 1 rfl rfl [1, 2, 3, 4, 5, 6, 7, 8, 9, 10, 11, 12, 13, 14, 15] rfl rfl ⟨Nat.le_of_ble_eq_true rfl, Nat.le_of_ble_eq_true rfl⟩ [q 0, q 1, q 2, q 3, q 4, q 5, q 6, q 7, q 8, q 9, q 10, q 11, q 12, q 13, q 14] rfl rfl ?_
    refine v_wd (wd2 := [(x0, .inr (6, [.ref (q 0), .ref x1])), (q 0, .inr (4, [.ref (q 1), .ref (q 9), .long (w_X4_touchBy_0_2 ft fh di f.toNatClampNeg)])), (q 1, .inr (5, [.int ct, .int dp, .ref (q 2), .ref (q 3), .ref (q 4)])), (q 2, aI D 20 we), (q 3, aI D 3 ok), (q 4, aG D 4 (gU q 5)), (q 5, aI D 20 (us 0)), (q 6, aI D 20 (us 1)), (q 7, aI D 20 (us 2)), (q 8, aI D 20 (us 3)), (q 9, .inr (1, [.int fc, .ref (q 10), .ref (q 11), .ref (q 12), .ref (q 13), .ref (q 14)])), (q 10, aI D 40 ft), (q 11, aI D 40 fn), (q 12, aZ D 40 fh), (q 13, aZ D 40 fe), (q 14, aI D 100 fo)]) rfl ?_
    refine v_aload_n E dX6_edit_25 rfl ?_
    refine v_get E dX6_edit_26 (ci := 6) rfl iwX6 0 rfl 0 rfl fl_X6_12 rfl ?_
    refine v_get E dX6_edit_29 (ci := 4) rfl iwX4 1 rfl 1 rfl fl_X6_73 rfl ?_
    refine v_get E dX6_edit_32 (ci := 1) rfl iwX1 10 rfl 1 rfl fl_X6_91 rfl ?_
    refine v_iload_n E dX6_edit_35 rfl ?_
    refine v_iald E dX6_edit_36 11 rfl f.toNatClampNeg hf1 (by omega) rfl ?_
    exact v_iret E F dX6_edit_37 rfl rfl () (by simp only [r_X6_edit, if_neg c_11]) (by simp only [w_X6_edit_1_2, if_neg c_11] <;> rfl) (Nat.le_of_ble_eq_true rfl) (Nat.le_of_ble_eq_true rfl)
  · refine v_bipush E dX6_edit_14 (v := -2) (by decide) ?_
    exact v_iret E F dX6_edit_16 rfl rfl () (by simp only [r_X6_edit, if_pos c_11]) (by simp only [w_X6_edit_1_2, if_pos c_11] <;> rfl) (Nat.le_of_ble_eq_true rfl) (Nat.le_of_ble_eq_true rfl)

def r_X6_rename (fc : Int32) (fn : Nat → Int32) (fe : Nat → Int32) (fo : Nat → Int32) (f : Int32) (nm : Int32) : Int32 := if (r_X1_has fc fe f) = 0 then (-2) else if (r_X6_inRange nm 100) = 0 then (-3) else if (r_X1_isInUse fc fn fe fo nm nm.toNatClampNeg) = 0 then fn f.toNatClampNeg else (-9)
def w_X6_rename_1_2 (fc : Int32) (ft : Nat → Int32) (fn : Nat → Int32) (fh : Nat → Int32) (fe : Nat → Int32) (fo : Nat → Int32) (di : Int64) (f : Int32) (nm : Int32) : Int64 := if (r_X1_has fc fe f) = 0 then di else if (r_X6_inRange nm 100) = 0 then di else if (r_X1_isInUse fc fn fe fo nm nm.toNatClampNeg) = 0 then (if (fh f.toNatClampNeg) = 0 then di else (w_X4_touchBy_0_2 ft fh di f.toNatClampNeg)) else di
def w_X6_rename_12 (fc : Int32) (fn : Nat → Int32) (fe : Nat → Int32) (fo : Nat → Int32) (f : Int32) (nm : Int32) : Nat → Int32 := if (r_X1_has fc fe f) = 0 then fn else if (r_X6_inRange nm 100) = 0 then fn else if (r_X1_isInUse fc fn fe fo nm nm.toNatClampNeg) = 0 then (w_X1_giveName_2 fn nm f.toNatClampNeg) else fn
def w_X6_rename_15 (fc : Int32) (fn : Nat → Int32) (fe : Nat → Int32) (fo : Nat → Int32) (f : Int32) (nm : Int32) : Nat → Int32 := if (r_X1_has fc fe f) = 0 then fo else if (r_X6_inRange nm 100) = 0 then fo else if (r_X1_isInUse fc fn fe fo nm nm.toNatClampNeg) = 0 then (w_X1_giveName_5 fo f nm.toNatClampNeg) else fo
set_option maxRecDepth 20000 in
/-- X6_rename -/
theorem c_X6_rename (D : va_G) (x0 : Nat) (x1 : Nat) (q : Nat → Nat) (ct : Int32) (dp : Int32) (we : Nat → Int32) (ok : Nat → Int32) (us : Nat → Nat → Int32) (fc : Int32) (ft : Nat → Int32) (fn : Nat → Int32) (fh : Nat → Int32) (fe : Nat → Int32) (fo : Nat → Int32) (di : Int64) (f : Int32) (nm : Int32) (F0 : Nat) (hfc : fc = nI F0) (hF : F0 ≤ 40) (l : Launch) : Ct l yX6_rename cX6_rename 5 (some .int) (rmM 3 64 0 0) D [.ref x0, .int f, .int nm] [(x0, .inr (6, [.ref (q 0), .ref x1])), (q 0, .inr (4, [.ref (q 1), .ref (q 9), .long di])), (q 1, .inr (5, [.int ct, .int dp, .ref (q 2), .ref (q 3), .ref (q 4)])), (q 2, aI D 20 we), (q 3, aI D 3 ok), (q 4, aG D 4 (gU q 5)), (q 5, aI D 20 (us 0)), (q 6, aI D 20 (us 1)), (q 7, aI D 20 (us 2)), (q 8, aI D 20 (us 3)), (q 9, .inr (1, [.int fc, .ref (q 10), .ref (q 11), .ref (q 12), .ref (q 13), .ref (q 14)])), (q 10, aI D 40 ft), (q 11, aI D 40 fn), (q 12, aZ D 40 fh), (q 13, aZ D 40 fe), (q 14, aI D 100 fo)] (QI1 D (r_X6_rename fc fn fe fo f nm) [(x0, .inr (6, [.ref (q 0), .ref x1])), (q 0, .inr (4, [.ref (q 1), .ref (q 9), .long (w_X6_rename_1_2 fc ft fn fh fe fo di f nm)])), (q 1, .inr (5, [.int ct, .int dp, .ref (q 2), .ref (q 3), .ref (q 4)])), (q 2, aI D 20 we), (q 3, aI D 3 ok), (q 4, aG D 4 (gU q 5)), (q 5, aI D 20 (us 0)), (q 6, aI D 20 (us 1)), (q 7, aI D 20 (us 2)), (q 8, aI D 20 (us 3)), (q 9, .inr (1, [.int fc, .ref (q 10), .ref (q 11), .ref (q 12), .ref (q 13), .ref (q 14)])), (q 10, aI D 40 ft), (q 11, aI D 40 (w_X6_rename_12 fc fn fe fo f nm)), (q 12, aZ D 40 fh), (q 13, aZ D 40 fe), (q 14, aI D 100 (w_X6_rename_15 fc fn fe fo f nm))]) := by
  refine Ct.ofV 2 (lv0 := [some (.ref x0), some (.int f), some (.int nm), none, none]) (by decide) rfl rfl (fun Z E F => ?_)
  refine v_aload_n E dX6_rename_0 rfl ?_
  refine v_get E dX6_rename_1 (ci := 6) rfl iwX6 0 rfl 0 rfl fl_X6_12 rfl ?_
  refine v_get E dX6_rename_4 (ci := 4) rfl iwX4 1 rfl 1 rfl fl_X6_73 rfl ?_
  refine v_astore_n E dX6_rename_7 rfl rfl ?_
  refine v_aload_n E dX6_rename_8 rfl ?_
  refine v_iload_n E dX6_rename_9 rfl ?_
  refine v_cV_i E dX6_rename_10 (c_X1_has D q fc ft fn fh fe fo f F0 hfc hF) cs_X6_90 rfl rfl rfl (Nat.le_of_ble_eq_true rfl) 10 rfl rfl [10, 11, 12, 13, 14, 15] rfl rfl ⟨Nat.le_of_ble_eq_true rfl, Nat.le_of_ble_eq_true rfl⟩ ?_
  refine v_if_ne E 19 dX6_rename_13 (by decide) (fun c_13 => ?_) (fun c_13 => ?_)
  · obtain ⟨hf1, hf2, hf3⟩ := has_use hfc hF c_13
    refine v_iload_n E dX6_rename_19 rfl ?_
    refine v_bipush E dX6_rename_20 (v := 100) (by decide) ?_
    refine v_cS_i E dX6_rename_22 (c_X6_inRange D nm 100) cs_X6_24 rfl rfl rfl (Nat.le_of_ble_eq_true rfl) [] rfl rfl ⟨Nat.le_of_ble_eq_true rfl, Nat.le_of_ble_eq_true rfl⟩ ?_
    refine v_if_ne E 31 dX6_rename_25 (by decide) (fun c_25 => ?_) (fun c_25 => ?_)
    · obtain ⟨hnm1, hnm2⟩ := inR_use (F := 100) (v := nm) (show (100 : Int32) = nI 100 by decide) (by omega) c_25
      refine v_aload_n E dX6_rename_31 rfl ?_
      refine v_iload_n E dX6_rename_32 rfl ?_
      refine v_cV_i E dX6_rename_33 (c_X1_isInUse D q fc ft fn fh fe fo nm nm.toNatClampNeg F0 hnm1 (by omega) hfc hF) cs_X6_77 rfl rfl rfl (Nat.le_of_ble_eq_true rfl) 10 rfl rfl [10, 11, 12, 13, 14, 15] rfl rfl ⟨Nat.le_of_ble_eq_true rfl, Nat.le_of_ble_eq_true rfl⟩ ?_
      refine v_if_eq E 42 dX6_rename_36 (by decide) (fun c_36 => ?_) (fun c_36 => ?_)
      · refine v_aload_n E dX6_rename_42 rfl ?_
        refine v_get E dX6_rename_43 (ci := 1) rfl iwX1 10 rfl 2 rfl fl_X6_95 rfl ?_
        refine v_iload_n E dX6_rename_46 rfl ?_
        refine v_iald E dX6_rename_47 12 rfl f.toNatClampNeg hf1 (by omega) rfl ?_
        refine v_istore E dX6_rename_48 rfl rfl ?_
        refine v_aload_n E dX6_rename_50 rfl ?_
        refine v_iload_n E dX6_rename_51 rfl ?_
        refine v_iload_n E dX6_rename_52 rfl ?_
        refine v_cV_vU E dX6_rename_53 (c_X1_giveName D q fc ft fn fh fe fo f nm f.toNatClampNeg nm.toNatClampNeg hf1 hnm1 (by omega) (by omega)) cs_X6_98 rfl rfl rfl (Nat.le_of_ble_eq_true rfl) 10 rfl rfl [10, 11, 12, 13, 14, 15] rfl rfl ⟨Nat.le_of_ble_eq_true rfl, Nat.le_of_ble_eq_true rfl⟩ [q 9, q 10, q 11, q 12, q 13, q 14] rfl rfl ?_
        refine v_wd (wd2 := [(x0, .inr (6, [.ref (q 0), .ref x1])), (q 0, .inr (4, [.ref (q 1), .ref (q 9), .long di])), (q 1, .inr (5, [.int ct, .int dp, .ref (q 2), .ref (q 3), .ref (q 4)])), (q 2, aI D 20 we), (q 3, aI D 3 ok), (q 4, aG D 4 (gU q 5)), (q 5, aI D 20 (us 0)), (q 6, aI D 20 (us 1)), (q 7, aI D 20 (us 2)), (q 8, aI D 20 (us 3)), (q 9, .inr (1, [.int fc, .ref (q 10), .ref (q 11), .ref (q 12), .ref (q 13), .ref (q 14)])), (q 10, aI D 40 ft), (q 11, aI D 40 (w_X1_giveName_2 fn nm f.toNatClampNeg)), (q 12, aZ D 40 fh), (q 13, aZ D 40 fe), (q 14, aI D 100 (w_X1_giveName_5 fo f nm.toNatClampNeg))]) rfl ?_
        refine v_aload_n E dX6_rename_56 rfl ?_
        refine v_get E dX6_rename_57 (ci := 1) rfl iwX1 10 rfl 3 rfl fl_X6_102 rfl ?_
        refine v_iload_n E dX6_rename_60 rfl ?_
        refine v_zald E dX6_rename_61 13 rfl f.toNatClampNeg hf1 (by omega) rfl ?_
        refine v_if_eq E 73 dX6_rename_62 (by decide) (fun c_62 => ?_) (fun c_62 => ?_)
        · refine v_iload E dX6_rename_73 rfl ?_
          exact v_iret E F dX6_rename_75 rfl rfl () (by simp only [r_X6_rename, if_neg c_13, if_neg c_25, if_pos c_36, if_pos c_62]) (by simp only [w_X6_rename_1_2, w_X6_rename_12, w_X6_rename_15, if_neg c_13, if_neg c_25, if_pos c_36, if_pos c_62] <;> rfl) (Nat.le_of_ble_eq_true rfl) (Nat.le_of_ble_eq_true rfl)
        · refine v_aload_n E dX6_rename_65 rfl ?_
          refine v_get E dX6_rename_66 (ci := 6) rfl iwX6 0 rfl 0 rfl fl_X6_12 rfl ?_
          refine v_iload_n E dX6_rename_69 rfl ?_
          refine v_cV_vU E dX6_rename_70 (c_X4_touchBy D q ct dp we ok us fc ft (w_X1_giveName_2 fn nm f.toNatClampNeg) fh fe (w_X1_giveName_5 fo f nm.toNatClampNeg) di f f.toNatClampNeg hf1 (by omega)) cs_X6_86 rfl rfl rfl (Nat.le_of_ble_eq_true rfl) 1 rfl rfl [1, 2, 3, 4, 5, 6, 7, 8, 9, 10, 11, 12, 13, 14, 15] rfl rfl ⟨Nat.le_of_ble_eq_true rfl, Nat.le_of_ble_eq_true rfl⟩ [q 0, q 1, q 2, q 3, q 4, q 5, q 6, q 7, q 8, q 9, q 10, q 11, q 12, q 13, q 14] rfl rfl ?_
          refine v_wd (wd2 := [(x0, .inr (6, [.ref (q 0), .ref x1])), (q 0, .inr (4, [.ref (q 1), .ref (q 9), .long (w_X4_touchBy_0_2 ft fh di f.toNatClampNeg)])), (q 1, .inr (5, [.int ct, .int dp, .ref (q 2), .ref (q 3), .ref (q 4)])), (q 2, aI D 20 we), (q 3, aI D 3 ok), (q 4, aG D 4 (gU q 5)), (q 5, aI D 20 (us 0)), (q 6, aI D 20 (us 1)), (q 7, aI D 20 (us 2)), (q 8, aI D 20 (us 3)), (q 9, .inr (1, [.int fc, .ref (q 10), .ref (q 11), .ref (q 12), .ref (q 13), .ref (q 14)])), (q 10, aI D 40 ft), (q 11, aI D 40 (w_X1_giveName_2 fn nm f.toNatClampNeg)), (q 12, aZ D 40 fh), (q 13, aZ D 40 fe), (q 14, aI D 100 (w_X1_giveName_5 fo f nm.toNatClampNeg))]) rfl ?_
          refine v_iload E dX6_rename_73 rfl ?_
          exact v_iret E F dX6_rename_75 rfl rfl () (by simp only [r_X6_rename, if_neg c_13, if_neg c_25, if_pos c_36, if_neg c_62]) (by simp only [w_X6_rename_1_2, w_X6_rename_12, w_X6_rename_15, if_neg c_13, if_neg c_25, if_pos c_36, if_neg c_62] <;> rfl) (Nat.le_of_ble_eq_true rfl) (Nat.le_of_ble_eq_true rfl)
      · refine v_bipush E dX6_rename_39 (v := -9) (by decide) ?_
        exact v_iret E F dX6_rename_41 rfl rfl () (by simp only [r_X6_rename, if_neg c_13, if_neg c_25, if_neg c_36]) (by simp only [w_X6_rename_1_2, w_X6_rename_12, w_X6_rename_15, if_neg c_13, if_neg c_25, if_neg c_36] <;> rfl) (Nat.le_of_ble_eq_true rfl) (Nat.le_of_ble_eq_true rfl)
    · refine v_bipush E dX6_rename_28 (v := -3) (by decide) ?_
      exact v_iret E F dX6_rename_30 rfl rfl () (by simp only [r_X6_rename, if_neg c_13, if_pos c_25]) (by simp only [w_X6_rename_1_2, w_X6_rename_12, w_X6_rename_15, if_neg c_13, if_pos c_25] <;> rfl) (Nat.le_of_ble_eq_true rfl) (Nat.le_of_ble_eq_true rfl)
  · refine v_bipush E dX6_rename_16 (v := -2) (by decide) ?_
    exact v_iret E F dX6_rename_18 rfl rfl () (by simp only [r_X6_rename, if_pos c_13]) (by simp only [w_X6_rename_1_2, w_X6_rename_12, w_X6_rename_15, if_pos c_13] <;> rfl) (Nat.le_of_ble_eq_true rfl) (Nat.le_of_ble_eq_true rfl)

def r_X6_move (ct : Int32) (fc : Int32) (ft : Nat → Int32) (fe : Nat → Int32) (f : Int32) (t : Int32) : Int32 := if (r_X1_has fc fe f) = 0 then (-2) else if (r_X5_has ct t) = 0 then (-1) else if (ft f.toNatClampNeg) = t then (-4) else ft f.toNatClampNeg
def w_X6_move_1_2 (ct : Int32) (fc : Int32) (ft : Nat → Int32) (fh : Nat → Int32) (fe : Nat → Int32) (di : Int64) (f : Int32) (t : Int32) : Int64 := if (r_X1_has fc fe f) = 0 then di else if (r_X5_has ct t) = 0 then di else if (ft f.toNatClampNeg) = t then di else (w_X4_touchBy_0_2 (upd ft f.toNatClampNeg t) fh (w_X4_touchBy_0_2 ft fh di f.toNatClampNeg) f.toNatClampNeg)
def w_X6_move_11 (ct : Int32) (fc : Int32) (ft : Nat → Int32) (fe : Nat → Int32) (f : Int32) (t : Int32) : Nat → Int32 := if (r_X1_has fc fe f) = 0 then ft else if (r_X5_has ct t) = 0 then ft else if (ft f.toNatClampNeg) = t then ft else upd ft f.toNatClampNeg t
set_option maxRecDepth 20000 in
/-- X6_move -/
theorem c_X6_move (D : va_G) (x0 : Nat) (x1 : Nat) (q : Nat → Nat) (ct : Int32) (dp : Int32) (we : Nat → Int32) (ok : Nat → Int32) (us : Nat → Nat → Int32) (fc : Int32) (ft : Nat → Int32) (fn : Nat → Int32) (fh : Nat → Int32) (fe : Nat → Int32) (fo : Nat → Int32) (di : Int64) (f : Int32) (t : Int32) (N : Nat) (F0 : Nat) (hct : ct = nI N) (hN : N ≤ 20) (hfc : fc = nI F0) (hF : F0 ≤ 40) (l : Launch) : Ct l yX6_move cX6_move 5 (some .int) (rmM 2 43 0 0) D [.ref x0, .int f, .int t] [(x0, .inr (6, [.ref (q 0), .ref x1])), (q 0, .inr (4, [.ref (q 1), .ref (q 9), .long di])), (q 1, .inr (5, [.int ct, .int dp, .ref (q 2), .ref (q 3), .ref (q 4)])), (q 2, aI D 20 we), (q 3, aI D 3 ok), (q 4, aG D 4 (gU q 5)), (q 5, aI D 20 (us 0)), (q 6, aI D 20 (us 1)), (q 7, aI D 20 (us 2)), (q 8, aI D 20 (us 3)), (q 9, .inr (1, [.int fc, .ref (q 10), .ref (q 11), .ref (q 12), .ref (q 13), .ref (q 14)])), (q 10, aI D 40 ft), (q 11, aI D 40 fn), (q 12, aZ D 40 fh), (q 13, aZ D 40 fe), (q 14, aI D 100 fo)] (QI1 D (r_X6_move ct fc ft fe f t) [(x0, .inr (6, [.ref (q 0), .ref x1])), (q 0, .inr (4, [.ref (q 1), .ref (q 9), .long (w_X6_move_1_2 ct fc ft fh fe di f t)])), (q 1, .inr (5, [.int ct, .int dp, .ref (q 2), .ref (q 3), .ref (q 4)])), (q 2, aI D 20 we), (q 3, aI D 3 ok), (q 4, aG D 4 (gU q 5)), (q 5, aI D 20 (us 0)), (q 6, aI D 20 (us 1)), (q 7, aI D 20 (us 2)), (q 8, aI D 20 (us 3)), (q 9, .inr (1, [.int fc, .ref (q 10), .ref (q 11), .ref (q 12), .ref (q 13), .ref (q 14)])), (q 10, aI D 40 (w_X6_move_11 ct fc ft fe f t)), (q 11, aI D 40 fn), (q 12, aZ D 40 fh), (q 13, aZ D 40 fe), (q 14, aI D 100 fo)]) := by
  refine Ct.ofV 2 (lv0 := [some (.ref x0), some (.int f), some (.int t), none, none]) (by decide) rfl rfl (fun Z E F => ?_)
  refine v_aload_n E dX6_move_0 rfl ?_
  refine v_get E dX6_move_1 (ci := 6) rfl iwX6 0 rfl 0 rfl fl_X6_12 rfl ?_
  refine v_get E dX6_move_4 (ci := 4) rfl iwX4 1 rfl 1 rfl fl_X6_73 rfl ?_
  refine v_astore_n E dX6_move_7 rfl rfl ?_
  refine v_aload_n E dX6_move_8 rfl ?_
  refine v_iload_n E dX6_move_9 rfl ?_
  refine v_cV_i E dX6_move_10 (c_X1_has D q fc ft fn fh fe fo f F0 hfc hF) cs_X6_90 rfl rfl rfl (Nat.le_of_ble_eq_true rfl) 10 rfl rfl [10, 11, 12, 13, 14, 15] rfl rfl ⟨Nat.le_of_ble_eq_true rfl, Nat.le_of_ble_eq_true rfl⟩ ?_
  refine v_if_ne E 19 dX6_move_13 (by decide) (fun c_13 => ?_) (fun c_13 => ?_)
  · obtain ⟨hf1, hf2, hf3⟩ := has_use hfc hF c_13
    refine v_aload_n E dX6_move_19 rfl ?_
    refine v_get E dX6_move_20 (ci := 6) rfl iwX6 0 rfl 0 rfl fl_X6_12 rfl ?_
    refine v_get E dX6_move_23 (ci := 4) rfl iwX4 1 rfl 0 rfl fl_X6_20 rfl ?_
    refine v_iload_n E dX6_move_26 rfl ?_
    refine v_cV_i E dX6_move_27 (c_X5_has D q ct dp we ok us t) cs_X6_42 rfl rfl rfl (Nat.le_of_ble_eq_true rfl) 2 rfl rfl [2, 3, 4, 5, 6, 7, 8, 9] rfl rfl ⟨Nat.le_of_ble_eq_true rfl, Nat.le_of_ble_eq_true rfl⟩ ?_
    refine v_if_ne E 35 dX6_move_30 (by decide) (fun c_30 => ?_) (fun c_30 => ?_)
    · refine v_aload_n E dX6_move_35 rfl ?_
      refine v_get E dX6_move_36 (ci := 1) rfl iwX1 10 rfl 1 rfl fl_X6_91 rfl ?_
      refine v_iload_n E dX6_move_39 rfl ?_
      refine v_iald E dX6_move_40 11 rfl f.toNatClampNeg hf1 (by omega) rfl ?_
      refine v_istore E dX6_move_41 rfl rfl ?_
      refine v_iload E dX6_move_43 rfl ?_
      refine v_iload_n E dX6_move_45 rfl ?_
      refine v_icmp_ne E 52 dX6_move_46 (by decide) (fun c_46 => ?_) (fun c_46 => ?_)
      · refine v_aload_n E dX6_move_52 rfl ?_
        refine v_get E dX6_move_53 (ci := 6) rfl iwX6 0 rfl 0 rfl fl_X6_12 rfl ?_
        refine v_iload_n E dX6_move_56 rfl ?_
        refine v_cV_vU E dX6_move_57 (c_X4_touchBy D q ct dp we ok us fc ft fn fh fe fo di f f.toNatClampNeg hf1 (by omega)) cs_X6_86 rfl rfl rfl (Nat.le_of_ble_eq_true rfl) 1 rfl rfl [1, 2, 3, 4, 5, 6, 7, 8, 9, 10, 11, 12, 13, 14, 15] rfl rfl ⟨Nat.le_of_ble_eq_true rfl, Nat.le_of_ble_eq_true rfl⟩ [q 0, q 1, q 2, q 3, q 4, q 5, q 6, q 7, q 8, q 9, q 10, q 11, q 12, q 13, q 14] rfl rfl ?_
        refine v_wd (wd2 := [(x0, .inr (6, [.ref (q 0), .ref x1])), (q 0, .inr (4, [.ref (q 1), .ref (q 9), .long (w_X4_touchBy_0_2 ft fh di f.toNatClampNeg)])), (q 1, .inr (5, [.int ct, .int dp, .ref (q 2), .ref (q 3), .ref (q 4)])), (q 2, aI D 20 we), (q 3, aI D 3 ok), (q 4, aG D 4 (gU q 5)), (q 5, aI D 20 (us 0)), (q 6, aI D 20 (us 1)), (q 7, aI D 20 (us 2)), (q 8, aI D 20 (us 3)), (q 9, .inr (1, [.int fc, .ref (q 10), .ref (q 11), .ref (q 12), .ref (q 13), .ref (q 14)])), (q 10, aI D 40 ft), (q 11, aI D 40 fn), (q 12, aZ D 40 fh), (q 13, aZ D 40 fe), (q 14, aI D 100 fo)]) rfl ?_
        refine v_aload_n E dX6_move_60 rfl ?_
        refine v_get E dX6_move_61 (ci := 1) rfl iwX1 10 rfl 1 rfl fl_X6_91 rfl ?_
        refine v_iload_n E dX6_move_64 rfl ?_
        refine v_iload_n E dX6_move_65 rfl ?_
        refine v_iast E dX6_move_66 11 rfl f.toNatClampNeg hf1 (by omega) rfl ?_
        refine v_wd (wd2 := [(x0, .inr (6, [.ref (q 0), .ref x1])), (q 0, .inr (4, [.ref (q 1), .ref (q 9), .long (w_X4_touchBy_0_2 ft fh di f.toNatClampNeg)])), (q 1, .inr (5, [.int ct, .int dp, .ref (q 2), .ref (q 3), .ref (q 4)])), (q 2, aI D 20 we), (q 3, aI D 3 ok), (q 4, aG D 4 (gU q 5)), (q 5, aI D 20 (us 0)), (q 6, aI D 20 (us 1)), (q 7, aI D 20 (us 2)), (q 8, aI D 20 (us 3)), (q 9, .inr (1, [.int fc, .ref (q 10), .ref (q 11), .ref (q 12), .ref (q 13), .ref (q 14)])), (q 10, aI D 40 (upd ft f.toNatClampNeg t)), (q 11, aI D 40 fn), (q 12, aZ D 40 fh), (q 13, aZ D 40 fe), (q 14, aI D 100 fo)]) rfl ?_
        refine v_aload_n E dX6_move_67 rfl ?_
        refine v_get E dX6_move_68 (ci := 6) rfl iwX6 0 rfl 0 rfl fl_X6_12 rfl ?_
        refine v_iload_n E dX6_move_71 rfl ?_
        refine v_cV_vU E dX6_move_72 (c_X4_touchBy D q ct dp we ok us fc (upd ft f.toNatClampNeg t) fn fh fe fo (w_X4_touchBy_0_2 ft fh di f.toNatClampNeg) f f.toNatClampNeg hf1 (by omega)) cs_X6_86 rfl rfl rfl (Nat.le_of_ble_eq_true rfl) 1 rfl rfl [1, 2, 3, 4, 5, 6, 7, 8, 9, 10, 11, 12, 13, 14, 15] rfl rfl ⟨Nat.le_of_ble_eq_true rfl, Nat.le_of_ble_eq_true rfl⟩ [q 0, q 1, q 2, q 3, q 4, q 5, q 6, q 7, q 8, q 9, q 10, q 11, q 12, q 13, q 14] rfl rfl ?_
        refine v_wd (wd2 := [(x0, .inr (6, [.ref (q 0), .ref x1])), (q 0, .inr (4, [.ref (q 1), .ref (q 9), .long (w_X4_touchBy_0_2 (upd ft f.toNatClampNeg t) fh (w_X4_touchBy_0_2 ft fh di f.toNatClampNeg) f.toNatClampNeg)])), (q 1, .inr (5, [.int ct, .int dp, .ref (q 2), .ref (q 3), .ref (q 4)])), (q 2, aI D 20 we), (q 3, aI D 3 ok), (q 4, aG D 4 (gU q 5)), (q 5, aI D 20 (us 0)), (q 6, aI D 20 (us 1)), (q 7, aI D 20 (us 2)), (q 8, aI D 20 (us 3)), (q 9, .inr (1, [.int fc, .ref (q 10), .ref (q 11), .ref (q 12), .ref (q 13), .ref (q 14)])), (q 10, aI D 40 (upd ft f.toNatClampNeg t)), (q 11, aI D 40 fn), (q 12, aZ D 40 fh), (q 13, aZ D 40 fe), (q 14, aI D 100 fo)]) rfl ?_
        refine v_iload E dX6_move_75 rfl ?_
        exact v_iret E F dX6_move_77 rfl rfl () (by simp only [r_X6_move, if_neg c_13, if_neg c_30, if_neg c_46]) (by simp only [w_X6_move_1_2, w_X6_move_11, if_neg c_13, if_neg c_30, if_neg c_46] <;> rfl) (Nat.le_of_ble_eq_true rfl) (Nat.le_of_ble_eq_true rfl)
      · refine v_bipush E dX6_move_49 (v := -4) (by decide) ?_
        exact v_iret E F dX6_move_51 rfl rfl () (by simp only [r_X6_move, if_neg c_13, if_neg c_30, if_pos c_46]) (by simp only [w_X6_move_1_2, w_X6_move_11, if_neg c_13, if_neg c_30, if_pos c_46] <;> rfl) (Nat.le_of_ble_eq_true rfl) (Nat.le_of_ble_eq_true rfl)
    · refine v_iconst E dX6_move_33 (v := -1) (by decide) ?_
      exact v_iret E F dX6_move_34 rfl rfl () (by simp only [r_X6_move, if_neg c_13, if_pos c_30]) (by simp only [w_X6_move_1_2, w_X6_move_11, if_neg c_13, if_pos c_30] <;> rfl) (Nat.le_of_ble_eq_true rfl) (Nat.le_of_ble_eq_true rfl)
  · refine v_bipush E dX6_move_16 (v := -2) (by decide) ?_
    exact v_iret E F dX6_move_18 rfl rfl () (by simp only [r_X6_move, if_pos c_13]) (by simp only [w_X6_move_1_2, w_X6_move_11, if_pos c_13] <;> rfl) (Nat.le_of_ble_eq_true rfl) (Nat.le_of_ble_eq_true rfl)

def r_X6_deleteFile (fc : Int32) (fn : Nat → Int32) (fe : Nat → Int32) (f : Int32) : Int32 := if (r_X1_has fc fe f) = 0 then (-2) else fn f.toNatClampNeg
def w_X6_deleteFile_1_2 (fc : Int32) (ft : Nat → Int32) (fh : Nat → Int32) (fe : Nat → Int32) (di : Int64) (f : Int32) : Int64 := if (r_X1_has fc fe f) = 0 then di else (w_X4_touchBy_0_2 ft fh di f.toNatClampNeg)
def w_X6_deleteFile_14 (fc : Int32) (fe : Nat → Int32) (f : Int32) : Nat → Int32 := if (r_X1_has fc fe f) = 0 then fe else upd fe f.toNatClampNeg (vp_nar .boolean 0)
set_option maxRecDepth 20000 in
/-- X6_deleteFile -/
theorem c_X6_deleteFile (D : va_G) (x0 : Nat) (x1 : Nat) (q : Nat → Nat) (ct : Int32) (dp : Int32) (we : Nat → Int32) (ok : Nat → Int32) (us : Nat → Nat → Int32) (fc : Int32) (ft : Nat → Int32) (fn : Nat → Int32) (fh : Nat → Int32) (fe : Nat → Int32) (fo : Nat → Int32) (di : Int64) (f : Int32) (F0 : Nat) (hfc : fc = nI F0) (hF : F0 ≤ 40) (l : Launch) : Ct l yX6_deleteFile cX6_deleteFile 3 (some .int) (rmM 2 43 0 0) D [.ref x0, .int f] [(x0, .inr (6, [.ref (q 0), .ref x1])), (q 0, .inr (4, [.ref (q 1), .ref (q 9), .long di])), (q 1, .inr (5, [.int ct, .int dp, .ref (q 2), .ref (q 3), .ref (q 4)])), (q 2, aI D 20 we), (q 3, aI D 3 ok), (q 4, aG D 4 (gU q 5)), (q 5, aI D 20 (us 0)), (q 6, aI D 20 (us 1)), (q 7, aI D 20 (us 2)), (q 8, aI D 20 (us 3)), (q 9, .inr (1, [.int fc, .ref (q 10), .ref (q 11), .ref (q 12), .ref (q 13), .ref (q 14)])), (q 10, aI D 40 ft), (q 11, aI D 40 fn), (q 12, aZ D 40 fh), (q 13, aZ D 40 fe), (q 14, aI D 100 fo)] (QI1 D (r_X6_deleteFile fc fn fe f) [(x0, .inr (6, [.ref (q 0), .ref x1])), (q 0, .inr (4, [.ref (q 1), .ref (q 9), .long (w_X6_deleteFile_1_2 fc ft fh fe di f)])), (q 1, .inr (5, [.int ct, .int dp, .ref (q 2), .ref (q 3), .ref (q 4)])), (q 2, aI D 20 we), (q 3, aI D 3 ok), (q 4, aG D 4 (gU q 5)), (q 5, aI D 20 (us 0)), (q 6, aI D 20 (us 1)), (q 7, aI D 20 (us 2)), (q 8, aI D 20 (us 3)), (q 9, .inr (1, [.int fc, .ref (q 10), .ref (q 11), .ref (q 12), .ref (q 13), .ref (q 14)])), (q 10, aI D 40 ft), (q 11, aI D 40 fn), (q 12, aZ D 40 fh), (q 13, aZ D 40 (w_X6_deleteFile_14 fc fe f)), (q 14, aI D 100 fo)]) := by
  refine Ct.ofV 1 (lv0 := [some (.ref x0), some (.int f), none]) (by decide) rfl rfl (fun Z E F => ?_)
  refine v_aload_n E dX6_deleteFile_0 rfl ?_
  refine v_get E dX6_deleteFile_1 (ci := 6) rfl iwX6 0 rfl 0 rfl fl_X6_12 rfl ?_
  refine v_get E dX6_deleteFile_4 (ci := 4) rfl iwX4 1 rfl 1 rfl fl_X6_73 rfl ?_
  refine v_astore_n E dX6_deleteFile_7 rfl rfl ?_
  refine v_aload_n E dX6_deleteFile_8 rfl ?_
  refine v_iload_n E dX6_deleteFile_9 rfl ?_
  refine v_cV_i E dX6_deleteFile_10 (c_X1_has D q fc ft fn fh fe fo f F0 hfc hF) cs_X6_90 rfl rfl rfl (Nat.le_of_ble_eq_true rfl) 10 rfl rfl [10, 11, 12, 13, 14, 15] rfl rfl ⟨Nat.le_of_ble_eq_true rfl, Nat.le_of_ble_eq_true rfl⟩ ?_
  refine v_if_ne E 19 dX6_deleteFile_13 (by decide) (fun c_13 => ?_) (fun c_13 => ?_)
  · obtain ⟨hf1, hf2, hf3⟩ := has_use hfc hF c_13
    refine v_aload_n E dX6_deleteFile_19 rfl ?_
    refine v_get E dX6_deleteFile_20 (ci := 6) rfl iwX6 0 rfl 0 rfl fl_X6_12 rfl ?_
    refine v_iload_n E dX6_deleteFile_23 rfl ?_
    refine v_cV_vU E dX6_deleteFile_24 (c_X4_touchBy D q ct dp we ok us fc ft fn fh fe fo di f f.toNatClampNeg hf1 (by omega)) cs_X6_86 rfl rfl rfl (Nat.le_of_ble_eq_true rfl) 1 rfl rfl [1, 2, 3, 4, 5, 6, 7, 8, 9, 10, 11, 12, 13, 14, 15] rfl rfl ⟨Nat.le_of_ble_eq_true rfl, Nat.le_of_ble_eq_true rfl⟩ [q 0, q 1, q 2, q 3, q 4, q 5, q 6, q 7, q 8, q 9, q 10, q 11, q 12, q 13, q 14] rfl rfl ?_
    refine v_wd (wd2 := [(x0, .inr (6, [.ref (q 0), .ref x1])), (q 0, .inr (4, [.ref (q 1), .ref (q 9), .long (w_X4_touchBy_0_2 ft fh di f.toNatClampNeg)])), (q 1, .inr (5, [.int ct, .int dp, .ref (q 2), .ref (q 3), .ref (q 4)])), (q 2, aI D 20 we), (q 3, aI D 3 ok), (q 4, aG D 4 (gU q 5)), (q 5, aI D 20 (us 0)), (q 6, aI D 20 (us 1)), (q 7, aI D 20 (us 2)), (q 8, aI D 20 (us 3)), (q 9, .inr (1, [.int fc, .ref (q 10), .ref (q 11), .ref (q 12), .ref (q 13), .ref (q 14)])), (q 10, aI D 40 ft), (q 11, aI D 40 fn), (q 12, aZ D 40 fh), (q 13, aZ D 40 fe), (q 14, aI D 100 fo)]) rfl ?_
    refine v_aload_n E dX6_deleteFile_27 rfl ?_
    refine v_get E dX6_deleteFile_28 (ci := 1) rfl iwX1 10 rfl 4 rfl fl_X6_106 rfl ?_
    refine v_iload_n E dX6_deleteFile_31 rfl ?_
    refine v_iconst E dX6_deleteFile_32 (v := 0) (by decide) ?_
    refine v_zast E dX6_deleteFile_33 14 rfl f.toNatClampNeg hf1 (by omega) rfl ?_
    refine v_wd (wd2 := [(x0, .inr (6, [.ref (q 0), .ref x1])), (q 0, .inr (4, [.ref (q 1), .ref (q 9), .long (w_X4_touchBy_0_2 ft fh di f.toNatClampNeg)])), (q 1, .inr (5, [.int ct, .int dp, .ref (q 2), .ref (q 3), .ref (q 4)])), (q 2, aI D 20 we), (q 3, aI D 3 ok), (q 4, aG D 4 (gU q 5)), (q 5, aI D 20 (us 0)), (q 6, aI D 20 (us 1)), (q 7, aI D 20 (us 2)), (q 8, aI D 20 (us 3)), (q 9, .inr (1, [.int fc, .ref (q 10), .ref (q 11), .ref (q 12), .ref (q 13), .ref (q 14)])), (q 10, aI D 40 ft), (q 11, aI D 40 fn), (q 12, aZ D 40 fh), (q 13, aZ D 40 (upd fe f.toNatClampNeg (vp_nar .boolean 0))), (q 14, aI D 100 fo)]) rfl ?_
    refine v_aload_n E dX6_deleteFile_34 rfl ?_
    refine v_get E dX6_deleteFile_35 (ci := 1) rfl iwX1 10 rfl 2 rfl fl_X6_95 rfl ?_
    refine v_iload_n E dX6_deleteFile_38 rfl ?_
    refine v_iald E dX6_deleteFile_39 12 rfl f.toNatClampNeg hf1 (by omega) rfl ?_
    exact v_iret E F dX6_deleteFile_40 rfl rfl () (by simp only [r_X6_deleteFile, if_neg c_13]) (by simp only [w_X6_deleteFile_1_2, w_X6_deleteFile_14, if_neg c_13] <;> rfl) (Nat.le_of_ble_eq_true rfl) (Nat.le_of_ble_eq_true rfl)
  · refine v_bipush E dX6_deleteFile_16 (v := -2) (by decide) ?_
    exact v_iret E F dX6_deleteFile_18 rfl rfl () (by simp only [r_X6_deleteFile, if_pos c_13]) (by simp only [w_X6_deleteFile_1_2, w_X6_deleteFile_14, if_pos c_13] <;> rfl) (Nat.le_of_ble_eq_true rfl) (Nat.le_of_ble_eq_true rfl)

def r_X6_targetOf (fc : Int32) (ft : Nat → Int32) (fe : Nat → Int32) (f : Int32) : Int32 := if (r_X1_has fc fe f) = 0 then (-2) else ft f.toNatClampNeg
set_option maxRecDepth 20000 in
/-- X6_targetOf -/
theorem c_X6_targetOf (D : va_G) (x0 : Nat) (x1 : Nat) (q : Nat → Nat) (ct : Int32) (dp : Int32) (we : Nat → Int32) (ok : Nat → Int32) (us : Nat → Nat → Int32) (fc : Int32) (ft : Nat → Int32) (fn : Nat → Int32) (fh : Nat → Int32) (fe : Nat → Int32) (fo : Nat → Int32) (di : Int64) (f : Int32) (F0 : Nat) (hfc : fc = nI F0) (hF : F0 ≤ 40) (l : Launch) : Ct l yX6_targetOf cX6_targetOf 2 (some .int) (rmM 2 42 0 0) D [.ref x0, .int f] [(x0, .inr (6, [.ref (q 0), .ref x1])), (q 0, .inr (4, [.ref (q 1), .ref (q 9), .long di])), (q 1, .inr (5, [.int ct, .int dp, .ref (q 2), .ref (q 3), .ref (q 4)])), (q 2, aI D 20 we), (q 3, aI D 3 ok), (q 4, aG D 4 (gU q 5)), (q 5, aI D 20 (us 0)), (q 6, aI D 20 (us 1)), (q 7, aI D 20 (us 2)), (q 8, aI D 20 (us 3)), (q 9, .inr (1, [.int fc, .ref (q 10), .ref (q 11), .ref (q 12), .ref (q 13), .ref (q 14)])), (q 10, aI D 40 ft), (q 11, aI D 40 fn), (q 12, aZ D 40 fh), (q 13, aZ D 40 fe), (q 14, aI D 100 fo)] (QI1 D (r_X6_targetOf fc ft fe f) [(x0, .inr (6, [.ref (q 0), .ref x1])), (q 0, .inr (4, [.ref (q 1), .ref (q 9), .long di])), (q 1, .inr (5, [.int ct, .int dp, .ref (q 2), .ref (q 3), .ref (q 4)])), (q 2, aI D 20 we), (q 3, aI D 3 ok), (q 4, aG D 4 (gU q 5)), (q 5, aI D 20 (us 0)), (q 6, aI D 20 (us 1)), (q 7, aI D 20 (us 2)), (q 8, aI D 20 (us 3)), (q 9, .inr (1, [.int fc, .ref (q 10), .ref (q 11), .ref (q 12), .ref (q 13), .ref (q 14)])), (q 10, aI D 40 ft), (q 11, aI D 40 fn), (q 12, aZ D 40 fh), (q 13, aZ D 40 fe), (q 14, aI D 100 fo)]) := by
  refine Ct.ofV 0 (lv0 := [some (.ref x0), some (.int f)]) (by decide) rfl rfl (fun Z E F => ?_)
  refine v_aload_n E dX6_targetOf_0 rfl ?_
  refine v_get E dX6_targetOf_1 (ci := 6) rfl iwX6 0 rfl 0 rfl fl_X6_12 rfl ?_
  refine v_get E dX6_targetOf_4 (ci := 4) rfl iwX4 1 rfl 1 rfl fl_X6_73 rfl ?_
  refine v_iload_n E dX6_targetOf_7 rfl ?_
  refine v_cV_i E dX6_targetOf_8 (c_X1_has D q fc ft fn fh fe fo f F0 hfc hF) cs_X6_90 rfl rfl rfl (Nat.le_of_ble_eq_true rfl) 10 rfl rfl [10, 11, 12, 13, 14, 15] rfl rfl ⟨Nat.le_of_ble_eq_true rfl, Nat.le_of_ble_eq_true rfl⟩ ?_
  refine v_if_eq E 29 dX6_targetOf_11 (by decide) (fun c_11 => ?_) (fun c_11 => ?_)
  · refine v_bipush E dX6_targetOf_29 (v := -2) (by decide) ?_
    exact v_iret E F dX6_targetOf_31 rfl rfl () (by simp only [r_X6_targetOf, if_pos c_11]) rfl (Nat.le_of_ble_eq_true rfl) (Nat.le_of_ble_eq_true rfl)
  · obtain ⟨hf1, hf2, hf3⟩ := has_use hfc hF c_11
    refine v_aload_n E dX6_targetOf_14 rfl ?_
    refine v_get E dX6_targetOf_15 (ci := 6) rfl iwX6 0 rfl 0 rfl fl_X6_12 rfl ?_
    refine v_get E dX6_targetOf_18 (ci := 4) rfl iwX4 1 rfl 1 rfl fl_X6_73 rfl ?_
    refine v_get E dX6_targetOf_21 (ci := 1) rfl iwX1 10 rfl 1 rfl fl_X6_91 rfl ?_
    refine v_iload_n E dX6_targetOf_24 rfl ?_
    refine v_iald E dX6_targetOf_25 11 rfl f.toNatClampNeg hf1 (by omega) rfl ?_
    refine v_goto E 31 dX6_targetOf_26 (by decide) ?_
    exact v_iret E F dX6_targetOf_31 rfl rfl () (by simp only [r_X6_targetOf, if_neg c_11]) rfl (Nat.le_of_ble_eq_true rfl) (Nat.le_of_ble_eq_true rfl)

def r_X6_nameOf (fc : Int32) (fn : Nat → Int32) (fe : Nat → Int32) (f : Int32) : Int32 := if (r_X1_has fc fe f) = 0 then (-2) else fn f.toNatClampNeg
set_option maxRecDepth 20000 in
/-- X6_nameOf -/
theorem c_X6_nameOf (D : va_G) (x0 : Nat) (x1 : Nat) (q : Nat → Nat) (ct : Int32) (dp : Int32) (we : Nat → Int32) (ok : Nat → Int32) (us : Nat → Nat → Int32) (fc : Int32) (ft : Nat → Int32) (fn : Nat → Int32) (fh : Nat → Int32) (fe : Nat → Int32) (fo : Nat → Int32) (di : Int64) (f : Int32) (F0 : Nat) (hfc : fc = nI F0) (hF : F0 ≤ 40) (l : Launch) : Ct l yX6_nameOf cX6_nameOf 2 (some .int) (rmM 2 42 0 0) D [.ref x0, .int f] [(x0, .inr (6, [.ref (q 0), .ref x1])), (q 0, .inr (4, [.ref (q 1), .ref (q 9), .long di])), (q 1, .inr (5, [.int ct, .int dp, .ref (q 2), .ref (q 3), .ref (q 4)])), (q 2, aI D 20 we), (q 3, aI D 3 ok), (q 4, aG D 4 (gU q 5)), (q 5, aI D 20 (us 0)), (q 6, aI D 20 (us 1)), (q 7, aI D 20 (us 2)), (q 8, aI D 20 (us 3)), (q 9, .inr (1, [.int fc, .ref (q 10), .ref (q 11), .ref (q 12), .ref (q 13), .ref (q 14)])), (q 10, aI D 40 ft), (q 11, aI D 40 fn), (q 12, aZ D 40 fh), (q 13, aZ D 40 fe), (q 14, aI D 100 fo)] (QI1 D (r_X6_nameOf fc fn fe f) [(x0, .inr (6, [.ref (q 0), .ref x1])), (q 0, .inr (4, [.ref (q 1), .ref (q 9), .long di])), (q 1, .inr (5, [.int ct, .int dp, .ref (q 2), .ref (q 3), .ref (q 4)])), (q 2, aI D 20 we), (q 3, aI D 3 ok), (q 4, aG D 4 (gU q 5)), (q 5, aI D 20 (us 0)), (q 6, aI D 20 (us 1)), (q 7, aI D 20 (us 2)), (q 8, aI D 20 (us 3)), (q 9, .inr (1, [.int fc, .ref (q 10), .ref (q 11), .ref (q 12), .ref (q 13), .ref (q 14)])), (q 10, aI D 40 ft), (q 11, aI D 40 fn), (q 12, aZ D 40 fh), (q 13, aZ D 40 fe), (q 14, aI D 100 fo)]) := by
  refine Ct.ofV 0 (lv0 := [some (.ref x0), some (.int f)]) (by decide) rfl rfl (fun Z E F => ?_)
  refine v_aload_n E dX6_nameOf_0 rfl ?_
  refine v_get E dX6_nameOf_1 (ci := 6) rfl iwX6 0 rfl 0 rfl fl_X6_12 rfl ?_
  refine v_get E dX6_nameOf_4 (ci := 4) rfl iwX4 1 rfl 1 rfl fl_X6_73 rfl ?_
  refine v_iload_n E dX6_nameOf_7 rfl ?_
  refine v_cV_i E dX6_nameOf_8 (c_X1_has D q fc ft fn fh fe fo f F0 hfc hF) cs_X6_90 rfl rfl rfl (Nat.le_of_ble_eq_true rfl) 10 rfl rfl [10, 11, 12, 13, 14, 15] rfl rfl ⟨Nat.le_of_ble_eq_true rfl, Nat.le_of_ble_eq_true rfl⟩ ?_
  refine v_if_eq E 29 dX6_nameOf_11 (by decide) (fun c_11 => ?_) (fun c_11 => ?_)
  · refine v_bipush E dX6_nameOf_29 (v := -2) (by decide) ?_
    exact v_iret E F dX6_nameOf_31 rfl rfl () (by simp only [r_X6_nameOf, if_pos c_11]) rfl (Nat.le_of_ble_eq_true rfl) (Nat.le_of_ble_eq_true rfl)
  · obtain ⟨hf1, hf2, hf3⟩ := has_use hfc hF c_11
    refine v_aload_n E dX6_nameOf_14 rfl ?_
    refine v_get E dX6_nameOf_15 (ci := 6) rfl iwX6 0 rfl 0 rfl fl_X6_12 rfl ?_
    refine v_get E dX6_nameOf_18 (ci := 4) rfl iwX4 1 rfl 1 rfl fl_X6_73 rfl ?_
    refine v_get E dX6_nameOf_21 (ci := 1) rfl iwX1 10 rfl 2 rfl fl_X6_95 rfl ?_
    refine v_iload_n E dX6_nameOf_24 rfl ?_
    refine v_iald E dX6_nameOf_25 12 rfl f.toNatClampNeg hf1 (by omega) rfl ?_
    refine v_goto E 31 dX6_nameOf_26 (by decide) ?_
    exact v_iret E F dX6_nameOf_31 rfl rfl () (by simp only [r_X6_nameOf, if_neg c_11]) rfl (Nat.le_of_ble_eq_true rfl) (Nat.le_of_ble_eq_true rfl)

def r_X6_follow (fc : Int32) (fe : Nat → Int32) (fo : Nat → Int32) (nm : Int32) : Int32 := if (r_X6_inRange nm 100) = 0 then (-3) else if (r_X1_has fc fe (fo nm.toNatClampNeg)) = 0 then (-10) else fo nm.toNatClampNeg
set_option maxRecDepth 20000 in
/-- X6_follow -/
theorem c_X6_follow (D : va_G) (x0 : Nat) (x1 : Nat) (q : Nat → Nat) (ct : Int32) (dp : Int32) (we : Nat → Int32) (ok : Nat → Int32) (us : Nat → Nat → Int32) (fc : Int32) (ft : Nat → Int32) (fn : Nat → Int32) (fh : Nat → Int32) (fe : Nat → Int32) (fo : Nat → Int32) (di : Int64) (nm : Int32) (F0 : Nat) (hfc : fc = nI F0) (hF : F0 ≤ 40) (l : Launch) : Ct l yX6_follow cX6_follow 3 (some .int) (rmM 2 42 0 0) D [.ref x0, .int nm] [(x0, .inr (6, [.ref (q 0), .ref x1])), (q 0, .inr (4, [.ref (q 1), .ref (q 9), .long di])), (q 1, .inr (5, [.int ct, .int dp, .ref (q 2), .ref (q 3), .ref (q 4)])), (q 2, aI D 20 we), (q 3, aI D 3 ok), (q 4, aG D 4 (gU q 5)), (q 5, aI D 20 (us 0)), (q 6, aI D 20 (us 1)), (q 7, aI D 20 (us 2)), (q 8, aI D 20 (us 3)), (q 9, .inr (1, [.int fc, .ref (q 10), .ref (q 11), .ref (q 12), .ref (q 13), .ref (q 14)])), (q 10, aI D 40 ft), (q 11, aI D 40 fn), (q 12, aZ D 40 fh), (q 13, aZ D 40 fe), (q 14, aI D 100 fo)] (QI1 D (r_X6_follow fc fe fo nm) [(x0, .inr (6, [.ref (q 0), .ref x1])), (q 0, .inr (4, [.ref (q 1), .ref (q 9), .long di])), (q 1, .inr (5, [.int ct, .int dp, .ref (q 2), .ref (q 3), .ref (q 4)])), (q 2, aI D 20 we), (q 3, aI D 3 ok), (q 4, aG D 4 (gU q 5)), (q 5, aI D 20 (us 0)), (q 6, aI D 20 (us 1)), (q 7, aI D 20 (us 2)), (q 8, aI D 20 (us 3)), (q 9, .inr (1, [.int fc, .ref (q 10), .ref (q 11), .ref (q 12), .ref (q 13), .ref (q 14)])), (q 10, aI D 40 ft), (q 11, aI D 40 fn), (q 12, aZ D 40 fh), (q 13, aZ D 40 fe), (q 14, aI D 100 fo)]) := by
  refine Ct.ofV 1 (lv0 := [some (.ref x0), some (.int nm), none]) (by decide) rfl rfl (fun Z E F => ?_)
  refine v_iload_n E dX6_follow_0 rfl ?_
  refine v_bipush E dX6_follow_1 (v := 100) (by decide) ?_
  refine v_cS_i E dX6_follow_3 (c_X6_inRange D nm 100) cs_X6_24 rfl rfl rfl (Nat.le_of_ble_eq_true rfl) [] rfl rfl ⟨Nat.le_of_ble_eq_true rfl, Nat.le_of_ble_eq_true rfl⟩ ?_
  refine v_if_ne E 12 dX6_follow_6 (by decide) (fun c_6 => ?_) (fun c_6 => ?_)
  · obtain ⟨hnm1, hnm2⟩ := inR_use (F := 100) (v := nm) (show (100 : Int32) = nI 100 by decide) (by omega) c_6
    refine v_aload_n E dX6_follow_12 rfl ?_
    refine v_get E dX6_follow_13 (ci := 6) rfl iwX6 0 rfl 0 rfl fl_X6_12 rfl ?_
    refine v_get E dX6_follow_16 (ci := 4) rfl iwX4 1 rfl 1 rfl fl_X6_73 rfl ?_
    refine v_get E dX6_follow_19 (ci := 1) rfl iwX1 10 rfl 5 rfl fl_X6_109 rfl ?_
    refine v_iload_n E dX6_follow_22 rfl ?_
    refine v_iald E dX6_follow_23 15 rfl nm.toNatClampNeg hnm1 (by omega) rfl ?_
    refine v_istore_n E dX6_follow_24 rfl rfl ?_
    refine v_aload_n E dX6_follow_25 rfl ?_
    refine v_get E dX6_follow_26 (ci := 6) rfl iwX6 0 rfl 0 rfl fl_X6_12 rfl ?_
    refine v_get E dX6_follow_29 (ci := 4) rfl iwX4 1 rfl 1 rfl fl_X6_73 rfl ?_
    refine v_iload_n E dX6_follow_32 rfl ?_
    refine v_cV_i E dX6_follow_33 (c_X1_has D q fc ft fn fh fe fo (fo nm.toNatClampNeg) F0 hfc hF) cs_X6_90 rfl rfl rfl (Nat.le_of_ble_eq_true rfl) 10 rfl rfl [10, 11, 12, 13, 14, 15] rfl rfl ⟨Nat.le_of_ble_eq_true rfl, Nat.le_of_ble_eq_true rfl⟩ ?_
    refine v_if_eq E 43 dX6_follow_36 (by decide) (fun c_36 => ?_) (fun c_36 => ?_)
    · refine v_bipush E dX6_follow_43 (v := -10) (by decide) ?_
      exact v_iret E F dX6_follow_45 rfl rfl () (by simp only [r_X6_follow, if_neg c_6, if_pos c_36]) rfl (Nat.le_of_ble_eq_true rfl) (Nat.le_of_ble_eq_true rfl)
    · refine v_iload_n E dX6_follow_39 rfl ?_
      refine v_goto E 45 dX6_follow_40 (by decide) ?_
      exact v_iret E F dX6_follow_45 rfl rfl () (by simp only [r_X6_follow, if_neg c_6, if_neg c_36]) rfl (Nat.le_of_ble_eq_true rfl) (Nat.le_of_ble_eq_true rfl)
  · refine v_bipush E dX6_follow_9 (v := -3) (by decide) ?_
    exact v_iret E F dX6_follow_11 rfl rfl () (by simp only [r_X6_follow, if_pos c_6]) rfl (Nat.le_of_ble_eq_true rfl) (Nat.le_of_ble_eq_true rfl)

def r_X6_clearChanges (di : Int64) : Int32 := (r_J13_bitCount_95d88 di)
def w_X6_clearChanges_1_2  : Int64 := 0
set_option maxRecDepth 20000 in
/-- X6_clearChanges -/
theorem c_X6_clearChanges (D : va_G) (x0 : Nat) (x1 : Nat) (q : Nat → Nat) (ct : Int32) (dp : Int32) (we : Nat → Int32) (ok : Nat → Int32) (us : Nat → Nat → Int32) (fc : Int32) (ft : Nat → Int32) (fn : Nat → Int32) (fh : Nat → Int32) (fe : Nat → Int32) (fo : Nat → Int32) (di : Int64) (l : Launch) : Ct l yX6_clearChanges cX6_clearChanges 2 (some .int) (rmM 1 21 0 0) D [.ref x0] [(x0, .inr (6, [.ref (q 0), .ref x1])), (q 0, .inr (4, [.ref (q 1), .ref (q 9), .long di])), (q 1, .inr (5, [.int ct, .int dp, .ref (q 2), .ref (q 3), .ref (q 4)])), (q 2, aI D 20 we), (q 3, aI D 3 ok), (q 4, aG D 4 (gU q 5)), (q 5, aI D 20 (us 0)), (q 6, aI D 20 (us 1)), (q 7, aI D 20 (us 2)), (q 8, aI D 20 (us 3)), (q 9, .inr (1, [.int fc, .ref (q 10), .ref (q 11), .ref (q 12), .ref (q 13), .ref (q 14)])), (q 10, aI D 40 ft), (q 11, aI D 40 fn), (q 12, aZ D 40 fh), (q 13, aZ D 40 fe), (q 14, aI D 100 fo)] (QI1 D (r_X6_clearChanges di) [(x0, .inr (6, [.ref (q 0), .ref x1])), (q 0, .inr (4, [.ref (q 1), .ref (q 9), .long (w_X6_clearChanges_1_2)])), (q 1, .inr (5, [.int ct, .int dp, .ref (q 2), .ref (q 3), .ref (q 4)])), (q 2, aI D 20 we), (q 3, aI D 3 ok), (q 4, aG D 4 (gU q 5)), (q 5, aI D 20 (us 0)), (q 6, aI D 20 (us 1)), (q 7, aI D 20 (us 2)), (q 8, aI D 20 (us 3)), (q 9, .inr (1, [.int fc, .ref (q 10), .ref (q 11), .ref (q 12), .ref (q 13), .ref (q 14)])), (q 10, aI D 40 ft), (q 11, aI D 40 fn), (q 12, aZ D 40 fh), (q 13, aZ D 40 fe), (q 14, aI D 100 fo)]) := by
  refine Ct.ofV 1 (lv0 := [some (.ref x0), none]) (by decide) rfl rfl (fun Z E F => ?_)
  refine v_aload_n E dX6_clearChanges_0 rfl ?_
  refine v_get E dX6_clearChanges_1 (ci := 6) rfl iwX6 0 rfl 0 rfl fl_X6_12 rfl ?_
  refine v_get E dX6_clearChanges_4 (ci := 4) rfl iwX4 1 rfl 2 rfl fl_X6_112 rfl ?_
  refine v_cS_i E dX6_clearChanges_7 (c_J13_bitCount_95d88 D di) cs_X6_116 rfl rfl rfl (Nat.le_of_ble_eq_true rfl) [] rfl rfl ⟨Nat.le_of_ble_eq_true rfl, Nat.le_of_ble_eq_true rfl⟩ ?_
  refine v_istore_n E dX6_clearChanges_10 rfl rfl ?_
  refine v_aload_n E dX6_clearChanges_11 rfl ?_
  refine v_get E dX6_clearChanges_12 (ci := 6) rfl iwX6 0 rfl 0 rfl fl_X6_12 rfl ?_
  refine v_lconst E dX6_clearChanges_15 (v := 0) (by decide) ?_
  refine v_put E dX6_clearChanges_16 (ci := 4) rfl iwX4 tyX4 tyX4_ok nmX4 1 rfl 2 rfl fl_X6_112 rfl rfl rfl rfl rfl ?_
  refine v_wd (wd2 := [(x0, .inr (6, [.ref (q 0), .ref x1])), (q 0, .inr (4, [.ref (q 1), .ref (q 9), .long 0])), (q 1, .inr (5, [.int ct, .int dp, .ref (q 2), .ref (q 3), .ref (q 4)])), (q 2, aI D 20 we), (q 3, aI D 3 ok), (q 4, aG D 4 (gU q 5)), (q 5, aI D 20 (us 0)), (q 6, aI D 20 (us 1)), (q 7, aI D 20 (us 2)), (q 8, aI D 20 (us 3)), (q 9, .inr (1, [.int fc, .ref (q 10), .ref (q 11), .ref (q 12), .ref (q 13), .ref (q 14)])), (q 10, aI D 40 ft), (q 11, aI D 40 fn), (q 12, aZ D 40 fh), (q 13, aZ D 40 fe), (q 14, aI D 100 fo)]) rfl ?_
  refine v_iload_n E dX6_clearChanges_19 rfl ?_
  exact v_iret E F dX6_clearChanges_20 rfl rfl () rfl rfl (Nat.le_of_ble_eq_true rfl) (Nat.le_of_ble_eq_true rfl)

def r_X6_directlyChanged (di : Int64) (p : Int32) : Int32 := if (r_X6_inRange p 2) = 0 then (-3) else (r_X6_targetsWith di p)
set_option maxRecDepth 20000 in
/-- X6_directlyChanged -/
theorem c_X6_directlyChanged (D : va_G) (x0 : Nat) (x1 : Nat) (q : Nat → Nat) (ct : Int32) (dp : Int32) (we : Nat → Int32) (ok : Nat → Int32) (us : Nat → Nat → Int32) (fc : Int32) (ft : Nat → Int32) (fn : Nat → Int32) (fh : Nat → Int32) (fe : Nat → Int32) (fo : Nat → Int32) (di : Int64) (p : Int32) (l : Launch) : Ct l yX6_directlyChanged cX6_directlyChanged 2 (some .int) (rmM 1 22 0 0) D [.ref x0, .int p] [(x0, .inr (6, [.ref (q 0), .ref x1])), (q 0, .inr (4, [.ref (q 1), .ref (q 9), .long di])), (q 1, .inr (5, [.int ct, .int dp, .ref (q 2), .ref (q 3), .ref (q 4)])), (q 2, aI D 20 we), (q 3, aI D 3 ok), (q 4, aG D 4 (gU q 5)), (q 5, aI D 20 (us 0)), (q 6, aI D 20 (us 1)), (q 7, aI D 20 (us 2)), (q 8, aI D 20 (us 3)), (q 9, .inr (1, [.int fc, .ref (q 10), .ref (q 11), .ref (q 12), .ref (q 13), .ref (q 14)])), (q 10, aI D 40 ft), (q 11, aI D 40 fn), (q 12, aZ D 40 fh), (q 13, aZ D 40 fe), (q 14, aI D 100 fo)] (QI1 D (r_X6_directlyChanged di p) [(x0, .inr (6, [.ref (q 0), .ref x1])), (q 0, .inr (4, [.ref (q 1), .ref (q 9), .long di])), (q 1, .inr (5, [.int ct, .int dp, .ref (q 2), .ref (q 3), .ref (q 4)])), (q 2, aI D 20 we), (q 3, aI D 3 ok), (q 4, aG D 4 (gU q 5)), (q 5, aI D 20 (us 0)), (q 6, aI D 20 (us 1)), (q 7, aI D 20 (us 2)), (q 8, aI D 20 (us 3)), (q 9, .inr (1, [.int fc, .ref (q 10), .ref (q 11), .ref (q 12), .ref (q 13), .ref (q 14)])), (q 10, aI D 40 ft), (q 11, aI D 40 fn), (q 12, aZ D 40 fh), (q 13, aZ D 40 fe), (q 14, aI D 100 fo)]) := by
  refine Ct.ofV 0 (lv0 := [some (.ref x0), some (.int p)]) (by decide) rfl rfl (fun Z E F => ?_)
  refine v_iload_n E dX6_directlyChanged_0 rfl ?_
  refine v_iconst E dX6_directlyChanged_1 (v := 2) (by decide) ?_
  refine v_cS_i E dX6_directlyChanged_2 (c_X6_inRange D p 2) cs_X6_24 rfl rfl rfl (Nat.le_of_ble_eq_true rfl) [] rfl rfl ⟨Nat.le_of_ble_eq_true rfl, Nat.le_of_ble_eq_true rfl⟩ ?_
  refine v_if_eq E 22 dX6_directlyChanged_5 (by decide) (fun c_5 => ?_) (fun c_5 => ?_)
  · refine v_bipush E dX6_directlyChanged_22 (v := -3) (by decide) ?_
    exact v_iret E F dX6_directlyChanged_24 rfl rfl () (by simp only [r_X6_directlyChanged, if_pos c_5]) rfl (Nat.le_of_ble_eq_true rfl) (Nat.le_of_ble_eq_true rfl)
  · refine v_aload_n E dX6_directlyChanged_8 rfl ?_
    refine v_get E dX6_directlyChanged_9 (ci := 6) rfl iwX6 0 rfl 0 rfl fl_X6_12 rfl ?_
    refine v_get E dX6_directlyChanged_12 (ci := 4) rfl iwX4 1 rfl 2 rfl fl_X6_112 rfl ?_
    refine v_iload_n E dX6_directlyChanged_15 rfl ?_
    refine v_cS_i E dX6_directlyChanged_16 (c_X6_targetsWith D di p) cs_X6_122 rfl rfl rfl (Nat.le_of_ble_eq_true rfl) [] rfl rfl ⟨Nat.le_of_ble_eq_true rfl, Nat.le_of_ble_eq_true rfl⟩ ?_
    refine v_goto E 24 dX6_directlyChanged_19 (by decide) ?_
    exact v_iret E F dX6_directlyChanged_24 rfl rfl () (by simp only [r_X6_directlyChanged, if_neg c_5]) rfl (Nat.le_of_ble_eq_true rfl) (Nat.le_of_ble_eq_true rfl)

def r_X6_changed (us : Nat → Nat → Int32) (di : Int64) (p : Int32) : Int32 := if (r_X6_inRange p 2) = 0 then (-3) else (r_X6_targetsWith (r_X5_reachOf us di) p)
set_option maxRecDepth 20000 in
/-- X6_changed -/
theorem c_X6_changed (D : va_G) (x0 : Nat) (x1 : Nat) (q : Nat → Nat) (ct : Int32) (dp : Int32) (we : Nat → Int32) (ok : Nat → Int32) (us : Nat → Nat → Int32) (fc : Int32) (ft : Nat → Int32) (fn : Nat → Int32) (fh : Nat → Int32) (fe : Nat → Int32) (fo : Nat → Int32) (di : Int64) (p : Int32) (l : Launch) : Ct l yX6_changed cX6_changed 2 (some .int) (rmM 4 95 0 0) D [.ref x0, .int p] [(x0, .inr (6, [.ref (q 0), .ref x1])), (q 0, .inr (4, [.ref (q 1), .ref (q 9), .long di])), (q 1, .inr (5, [.int ct, .int dp, .ref (q 2), .ref (q 3), .ref (q 4)])), (q 2, aI D 20 we), (q 3, aI D 3 ok), (q 4, aG D 4 (gU q 5)), (q 5, aI D 20 (us 0)), (q 6, aI D 20 (us 1)), (q 7, aI D 20 (us 2)), (q 8, aI D 20 (us 3)), (q 9, .inr (1, [.int fc, .ref (q 10), .ref (q 11), .ref (q 12), .ref (q 13), .ref (q 14)])), (q 10, aI D 40 ft), (q 11, aI D 40 fn), (q 12, aZ D 40 fh), (q 13, aZ D 40 fe), (q 14, aI D 100 fo)] (QI1 D (r_X6_changed us di p) [(x0, .inr (6, [.ref (q 0), .ref x1])), (q 0, .inr (4, [.ref (q 1), .ref (q 9), .long di])), (q 1, .inr (5, [.int ct, .int dp, .ref (q 2), .ref (q 3), .ref (q 4)])), (q 2, aI D 20 we), (q 3, aI D 3 ok), (q 4, aG D 4 (gU q 5)), (q 5, aI D 20 (us 0)), (q 6, aI D 20 (us 1)), (q 7, aI D 20 (us 2)), (q 8, aI D 20 (us 3)), (q 9, .inr (1, [.int fc, .ref (q 10), .ref (q 11), .ref (q 12), .ref (q 13), .ref (q 14)])), (q 10, aI D 40 ft), (q 11, aI D 40 fn), (q 12, aZ D 40 fh), (q 13, aZ D 40 fe), (q 14, aI D 100 fo)]) := by
  refine Ct.ofV 0 (lv0 := [some (.ref x0), some (.int p)]) (by decide) rfl rfl (fun Z E F => ?_)
  refine v_iload_n E dX6_changed_0 rfl ?_
  refine v_iconst E dX6_changed_1 (v := 2) (by decide) ?_
  refine v_cS_i E dX6_changed_2 (c_X6_inRange D p 2) cs_X6_24 rfl rfl rfl (Nat.le_of_ble_eq_true rfl) [] rfl rfl ⟨Nat.le_of_ble_eq_true rfl, Nat.le_of_ble_eq_true rfl⟩ ?_
  refine v_if_eq E 32 dX6_changed_5 (by decide) (fun c_5 => ?_) (fun c_5 => ?_)
  · refine v_bipush E dX6_changed_32 (v := -3) (by decide) ?_
    exact v_iret E F dX6_changed_34 rfl rfl () (by simp only [r_X6_changed, if_pos c_5]) rfl (Nat.le_of_ble_eq_true rfl) (Nat.le_of_ble_eq_true rfl)
  · refine v_aload_n E dX6_changed_8 rfl ?_
    refine v_get E dX6_changed_9 (ci := 6) rfl iwX6 0 rfl 0 rfl fl_X6_12 rfl ?_
    refine v_get E dX6_changed_12 (ci := 4) rfl iwX4 1 rfl 0 rfl fl_X6_20 rfl ?_
    refine v_aload_n E dX6_changed_15 rfl ?_
    refine v_get E dX6_changed_16 (ci := 6) rfl iwX6 0 rfl 0 rfl fl_X6_12 rfl ?_
    refine v_get E dX6_changed_19 (ci := 4) rfl iwX4 1 rfl 2 rfl fl_X6_112 rfl ?_
    refine v_cV_l E dX6_changed_22 (c_X5_reachOf D q ct dp we ok us di) cs_X6_126 rfl rfl rfl (Nat.le_of_ble_eq_true rfl) 2 rfl rfl [2, 3, 4, 5, 6, 7, 8, 9] rfl rfl ⟨Nat.le_of_ble_eq_true rfl, Nat.le_of_ble_eq_true rfl⟩ ?_
    refine v_iload_n E dX6_changed_25 rfl ?_
    refine v_cS_i E dX6_changed_26 (c_X6_targetsWith D (r_X5_reachOf us di) p) cs_X6_122 rfl rfl rfl (Nat.le_of_ble_eq_true rfl) [] rfl rfl ⟨Nat.le_of_ble_eq_true rfl, Nat.le_of_ble_eq_true rfl⟩ ?_
    refine v_goto E 34 dX6_changed_29 (by decide) ?_
    exact v_iret E F dX6_changed_34 rfl rfl () (by simp only [r_X6_changed, if_neg c_5]) rfl (Nat.le_of_ble_eq_true rfl) (Nat.le_of_ble_eq_true rfl)

def r_X6_affectedTests (ok : Nat → Int32) (us : Nat → Nat → Int32) (di : Int64) : Int32 := (r_X4_testsToRun ok us di)
set_option maxRecDepth 20000 in
/-- X6_affectedTests -/
theorem c_X6_affectedTests (D : va_G) (x0 : Nat) (x1 : Nat) (q : Nat → Nat) (ct : Int32) (dp : Int32) (we : Nat → Int32) (ok : Nat → Int32) (us : Nat → Nat → Int32) (fc : Int32) (ft : Nat → Int32) (fn : Nat → Int32) (fh : Nat → Int32) (fe : Nat → Int32) (fo : Nat → Int32) (di : Int64) (l : Launch) : Ct l yX6_affectedTests cX6_affectedTests 1 (some .int) (rmM 6 135 0 0) D [.ref x0] [(x0, .inr (6, [.ref (q 0), .ref x1])), (q 0, .inr (4, [.ref (q 1), .ref (q 9), .long di])), (q 1, .inr (5, [.int ct, .int dp, .ref (q 2), .ref (q 3), .ref (q 4)])), (q 2, aI D 20 we), (q 3, aI D 3 ok), (q 4, aG D 4 (gU q 5)), (q 5, aI D 20 (us 0)), (q 6, aI D 20 (us 1)), (q 7, aI D 20 (us 2)), (q 8, aI D 20 (us 3)), (q 9, .inr (1, [.int fc, .ref (q 10), .ref (q 11), .ref (q 12), .ref (q 13), .ref (q 14)])), (q 10, aI D 40 ft), (q 11, aI D 40 fn), (q 12, aZ D 40 fh), (q 13, aZ D 40 fe), (q 14, aI D 100 fo)] (QI1 D (r_X6_affectedTests ok us di) [(x0, .inr (6, [.ref (q 0), .ref x1])), (q 0, .inr (4, [.ref (q 1), .ref (q 9), .long di])), (q 1, .inr (5, [.int ct, .int dp, .ref (q 2), .ref (q 3), .ref (q 4)])), (q 2, aI D 20 we), (q 3, aI D 3 ok), (q 4, aG D 4 (gU q 5)), (q 5, aI D 20 (us 0)), (q 6, aI D 20 (us 1)), (q 7, aI D 20 (us 2)), (q 8, aI D 20 (us 3)), (q 9, .inr (1, [.int fc, .ref (q 10), .ref (q 11), .ref (q 12), .ref (q 13), .ref (q 14)])), (q 10, aI D 40 ft), (q 11, aI D 40 fn), (q 12, aZ D 40 fh), (q 13, aZ D 40 fe), (q 14, aI D 100 fo)]) := by
  refine Ct.ofV 0 (lv0 := [some (.ref x0)]) (by decide) rfl rfl (fun Z E F => ?_)
  refine v_aload_n E dX6_affectedTests_0 rfl ?_
  refine v_get E dX6_affectedTests_1 (ci := 6) rfl iwX6 0 rfl 0 rfl fl_X6_12 rfl ?_
  refine v_cV_i E dX6_affectedTests_4 (c_X4_testsToRun D q ct dp we ok us fc ft fn fh fe fo di) cs_X6_130 rfl rfl rfl (Nat.le_of_ble_eq_true rfl) 1 rfl rfl [1, 2, 3, 4, 5, 6, 7, 8, 9, 10, 11, 12, 13, 14, 15] rfl rfl ⟨Nat.le_of_ble_eq_true rfl, Nat.le_of_ble_eq_true rfl⟩ ?_
  exact v_iret E F dX6_affectedTests_7 rfl rfl () rfl rfl (Nat.le_of_ble_eq_true rfl) (Nat.le_of_ble_eq_true rfl)

def r_X6_impact (ct : Int32) (we : Nat → Int32) (us : Nat → Nat → Int32) (t : Int32) (p : Int32) : Int32 := if (r_X5_has ct t) = 0 then (-1) else if (r_X6_inRange p 2) = 0 then (-3) else (r_X5_weightRebuiltBy we us (r_X6_pairOf t p))
set_option maxRecDepth 20000 in
/-- X6_impact -/
theorem c_X6_impact (D : va_G) (x0 : Nat) (x1 : Nat) (q : Nat → Nat) (ct : Int32) (dp : Int32) (we : Nat → Int32) (ok : Nat → Int32) (us : Nat → Nat → Int32) (fc : Int32) (ft : Nat → Int32) (fn : Nat → Int32) (fh : Nat → Int32) (fe : Nat → Int32) (fo : Nat → Int32) (di : Int64) (t : Int32) (p : Int32) (l : Launch) : Ct l yX6_impact cX6_impact 3 (some .int) (rmM 5 119 0 0) D [.ref x0, .int t, .int p] [(x0, .inr (6, [.ref (q 0), .ref x1])), (q 0, .inr (4, [.ref (q 1), .ref (q 9), .long di])), (q 1, .inr (5, [.int ct, .int dp, .ref (q 2), .ref (q 3), .ref (q 4)])), (q 2, aI D 20 we), (q 3, aI D 3 ok), (q 4, aG D 4 (gU q 5)), (q 5, aI D 20 (us 0)), (q 6, aI D 20 (us 1)), (q 7, aI D 20 (us 2)), (q 8, aI D 20 (us 3)), (q 9, .inr (1, [.int fc, .ref (q 10), .ref (q 11), .ref (q 12), .ref (q 13), .ref (q 14)])), (q 10, aI D 40 ft), (q 11, aI D 40 fn), (q 12, aZ D 40 fh), (q 13, aZ D 40 fe), (q 14, aI D 100 fo)] (QI1 D (r_X6_impact ct we us t p) [(x0, .inr (6, [.ref (q 0), .ref x1])), (q 0, .inr (4, [.ref (q 1), .ref (q 9), .long di])), (q 1, .inr (5, [.int ct, .int dp, .ref (q 2), .ref (q 3), .ref (q 4)])), (q 2, aI D 20 we), (q 3, aI D 3 ok), (q 4, aG D 4 (gU q 5)), (q 5, aI D 20 (us 0)), (q 6, aI D 20 (us 1)), (q 7, aI D 20 (us 2)), (q 8, aI D 20 (us 3)), (q 9, .inr (1, [.int fc, .ref (q 10), .ref (q 11), .ref (q 12), .ref (q 13), .ref (q 14)])), (q 10, aI D 40 ft), (q 11, aI D 40 fn), (q 12, aZ D 40 fh), (q 13, aZ D 40 fe), (q 14, aI D 100 fo)]) := by
  refine Ct.ofV 0 (lv0 := [some (.ref x0), some (.int t), some (.int p)]) (by decide) rfl rfl (fun Z E F => ?_)
  refine v_aload_n E dX6_impact_0 rfl ?_
  refine v_get E dX6_impact_1 (ci := 6) rfl iwX6 0 rfl 0 rfl fl_X6_12 rfl ?_
  refine v_get E dX6_impact_4 (ci := 4) rfl iwX4 1 rfl 0 rfl fl_X6_20 rfl ?_
  refine v_iload_n E dX6_impact_7 rfl ?_
  refine v_cV_i E dX6_impact_8 (c_X5_has D q ct dp we ok us t) cs_X6_42 rfl rfl rfl (Nat.le_of_ble_eq_true rfl) 2 rfl rfl [2, 3, 4, 5, 6, 7, 8, 9] rfl rfl ⟨Nat.le_of_ble_eq_true rfl, Nat.le_of_ble_eq_true rfl⟩ ?_
  refine v_if_ne E 16 dX6_impact_11 (by decide) (fun c_11 => ?_) (fun c_11 => ?_)
  · refine v_iload_n E dX6_impact_16 rfl ?_
    refine v_iconst E dX6_impact_17 (v := 2) (by decide) ?_
    refine v_cS_i E dX6_impact_18 (c_X6_inRange D p 2) cs_X6_24 rfl rfl rfl (Nat.le_of_ble_eq_true rfl) [] rfl rfl ⟨Nat.le_of_ble_eq_true rfl, Nat.le_of_ble_eq_true rfl⟩ ?_
    refine v_if_ne E 27 dX6_impact_21 (by decide) (fun c_21 => ?_) (fun c_21 => ?_)
    · refine v_aload_n E dX6_impact_27 rfl ?_
      refine v_get E dX6_impact_28 (ci := 6) rfl iwX6 0 rfl 0 rfl fl_X6_12 rfl ?_
      refine v_get E dX6_impact_31 (ci := 4) rfl iwX4 1 rfl 0 rfl fl_X6_20 rfl ?_
      refine v_iload_n E dX6_impact_34 rfl ?_
      refine v_iload_n E dX6_impact_35 rfl ?_
      refine v_cS_i E dX6_impact_36 (c_X6_pairOf D t p) cs_X6_135 rfl rfl rfl (Nat.le_of_ble_eq_true rfl) [] rfl rfl ⟨Nat.le_of_ble_eq_true rfl, Nat.le_of_ble_eq_true rfl⟩ ?_
      refine v_cV_i E dX6_impact_39 (c_X5_weightRebuiltBy D q ct dp we ok us (r_X6_pairOf t p)) cs_X6_147 rfl rfl rfl (Nat.le_of_ble_eq_true rfl) 2 rfl rfl [2, 3, 4, 5, 6, 7, 8, 9] rfl rfl ⟨Nat.le_of_ble_eq_true rfl, Nat.le_of_ble_eq_true rfl⟩ ?_
      exact v_iret E F dX6_impact_42 rfl rfl () (by simp only [r_X6_impact, if_neg c_11, if_neg c_21]) rfl (Nat.le_of_ble_eq_true rfl) (Nat.le_of_ble_eq_true rfl)
    · refine v_bipush E dX6_impact_24 (v := -3) (by decide) ?_
      exact v_iret E F dX6_impact_26 rfl rfl () (by simp only [r_X6_impact, if_neg c_11, if_pos c_21]) rfl (Nat.le_of_ble_eq_true rfl) (Nat.le_of_ble_eq_true rfl)
  · refine v_iconst E dX6_impact_14 (v := -1) (by decide) ?_
    exact v_iret E F dX6_impact_15 rfl rfl () (by simp only [r_X6_impact, if_pos c_11]) rfl (Nat.le_of_ble_eq_true rfl) (Nat.le_of_ble_eq_true rfl)

def s_X6_mostCritical_19 (we : Nat → Int32) (us : Nat → Nat → Int32) (p : Int32) (i : Nat) (z_ : Int32 × Int32) : Int32 × Int32 := match z_ with
  | (b1, m1) => if (r_X5_weightRebuiltBy we us (r_X6_pairOf (nI i) p)) ≤ m1 then (b1, m1) else (nI i, (r_X5_weightRebuiltBy we us (r_X6_pairOf (nI i) p)))
def r_X6_mostCritical (we : Nat → Int32) (us : Nat → Nat → Int32) (p : Int32) (N : Nat) : Int32 := if (r_X6_inRange p 2) = 0 then (-3) else (foldN (s_X6_mostCritical_19 we us p) N 0 ((-10), 0)).1
set_option maxRecDepth 20000 in
/-- X6_mostCritical -/
theorem c_X6_mostCritical (D : va_G) (x0 : Nat) (x1 : Nat) (q : Nat → Nat) (ct : Int32) (dp : Int32) (we : Nat → Int32) (ok : Nat → Int32) (us : Nat → Nat → Int32) (fc : Int32) (ft : Nat → Int32) (fn : Nat → Int32) (fh : Nat → Int32) (fe : Nat → Int32) (fo : Nat → Int32) (di : Int64) (p : Int32) (N : Nat) (hct : ct = nI N) (hN : N ≤ 20) (l : Launch) : Ct l yX6_mostCritical cX6_mostCritical 6 (some .int) (rmM 5 119 0 0) D [.ref x0, .int p] [(x0, .inr (6, [.ref (q 0), .ref x1])), (q 0, .inr (4, [.ref (q 1), .ref (q 9), .long di])), (q 1, .inr (5, [.int ct, .int dp, .ref (q 2), .ref (q 3), .ref (q 4)])), (q 2, aI D 20 we), (q 3, aI D 3 ok), (q 4, aG D 4 (gU q 5)), (q 5, aI D 20 (us 0)), (q 6, aI D 20 (us 1)), (q 7, aI D 20 (us 2)), (q 8, aI D 20 (us 3)), (q 9, .inr (1, [.int fc, .ref (q 10), .ref (q 11), .ref (q 12), .ref (q 13), .ref (q 14)])), (q 10, aI D 40 ft), (q 11, aI D 40 fn), (q 12, aZ D 40 fh), (q 13, aZ D 40 fe), (q 14, aI D 100 fo)] (QI1 D (r_X6_mostCritical we us p N) [(x0, .inr (6, [.ref (q 0), .ref x1])), (q 0, .inr (4, [.ref (q 1), .ref (q 9), .long di])), (q 1, .inr (5, [.int ct, .int dp, .ref (q 2), .ref (q 3), .ref (q 4)])), (q 2, aI D 20 we), (q 3, aI D 3 ok), (q 4, aG D 4 (gU q 5)), (q 5, aI D 20 (us 0)), (q 6, aI D 20 (us 1)), (q 7, aI D 20 (us 2)), (q 8, aI D 20 (us 3)), (q 9, .inr (1, [.int fc, .ref (q 10), .ref (q 11), .ref (q 12), .ref (q 13), .ref (q 14)])), (q 10, aI D 40 ft), (q 11, aI D 40 fn), (q 12, aZ D 40 fh), (q 13, aZ D 40 fe), (q 14, aI D 100 fo)]) := by
  refine Ct.ofV 4 (lv0 := [some (.ref x0), some (.int p), none, none, none, none]) (by decide) rfl rfl (fun Z E F => ?_)
  refine v_iload_n E dX6_mostCritical_0 rfl ?_
  refine v_iconst E dX6_mostCritical_1 (v := 2) (by decide) ?_
  refine v_cS_i E dX6_mostCritical_2 (c_X6_inRange D p 2) cs_X6_24 rfl rfl rfl (Nat.le_of_ble_eq_true rfl) [] rfl rfl ⟨Nat.le_of_ble_eq_true rfl, Nat.le_of_ble_eq_true rfl⟩ ?_
  refine v_if_ne E 11 dX6_mostCritical_5 (by decide) (fun c_5 => ?_) (fun c_5 => ?_)
  · refine v_bipush E dX6_mostCritical_11 (v := -10) (by decide) ?_
    refine v_istore_n E dX6_mostCritical_13 rfl rfl ?_
    refine v_iconst E dX6_mostCritical_14 (v := 0) (by decide) ?_
    refine v_istore_n E dX6_mostCritical_15 rfl rfl ?_
    refine v_iconst E dX6_mostCritical_16 (v := 0) (by decide) ?_
    refine v_istore E dX6_mostCritical_17 rfl rfl ?_
    have L19 : ∀ (n i : Nat) (b1 : Int32) (m1 : Int32), i + n = N → V Z D 0 0 [(x0, .inr (6, [.ref (q 0), .ref x1])), (q 0, .inr (4, [.ref (q 1), .ref (q 9), .long di])), (q 1, .inr (5, [.int ct, .int dp, .ref (q 2), .ref (q 3), .ref (q 4)])), (q 2, aI D 20 we), (q 3, aI D 3 ok), (q 4, aG D 4 (gU q 5)), (q 5, aI D 20 (us 0)), (q 6, aI D 20 (us 1)), (q 7, aI D 20 (us 2)), (q 8, aI D 20 (us 3)), (q 9, .inr (1, [.int fc, .ref (q 10), .ref (q 11), .ref (q 12), .ref (q 13), .ref (q 14)])), (q 10, aI D 40 ft), (q 11, aI D 40 fn), (q 12, aZ D 40 fh), (q 13, aZ D 40 fe), (q 14, aI D 100 fo)] [some (.ref x0), some (.int p), some (.int ((foldN (s_X6_mostCritical_19 we us p) n i (b1, m1)).1)), some (.int ((foldN (s_X6_mostCritical_19 we us p) n i (b1, m1)).2)), some (.int (nI N)), none] [] 70 → V Z D 0 0 [(x0, .inr (6, [.ref (q 0), .ref x1])), (q 0, .inr (4, [.ref (q 1), .ref (q 9), .long di])), (q 1, .inr (5, [.int ct, .int dp, .ref (q 2), .ref (q 3), .ref (q 4)])), (q 2, aI D 20 we), (q 3, aI D 3 ok), (q 4, aG D 4 (gU q 5)), (q 5, aI D 20 (us 0)), (q 6, aI D 20 (us 1)), (q 7, aI D 20 (us 2)), (q 8, aI D 20 (us 3)), (q 9, .inr (1, [.int fc, .ref (q 10), .ref (q 11), .ref (q 12), .ref (q 13), .ref (q 14)])), (q 10, aI D 40 ft), (q 11, aI D 40 fn), (q 12, aZ D 40 fh), (q 13, aZ D 40 fe), (q 14, aI D 100 fo)] [some (.ref x0), some (.int p), some (.int b1), some (.int m1), some (.int (nI i)), none] [] 19 := by
      intro n
      induction n with
      | zero =>
        intro i b1 m1 hi  K19
        have hiN : i = N := by omega
        rw [hiN]
        refine v_iload E dX6_mostCritical_19 rfl ?_
        refine v_aload_n E dX6_mostCritical_21 rfl ?_
        refine v_get E dX6_mostCritical_22 (ci := 6) rfl iwX6 0 rfl 0 rfl fl_X6_12 rfl ?_
        refine v_get E dX6_mostCritical_25 (ci := 4) rfl iwX4 1 rfl 0 rfl fl_X6_20 rfl ?_
        refine v_get E dX6_mostCritical_28 (ci := 5) rfl iwX5 2 rfl 0 rfl fl_X6_28 rfl ?_
        refine v_icmp_ge E 70 dX6_mostCritical_31 (by decide) (fun c_31 => ?_) (fun c_31 => ?_)
        · exact K19
        · exact absurd (leN (a := N) (b := N) hct rfl (by omega) (by omega)) c_31
      | succ n ih =>
        intro i b1 m1 hi  K19
        refine v_iload E dX6_mostCritical_19 rfl ?_
        refine v_aload_n E dX6_mostCritical_21 rfl ?_
        refine v_get E dX6_mostCritical_22 (ci := 6) rfl iwX6 0 rfl 0 rfl fl_X6_12 rfl ?_
        refine v_get E dX6_mostCritical_25 (ci := 4) rfl iwX4 1 rfl 0 rfl fl_X6_20 rfl ?_
        refine v_get E dX6_mostCritical_28 (ci := 5) rfl iwX5 2 rfl 0 rfl fl_X6_28 rfl ?_
        refine v_icmp_ge E 70 dX6_mostCritical_31 (by decide) (fun c_31 => ?_) (fun c_31 => ?_)
        · exact absurd c_31 (nleN (a := N) (b := i) hct rfl (by omega) (by omega))
        · refine v_aload_n E dX6_mostCritical_34 rfl ?_
          refine v_get E dX6_mostCritical_35 (ci := 6) rfl iwX6 0 rfl 0 rfl fl_X6_12 rfl ?_
          refine v_get E dX6_mostCritical_38 (ci := 4) rfl iwX4 1 rfl 0 rfl fl_X6_20 rfl ?_
          refine v_iload E dX6_mostCritical_41 rfl ?_
          refine v_iload_n E dX6_mostCritical_43 rfl ?_
          refine v_cS_i E dX6_mostCritical_44 (c_X6_pairOf D (nI i) p) cs_X6_135 rfl rfl rfl (Nat.le_of_ble_eq_true rfl) [] rfl rfl ⟨Nat.le_of_ble_eq_true rfl, Nat.le_of_ble_eq_true rfl⟩ ?_
          refine v_cV_i E dX6_mostCritical_47 (c_X5_weightRebuiltBy D q ct dp we ok us (r_X6_pairOf (nI i) p)) cs_X6_147 rfl rfl rfl (Nat.le_of_ble_eq_true rfl) 2 rfl rfl [2, 3, 4, 5, 6, 7, 8, 9] rfl rfl ⟨Nat.le_of_ble_eq_true rfl, Nat.le_of_ble_eq_true rfl⟩ ?_
          refine v_istore E dX6_mostCritical_50 rfl rfl ?_
          refine v_iload E dX6_mostCritical_52 rfl ?_
          refine v_iload_n E dX6_mostCritical_54 rfl ?_
          refine v_icmp_le E 64 dX6_mostCritical_55 (by decide) (fun c_55 => ?_) (fun c_55 => ?_)
          · refine v_iinc E dX6_mostCritical_64 (v := nI (i + 1)) rfl (inc1 _) rfl rfl ?_
            refine v_goto E 19 dX6_mostCritical_67 (by decide) ?_
            have hs : s_X6_mostCritical_19 we us p i (b1, m1) = (b1, m1) := by simp only [s_X6_mostCritical_19, if_pos c_55]
            rw [foldN_s (s_X6_mostCritical_19 we us p) n i (b1, m1), hs] at K19
            refine v_mask [true, true, true, true, true, false] rfl ?_
            exact ih (i + 1) b1 m1 (by omega) K19
          · refine v_iload E dX6_mostCritical_58 rfl ?_
            refine v_istore_n E dX6_mostCritical_60 rfl rfl ?_
            refine v_iload E dX6_mostCritical_61 rfl ?_
            refine v_istore_n E dX6_mostCritical_63 rfl rfl ?_
            refine v_iinc E dX6_mostCritical_64 (v := nI (i + 1)) rfl (inc1 _) rfl rfl ?_
            refine v_goto E 19 dX6_mostCritical_67 (by decide) ?_
            have hs : s_X6_mostCritical_19 we us p i (b1, m1) = (nI i, (r_X5_weightRebuiltBy we us (r_X6_pairOf (nI i) p))) := by simp only [s_X6_mostCritical_19, if_neg c_55]
            rw [foldN_s (s_X6_mostCritical_19 we us p) n i (b1, m1), hs] at K19
            refine v_mask [true, true, true, true, true, false] rfl ?_
            exact ih (i + 1) (nI i) (r_X5_weightRebuiltBy we us (r_X6_pairOf (nI i) p)) (by omega) K19
    refine L19 N 0 (-10) 0 (by omega)  ?_
    refine v_iload_n E dX6_mostCritical_70 rfl ?_
    exact v_iret E F dX6_mostCritical_71 rfl rfl () (by simp only [r_X6_mostCritical, if_neg c_5]) rfl (Nat.le_of_ble_eq_true rfl) (Nat.le_of_ble_eq_true rfl)
  · refine v_bipush E dX6_mostCritical_8 (v := -3) (by decide) ?_
    exact v_iret E F dX6_mostCritical_10 rfl rfl () (by simp only [r_X6_mostCritical, if_pos c_5]) rfl (Nat.le_of_ble_eq_true rfl) (Nat.le_of_ble_eq_true rfl)

