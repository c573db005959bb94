/-! ChangeImpact: Targets -/
def r_X5_has (ct : Int32) (t : Int32) : Int32 := (r_X6_inRange t ct)
set_option maxRecDepth 20000 in
/-- X5_has -/
theorem c_X5_has (D : va_G) (q : Nat → Nat) (ct : Int32) (dp : Int32) (we : Nat → Int32) (ok : Nat → Int32) (us : Nat → Nat → Int32) (t : Int32) (l : Launch) : Ct l yX5_has cX5_has 2 (some .boolean) (rmM 1 21 0 0) D [.ref (q 1), .int t] [(q 1, .inr (5, [.int ct, .int dp, .ref (q 2), .ref (q 3), .ref (q 4)])), (q 2, aI D 20 we), (q 3, aI D 3 ok), (q 4, aG D 4 (gU q 5)), (q 5, aI D 20 (us 0)), (q 6, aI D 20 (us 1)), (q 7, aI D 20 (us 2)), (q 8, aI D 20 (us 3))] (QI1 D (r_X5_has ct t) [(q 1, .inr (5, [.int ct, .int dp, .ref (q 2), .ref (q 3), .ref (q 4)])), (q 2, aI D 20 we), (q 3, aI D 3 ok), (q 4, aG D 4 (gU q 5)), (q 5, aI D 20 (us 0)), (q 6, aI D 20 (us 1)), (q 7, aI D 20 (us 2)), (q 8, aI D 20 (us 3))]) := by
  refine Ct.ofV 0 (lv0 := [some (.ref (q 1)), some (.int t)]) (by decide) rfl rfl (fun Z E F => ?_)
  refine v_iload_n E dX5_has_0 rfl ?_
  refine v_aload_n E dX5_has_1 rfl ?_
  refine v_get E dX5_has_2 (ci := 5) rfl iwX5 0 rfl 0 rfl fl_X5_23 rfl ?_
  refine v_cN_i E dX5_has_5 (c_X6_inRange D t ct) cs_X5_36 rfl rfl rfl (Nat.le_of_ble_eq_true rfl) [] rfl rfl ⟨Nat.le_of_ble_eq_true rfl, Nat.le_of_ble_eq_true rfl⟩ ?_
  exact v_iret E F dX5_has_8 rfl (nz_X6_inRange t ct) () rfl rfl (Nat.le_of_ble_eq_true rfl) (Nat.le_of_ble_eq_true rfl)
theorem nz_X5_has (ct : Int32) (t : Int32) : narrow .boolean (.int (r_X5_has ct t)) = .int (r_X5_has ct t) := nz_X6_inRange t ct

def r_X5_testCount (ok : Nat → Int32) : Int32 := (r_J6_bitCount_0f7a4 (ok 2))
set_option maxRecDepth 20000 in
/-- X5_testCount -/
theorem c_X5_testCount (D : va_G) (q : Nat → Nat) (ct : Int32) (dp : Int32) (we : Nat → Int32) (ok : Nat → Int32) (us : Nat → Nat → Int32) (l : Launch) : Ct l yX5_testCount cX5_testCount 1 (some .int) (rmM 1 20 0 0) D [.ref (q 1)] [(q 1, .inr (5, [.int ct, .int dp, .ref (q 2), .ref (q 3), .ref (q 4)])), (q 2, aI D 20 we), (q 3, aI D 3 ok), (q 4, aG D 4 (gU q 5)), (q 5, aI D 20 (us 0)), (q 6, aI D 20 (us 1)), (q 7, aI D 20 (us 2)), (q 8, aI D 20 (us 3))] (QI1 D (r_X5_testCount ok) [(q 1, .inr (5, [.int ct, .int dp, .ref (q 2), .ref (q 3), .ref (q 4)])), (q 2, aI D 20 we), (q 3, aI D 3 ok), (q 4, aG D 4 (gU q 5)), (q 5, aI D 20 (us 0)), (q 6, aI D 20 (us 1)), (q 7, aI D 20 (us 2)), (q 8, aI D 20 (us 3))]) := by
  refine Ct.ofV 0 (lv0 := [some (.ref (q 1))]) (by decide) rfl rfl (fun Z E F => ?_)
  refine v_aload_n E dX5_testCount_0 rfl ?_
  refine v_get E dX5_testCount_1 (ci := 5) rfl iwX5 0 rfl 3 rfl fl_X5_15 rfl ?_
  refine v_iconst E dX5_testCount_4 (v := 2) (by decide) ?_
  refine v_iald E dX5_testCount_5 2 rfl 2 (show (2 : Int32) = nI 2 by decide) (by omega) rfl ?_
  refine v_cS_i E dX5_testCount_6 (c_J6_bitCount_0f7a4 D (ok 2)) cs_X5_40 rfl rfl rfl (Nat.le_of_ble_eq_true rfl) [] rfl rfl ⟨Nat.le_of_ble_eq_true rfl, Nat.le_of_ble_eq_true rfl⟩ ?_
  exact v_iret E F dX5_testCount_9 rfl rfl () rfl rfl (Nat.le_of_ble_eq_true rfl) (Nat.le_of_ble_eq_true rfl)

def r_X5_append (ct : Int32) : Int32 := ct
def w_X5_append_0_0 (ct : Int32) : Int32 := ct + 1
def w_X5_append_1 (we : Nat → Int32) (w : Int32) (N : Nat) : Nat → Int32 := upd we N w
def w_X5_append_2 (ct : Int32) (ok : Nat → Int32) (kk : Nat) : Nat → Int32 := upd ok kk ((ok kk) ||| (r_X6_setOf ct))
set_option maxRecDepth 20000 in
/-- X5_append -/
theorem c_X5_append (D : va_G) (q : Nat → Nat) (ct : Int32) (dp : Int32) (we : Nat → Int32) (ok : Nat → Int32) (us : Nat → Nat → Int32) (kd : Int32) (w : Int32) (kk : Nat) (N : Nat) (hkd : kd = nI kk) (hkk : kk < 3) (hct : ct = nI N) (hN : N < 20) (l : Launch) : Ct l yX5_append cX5_append 4 (some .int) (rmM 1 20 0 0) D [.ref (q 1), .int kd, .int w] [(q 1, .inr (5, [.int ct, .int dp, .ref (q 2), .ref (q 3), .ref (q 4)])), (q 2, aI D 20 we), (q 3, aI D 3 ok), (q 4, aG D 4 (gU q 5)), (q 5, aI D 20 (us 0)), (q 6, aI D 20 (us 1)), (q 7, aI D 20 (us 2)), (q 8, aI D 20 (us 3))] (QI1 D (r_X5_append ct) [(q 1, .inr (5, [.int (w_X5_append_0_0 ct), .int dp, .ref (q 2), .ref (q 3), .ref (q 4)])), (q 2, aI D 20 (w_X5_append_1 we w N)), (q 3, aI D 3 (w_X5_append_2 ct ok kk)), (q 4, aG D 4 (gU q 5)), (q 5, aI D 20 (us 0)), (q 6, aI D 20 (us 1)), (q 7, aI D 20 (us 2)), (q 8, aI D 20 (us 3))]) := by
  refine Ct.ofV 1 (lv0 := [some (.ref (q 1)), some (.int kd), some (.int w), none]) (by decide) rfl rfl (fun Z E F => ?_)
  refine v_aload_n E dX5_append_0 rfl ?_
  refine v_get E dX5_append_1 (ci := 5) rfl iwX5 0 rfl 0 rfl fl_X5_23 rfl ?_
  refine v_istore_n E dX5_append_4 rfl rfl ?_
  refine v_aload_n E dX5_append_5 rfl ?_
  refine v_get E dX5_append_6 (ci := 5) rfl iwX5 0 rfl 2 rfl fl_X5_9 rfl ?_
  refine v_iload_n E dX5_append_9 rfl ?_
  refine v_iload_n E dX5_append_10 rfl ?_
  refine v_iast E dX5_append_11 1 rfl N hct (by omega) rfl ?_
  refine v_wd (wd2 := [(q 1, .inr (5, [.int ct, .int dp, .ref (q 2), .ref (q 3), .ref (q 4)])), (q 2, aI D 20 (upd we N w)), (q 3, aI D 3 ok), (q 4, aG D 4 (gU q 5)), (q 5, aI D 20 (us 0)), (q 6, aI D 20 (us 1)), (q 7, aI D 20 (us 2)), (q 8, aI D 20 (us 3))]) rfl ?_
  refine v_aload_n E dX5_append_12 rfl ?_
  refine v_get E dX5_append_13 (ci := 5) rfl iwX5 0 rfl 3 rfl fl_X5_15 rfl ?_
  refine v_iload_n E dX5_append_16 rfl ?_
  refine v_dup2 E dX5_append_17 rfl rfl ?_
  refine v_iald E dX5_append_18 2 rfl kk hkd (by omega) rfl ?_
  refine v_iload_n E dX5_append_19 rfl ?_
  refine v_cN_i E dX5_append_20 (c_X6_setOf D ct) cs_X5_46 rfl rfl rfl (Nat.le_of_ble_eq_true rfl) [] rfl rfl ⟨Nat.le_of_ble_eq_true rfl, Nat.le_of_ble_eq_true rfl⟩ ?_
  refine v_ior E dX5_append_23 ?_
  refine v_iast E dX5_append_24 2 rfl kk hkd (by omega) rfl ?_
  refine v_wd (wd2 := [(q 1, .inr (5, [.int ct, .int dp, .ref (q 2), .ref (q 3), .ref (q 4)])), (q 2, aI D 20 (upd we N w)), (q 3, aI D 3 (upd ok kk ((ok kk) ||| (r_X6_setOf ct)))), (q 4, aG D 4 (gU q 5)), (q 5, aI D 20 (us 0)), (q 6, aI D 20 (us 1)), (q 7, aI D 20 (us 2)), (q 8, aI D 20 (us 3))]) rfl ?_
  refine v_aload_n E dX5_append_25 rfl ?_
  refine v_dup E dX5_append_26 rfl ?_
  refine v_get E dX5_append_27 (ci := 5) rfl iwX5 0 rfl 0 rfl fl_X5_23 rfl ?_
  refine v_iconst E dX5_append_30 (v := 1) (by decide) ?_
  refine v_iadd E dX5_append_31 ?_
  refine v_put E dX5_append_32 (ci := 5) rfl iwX5 tyX5 tyX5_ok nmX5 0 rfl 0 rfl fl_X5_23 rfl rfl rfl rfl rfl ?_
  refine v_wd (wd2 := [(q 1, .inr (5, [.int (ct + 1), .int dp, .ref (q 2), .ref (q 3), .ref (q 4)])), (q 2, aI D 20 (upd we N w)), (q 3, aI D 3 (upd ok kk ((ok kk) ||| (r_X6_setOf ct)))), (q 4, aG D 4 (gU q 5)), (q 5, aI D 20 (us 0)), (q 6, aI D 20 (us 1)), (q 7, aI D 20 (us 2)), (q 8, aI D 20 (us 3))]) rfl ?_
  refine v_iload_n E dX5_append_35 rfl ?_
  exact v_iret E F dX5_append_36 rfl rfl () rfl rfl (Nat.le_of_ble_eq_true rfl) (Nat.le_of_ble_eq_true rfl)

def r_X5_allows (ok : Nat → Int32) (a : Int32) (b : Int32) (kd : Int32) : Int32 := if (r_X6_contains (ok 2) b) = 0 then (if kd = 2 then (r_X6_contains (ok 1) b) else if kd = 3 then (if (r_X6_contains (ok 2) a) = 0 then 0 else 1) else 1) else 0
set_option maxRecDepth 20000 in
/-- X5_allows -/
theorem c_X5_allows (D : va_G) (q : Nat → Nat) (ct : Int32) (dp : Int32) (we : Nat → Int32) (ok : Nat → Int32) (us : Nat → Nat → Int32) (a : Int32) (b : Int32) (kd : Int32) (l : Launch) : Ct l yX5_allows cX5_allows 4 (some .boolean) (rmM 1 21 0 0) D [.ref (q 1), .int a, .int b, .int kd] [(q 1, .inr (5, [.int ct, .int dp, .ref (q 2), .ref (q 3), .ref (q 4)])), (q 2, aI D 20 we), (q 3, aI D 3 ok), (q 4, aG D 4 (gU q 5)), (q 5, aI D 20 (us 0)), (q 6, aI D 20 (us 1)), (q 7, aI D 20 (us 2)), (q 8, aI D 20 (us 3))] (QI1 D (r_X5_allows ok a b kd) [(q 1, .inr (5, [.int ct, .int dp, .ref (q 2), .ref (q 3), .ref (q 4)])), (q 2, aI D 20 we), (q 3, aI D 3 ok), (q 4, aG D 4 (gU q 5)), (q 5, aI D 20 (us 0)), (q 6, aI D 20 (us 1)), (q 7, aI D 20 (us 2)), (q 8, aI D 20 (us 3))]) := by
  refine Ct.ofV 0 (lv0 := [some (.ref (q 1)), some (.int a), some (.int b), some (.int kd)]) (by decide) rfl rfl (fun Z E F => ?_)
  refine v_aload_n E dX5_allows_0 rfl ?_
  refine v_get E dX5_allows_1 (ci := 5) rfl iwX5 0 rfl 3 rfl fl_X5_15 rfl ?_
  refine v_iconst E dX5_allows_4 (v := 2) (by decide) ?_
  refine v_iald E dX5_allows_5 2 rfl 2 (show (2 : Int32) = nI 2 by decide) (by omega) rfl ?_
  refine v_iload_n E dX5_allows_6 rfl ?_
  refine v_cN_i E dX5_allows_7 (c_X6_contains D (ok 2) b) cs_X5_49 rfl rfl rfl (Nat.le_of_ble_eq_true rfl) [] rfl rfl ⟨Nat.le_of_ble_eq_true rfl, Nat.le_of_ble_eq_true rfl⟩ ?_
  refine v_if_eq E 15 dX5_allows_10 (by decide) (fun c_10 => ?_) (fun c_10 => ?_)
  · refine v_iload_n E dX5_allows_15 rfl ?_
    refine v_iconst E dX5_allows_16 (v := 2) (by decide) ?_
    refine v_icmp_ne E 31 dX5_allows_17 (by decide) (fun c_17 => ?_) (fun c_17 => ?_)
    · refine v_iload_n E dX5_allows_31 rfl ?_
      refine v_iconst E dX5_allows_32 (v := 3) (by decide) ?_
      refine v_icmp_ne E 49 dX5_allows_33 (by decide) (fun c_33 => ?_) (fun c_33 => ?_)
      · refine v_iconst E dX5_allows_49 (v := 1) (by decide) ?_
        refine v_goto E 54 dX5_allows_50 (by decide) ?_
        exact v_iret E F dX5_allows_54 rfl rfl () (by simp only [r_X5_allows, if_pos c_10, if_neg c_17, if_neg c_33]) rfl (Nat.le_of_ble_eq_true rfl) (Nat.le_of_ble_eq_true rfl)
      · refine v_aload_n E dX5_allows_36 rfl ?_
        refine v_get E dX5_allows_37 (ci := 5) rfl iwX5 0 rfl 3 rfl fl_X5_15 rfl ?_
        refine v_iconst E dX5_allows_40 (v := 2) (by decide) ?_
        refine v_iald E dX5_allows_41 2 rfl 2 (show (2 : Int32) = nI 2 by decide) (by omega) rfl ?_
        refine v_iload_n E dX5_allows_42 rfl ?_
        refine v_cN_i E dX5_allows_43 (c_X6_contains D (ok 2) a) cs_X5_49 rfl rfl rfl (Nat.le_of_ble_eq_true rfl) [] rfl rfl ⟨Nat.le_of_ble_eq_true rfl, Nat.le_of_ble_eq_true rfl⟩ ?_
        refine v_if_eq E 53 dX5_allows_46 (by decide) (fun c_46 => ?_) (fun c_46 => ?_)
        · refine v_iconst E dX5_allows_53 (v := 0) (by decide) ?_
          exact v_iret E F dX5_allows_54 rfl rfl () (by simp only [r_X5_allows, if_pos c_10, if_neg c_17, if_pos c_33, if_pos c_46]) rfl (Nat.le_of_ble_eq_true rfl) (Nat.le_of_ble_eq_true rfl)
        · refine v_iconst E dX5_allows_49 (v := 1) (by decide) ?_
          refine v_goto E 54 dX5_allows_50 (by decide) ?_
          exact v_iret E F dX5_allows_54 rfl rfl () (by simp only [r_X5_allows, if_pos c_10, if_neg c_17, if_pos c_33, if_neg c_46]) rfl (Nat.le_of_ble_eq_true rfl) (Nat.le_of_ble_eq_true rfl)
    · refine v_aload_n E dX5_allows_20 rfl ?_
      refine v_get E dX5_allows_21 (ci := 5) rfl iwX5 0 rfl 3 rfl fl_X5_15 rfl ?_
      refine v_iconst E dX5_allows_24 (v := 1) (by decide) ?_
      refine v_iald E dX5_allows_25 2 rfl 1 (show (1 : Int32) = nI 1 by decide) (by omega) rfl ?_
      refine v_iload_n E dX5_allows_26 rfl ?_
      refine v_cN_i E dX5_allows_27 (c_X6_contains D (ok 1) b) cs_X5_49 rfl rfl rfl (Nat.le_of_ble_eq_true rfl) [] rfl rfl ⟨Nat.le_of_ble_eq_true rfl, Nat.le_of_ble_eq_true rfl⟩ ?_
      exact v_iret E F dX5_allows_30 rfl (nz_X6_contains (ok 1) b) () (by simp only [r_X5_allows, if_pos c_10, if_pos c_17]) rfl (Nat.le_of_ble_eq_true rfl) (Nat.le_of_ble_eq_true rfl)
  · refine v_iconst E dX5_allows_13 (v := 0) (by decide) ?_
    exact v_iret E F dX5_allows_14 rfl rfl () (by simp only [r_X5_allows, if_neg c_10]) rfl (Nat.le_of_ble_eq_true rfl) (Nat.le_of_ble_eq_true rfl)
theorem nz_X5_allows (ok : Nat → Int32) (a : Int32) (b : Int32) (kd : Int32) : narrow .boolean (.int (r_X5_allows ok a b kd)) = .int (r_X5_allows ok a b kd) := by
  unfold r_X5_allows
  repeat' split
  all_goals first | rfl | exact nz_X6_contains _ _

def w_X5_connect_0_1 (dp : Int32) : Int32 := dp + 1
def w_X5_connect_4 (us : Nat → Nat → Int32) (a : Int32) (kb : Nat) (kk : Nat) : Nat → Nat → Int32 := (updU us kk kb (((us kk) kb) ||| (r_X6_setOf a)))
set_option maxRecDepth 20000 in
/-- X5_connect -/
theorem c_X5_connect (D : va_G) (q : Nat → Nat) (ct : Int32) (dp : Int32) (we : Nat → Int32) (ok : Nat → Int32) (us : Nat → Nat → Int32) (a : Int32) (b : Int32) (kd : Int32) (kb : Nat) (kk : Nat) (hb : b = nI kb) (hkd : kd = nI kk) (hkb : kb < 20) (hkk : kk < 4) (l : Launch) : Ct l yX5_connect cX5_connect 4 none (rmM 1 20 0 0) D [.ref (q 1), .int a, .int b, .int kd] [(q 1, .inr (5, [.int ct, .int dp, .ref (q 2), .ref (q 3), .ref (q 4)])), (q 2, aI D 20 we), (q 3, aI D 3 ok), (q 4, aG D 4 (gU q 5)), (q 5, aI D 20 (us 0)), (q 6, aI D 20 (us 1)), (q 7, aI D 20 (us 2)), (q 8, aI D 20 (us 3))] (QV1 D [(q 1, .inr (5, [.int ct, .int (w_X5_connect_0_1 dp), .ref (q 2), .ref (q 3), .ref (q 4)])), (q 2, aI D 20 we), (q 3, aI D 3 ok), (q 4, aG D 4 (gU q 5)), (q 5, aI D 20 ((w_X5_connect_4 us a kb kk) 0)), (q 6, aI D 20 ((w_X5_connect_4 us a kb kk) 1)), (q 7, aI D 20 ((w_X5_connect_4 us a kb kk) 2)), (q 8, aI D 20 ((w_X5_connect_4 us a kb kk) 3))]) := by
  refine Ct.ofV 0 (lv0 := [some (.ref (q 1)), some (.int a), some (.int b), some (.int kd)]) (by decide) rfl rfl (fun Z E F => ?_)
  refine v_aload_n E dX5_connect_0 rfl ?_
  refine v_get E dX5_connect_1 (ci := 5) rfl iwX5 0 rfl 4 rfl fl_X5_20 rfl ?_
  refine v_iload_n E dX5_connect_4 rfl ?_
  refine v_uald E dX5_connect_5 3 rfl kk hkd (by omega) ?_
  refine v_iload_n E dX5_connect_6 rfl ?_
  refine v_dup2 E dX5_connect_7 rfl rfl ?_
  refine v_iald E dX5_connect_8 (4 + kk) (row4 4 (f := fun z => (q (5 + z), aI D 20 (us z))) (by omega) rfl rfl rfl rfl) kb hb (by omega) rfl ?_
  refine v_iload_n E dX5_connect_9 rfl ?_
  refine v_cN_i E dX5_connect_10 (c_X6_setOf D a) cs_X5_46 rfl rfl rfl (Nat.le_of_ble_eq_true rfl) [] rfl rfl ⟨Nat.le_of_ble_eq_true rfl, Nat.le_of_ble_eq_true rfl⟩ ?_
  refine v_ior E dX5_connect_13 ?_
  refine v_iast E dX5_connect_14 (4 + kk) (row4 4 (f := fun z => (q (5 + z), aI D 20 (us z))) (by omega) rfl rfl rfl rfl) kb hb (by omega) rfl ?_
  refine v_wd (wd2 := [(q 1, .inr (5, [.int ct, .int dp, .ref (q 2), .ref (q 3), .ref (q 4)])), (q 2, aI D 20 we), (q 3, aI D 3 ok), (q 4, aG D 4 (gU q 5)), (q 5, aI D 20 ((updU us kk kb (((us kk) kb) ||| (r_X6_setOf a))) 0)), (q 6, aI D 20 ((updU us kk kb (((us kk) kb) ||| (r_X6_setOf a))) 1)), (q 7, aI D 20 ((updU us kk kb (((us kk) kb) ||| (r_X6_setOf a))) 2)), (q 8, aI D 20 ((updU us kk kb (((us kk) kb) ||| (r_X6_setOf a))) 3))]) (by rcases lt4 (show kk < 4 by omega) with h | h | h | h <;> subst h <;> rfl) ?_
  refine v_aload_n E dX5_connect_15 rfl ?_
  refine v_dup E dX5_connect_16 rfl ?_
  refine v_get E dX5_connect_17 (ci := 5) rfl iwX5 0 rfl 1 rfl fl_X5_27 rfl ?_
  refine v_iconst E dX5_connect_20 (v := 1) (by decide) ?_
  refine v_iadd E dX5_connect_21 ?_
  refine v_put E dX5_connect_22 (ci := 5) rfl iwX5 tyX5 tyX5_ok nmX5 0 rfl 1 rfl fl_X5_27 rfl rfl rfl rfl rfl ?_
  refine v_wd (wd2 := [(q 1, .inr (5, [.int ct, .int (dp + 1), .ref (q 2), .ref (q 3), .ref (q 4)])), (q 2, aI D 20 we), (q 3, aI D 3 ok), (q 4, aG D 4 (gU q 5)), (q 5, aI D 20 ((updU us kk kb (((us kk) kb) ||| (r_X6_setOf a))) 0)), (q 6, aI D 20 ((updU us kk kb (((us kk) kb) ||| (r_X6_setOf a))) 1)), (q 7, aI D 20 ((updU us kk kb (((us kk) kb) ||| (r_X6_setOf a))) 2)), (q 8, aI D 20 ((updU us kk kb (((us kk) kb) ||| (r_X6_setOf a))) 3))]) rfl ?_
  exact v_vret E F dX5_connect_25 rfl () trivial rfl (Nat.le_of_ble_eq_true rfl) (Nat.le_of_ble_eq_true rfl)

def w_X5_disconnect_0_1 (dp : Int32) : Int32 := dp - 1
def w_X5_disconnect_4 (us : Nat → Nat → Int32) (a : Int32) (kb : Nat) (kk : Nat) : Nat → Nat → Int32 := (updU us kk kb (((us kk) kb) &&& ((r_X6_setOf a) ^^^ (-1))))
set_option maxRecDepth 20000 in
/-- X5_disconnect -/
theorem c_X5_disconnect (D : va_G) (q : Nat → Nat) (ct : Int32) (dp : Int32) (we : Nat → Int32) (ok : Nat → Int32) (us : Nat → Nat → Int32) (a : Int32) (b : Int32) (kd : Int32) (kb : Nat) (kk : Nat) (hb : b = nI kb) (hkd : kd = nI kk) (hkb : kb < 20) (hkk : kk < 4) (l : Launch) : Ct l yX5_disconnect cX5_disconnect 4 none (rmM 1 20 0 0) D [.ref (q 1), .int a, .int b, .int kd] [(q 1, .inr (5, [.int ct, .int dp, .ref (q 2), .ref (q 3), .ref (q 4)])), (q 2, aI D 20 we), (q 3, aI D 3 ok), (q 4, aG D 4 (gU q 5)), (q 5, aI D 20 (us 0)), (q 6, aI D 20 (us 1)), (q 7, aI D 20 (us 2)), (q 8, aI D 20 (us 3))] (QV1 D [(q 1, .inr (5, [.int ct, .int (w_X5_disconnect_0_1 dp), .ref (q 2), .ref (q 3), .ref (q 4)])), (q 2, aI D 20 we), (q 3, aI D 3 ok), (q 4, aG D 4 (gU q 5)), (q 5, aI D 20 ((w_X5_disconnect_4 us a kb kk) 0)), (q 6, aI D 20 ((w_X5_disconnect_4 us a kb kk) 1)), (q 7, aI D 20 ((w_X5_disconnect_4 us a kb kk) 2)), (q 8, aI D 20 ((w_X5_disconnect_4 us a kb kk) 3))]) := by
  refine Ct.ofV 0 (lv0 := [some (.ref (q 1)), some (.int a), some (.int b), some (.int kd)]) (by decide) rfl rfl (fun Z E F => ?_)
  refine v_aload_n E dX5_disconnect_0 rfl ?_
  refine v_get E dX5_disconnect_1 (ci := 5) rfl iwX5 0 rfl 4 rfl fl_X5_20 rfl ?_
  refine v_iload_n E dX5_disconnect_4 rfl ?_
  refine v_uald E dX5_disconnect_5 3 rfl kk hkd (by omega) ?_
  refine v_iload_n E dX5_disconnect_6 rfl ?_
  refine v_dup2 E dX5_disconnect_7 rfl rfl ?_
  refine v_iald E dX5_disconnect_8 (4 + kk) (row4 4 (f := fun z => (q (5 + z), aI D 20 (us z))) (by omega) rfl rfl rfl rfl) kb hb (by omega) rfl ?_
  refine v_iload_n E dX5_disconnect_9 rfl ?_
  refine v_cN_i E dX5_disconnect_10 (c_X6_setOf D a) cs_X5_46 rfl rfl rfl (Nat.le_of_ble_eq_true rfl) [] rfl rfl ⟨Nat.le_of_ble_eq_true rfl, Nat.le_of_ble_eq_true rfl⟩ ?_
  refine v_iconst E dX5_disconnect_13 (v := -1) (by decide) ?_
  refine v_ixor E dX5_disconnect_14 ?_
  refine v_iand E dX5_disconnect_15 ?_
  refine v_iast E dX5_disconnect_16 (4 + kk) (row4 4 (f := fun z => (q (5 + z), aI D 20 (us z))) (by omega) rfl rfl rfl rfl) kb hb (by omega) rfl ?_
  refine v_wd (wd2 := [(q 1, .inr (5, [.int ct, .int dp, .ref (q 2), .ref (q 3), .ref (q 4)])), (q 2, aI D 20 we), (q 3, aI D 3 ok), (q 4, aG D 4 (gU q 5)), (q 5, aI D 20 ((updU us kk kb (((us kk) kb) &&& ((r_X6_setOf a) ^^^ (-1)))) 0)), (q 6, aI D 20 ((updU us kk kb (((us kk) kb) &&& ((r_X6_setOf a) ^^^ (-1)))) 1)), (q 7, aI D 20 ((updU us kk kb (((us kk) kb) &&& ((r_X6_setOf a) ^^^ (-1)))) 2)), (q 8, aI D 20 ((updU us kk kb (((us kk) kb) &&& ((r_X6_setOf a) ^^^ (-1)))) 3))]) (by rcases lt4 (show kk < 4 by omega) with h | h | h | h <;> subst h <;> rfl) ?_
  refine v_aload_n E dX5_disconnect_17 rfl ?_
  refine v_dup E dX5_disconnect_18 rfl ?_
  refine v_get E dX5_disconnect_19 (ci := 5) rfl iwX5 0 rfl 1 rfl fl_X5_27 rfl ?_
  refine v_iconst E dX5_disconnect_22 (v := 1) (by decide) ?_
  refine v_isub E dX5_disconnect_23 ?_
  refine v_put E dX5_disconnect_24 (ci := 5) rfl iwX5 tyX5 tyX5_ok nmX5 0 rfl 1 rfl fl_X5_27 rfl rfl rfl rfl rfl ?_
  refine v_wd (wd2 := [(q 1, .inr (5, [.int ct, .int (dp - 1), .ref (q 2), .ref (q 3), .ref (q 4)])), (q 2, aI D 20 we), (q 3, aI D 3 ok), (q 4, aG D 4 (gU q 5)), (q 5, aI D 20 ((updU us kk kb (((us kk) kb) &&& ((r_X6_setOf a) ^^^ (-1)))) 0)), (q 6, aI D 20 ((updU us kk kb (((us kk) kb) &&& ((r_X6_setOf a) ^^^ (-1)))) 1)), (q 7, aI D 20 ((updU us kk kb (((us kk) kb) &&& ((r_X6_setOf a) ^^^ (-1)))) 2)), (q 8, aI D 20 ((updU us kk kb (((us kk) kb) &&& ((r_X6_setOf a) ^^^ (-1)))) 3))]) rfl ?_
  exact v_vret E F dX5_disconnect_27 rfl () trivial rfl (Nat.le_of_ble_eq_true rfl) (Nat.le_of_ble_eq_true rfl)

def s_X5_kindBetween_2 (us : Nat → Nat → Int32) (a : Int32) (kb : Nat) : Nat → Nat → Int32
  | 0, i => (-10)
  | n + 1, i => if (r_X6_contains ((us i) kb) a) = 0 then s_X5_kindBetween_2 us a kb n (i + 1) else nI i
def r_X5_kindBetween (us : Nat → Nat → Int32) (a : Int32) (kb : Nat) : Int32 := s_X5_kindBetween_2 us a kb 4 0
set_option maxRecDepth 20000 in
/-- X5_kindBetween -/
theorem c_X5_kindBetween (D : va_G) (q : Nat → Nat) (ct : Int32) (dp : Int32) (we : Nat → Int32) (ok : Nat → Int32) (us : Nat → Nat → Int32) (a : Int32) (b : Int32) (kb : Nat) (hb : b = nI kb) (hkb : kb < 20) (l : Launch) : Ct l yX5_kindBetween cX5_kindBetween 4 (some .int) (rmM 1 21 0 0) D [.ref (q 1), .int a, .int b] [(q 1, .inr (5, [.int ct, .int dp, .ref (q 2), .ref (q 3), .ref (q 4)])), (q 2, aI D 20 we), (q 3, aI D 3 ok), (q 4, aG D 4 (gU q 5)), (q 5, aI D 20 (us 0)), (q 6, aI D 20 (us 1)), (q 7, aI D 20 (us 2)), (q 8, aI D 20 (us 3))] (QI1 D (r_X5_kindBetween us a kb) [(q 1, .inr (5, [.int ct, .int dp, .ref (q 2), .ref (q 3), .ref (q 4)])), (q 2, aI D 20 we), (q 3, aI D 3 ok), (q 4, aG D 4 (gU q 5)), (q 5, aI D 20 (us 0)), (q 6, aI D 20 (us 1)), (q 7, aI D 20 (us 2)), (q 8, aI D 20 (us 3))]) := by
  refine Ct.ofV 1 (lv0 := [some (.ref (q 1)), some (.int a), some (.int b), none]) (by decide) rfl rfl (fun Z E F => ?_)
  refine v_iconst E dX5_kindBetween_0 (v := 0) (by decide) ?_
  refine v_istore_n E dX5_kindBetween_1 rfl rfl ?_
  have L2 : ∀ n i : Nat, i + n = 4 → s_X5_kindBetween_2 us a kb 4 0 = s_X5_kindBetween_2 us a kb n i → V Z D 0 0 [(q 1, .inr (5, [.int ct, .int dp, .ref (q 2), .ref (q 3), .ref (q 4)])), (q 2, aI D 20 we), (q 3, aI D 3 ok), (q 4, aG D 4 (gU q 5)), (q 5, aI D 20 (us 0)), (q 6, aI D 20 (us 1)), (q 7, aI D 20 (us 2)), (q 8, aI D 20 (us 3))] [some (.ref (q 1)), some (.int a), some (.int b), some (.int (nI i))] [] 2 := by
    intro n
    induction n with
    | zero =>
      intro i hi hR
      have hiN : i = 4 := by omega
      rw [hiN] at hR ⊢
      refine v_iload_n E dX5_kindBetween_2 rfl ?_
      refine v_iconst E dX5_kindBetween_3 (v := 4) (by decide) ?_
      refine v_icmp_ge E 30 dX5_kindBetween_4 (by decide) (fun c_4 => ?_) (fun c_4 => ?_)
      · refine v_bipush E dX5_kindBetween_30 (v := -10) (by decide) ?_
        exact v_iret E F dX5_kindBetween_32 rfl rfl () (show _ = s_X5_kindBetween_2 us a kb 4 0 by rw [hR]; simp only [s_X5_kindBetween_2]) rfl (Nat.le_of_ble_eq_true rfl) (Nat.le_of_ble_eq_true rfl)
      · exact absurd (leN (a := 4) (b := 4) (show (4 : Int32) = nI 4 by decide) rfl (by omega) (by omega)) c_4
    | succ n ih =>
      intro i hi hR
      refine v_iload_n E dX5_kindBetween_2 rfl ?_
      refine v_iconst E dX5_kindBetween_3 (v := 4) (by decide) ?_
      refine v_icmp_ge E 30 dX5_kindBetween_4 (by decide) (fun c_4 => ?_) (fun c_4 => ?_)
      · exact absurd c_4 (nleN (a := 4) (b := i) (show (4 : Int32) = nI 4 by decide) rfl (by omega) (by omega))
      · refine v_aload_n E dX5_kindBetween_7 rfl ?_
        refine v_get E dX5_kindBetween_8 (ci := 5) rfl iwX5 0 rfl 4 rfl fl_X5_20 rfl ?_
        refine v_iload_n E dX5_kindBetween_11 rfl ?_
        refine v_uald E dX5_kindBetween_12 3 rfl i rfl (by omega) ?_
        refine v_iload_n E dX5_kindBetween_13 rfl ?_
        refine v_iald E dX5_kindBetween_14 (4 + i) (row4 4 (f := fun z => (q (5 + z), aI D 20 (us z))) (by omega) rfl rfl rfl rfl) kb hb (by omega) rfl ?_
        refine v_iload_n E dX5_kindBetween_15 rfl ?_
        refine v_cN_i E dX5_kindBetween_16 (c_X6_contains D ((us i) kb) a) cs_X5_49 rfl rfl rfl (Nat.le_of_ble_eq_true rfl) [] rfl rfl ⟨Nat.le_of_ble_eq_true rfl, Nat.le_of_ble_eq_true rfl⟩ ?_
        refine v_if_eq E 24 dX5_kindBetween_19 (by decide) (fun c_19 => ?_) (fun c_19 => ?_)
        · refine v_iinc E dX5_kindBetween_24 (v := nI (i + 1)) rfl (inc1 _) rfl rfl ?_
          refine v_goto E 2 dX5_kindBetween_27 (by decide) ?_
          have hR2 : s_X5_kindBetween_2 us a kb 4 0 = s_X5_kindBetween_2 us a kb n (i + 1) := by rw [hR]; simp only [s_X5_kindBetween_2, if_pos c_19]
          exact ih (i + 1) (by omega) hR2
        · refine v_iload_n E dX5_kindBetween_22 rfl ?_
          exact v_iret E F dX5_kindBetween_23 rfl rfl () (show _ = s_X5_kindBetween_2 us a kb 4 0 by rw [hR]; simp only [s_X5_kindBetween_2, if_neg c_19]) rfl (Nat.le_of_ble_eq_true rfl) (Nat.le_of_ble_eq_true rfl)
  exact L2 4 0 (by omega) rfl

def s_X5_usersOf_5 (us : Nat → Nat → Int32) (kd : Int32) (kt : Nat) (i : Nat) (m1 : Int32) : Int32 := if (((Int32.toUInt32 kd >>> (Int32.toUInt32 (nI i) &&& Int32.toUInt32 31)).toInt32) &&& 1) = 0 then m1 else m1 ||| ((us i) kt)
def r_X5_usersOf (us : Nat → Nat → Int32) (kd : Int32) (kt : Nat) : Int32 := (foldN (s_X5_usersOf_5 us kd kt) 4 0 0)
set_option maxRecDepth 20000 in
/-- X5_usersOf -/
theorem c_X5_usersOf (D : va_G) (q : Nat → Nat) (ct : Int32) (dp : Int32) (we : Nat → Int32) (ok : Nat → Int32) (us : Nat → Nat → Int32) (t : Int32) (kd : Int32) (kt : Nat) (ht : t = nI kt) (hkt : kt < 20) (l : Launch) : Ct l yX5_usersOf cX5_usersOf 5 (some .int) (rmM 0 0 0 0) D [.ref (q 1), .int t, .int kd] [(q 1, .inr (5, [.int ct, .int dp, .ref (q 2), .ref (q 3), .ref (q 4)])), (q 2, aI D 20 we), (q 3, aI D 3 ok), (q 4, aG D 4 (gU q 5)), (q 5, aI D 20 (us 0)), (q 6, aI D 20 (us 1)), (q 7, aI D 20 (us 2)), (q 8, aI D 20 (us 3))] (QI1 D (r_X5_usersOf us kd kt) [(q 1, .inr (5, [.int ct, .int dp, .ref (q 2), .ref (q 3), .ref (q 4)])), (q 2, aI D 20 we), (q 3, aI D 3 ok), (q 4, aG D 4 (gU q 5)), (q 5, aI D 20 (us 0)), (q 6, aI D 20 (us 1)), (q 7, aI D 20 (us 2)), (q 8, aI D 20 (us 3))]) := by
  refine Ct.ofV 2 (lv0 := [some (.ref (q 1)), some (.int t), some (.int kd), none, none]) (by decide) rfl rfl (fun Z E F => ?_)
  refine v_iconst E dX5_usersOf_0 (v := 0) (by decide) ?_
  refine v_istore_n E dX5_usersOf_1 rfl rfl ?_
  refine v_iconst E dX5_usersOf_2 (v := 0) (by decide) ?_
  refine v_istore E dX5_usersOf_3 rfl rfl ?_
  have L5 : ∀ (n i : Nat) (m1 : Int32), i + n = 4 → V Z D 0 0 [(q 1, .inr (5, [.int ct, .int dp, .ref (q 2), .ref (q 3), .ref (q 4)])), (q 2, aI D 20 we), (q 3, aI D 3 ok), (q 4, aG D 4 (gU q 5)), (q 5, aI D 20 (us 0)), (q 6, aI D 20 (us 1)), (q 7, aI D 20 (us 2)), (q 8, aI D 20 (us 3))] [some (.ref (q 1)), some (.int t), some (.int kd), some (.int (foldN (s_X5_usersOf_5 us kd kt) n i m1)), some (.int (nI 4))] [] 38 → V Z D 0 0 [(q 1, .inr (5, [.int ct, .int dp, .ref (q 2), .ref (q 3), .ref (q 4)])), (q 2, aI D 20 we), (q 3, aI D 3 ok), (q 4, aG D 4 (gU q 5)), (q 5, aI D 20 (us 0)), (q 6, aI D 20 (us 1)), (q 7, aI D 20 (us 2)), (q 8, aI D 20 (us 3))] [some (.ref (q 1)), some (.int t), some (.int kd), some (.int m1), some (.int (nI i))] [] 5 := by
    intro n
    induction n with
    | zero =>
      intro i m1 hi  K5
      have hiN : i = 4 := by omega
      rw [hiN]
      refine v_iload E dX5_usersOf_5 rfl ?_
      refine v_iconst E dX5_usersOf_7 (v := 4) (by decide) ?_
      refine v_icmp_ge E 38 dX5_usersOf_8 (by decide) (fun c_8 => ?_) (fun c_8 => ?_)
      · exact K5
      · exact absurd (leN (a := 4) (b := 4) (show (4 : Int32) = nI 4 by decide) rfl (by omega) (by omega)) c_8
    | succ n ih =>
      intro i m1 hi  K5
      refine v_iload E dX5_usersOf_5 rfl ?_
      refine v_iconst E dX5_usersOf_7 (v := 4) (by decide) ?_
      refine v_icmp_ge E 38 dX5_usersOf_8 (by decide) (fun c_8 => ?_) (fun c_8 => ?_)
      · exact absurd c_8 (nleN (a := 4) (b := i) (show (4 : Int32) = nI 4 by decide) rfl (by omega) (by omega))
      · refine v_iload_n E dX5_usersOf_11 rfl ?_
        refine v_iload E dX5_usersOf_12 rfl ?_
        refine v_iushr E dX5_usersOf_14 ?_
        refine v_iconst E dX5_usersOf_15 (v := 1) (by decide) ?_
        refine v_iand E dX5_usersOf_16 ?_
        refine v_if_eq E 32 dX5_usersOf_17 (by decide) (fun c_17 => ?_) (fun c_17 => ?_)
        · refine v_iinc E dX5_usersOf_32 (v := nI (i + 1)) rfl (inc1 _) rfl rfl ?_
          refine v_goto E 5 dX5_usersOf_35 (by decide) ?_
          have hs : s_X5_usersOf_5 us kd kt i m1 = m1 := by simp only [s_X5_usersOf_5, if_pos c_17]
          rw [foldN_s (s_X5_usersOf_5 us kd kt) n i m1, hs] at K5
          exact ih (i + 1) m1 (by omega) K5
        · refine v_iload_n E dX5_usersOf_20 rfl ?_
          refine v_aload_n E dX5_usersOf_21 rfl ?_
          refine v_get E dX5_usersOf_22 (ci := 5) rfl iwX5 0 rfl 4 rfl fl_X5_20 rfl ?_
          refine v_iload E dX5_usersOf_25 rfl ?_
          refine v_uald E dX5_usersOf_27 3 rfl i rfl (by omega) ?_
          refine v_iload_n E dX5_usersOf_28 rfl ?_
          refine v_iald E dX5_usersOf_29 (4 + i) (row4 4 (f := fun z => (q (5 + z), aI D 20 (us z))) (by omega) rfl rfl rfl rfl) kt ht (by omega) rfl ?_
          refine v_ior E dX5_usersOf_30 ?_
          refine v_istore_n E dX5_usersOf_31 rfl rfl ?_
          refine v_iinc E dX5_usersOf_32 (v := nI (i + 1)) rfl (inc1 _) rfl rfl ?_
          refine v_goto E 5 dX5_usersOf_35 (by decide) ?_
          have hs : s_X5_usersOf_5 us kd kt i m1 = (m1 ||| ((us i) kt)) := by simp only [s_X5_usersOf_5, if_neg c_17]
          rw [foldN_s (s_X5_usersOf_5 us kd kt) n i m1, hs] at K5
          exact ih (i + 1) (m1 ||| ((us i) kt)) (by omega) K5
  refine L5 4 0 0 (by omega)  ?_
  refine v_iload_n E dX5_usersOf_38 rfl ?_
  exact v_iret E F dX5_usersOf_39 rfl rfl () rfl rfl (Nat.le_of_ble_eq_true rfl) (Nat.le_of_ble_eq_true rfl)

def s_X5_usersOfAny_5 (us : Nat → Nat → Int32) (s : Int32) (kd : Int32) (i : Nat) (m1 : Int32) : Int32 := if (r_X6_contains s (nI i)) = 0 then m1 else m1 ||| (r_X5_usersOf us kd i)
def r_X5_usersOfAny (us : Nat → Nat → Int32) (s : Int32) (kd : Int32) : Int32 := (foldN (s_X5_usersOfAny_5 us s kd) 20 0 0)
set_option maxRecDepth 20000 in
/-- X5_usersOfAny -/
theorem c_X5_usersOfAny (D : va_G) (q : Nat → Nat) (ct : Int32) (dp : Int32) (we : Nat → Int32) (ok : Nat → Int32) (us : Nat → Nat → Int32) (s : Int32) (kd : Int32) (l : Launch) : Ct l yX5_usersOfAny cX5_usersOfAny 5 (some .int) (rmM 1 24 0 0) D [.ref (q 1), .int s, .int kd] [(q 1, .inr (5, [.int ct, .int dp, .ref (q 2), .ref (q 3), .ref (q 4)])), (q 2, aI D 20 we), (q 3, aI D 3 ok), (q 4, aG D 4 (gU q 5)), (q 5, aI D 20 (us 0)), (q 6, aI D 20 (us 1)), (q 7, aI D 20 (us 2)), (q 8, aI D 20 (us 3))] (QI1 D (r_X5_usersOfAny us s kd) [(q 1, .inr (5, [.int ct, .int dp, .ref (q 2), .ref (q 3), .ref (q 4)])), (q 2, aI D 20 we), (q 3, aI D 3 ok), (q 4, aG D 4 (gU q 5)), (q 5, aI D 20 (us 0)), (q 6, aI D 20 (us 1)), (q 7, aI D 20 (us 2)), (q 8, aI D 20 (us 3))]) := by
  refine Ct.ofV 2 (lv0 := [some (.ref (q 1)), some (.int s), some (.int kd), none, none]) (by decide) rfl rfl (fun Z E F => ?_)
  refine v_iconst E dX5_usersOfAny_0 (v := 0) (by decide) ?_
  refine v_istore_n E dX5_usersOfAny_1 rfl rfl ?_
  refine v_iconst E dX5_usersOfAny_2 (v := 0) (by decide) ?_
  refine v_istore E dX5_usersOfAny_3 rfl rfl ?_
  have L5 : ∀ (n i : Nat) (m1 : Int32), i + n = 20 → V Z D 0 0 [(q 1, .inr (5, [.int ct, .int dp, .ref (q 2), .ref (q 3), .ref (q 4)])), (q 2, aI D 20 we), (q 3, aI D 3 ok), (q 4, aG D 4 (gU q 5)), (q 5, aI D 20 (us 0)), (q 6, aI D 20 (us 1)), (q 7, aI D 20 (us 2)), (q 8, aI D 20 (us 3))] [some (.ref (q 1)), some (.int s), some (.int kd), some (.int (foldN (s_X5_usersOfAny_5 us s kd) n i m1)), some (.int (nI 20))] [] 37 → V Z D 0 0 [(q 1, .inr (5, [.int ct, .int dp, .ref (q 2), .ref (q 3), .ref (q 4)])), (q 2, aI D 20 we), (q 3, aI D 3 ok), (q 4, aG D 4 (gU q 5)), (q 5, aI D 20 (us 0)), (q 6, aI D 20 (us 1)), (q 7, aI D 20 (us 2)), (q 8, aI D 20 (us 3))] [some (.ref (q 1)), some (.int s), some (.int kd), some (.int m1), some (.int (nI i))] [] 5 := by
    intro n
    induction n with
    | zero =>
      intro i m1 hi  K5
      have hiN : i = 20 := by omega
      rw [hiN]
      refine v_iload E dX5_usersOfAny_5 rfl ?_
      refine v_bipush E dX5_usersOfAny_7 (v := 20) (by decide) ?_
      refine v_icmp_ge E 37 dX5_usersOfAny_9 (by decide) (fun c_9 => ?_) (fun c_9 => ?_)
      · exact K5
      · exact absurd (leN (a := 20) (b := 20) (show (20 : Int32) = nI 20 by decide) rfl (by omega) (by omega)) c_9
    | succ n ih =>
      intro i m1 hi  K5
      refine v_iload E dX5_usersOfAny_5 rfl ?_
      refine v_bipush E dX5_usersOfAny_7 (v := 20) (by decide) ?_
      refine v_icmp_ge E 37 dX5_usersOfAny_9 (by decide) (fun c_9 => ?_) (fun c_9 => ?_)
      · exact absurd c_9 (nleN (a := 20) (b := i) (show (20 : Int32) = nI 20 by decide) rfl (by omega) (by omega))
      · refine v_iload_n E dX5_usersOfAny_12 rfl ?_
        refine v_iload E dX5_usersOfAny_13 rfl ?_
        refine v_cN_i E dX5_usersOfAny_15 (c_X6_contains D s (nI i)) cs_X5_49 rfl rfl rfl (Nat.le_of_ble_eq_true rfl) [] rfl rfl ⟨Nat.le_of_ble_eq_true rfl, Nat.le_of_ble_eq_true rfl⟩ ?_
        refine v_if_eq E 31 dX5_usersOfAny_18 (by decide) (fun c_18 => ?_) (fun c_18 => ?_)
        · refine v_iinc E dX5_usersOfAny_31 (v := nI (i + 1)) rfl (inc1 _) rfl rfl ?_
          refine v_goto E 5 dX5_usersOfAny_34 (by decide) ?_
          have hs : s_X5_usersOfAny_5 us s kd i m1 = m1 := by simp only [s_X5_usersOfAny_5, if_pos c_18]
          rw [foldN_s (s_X5_usersOfAny_5 us s kd) n i m1, hs] at K5
          exact ih (i + 1) m1 (by omega) K5
        · refine v_iload_n E dX5_usersOfAny_21 rfl ?_
          refine v_aload_n E dX5_usersOfAny_22 rfl ?_
          refine v_iload E dX5_usersOfAny_23 rfl ?_
          refine v_iload_n E dX5_usersOfAny_25 rfl ?_
          refine v_cV_i E dX5_usersOfAny_26 (c_X5_usersOf D q ct dp we ok us (nI i) kd i rfl (by omega)) cs_X5_52 rfl rfl rfl (Nat.le_of_ble_eq_true rfl) 0 rfl rfl [0, 1, 2, 3, 4, 5, 6, 7] rfl rfl ⟨Nat.le_of_ble_eq_true rfl, Nat.le_of_ble_eq_true rfl⟩ ?_
          refine v_ior E dX5_usersOfAny_29 ?_
          refine v_istore_n E dX5_usersOfAny_30 rfl rfl ?_
          refine v_iinc E dX5_usersOfAny_31 (v := nI (i + 1)) rfl (inc1 _) rfl rfl ?_
          refine v_goto E 5 dX5_usersOfAny_34 (by decide) ?_
          have hs : s_X5_usersOfAny_5 us s kd i m1 = (m1 ||| (r_X5_usersOf us kd i)) := by simp only [s_X5_usersOfAny_5, if_neg c_18]
          rw [foldN_s (s_X5_usersOfAny_5 us s kd) n i m1, hs] at K5
          exact ih (i + 1) (m1 ||| (r_X5_usersOf us kd i)) (by omega) K5
  refine L5 20 0 0 (by omega)  ?_
  refine v_iload_n E dX5_usersOfAny_37 rfl ?_
  exact v_iret E F dX5_usersOfAny_38 rfl rfl () rfl rfl (Nat.le_of_ble_eq_true rfl) (Nat.le_of_ble_eq_true rfl)

def s_X5_withAllUsers_8 (us : Nat → Nat → Int32) (kd : Int32) (i : Nat) (z_ : Int32 × Int32) : Int32 × Int32 := match z_ with
  | (fo1, fr1) => (fo1 ||| ((r_X5_usersOfAny us fr1 kd) &&& (fo1 ^^^ (-1))), (r_X5_usersOfAny us fr1 kd) &&& (fo1 ^^^ (-1)))
def b_X5_withAllUsers_8  (z_ : Int32 × Int32) : Bool := match z_ with
  | (fo1, fr1) => decide (fr1 = 0)
def r_X5_withAllUsers (us : Nat → Nat → Int32) (s : Int32) (kd : Int32) : Int32 := (brkN b_X5_withAllUsers_8 (s_X5_withAllUsers_8 us kd) 20 0 (s, s)).1
set_option maxRecDepth 20000 in
/-- X5_withAllUsers -/
theorem c_X5_withAllUsers (D : va_G) (q : Nat → Nat) (ct : Int32) (dp : Int32) (we : Nat → Int32) (ok : Nat → Int32) (us : Nat → Nat → Int32) (s : Int32) (kd : Int32) (l : Launch) : Ct l yX5_withAllUsers cX5_withAllUsers 6 (some .int) (rmM 2 48 0 0) D [.ref (q 1), .int s, .int kd] [(q 1, .inr (5, [.int ct, .int dp, .ref (q 2), .ref (q 3), .ref (q 4)])), (q 2, aI D 20 we), (q 3, aI D 3 ok), (q 4, aG D 4 (gU q 5)), (q 5, aI D 20 (us 0)), (q 6, aI D 20 (us 1)), (q 7, aI D 20 (us 2)), (q 8, aI D 20 (us 3))] (QI1 D (r_X5_withAllUsers us s kd) [(q 1, .inr (5, [.int ct, .int dp, .ref (q 2), .ref (q 3), .ref (q 4)])), (q 2, aI D 20 we), (q 3, aI D 3 ok), (q 4, aG D 4 (gU q 5)), (q 5, aI D 20 (us 0)), (q 6, aI D 20 (us 1)), (q 7, aI D 20 (us 2)), (q 8, aI D 20 (us 3))]) := by
  refine Ct.ofV 3 (lv0 := [some (.ref (q 1)), some (.int s), some (.int kd), none, none, none]) (by decide) rfl rfl (fun Z E F => ?_)
  refine v_iload_n E dX5_withAllUsers_0 rfl ?_
  refine v_istore_n E dX5_withAllUsers_1 rfl rfl ?_
  refine v_iload_n E dX5_withAllUsers_2 rfl ?_
  refine v_istore E dX5_withAllUsers_3 rfl rfl ?_
  refine v_iconst E dX5_withAllUsers_5 (v := 0) (by decide) ?_
  refine v_istore E dX5_withAllUsers_6 rfl rfl ?_
  have L8 : ∀ (n i : Nat) (fo1 : Int32) (fr1 : Int32), i + n = 20 → V Z D 0 0 [(q 1, .inr (5, [.int ct, .int dp, .ref (q 2), .ref (q 3), .ref (q 4)])), (q 2, aI D 20 we), (q 3, aI D 3 ok), (q 4, aG D 4 (gU q 5)), (q 5, aI D 20 (us 0)), (q 6, aI D 20 (us 1)), (q 7, aI D 20 (us 2)), (q 8, aI D 20 (us 3))] [some (.ref (q 1)), some (.int s), some (.int kd), some (.int ((brkN b_X5_withAllUsers_8 (s_X5_withAllUsers_8 us kd) n i (fo1, fr1)).1)), some (.int ((brkN b_X5_withAllUsers_8 (s_X5_withAllUsers_8 us kd) n i (fo1, fr1)).2)), none] [] 44 → V Z D 0 0 [(q 1, .inr (5, [.int ct, .int dp, .ref (q 2), .ref (q 3), .ref (q 4)])), (q 2, aI D 20 we), (q 3, aI D 3 ok), (q 4, aG D 4 (gU q 5)), (q 5, aI D 20 (us 0)), (q 6, aI D 20 (us 1)), (q 7, aI D 20 (us 2)), (q 8, aI D 20 (us 3))] [some (.ref (q 1)), some (.int s), some (.int kd), some (.int fo1), some (.int fr1), some (.int (nI i))] [] 8 := by
    intro n
    induction n with
    | zero =>
      intro i fo1 fr1 hi  K8
      have hiN : i = 20 := by omega
      rw [hiN]
      refine v_iload E dX5_withAllUsers_8 rfl ?_
      refine v_bipush E dX5_withAllUsers_10 (v := 20) (by decide) ?_
      refine v_icmp_ge E 44 dX5_withAllUsers_12 (by decide) (fun c_12 => ?_) (fun c_12 => ?_)
      · refine v_mask [true, true, true, true, true, false] rfl ?_
        exact K8
      · exact absurd (leN (a := 20) (b := 20) (show (20 : Int32) = nI 20 by decide) rfl (by omega) (by omega)) c_12
    | succ n ih =>
      intro i fo1 fr1 hi  K8
      refine v_iload E dX5_withAllUsers_8 rfl ?_
      refine v_bipush E dX5_withAllUsers_10 (v := 20) (by decide) ?_
      refine v_icmp_ge E 44 dX5_withAllUsers_12 (by decide) (fun c_12 => ?_) (fun c_12 => ?_)
      · exact absurd c_12 (nleN (a := 20) (b := i) (show (20 : Int32) = nI 20 by decide) rfl (by omega) (by omega))
      · refine v_iload E dX5_withAllUsers_15 rfl ?_
        refine v_if_eq E 44 dX5_withAllUsers_17 (by decide) (fun c_17 => ?_) (fun c_17 => ?_)
        · rw [brkN_t (show b_X5_withAllUsers_8 (fo1, fr1) = true from decide_eq_true c_17)] at K8
          refine v_mask [true, true, true, true, true, false] rfl ?_
          exact K8
        · refine v_aload_n E dX5_withAllUsers_20 rfl ?_
          refine v_iload E dX5_withAllUsers_21 rfl ?_
          refine v_iload_n E dX5_withAllUsers_23 rfl ?_
          refine v_cV_i E dX5_withAllUsers_24 (c_X5_usersOfAny D q ct dp we ok us fr1 kd) cs_X5_56 rfl rfl rfl (Nat.le_of_ble_eq_true rfl) 0 rfl rfl [0, 1, 2, 3, 4, 5, 6, 7] rfl rfl ⟨Nat.le_of_ble_eq_true rfl, Nat.le_of_ble_eq_true rfl⟩ ?_
          refine v_iload_n E dX5_withAllUsers_27 rfl ?_
          refine v_iconst E dX5_withAllUsers_28 (v := -1) (by decide) ?_
          refine v_ixor E dX5_withAllUsers_29 ?_
          refine v_iand E dX5_withAllUsers_30 ?_
          refine v_istore E dX5_withAllUsers_31 rfl rfl ?_
          refine v_iload_n E dX5_withAllUsers_33 rfl ?_
          refine v_iload E dX5_withAllUsers_34 rfl ?_
          refine v_ior E dX5_withAllUsers_36 ?_
          refine v_istore_n E dX5_withAllUsers_37 rfl rfl ?_
          refine v_iinc E dX5_withAllUsers_38 (v := nI (i + 1)) rfl (inc1 _) rfl rfl ?_
          refine v_goto E 8 dX5_withAllUsers_41 (by decide) ?_
          have hs : s_X5_withAllUsers_8 us kd i (fo1, fr1) = (fo1 ||| ((r_X5_usersOfAny us fr1 kd) &&& (fo1 ^^^ (-1))), (r_X5_usersOfAny us fr1 kd) &&& (fo1 ^^^ (-1))) := by rfl
          rw [brkN_f (show b_X5_withAllUsers_8 (fo1, fr1) = false from decide_eq_false c_17), hs] at K8
          exact ih (i + 1) (fo1 ||| ((r_X5_usersOfAny us fr1 kd) &&& (fo1 ^^^ (-1)))) ((r_X5_usersOfAny us fr1 kd) &&& (fo1 ^^^ (-1))) (by omega) K8
  refine L8 20 0 s s (by omega)  ?_
  refine v_iload_n E dX5_withAllUsers_44 rfl ?_
  exact v_iret E F dX5_withAllUsers_45 rfl rfl () rfl rfl (Nat.le_of_ble_eq_true rfl) (Nat.le_of_ble_eq_true rfl)

theorem hdiv2x {x : Int32} {a : Nat} (h : x = nI a) (ha : a < 2 ^ 31) : x / 2 = nI (a / 2) := by rw [h]; exact pk_div (d := 2) ha (by decide) (by decide)
def r_X5_followersOf (us : Nat → Nat → Int32) (p : Int32) (kp : Nat) : Int64 := if (p - p / 2 * 2) = 1 then (r_X6_pairsWith ((us 2) (kp / 2)) 0) else (r_X6_pairsWith ((us 0) (kp / 2)) 0) ||| (r_X6_pairsWith (((us 1) (kp / 2)) ||| (r_X6_setOf (p / 2))) 1)
set_option maxRecDepth 20000 in
/-- X5_followersOf -/
theorem c_X5_followersOf (D : va_G) (q : Nat → Nat) (ct : Int32) (dp : Int32) (we : Nat → Int32) (ok : Nat → Int32) (us : Nat → Nat → Int32) (p : Int32) (kp : Nat) (hp : p = nI kp) (hkp : kp < 40) (l : Launch) : Ct l yX5_followersOf cX5_followersOf 3 (some .long) (rmM 1 21 0 0) D [.ref (q 1), .int p] [(q 1, .inr (5, [.int ct, .int dp, .ref (q 2), .ref (q 3), .ref (q 4)])), (q 2, aI D 20 we), (q 3, aI D 3 ok), (q 4, aG D 4 (gU q 5)), (q 5, aI D 20 (us 0)), (q 6, aI D 20 (us 1)), (q 7, aI D 20 (us 2)), (q 8, aI D 20 (us 3))] (QL1 D (r_X5_followersOf us p kp) [(q 1, .inr (5, [.int ct, .int dp, .ref (q 2), .ref (q 3), .ref (q 4)])), (q 2, aI D 20 we), (q 3, aI D 3 ok), (q 4, aG D 4 (gU q 5)), (q 5, aI D 20 (us 0)), (q 6, aI D 20 (us 1)), (q 7, aI D 20 (us 2)), (q 8, aI D 20 (us 3))]) := by
  refine Ct.ofV 1 (lv0 := [some (.ref (q 1)), some (.int p), none]) (by decide) rfl rfl (fun Z E F => ?_)
  refine v_iload_n E dX5_followersOf_0 rfl ?_
  refine v_iconst E dX5_followersOf_1 (v := 2) (by decide) ?_
  refine v_idiv E dX5_followersOf_2 (by decide) ?_
  refine v_istore_n E dX5_followersOf_3 rfl rfl ?_
  refine v_iload_n E dX5_followersOf_4 rfl ?_
  refine v_iconst E dX5_followersOf_5 (v := 2) (by decide) ?_
  refine v_irem E dX5_followersOf_6 (by decide) ?_
  refine v_iconst E dX5_followersOf_7 (v := 1) (by decide) ?_
  refine v_icmp_ne E 24 dX5_followersOf_8 (by decide) (fun c_8 => ?_) (fun c_8 => ?_)
  · refine v_aload_n E dX5_followersOf_24 rfl ?_
    refine v_get E dX5_followersOf_25 (ci := 5) rfl iwX5 0 rfl 4 rfl fl_X5_20 rfl ?_
    refine v_iconst E dX5_followersOf_28 (v := 0) (by decide) ?_
    refine v_uald E dX5_followersOf_29 3 rfl 0 (show (0 : Int32) = nI 0 by decide) (by omega) ?_
    refine v_iload_n E dX5_followersOf_30 rfl ?_
    refine v_iald E dX5_followersOf_31 4 rfl (kp / 2) (hdiv2x hp (by omega)) (by omega) rfl ?_
    refine v_iconst E dX5_followersOf_32 (v := 0) (by decide) ?_
    refine v_cN_l E dX5_followersOf_33 (c_X6_pairsWith D ((us 0) (kp / 2)) 0) cs_X5_59 rfl rfl rfl (Nat.le_of_ble_eq_true rfl) [] rfl rfl ⟨Nat.le_of_ble_eq_true rfl, Nat.le_of_ble_eq_true rfl⟩ ?_
    refine v_aload_n E dX5_followersOf_36 rfl ?_
    refine v_get E dX5_followersOf_37 (ci := 5) rfl iwX5 0 rfl 4 rfl fl_X5_20 rfl ?_
    refine v_iconst E dX5_followersOf_40 (v := 1) (by decide) ?_
    refine v_uald E dX5_followersOf_41 3 rfl 1 (show (1 : Int32) = nI 1 by decide) (by omega) ?_
    refine v_iload_n E dX5_followersOf_42 rfl ?_
    refine v_iald E dX5_followersOf_43 5 rfl (kp / 2) (hdiv2x hp (by omega)) (by omega) rfl ?_
    refine v_iload_n E dX5_followersOf_44 rfl ?_
    refine v_cN_i E dX5_followersOf_45 (c_X6_setOf D (p / 2)) cs_X5_46 rfl rfl rfl (Nat.le_of_ble_eq_true rfl) [] rfl rfl ⟨Nat.le_of_ble_eq_true rfl, Nat.le_of_ble_eq_true rfl⟩ ?_
    refine v_ior E dX5_followersOf_48 ?_
    refine v_iconst E dX5_followersOf_49 (v := 1) (by decide) ?_
    refine v_cN_l E dX5_followersOf_50 (c_X6_pairsWith D (((us 1) (kp / 2)) ||| (r_X6_setOf (p / 2))) 1) cs_X5_59 rfl rfl rfl (Nat.le_of_ble_eq_true rfl) [] rfl rfl ⟨Nat.le_of_ble_eq_true rfl, Nat.le_of_ble_eq_true rfl⟩ ?_
    refine v_lor E dX5_followersOf_53 ?_
    exact v_lret E F dX5_followersOf_54 rfl () (by simp only [r_X5_followersOf, if_neg c_8]) rfl (Nat.le_of_ble_eq_true rfl) (Nat.le_of_ble_eq_true rfl)
  · refine v_aload_n E dX5_followersOf_11 rfl ?_
    refine v_get E dX5_followersOf_12 (ci := 5) rfl iwX5 0 rfl 4 rfl fl_X5_20 rfl ?_
    refine v_iconst E dX5_followersOf_15 (v := 2) (by decide) ?_
    refine v_uald E dX5_followersOf_16 3 rfl 2 (show (2 : Int32) = nI 2 by decide) (by omega) ?_
    refine v_iload_n E dX5_followersOf_17 rfl ?_
    refine v_iald E dX5_followersOf_18 6 rfl (kp / 2) (hdiv2x hp (by omega)) (by omega) rfl ?_
    refine v_iconst E dX5_followersOf_19 (v := 0) (by decide) ?_
    refine v_cN_l E dX5_followersOf_20 (c_X6_pairsWith D ((us 2) (kp / 2)) 0) cs_X5_59 rfl rfl rfl (Nat.le_of_ble_eq_true rfl) [] rfl rfl ⟨Nat.le_of_ble_eq_true rfl, Nat.le_of_ble_eq_true rfl⟩ ?_
    exact v_lret E F dX5_followersOf_23 rfl () (by simp only [r_X5_followersOf, if_pos c_8]) rfl (Nat.le_of_ble_eq_true rfl) (Nat.le_of_ble_eq_true rfl)

def s_X5_followersOfAny_5 (us : Nat → Nat → Int32) (ps : Int64) (i : Nat) (m1 : Int64) : Int64 := if (r_X6_containsPair ps (nI i)) = 0 then m1 else m1 ||| (r_X5_followersOf us (nI i) i)
def r_X5_followersOfAny (us : Nat → Nat → Int32) (ps : Int64) : Int64 := (foldN (s_X5_followersOfAny_5 us ps) 40 0 0)
set_option maxRecDepth 20000 in
/-- X5_followersOfAny -/
theorem c_X5_followersOfAny (D : va_G) (q : Nat → Nat) (ct : Int32) (dp : Int32) (we : Nat → Int32) (ok : Nat → Int32) (us : Nat → Nat → Int32) (ps : Int64) (l : Launch) : Ct l yX5_followersOfAny cX5_followersOfAny 6 (some .long) (rmM 2 43 0 0) D [.ref (q 1), .long ps] [(q 1, .inr (5, [.int ct, .int dp, .ref (q 2), .ref (q 3), .ref (q 4)])), (q 2, aI D 20 we), (q 3, aI D 3 ok), (q 4, aG D 4 (gU q 5)), (q 5, aI D 20 (us 0)), (q 6, aI D 20 (us 1)), (q 7, aI D 20 (us 2)), (q 8, aI D 20 (us 3))] (QL1 D (r_X5_followersOfAny us ps) [(q 1, .inr (5, [.int ct, .int dp, .ref (q 2), .ref (q 3), .ref (q 4)])), (q 2, aI D 20 we), (q 3, aI D 3 ok), (q 4, aG D 4 (gU q 5)), (q 5, aI D 20 (us 0)), (q 6, aI D 20 (us 1)), (q 7, aI D 20 (us 2)), (q 8, aI D 20 (us 3))]) := by
  refine Ct.ofV 3 (lv0 := [some (.ref (q 1)), some (.long ps), none, none, none, none]) (by decide) rfl rfl (fun Z E F => ?_)
  refine v_lconst E dX5_followersOfAny_0 (v := 0) (by decide) ?_
  refine v_lstore_n E dX5_followersOfAny_1 rfl rfl ?_
  refine v_iconst E dX5_followersOfAny_2 (v := 0) (by decide) ?_
  refine v_istore E dX5_followersOfAny_3 rfl rfl ?_
  have L5 : ∀ (n i : Nat) (m1 : Int64), i + n = 40 → V Z D 0 0 [(q 1, .inr (5, [.int ct, .int dp, .ref (q 2), .ref (q 3), .ref (q 4)])), (q 2, aI D 20 we), (q 3, aI D 3 ok), (q 4, aG D 4 (gU q 5)), (q 5, aI D 20 (us 0)), (q 6, aI D 20 (us 1)), (q 7, aI D 20 (us 2)), (q 8, aI D 20 (us 3))] [some (.ref (q 1)), some (.long ps), none, some (.long (foldN (s_X5_followersOfAny_5 us ps) n i m1)), none, some (.int (nI 40))] [] 36 → V Z D 0 0 [(q 1, .inr (5, [.int ct, .int dp, .ref (q 2), .ref (q 3), .ref (q 4)])), (q 2, aI D 20 we), (q 3, aI D 3 ok), (q 4, aG D 4 (gU q 5)), (q 5, aI D 20 (us 0)), (q 6, aI D 20 (us 1)), (q 7, aI D 20 (us 2)), (q 8, aI D 20 (us 3))] [some (.ref (q 1)), some (.long ps), none, some (.long m1), none, some (.int (nI i))] [] 5 := by
    intro n
    induction n with
    | zero =>
      intro i m1 hi  K5
      have hiN : i = 40 := by omega
      rw [hiN]
      refine v_iload E dX5_followersOfAny_5 rfl ?_
      refine v_bipush E dX5_followersOfAny_7 (v := 40) (by decide) ?_
      refine v_icmp_ge E 36 dX5_followersOfAny_9 (by decide) (fun c_9 => ?_) (fun c_9 => ?_)
      · exact K5
      · exact absurd (leN (a := 40) (b := 40) (show (40 : Int32) = nI 40 by decide) rfl (by omega) (by omega)) c_9
    | succ n ih =>
      intro i m1 hi  K5
      refine v_iload E dX5_followersOfAny_5 rfl ?_
      refine v_bipush E dX5_followersOfAny_7 (v := 40) (by decide) ?_
      refine v_icmp_ge E 36 dX5_followersOfAny_9 (by decide) (fun c_9 => ?_) (fun c_9 => ?_)
      · exact absurd c_9 (nleN (a := 40) (b := i) (show (40 : Int32) = nI 40 by decide) rfl (by omega) (by omega))
      · refine v_lload_n E dX5_followersOfAny_12 rfl ?_
        refine v_iload E dX5_followersOfAny_13 rfl ?_
        refine v_cN_i E dX5_followersOfAny_15 (c_X6_containsPair D ps (nI i)) cs_X5_63 rfl rfl rfl (Nat.le_of_ble_eq_true rfl) [] rfl rfl ⟨Nat.le_of_ble_eq_true rfl, Nat.le_of_ble_eq_true rfl⟩ ?_
        refine v_if_eq E 30 dX5_followersOfAny_18 (by decide) (fun c_18 => ?_) (fun c_18 => ?_)
        · refine v_iinc E dX5_followersOfAny_30 (v := nI (i + 1)) rfl (inc1 _) rfl rfl ?_
          refine v_goto E 5 dX5_followersOfAny_33 (by decide) ?_
          have hs : s_X5_followersOfAny_5 us ps i m1 = m1 := by simp only [s_X5_followersOfAny_5, if_pos c_18]
          rw [foldN_s (s_X5_followersOfAny_5 us ps) n i m1, hs] at K5
          exact ih (i + 1) m1 (by omega) K5
        · refine v_lload_n E dX5_followersOfAny_21 rfl ?_
          refine v_aload_n E dX5_followersOfAny_22 rfl ?_
          refine v_iload E dX5_followersOfAny_23 rfl ?_
          refine v_cV_l E dX5_followersOfAny_25 (c_X5_followersOf D q ct dp we ok us (nI i) i rfl (by omega)) cs_X5_67 rfl rfl rfl (Nat.le_of_ble_eq_true rfl) 0 rfl rfl [0, 1, 2, 3, 4, 5, 6, 7] rfl rfl ⟨Nat.le_of_ble_eq_true rfl, Nat.le_of_ble_eq_true rfl⟩ ?_
          refine v_lor E dX5_followersOfAny_28 ?_
          refine v_lstore_n E dX5_followersOfAny_29 rfl rfl ?_
          refine v_iinc E dX5_followersOfAny_30 (v := nI (i + 1)) rfl (inc1 _) rfl rfl ?_
          refine v_goto E 5 dX5_followersOfAny_33 (by decide) ?_
          have hs : s_X5_followersOfAny_5 us ps i m1 = (m1 ||| (r_X5_followersOf us (nI i) i)) := by simp only [s_X5_followersOfAny_5, if_neg c_18]
          rw [foldN_s (s_X5_followersOfAny_5 us ps) n i m1, hs] at K5
          exact ih (i + 1) (m1 ||| (r_X5_followersOf us (nI i) i)) (by omega) K5
  refine L5 40 0 0 (by omega)  ?_
  refine v_lload_n E dX5_followersOfAny_36 rfl ?_
  exact v_lret E F dX5_followersOfAny_37 rfl () rfl rfl (Nat.le_of_ble_eq_true rfl) (Nat.le_of_ble_eq_true rfl)

def s_X5_causesOfAny_5 (us : Nat → Nat → Int32) (ps : Int64) (i : Nat) (m1 : Int64) : Int64 := if (lg_cmp ((r_X5_followersOf us (nI i) i) &&& ps) 0) = 0 then m1 else m1 ||| (r_X6_setOfPair (nI i))
def r_X5_causesOfAny (us : Nat → Nat → Int32) (ps : Int64) : Int64 := (foldN (s_X5_causesOfAny_5 us ps) 40 0 0)
set_option maxRecDepth 20000 in
/-- X5_causesOfAny -/
theorem c_X5_causesOfAny (D : va_G) (q : Nat → Nat) (ct : Int32) (dp : Int32) (we : Nat → Int32) (ok : Nat → Int32) (us : Nat → Nat → Int32) (ps : Int64) (l : Launch) : Ct l yX5_causesOfAny cX5_causesOfAny 6 (some .long) (rmM 2 43 0 0) D [.ref (q 1), .long ps] [(q 1, .inr (5, [.int ct, .int dp, .ref (q 2), .ref (q 3), .ref (q 4)])), (q 2, aI D 20 we), (q 3, aI D 3 ok), (q 4, aG D 4 (gU q 5)), (q 5, aI D 20 (us 0)), (q 6, aI D 20 (us 1)), (q 7, aI D 20 (us 2)), (q 8, aI D 20 (us 3))] (QL1 D (r_X5_causesOfAny us ps) [(q 1, .inr (5, [.int ct, .int dp, .ref (q 2), .ref (q 3), .ref (q 4)])), (q 2, aI D 20 we), (q 3, aI D 3 ok), (q 4, aG D 4 (gU q 5)), (q 5, aI D 20 (us 0)), (q 6, aI D 20 (us 1)), (q 7, aI D 20 (us 2)), (q 8, aI D 20 (us 3))]) := by
  refine Ct.ofV 3 (lv0 := [some (.ref (q 1)), some (.long ps), none, none, none, none]) (by decide) rfl rfl (fun Z E F => ?_)
  refine v_lconst E dX5_causesOfAny_0 (v := 0) (by decide) ?_
  refine v_lstore_n E dX5_causesOfAny_1 rfl rfl ?_
  refine v_iconst E dX5_causesOfAny_2 (v := 0) (by decide) ?_
  refine v_istore E dX5_causesOfAny_3 rfl rfl ?_
  have L5 : ∀ (n i : Nat) (m1 : Int64), i + n = 40 → V Z D 0 0 [(q 1, .inr (5, [.int ct, .int dp, .ref (q 2), .ref (q 3), .ref (q 4)])), (q 2, aI D 20 we), (q 3, aI D 3 ok), (q 4, aG D 4 (gU q 5)), (q 5, aI D 20 (us 0)), (q 6, aI D 20 (us 1)), (q 7, aI D 20 (us 2)), (q 8, aI D 20 (us 3))] [some (.ref (q 1)), some (.long ps), none, some (.long (foldN (s_X5_causesOfAny_5 us ps) n i m1)), none, some (.int (nI 40))] [] 39 → V Z D 0 0 [(q 1, .inr (5, [.int ct, .int dp, .ref (q 2), .ref (q 3), .ref (q 4)])), (q 2, aI D 20 we), (q 3, aI D 3 ok), (q 4, aG D 4 (gU q 5)), (q 5, aI D 20 (us 0)), (q 6, aI D 20 (us 1)), (q 7, aI D 20 (us 2)), (q 8, aI D 20 (us 3))] [some (.ref (q 1)), some (.long ps), none, some (.long m1), none, some (.int (nI i))] [] 5 := by
    intro n
    induction n with
    | zero =>
      intro i m1 hi  K5
      have hiN : i = 40 := by omega
      rw [hiN]
      refine v_iload E dX5_causesOfAny_5 rfl ?_
      refine v_bipush E dX5_causesOfAny_7 (v := 40) (by decide) ?_
      refine v_icmp_ge E 39 dX5_causesOfAny_9 (by decide) (fun c_9 => ?_) (fun c_9 => ?_)
      · exact K5
      · exact absurd (leN (a := 40) (b := 40) (show (40 : Int32) = nI 40 by decide) rfl (by omega) (by omega)) c_9
    | succ n ih =>
      intro i m1 hi  K5
      refine v_iload E dX5_causesOfAny_5 rfl ?_
      refine v_bipush E dX5_causesOfAny_7 (v := 40) (by decide) ?_
      refine v_icmp_ge E 39 dX5_causesOfAny_9 (by decide) (fun c_9 => ?_) (fun c_9 => ?_)
      · exact absurd c_9 (nleN (a := 40) (b := i) (show (40 : Int32) = nI 40 by decide) rfl (by omega) (by omega))
      · refine v_aload_n E dX5_causesOfAny_12 rfl ?_
        refine v_iload E dX5_causesOfAny_13 rfl ?_
        refine v_cV_l E dX5_causesOfAny_15 (c_X5_followersOf D q ct dp we ok us (nI i) i rfl (by omega)) cs_X5_67 rfl rfl rfl (Nat.le_of_ble_eq_true rfl) 0 rfl rfl [0, 1, 2, 3, 4, 5, 6, 7] rfl rfl ⟨Nat.le_of_ble_eq_true rfl, Nat.le_of_ble_eq_true rfl⟩ ?_
        refine v_lload_n E dX5_causesOfAny_18 rfl ?_
        refine v_land E dX5_causesOfAny_19 ?_
        refine v_lconst E dX5_causesOfAny_20 (v := 0) (by decide) ?_
        refine v_lcmp E dX5_causesOfAny_21 ?_
        refine v_if_eq E 33 dX5_causesOfAny_22 (by decide) (fun c_22 => ?_) (fun c_22 => ?_)
        · refine v_iinc E dX5_causesOfAny_33 (v := nI (i + 1)) rfl (inc1 _) rfl rfl ?_
          refine v_goto E 5 dX5_causesOfAny_36 (by decide) ?_
          have hs : s_X5_causesOfAny_5 us ps i m1 = m1 := by simp only [s_X5_causesOfAny_5, if_pos c_22]
          rw [foldN_s (s_X5_causesOfAny_5 us ps) n i m1, hs] at K5
          exact ih (i + 1) m1 (by omega) K5
        · refine v_lload_n E dX5_causesOfAny_25 rfl ?_
          refine v_iload E dX5_causesOfAny_26 rfl ?_
          refine v_cN_l E dX5_causesOfAny_28 (c_X6_setOfPair D (nI i)) cs_X5_71 rfl rfl rfl (Nat.le_of_ble_eq_true rfl) [] rfl rfl ⟨Nat.le_of_ble_eq_true rfl, Nat.le_of_ble_eq_true rfl⟩ ?_
          refine v_lor E dX5_causesOfAny_31 ?_
          refine v_lstore_n E dX5_causesOfAny_32 rfl rfl ?_
          refine v_iinc E dX5_causesOfAny_33 (v := nI (i + 1)) rfl (inc1 _) rfl rfl ?_
          refine v_goto E 5 dX5_causesOfAny_36 (by decide) ?_
          have hs : s_X5_causesOfAny_5 us ps i m1 = (m1 ||| (r_X6_setOfPair (nI i))) := by simp only [s_X5_causesOfAny_5, if_neg c_22]
          rw [foldN_s (s_X5_causesOfAny_5 us ps) n i m1, hs] at K5
          exact ih (i + 1) (m1 ||| (r_X6_setOfPair (nI i))) (by omega) K5
  refine L5 40 0 0 (by omega)  ?_
  refine v_lload_n E dX5_causesOfAny_39 rfl ?_
  exact v_lret E F dX5_causesOfAny_40 rfl () rfl rfl (Nat.le_of_ble_eq_true rfl) (Nat.le_of_ble_eq_true rfl)

def s_X5_reachOf_8 (us : Nat → Nat → Int32) (i : Nat) (z_ : Int64 × Int64) : Int64 × Int64 := match z_ with
  | (fo1, fr1) => (fo1 ||| ((r_X5_followersOfAny us fr1) &&& (fo1 ^^^ (-1))), (r_X5_followersOfAny us fr1) &&& (fo1 ^^^ (-1)))
def b_X5_reachOf_8  (z_ : Int64 × Int64) : Bool := match z_ with
  | (fo1, fr1) => decide ((lg_cmp fr1 0) = 0)
def r_X5_reachOf (us : Nat → Nat → Int32) (ps : Int64) : Int64 := (brkN b_X5_reachOf_8 (s_X5_reachOf_8 us) 40 0 (ps, ps)).1
set_option maxRecDepth 20000 in
/-- X5_reachOf -/
theorem c_X5_reachOf (D : va_G) (q : Nat → Nat) (ct : Int32) (dp : Int32) (we : Nat → Int32) (ok : Nat → Int32) (us : Nat → Nat → Int32) (ps : Int64) (l : Launch) : Ct l yX5_reachOf cX5_reachOf 8 (some .long) (rmM 3 68 0 0) D [.ref (q 1), .long ps] [(q 1, .inr (5, [.int ct, .int dp, .ref (q 2), .ref (q 3), .ref (q 4)])), (q 2, aI D 20 we), (q 3, aI D 3 ok), (q 4, aG D 4 (gU q 5)), (q 5, aI D 20 (us 0)), (q 6, aI D 20 (us 1)), (q 7, aI D 20 (us 2)), (q 8, aI D 20 (us 3))] (QL1 D (r_X5_reachOf us ps) [(q 1, .inr (5, [.int ct, .int dp, .ref (q 2), .ref (q 3), .ref (q 4)])), (q 2, aI D 20 we), (q 3, aI D 3 ok), (q 4, aG D 4 (gU q 5)), (q 5, aI D 20 (us 0)), (q 6, aI D 20 (us 1)), (q 7, aI D 20 (us 2)), (q 8, aI D 20 (us 3))]) := by
  refine Ct.ofV 5 (lv0 := [some (.ref (q 1)), some (.long ps), none, none, none, none, none, none]) (by decide) rfl rfl (fun Z E F => ?_)
  refine v_lload_n E dX5_reachOf_0 rfl ?_
  refine v_lstore_n E dX5_reachOf_1 rfl rfl ?_
  refine v_lload_n E dX5_reachOf_2 rfl ?_
  refine v_lstore E dX5_reachOf_3 rfl rfl ?_
  refine v_iconst E dX5_reachOf_5 (v := 0) (by decide) ?_
  refine v_istore E dX5_reachOf_6 rfl rfl ?_
  have L8 : ∀ (n i : Nat) (fo1 : Int64) (fr1 : Int64), i + n = 40 → V Z D 0 0 [(q 1, .inr (5, [.int ct, .int dp, .ref (q 2), .ref (q 3), .ref (q 4)])), (q 2, aI D 20 we), (q 3, aI D 3 ok), (q 4, aG D 4 (gU q 5)), (q 5, aI D 20 (us 0)), (q 6, aI D 20 (us 1)), (q 7, aI D 20 (us 2)), (q 8, aI D 20 (us 3))] [some (.ref (q 1)), some (.long ps), none, some (.long ((brkN b_X5_reachOf_8 (s_X5_reachOf_8 us) n i (fo1, fr1)).1)), none, some (.long ((brkN b_X5_reachOf_8 (s_X5_reachOf_8 us) n i (fo1, fr1)).2)), none, none] [] 47 → V Z D 0 0 [(q 1, .inr (5, [.int ct, .int dp, .ref (q 2), .ref (q 3), .ref (q 4)])), (q 2, aI D 20 we), (q 3, aI D 3 ok), (q 4, aG D 4 (gU q 5)), (q 5, aI D 20 (us 0)), (q 6, aI D 20 (us 1)), (q 7, aI D 20 (us 2)), (q 8, aI D 20 (us 3))] [some (.ref (q 1)), some (.long ps), none, some (.long fo1), none, some (.long fr1), none, some (.int (nI i))] [] 8 := by
    intro n
    induction n with
    | zero =>
      intro i fo1 fr1 hi  K8
      have hiN : i = 40 := by omega
      rw [hiN]
      refine v_iload E dX5_reachOf_8 rfl ?_
      refine v_bipush E dX5_reachOf_10 (v := 40) (by decide) ?_
      refine v_icmp_ge E 47 dX5_reachOf_12 (by decide) (fun c_12 => ?_) (fun c_12 => ?_)
      · refine v_mask [true, true, true, true, true, true, true, false] rfl ?_
        exact K8
      · exact absurd (leN (a := 40) (b := 40) (show (40 : Int32) = nI 40 by decide) rfl (by omega) (by omega)) c_12
    | succ n ih =>
      intro i fo1 fr1 hi  K8
      refine v_iload E dX5_reachOf_8 rfl ?_
      refine v_bipush E dX5_reachOf_10 (v := 40) (by decide) ?_
      refine v_icmp_ge E 47 dX5_reachOf_12 (by decide) (fun c_12 => ?_) (fun c_12 => ?_)
      · exact absurd c_12 (nleN (a := 40) (b := i) (show (40 : Int32) = nI 40 by decide) rfl (by omega) (by omega))
      · refine v_lload E dX5_reachOf_15 rfl ?_
        refine v_lconst E dX5_reachOf_17 (v := 0) (by decide) ?_
        refine v_lcmp E dX5_reachOf_18 ?_
        refine v_if_eq E 47 dX5_reachOf_19 (by decide) (fun c_19 => ?_) (fun c_19 => ?_)
        · rw [brkN_t (show b_X5_reachOf_8 (fo1, fr1) = true from decide_eq_true c_19)] at K8
          refine v_mask [true, true, true, true, true, true, true, false] rfl ?_
          exact K8
        · refine v_aload_n E dX5_reachOf_22 rfl ?_
          refine v_lload E dX5_reachOf_23 rfl ?_
          refine v_cV_l E dX5_reachOf_25 (c_X5_followersOfAny D q ct dp we ok us fr1) cs_X5_74 rfl rfl rfl (Nat.le_of_ble_eq_true rfl) 0 rfl rfl [0, 1, 2, 3, 4, 5, 6, 7] rfl rfl ⟨Nat.le_of_ble_eq_true rfl, Nat.le_of_ble_eq_true rfl⟩ ?_
          refine v_lload_n E dX5_reachOf_28 rfl ?_
          refine v_ldc2 E dX5_reachOf_29 kl_X5_78 ?_
          refine v_lxor E dX5_reachOf_32 ?_
          refine v_land E dX5_reachOf_33 ?_
          refine v_lstore E dX5_reachOf_34 rfl rfl ?_
          refine v_lload_n E dX5_reachOf_36 rfl ?_
          refine v_lload E dX5_reachOf_37 rfl ?_
          refine v_lor E dX5_reachOf_39 ?_
          refine v_lstore_n E dX5_reachOf_40 rfl rfl ?_
          refine v_iinc E dX5_reachOf_41 (v := nI (i + 1)) rfl (inc1 _) rfl rfl ?_
          refine v_goto E 8 dX5_reachOf_44 (by decide) ?_
          have hs : s_X5_reachOf_8 us i (fo1, fr1) = (fo1 ||| ((r_X5_followersOfAny us fr1) &&& (fo1 ^^^ (-1))), (r_X5_followersOfAny us fr1) &&& (fo1 ^^^ (-1))) := by rfl
          rw [brkN_f (show b_X5_reachOf_8 (fo1, fr1) = false from decide_eq_false c_19), hs] at K8
          exact ih (i + 1) (fo1 ||| ((r_X5_followersOfAny us fr1) &&& (fo1 ^^^ (-1)))) ((r_X5_followersOfAny us fr1) &&& (fo1 ^^^ (-1))) (by omega) K8
  refine L8 40 0 ps ps (by omega)  ?_
  refine v_lload_n E dX5_reachOf_47 rfl ?_
  exact v_lret E F dX5_reachOf_48 rfl () rfl rfl (Nat.le_of_ble_eq_true rfl) (Nat.le_of_ble_eq_true rfl)

def s_X5_weightRebuiltBy_18 (we : Nat → Int32) (us : Nat → Nat → Int32) (p : Int32) (i : Nat) (m1 : Int32) : Int32 := if (r_X6_contains (r_X6_targetsWith (r_X5_reachOf us (r_X6_setOfPair p)) 1) (nI i)) = 0 then m1 else m1 + (we i)
def r_X5_weightRebuiltBy (we : Nat → Int32) (us : Nat → Nat → Int32) (p : Int32) : Int32 := (foldN (s_X5_weightRebuiltBy_18 we us p) 20 0 0)
set_option maxRecDepth 20000 in
/-- X5_weightRebuiltBy -/
theorem c_X5_weightRebuiltBy (D : va_G) (q : Nat → Nat) (ct : Int32) (dp : Int32) (we : Nat → Int32) (ok : Nat → Int32) (us : Nat → Nat → Int32) (p : Int32) (l : Launch) : Ct l yX5_weightRebuiltBy cX5_weightRebuiltBy 5 (some .int) (rmM 4 95 0 0) D [.ref (q 1), .int p] [(q 1, .inr (5, [.int ct, .int dp, .ref (q 2), .ref (q 3), .ref (q 4)])), (q 2, aI D 20 we), (q 3, aI D 3 ok), (q 4, aG D 4 (gU q 5)), (q 5, aI D 20 (us 0)), (q 6, aI D 20 (us 1)), (q 7, aI D 20 (us 2)), (q 8, aI D 20 (us 3))] (QI1 D (r_X5_weightRebuiltBy we us p) [(q 1, .inr (5, [.int ct, .int dp, .ref (q 2), .ref (q 3), .ref (q 4)])), (q 2, aI D 20 we), (q 3, aI D 3 ok), (q 4, aG D 4 (gU q 5)), (q 5, aI D 20 (us 0)), (q 6, aI D 20 (us 1)), (q 7, aI D 20 (us 2)), (q 8, aI D 20 (us 3))]) := by
  refine Ct.ofV 3 (lv0 := [some (.ref (q 1)), some (.int p), none, none, none]) (by decide) rfl rfl (fun Z E F => ?_)
  refine v_aload_n E dX5_weightRebuiltBy_0 rfl ?_
  refine v_iload_n E dX5_weightRebuiltBy_1 rfl ?_
  refine v_cN_l E dX5_weightRebuiltBy_2 (c_X6_setOfPair D p) cs_X5_71 rfl rfl rfl (Nat.le_of_ble_eq_true rfl) [] rfl rfl ⟨Nat.le_of_ble_eq_true rfl, Nat.le_of_ble_eq_true rfl⟩ ?_
  refine v_cV_l E dX5_weightRebuiltBy_5 (c_X5_reachOf D q ct dp we ok us (r_X6_setOfPair p)) cs_X5_80 rfl rfl rfl (Nat.le_of_ble_eq_true rfl) 0 rfl rfl [0, 1, 2, 3, 4, 5, 6, 7] rfl rfl ⟨Nat.le_of_ble_eq_true rfl, Nat.le_of_ble_eq_true rfl⟩ ?_
  refine v_iconst E dX5_weightRebuiltBy_8 (v := 1) (by decide) ?_
  refine v_cN_i E dX5_weightRebuiltBy_9 (c_X6_targetsWith D (r_X5_reachOf us (r_X6_setOfPair p)) 1) cs_X5_83 rfl rfl rfl (Nat.le_of_ble_eq_true rfl) [] rfl rfl ⟨Nat.le_of_ble_eq_true rfl, Nat.le_of_ble_eq_true rfl⟩ ?_
  refine v_istore_n E dX5_weightRebuiltBy_12 rfl rfl ?_
  refine v_iconst E dX5_weightRebuiltBy_13 (v := 0) (by decide) ?_
  refine v_istore_n E dX5_weightRebuiltBy_14 rfl rfl ?_
  refine v_iconst E dX5_weightRebuiltBy_15 (v := 0) (by decide) ?_
  refine v_istore E dX5_weightRebuiltBy_16 rfl rfl ?_
  have L18 : ∀ (n i : Nat) (m1 : Int32), i + n = 20 → V Z D 0 0 [(q 1, .inr (5, [.int ct, .int dp, .ref (q 2), .ref (q 3), .ref (q 4)])), (q 2, aI D 20 we), (q 3, aI D 3 ok), (q 4, aG D 4 (gU q 5)), (q 5, aI D 20 (us 0)), (q 6, aI D 20 (us 1)), (q 7, aI D 20 (us 2)), (q 8, aI D 20 (us 3))] [some (.ref (q 1)), some (.int p), some (.int (r_X6_targetsWith (r_X5_reachOf us (r_X6_setOfPair p)) 1)), some (.int (foldN (s_X5_weightRebuiltBy_18 we us p) n i m1)), some (.int (nI 20))] [] 50 → V Z D 0 0 [(q 1, .inr (5, [.int ct, .int dp, .ref (q 2), .ref (q 3), .ref (q 4)])), (q 2, aI D 20 we), (q 3, aI D 3 ok), (q 4, aG D 4 (gU q 5)), (q 5, aI D 20 (us 0)), (q 6, aI D 20 (us 1)), (q 7, aI D 20 (us 2)), (q 8, aI D 20 (us 3))] [some (.ref (q 1)), some (.int p), some (.int (r_X6_targetsWith (r_X5_reachOf us (r_X6_setOfPair p)) 1)), some (.int m1), some (.int (nI i))] [] 18 := by
    intro n
    induction n with
    | zero =>
      intro i m1 hi  K18
      have hiN : i = 20 := by omega
      rw [hiN]
      refine v_iload E dX5_weightRebuiltBy_18 rfl ?_
      refine v_bipush E dX5_weightRebuiltBy_20 (v := 20) (by decide) ?_
      refine v_icmp_ge E 50 dX5_weightRebuiltBy_22 (by decide) (fun c_22 => ?_) (fun c_22 => ?_)
      · exact K18
      · exact absurd (leN (a := 20) (b := 20) (show (20 : Int32) = nI 20 by decide) rfl (by omega) (by omega)) c_22
    | succ n ih =>
      intro i m1 hi  K18
      refine v_iload E dX5_weightRebuiltBy_18 rfl ?_
      refine v_bipush E dX5_weightRebuiltBy_20 (v := 20) (by decide) ?_
      refine v_icmp_ge E 50 dX5_weightRebuiltBy_22 (by decide) (fun c_22 => ?_) (fun c_22 => ?_)
      · exact absurd c_22 (nleN (a := 20) (b := i) (show (20 : Int32) = nI 20 by decide) rfl (by omega) (by omega))
      · refine v_iload_n E dX5_weightRebuiltBy_25 rfl ?_
        refine v_iload E dX5_weightRebuiltBy_26 rfl ?_
        refine v_cN_i E dX5_weightRebuiltBy_28 (c_X6_contains D (r_X6_targetsWith (r_X5_reachOf us (r_X6_setOfPair p)) 1) (nI i)) cs_X5_49 rfl rfl rfl (Nat.le_of_ble_eq_true rfl) [] rfl rfl ⟨Nat.le_of_ble_eq_true rfl, Nat.le_of_ble_eq_true rfl⟩ ?_
        refine v_if_eq E 44 dX5_weightRebuiltBy_31 (by decide) (fun c_31 => ?_) (fun c_31 => ?_)
        · refine v_iinc E dX5_weightRebuiltBy_44 (v := nI (i + 1)) rfl (inc1 _) rfl rfl ?_
          refine v_goto E 18 dX5_weightRebuiltBy_47 (by decide) ?_
          have hs : s_X5_weightRebuiltBy_18 we us p i m1 = m1 := by simp only [s_X5_weightRebuiltBy_18, if_pos c_31]
          rw [foldN_s (s_X5_weightRebuiltBy_18 we us p) n i m1, hs] at K18
          exact ih (i + 1) m1 (by omega) K18
        · refine v_iload_n E dX5_weightRebuiltBy_34 rfl ?_
          refine v_aload_n E dX5_weightRebuiltBy_35 rfl ?_
          refine v_get E dX5_weightRebuiltBy_36 (ci := 5) rfl iwX5 0 rfl 2 rfl fl_X5_9 rfl ?_
          refine v_iload E dX5_weightRebuiltBy_39 rfl ?_
          refine v_iald E dX5_weightRebuiltBy_41 1 rfl i rfl (by omega) rfl ?_
          refine v_iadd E dX5_weightRebuiltBy_42 ?_
          refine v_istore_n E dX5_weightRebuiltBy_43 rfl rfl ?_
          refine v_iinc E dX5_weightRebuiltBy_44 (v := nI (i + 1)) rfl (inc1 _) rfl rfl ?_
          refine v_goto E 18 dX5_weightRebuiltBy_47 (by decide) ?_
          have hs : s_X5_weightRebuiltBy_18 we us p i m1 = (m1 + (we i)) := by simp only [s_X5_weightRebuiltBy_18, if_neg c_31]
          rw [foldN_s (s_X5_weightRebuiltBy_18 we us p) n i m1, hs] at K18
          exact ih (i + 1) (m1 + (we i)) (by omega) K18
  refine L18 20 0 0 (by omega)  ?_
  refine v_iload_n E dX5_weightRebuiltBy_50 rfl ?_
  exact v_iret E F dX5_weightRebuiltBy_51 rfl rfl () rfl rfl (Nat.le_of_ble_eq_true rfl) (Nat.le_of_ble_eq_true rfl)

def s_X5_heaviest_8 (we : Nat → Int32) (s : Int32) (i : Nat) (z_ : Int32 × Int32) : Int32 × Int32 := match z_ with
  | (b1, m1) => if (r_X6_contains s (nI i)) = 0 then (b1, m1) else if (we i) ≤ m1 then (b1, m1) else (nI i, we i)
def r_X5_heaviest (we : Nat → Int32) (s : Int32) : Int32 := (foldN (s_X5_heaviest_8 we s) 20 0 ((-10), 0)).1
set_option maxRecDepth 20000 in
/-- X5_heaviest -/
theorem c_X5_heaviest (D : va_G) (q : Nat → Nat) (ct : Int32) (dp : Int32) (we : Nat → Int32) (ok : Nat → Int32) (us : Nat → Nat → Int32) (s : Int32) (l : Launch) : Ct l yX5_heaviest cX5_heaviest 5 (some .int) (rmM 1 21 0 0) D [.ref (q 1), .int s] [(q 1, .inr (5, [.int ct, .int dp, .ref (q 2), .ref (q 3), .ref (q 4)])), (q 2, aI D 20 we), (q 3, aI D 3 ok), (q 4, aG D 4 (gU q 5)), (q 5, aI D 20 (us 0)), (q 6, aI D 20 (us 1)), (q 7, aI D 20 (us 2)), (q 8, aI D 20 (us 3))] (QI1 D (r_X5_heaviest we s) [(q 1, .inr (5, [.int ct, .int dp, .ref (q 2), .ref (q 3), .ref (q 4)])), (q 2, aI D 20 we), (q 3, aI D 3 ok), (q 4, aG D 4 (gU q 5)), (q 5, aI D 20 (us 0)), (q 6, aI D 20 (us 1)), (q 7, aI D 20 (us 2)), (q 8, aI D 20 (us 3))]) := by
  refine Ct.ofV 3 (lv0 := [some (.ref (q 1)), some (.int s), none, none, none]) (by decide) rfl rfl (fun Z E F => ?_)
  refine v_bipush E dX5_heaviest_0 (v := -10) (by decide) ?_
  refine v_istore_n E dX5_heaviest_2 rfl rfl ?_
  refine v_iconst E dX5_heaviest_3 (v := 0) (by decide) ?_
  refine v_istore_n E dX5_heaviest_4 rfl rfl ?_
  refine v_iconst E dX5_heaviest_5 (v := 0) (by decide) ?_
  refine v_istore E dX5_heaviest_6 rfl rfl ?_
  have L8 : ∀ (n i : Nat) (b1 : Int32) (m1 : Int32), i + n = 20 → V Z D 0 0 [(q 1, .inr (5, [.int ct, .int dp, .ref (q 2), .ref (q 3), .ref (q 4)])), (q 2, aI D 20 we), (q 3, aI D 3 ok), (q 4, aG D 4 (gU q 5)), (q 5, aI D 20 (us 0)), (q 6, aI D 20 (us 1)), (q 7, aI D 20 (us 2)), (q 8, aI D 20 (us 3))] [some (.ref (q 1)), some (.int s), some (.int ((foldN (s_X5_heaviest_8 we s) n i (b1, m1)).1)), some (.int ((foldN (s_X5_heaviest_8 we s) n i (b1, m1)).2)), some (.int (nI 20))] [] 52 → V Z D 0 0 [(q 1, .inr (5, [.int ct, .int dp, .ref (q 2), .ref (q 3), .ref (q 4)])), (q 2, aI D 20 we), (q 3, aI D 3 ok), (q 4, aG D 4 (gU q 5)), (q 5, aI D 20 (us 0)), (q 6, aI D 20 (us 1)), (q 7, aI D 20 (us 2)), (q 8, aI D 20 (us 3))] [some (.ref (q 1)), some (.int s), some (.int b1), some (.int m1), some (.int (nI i))] [] 8 := by
    intro n
    induction n with
    | zero =>
      intro i b1 m1 hi  K8
      have hiN : i = 20 := by omega
      rw [hiN]
      refine v_iload E dX5_heaviest_8 rfl ?_
      refine v_bipush E dX5_heaviest_10 (v := 20) (by decide) ?_
      refine v_icmp_ge E 52 dX5_heaviest_12 (by decide) (fun c_12 => ?_) (fun c_12 => ?_)
      · exact K8
      · exact absurd (leN (a := 20) (b := 20) (show (20 : Int32) = nI 20 by decide) rfl (by omega) (by omega)) c_12
    | succ n ih =>
      intro i b1 m1 hi  K8
      refine v_iload E dX5_heaviest_8 rfl ?_
      refine v_bipush E dX5_heaviest_10 (v := 20) (by decide) ?_
      refine v_icmp_ge E 52 dX5_heaviest_12 (by decide) (fun c_12 => ?_) (fun c_12 => ?_)
      · exact absurd c_12 (nleN (a := 20) (b := i) (show (20 : Int32) = nI 20 by decide) rfl (by omega) (by omega))
      · refine v_iload_n E dX5_heaviest_15 rfl ?_
        refine v_iload E dX5_heaviest_16 rfl ?_
        refine v_cN_i E dX5_heaviest_18 (c_X6_contains D s (nI i)) cs_X5_49 rfl rfl rfl (Nat.le_of_ble_eq_true rfl) [] rfl rfl ⟨Nat.le_of_ble_eq_true rfl, Nat.le_of_ble_eq_true rfl⟩ ?_
        refine v_if_eq E 46 dX5_heaviest_21 (by decide) (fun c_21 => ?_) (fun c_21 => ?_)
        · refine v_iinc E dX5_heaviest_46 (v := nI (i + 1)) rfl (inc1 _) rfl rfl ?_
          refine v_goto E 8 dX5_heaviest_49 (by decide) ?_
          have hs : s_X5_heaviest_8 we s i (b1, m1) = (b1, m1) := by simp only [s_X5_heaviest_8, if_pos c_21]
          rw [foldN_s (s_X5_heaviest_8 we s) n i (b1, m1), hs] at K8
          exact ih (i + 1) b1 m1 (by omega) K8
        · refine v_aload_n E dX5_heaviest_24 rfl ?_
          refine v_get E dX5_heaviest_25 (ci := 5) rfl iwX5 0 rfl 2 rfl fl_X5_9 rfl ?_
          refine v_iload E dX5_heaviest_28 rfl ?_
          refine v_iald E dX5_heaviest_30 1 rfl i rfl (by omega) rfl ?_
          refine v_iload_n E dX5_heaviest_31 rfl ?_
          refine v_icmp_le E 46 dX5_heaviest_32 (by decide) (fun c_32 => ?_) (fun c_32 => ?_)
          · refine v_iinc E dX5_heaviest_46 (v := nI (i + 1)) rfl (inc1 _) rfl rfl ?_
            refine v_goto E 8 dX5_heaviest_49 (by decide) ?_
            have hs : s_X5_heaviest_8 we s i (b1, m1) = (b1, m1) := by simp only [s_X5_heaviest_8, if_neg c_21, if_pos c_32]
            rw [foldN_s (s_X5_heaviest_8 we s) n i (b1, m1), hs] at K8
            exact ih (i + 1) b1 m1 (by omega) K8
          · refine v_iload E dX5_heaviest_35 rfl ?_
            refine v_istore_n E dX5_heaviest_37 rfl rfl ?_
            refine v_aload_n E dX5_heaviest_38 rfl ?_
            refine v_get E dX5_heaviest_39 (ci := 5) rfl iwX5 0 rfl 2 rfl fl_X5_9 rfl ?_
            refine v_iload E dX5_heaviest_42 rfl ?_
            refine v_iald E dX5_heaviest_44 1 rfl i rfl (by omega) rfl ?_
            refine v_istore_n E dX5_heaviest_45 rfl rfl ?_
            refine v_iinc E dX5_heaviest_46 (v := nI (i + 1)) rfl (inc1 _) rfl rfl ?_
            refine v_goto E 8 dX5_heaviest_49 (by decide) ?_
            have hs : s_X5_heaviest_8 we s i (b1, m1) = (nI i, we i) := by simp only [s_X5_heaviest_8, if_neg c_21, if_neg c_32]
            rw [foldN_s (s_X5_heaviest_8 we s) n i (b1, m1), hs] at K8
            exact ih (i + 1) (nI i) (we i) (by omega) K8
  refine L8 20 0 (-10) 0 (by omega)  ?_
  refine v_iload_n E dX5_heaviest_52 rfl ?_
  exact v_iret E F dX5_heaviest_53 rfl rfl () rfl rfl (Nat.le_of_ble_eq_true rfl) (Nat.le_of_ble_eq_true rfl)

