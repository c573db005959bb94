/-! ChangeImpact: Files and State -/
theorem inR_use {v n : Int32} {F : Nat} (hn : n = nI F) (hF : F < 2 ^ 31) (h : ¬ r_X6_inRange v n = 0) : v = nI v.toNatClampNeg ∧ v.toNatClampNeg < F := by
  unfold r_X6_inRange at h
  by_cases h1 : v < 0
  · rw [if_pos h1] at h; exact absurd rfl h
  rw [if_neg h1] at h
  by_cases h2 : n ≤ v
  · rw [if_pos h2] at h; exact absurd rfl h
  obtain ⟨j, hj, rfl⟩ := nI_of h1
  rw [nI_clamp hj]
  refine ⟨rfl, ?_⟩
  rw [hn] at h2
  rcases Nat.lt_or_ge j F with q | q
  · exact q
  · exact absurd (nI_le q hj) h2
def r_X1_has (fc : Int32) (fe : Nat → Int32) (f : Int32) : Int32 := if (r_X6_inRange f fc) = 0 then 0 else if (fe f.toNatClampNeg) = 0 then 0 else 1
set_option maxRecDepth 20000 in
/-- X1_has -/
theorem c_X1_has (D : va_G) (q : Nat → Nat) (fc : Int32) (ft : Nat → Int32) (fn : Nat → Int32) (fh : Nat → Int32) (fe : Nat → Int32) (fo : Nat → Int32) (f : Int32) (F0 : Nat) (hfc : fc = nI F0) (hF : F0 ≤ 40) (l : Launch) : Ct l yX1_has cX1_has 2 (some .boolean) (rmM 1 21 0 0) D [.ref (q 9), .int f] [(q 9, .inr (1, [.int fc, .ref (q 10), .ref (q 11), .ref (q 12), .ref (q 13), .ref (q 14)])), (q 10, aI D 40 ft), (q 11, aI D 40 fn), (q 12, aZ D 40 fh), (q 13, aZ D 40 fe), (q 14, aI D 100 fo)] (QI1 D (r_X1_has fc fe f) [(q 9, .inr (1, [.int fc, .ref (q 10), .ref (q 11), .ref (q 12), .ref (q 13), .ref (q 14)])), (q 10, aI D 40 ft), (q 11, aI D 40 fn), (q 12, aZ D 40 fh), (q 13, aZ D 40 fe), (q 14, aI D 100 fo)]) := by
  refine Ct.ofV 0 (lv0 := [some (.ref (q 9)), some (.int f)]) (by decide) rfl rfl (fun Z E F => ?_)
  refine v_iload_n E dX1_has_0 rfl ?_
  refine v_aload_n E dX1_has_1 rfl ?_
  refine v_get E dX1_has_2 (ci := 1) rfl iwX1 0 rfl 0 rfl fl_X1_34 rfl ?_
  refine v_cN_i E dX1_has_5 (c_X6_inRange D f fc) cs_X1_44 rfl rfl rfl (Nat.le_of_ble_eq_true rfl) [] rfl rfl ⟨Nat.le_of_ble_eq_true rfl, Nat.le_of_ble_eq_true rfl⟩ ?_
  refine v_if_eq E 24 dX1_has_8 (by decide) (fun c_8 => ?_) (fun c_8 => ?_)
  · refine v_iconst E dX1_has_24 (v := 0) (by decide) ?_
    exact v_iret E F dX1_has_25 rfl rfl () (by simp only [r_X1_has, if_pos c_8]) rfl (Nat.le_of_ble_eq_true rfl) (Nat.le_of_ble_eq_true rfl)
  · obtain ⟨hf1, hf2⟩ := inR_use hfc (by omega) c_8
    refine v_aload_n E dX1_has_11 rfl ?_
    refine v_get E dX1_has_12 (ci := 1) rfl iwX1 0 rfl 4 rfl fl_X1_22 rfl ?_
    refine v_iload_n E dX1_has_15 rfl ?_
    refine v_zald E dX1_has_16 4 rfl f.toNatClampNeg hf1 (by omega) rfl ?_
    refine v_if_eq E 24 dX1_has_17 (by decide) (fun c_17 => ?_) (fun c_17 => ?_)
    · refine v_iconst E dX1_has_24 (v := 0) (by decide) ?_
      exact v_iret E F dX1_has_25 rfl rfl () (by simp only [r_X1_has, if_neg c_8, if_pos c_17]) rfl (Nat.le_of_ble_eq_true rfl) (Nat.le_of_ble_eq_true rfl)
    · refine v_iconst E dX1_has_20 (v := 1) (by decide) ?_
      refine v_goto E 25 dX1_has_21 (by decide) ?_
      exact v_iret E F dX1_has_25 rfl rfl () (by simp only [r_X1_has, if_neg c_8, if_neg c_17]) rfl (Nat.le_of_ble_eq_true rfl) (Nat.le_of_ble_eq_true rfl)
theorem nz_X1_has (fc : Int32) (fe : Nat → Int32) (f : Int32) : narrow .boolean (.int (r_X1_has fc fe f)) = .int (r_X1_has fc fe f) := by
  unfold r_X1_has
  repeat' split
  all_goals first | rfl 

theorem has_use {fc f : Int32} {fe : Nat → Int32} {F0 : Nat} (hfc : fc = nI F0) (hF : F0 ≤ 40) (h : ¬ r_X1_has fc fe f = 0) : f = nI f.toNatClampNeg ∧ f.toNatClampNeg < F0 ∧ ¬ fe f.toNatClampNeg = 0 := by
  unfold r_X1_has at h
  by_cases h1 : r_X6_inRange f fc = 0
  · rw [if_pos h1] at h; exact absurd rfl h
  rw [if_neg h1] at h
  obtain ⟨a1, a2⟩ := inR_use hfc (by omega) h1
  refine ⟨a1, a2, fun q => ?_⟩
  rw [if_pos q] at h
  exact absurd rfl h
def r_X1_isInUse (fc : Int32) (fn : Nat → Int32) (fe : Nat → Int32) (fo : Nat → Int32) (nm : Int32) (kn : Nat) : Int32 := if (r_X1_has fc fe (fo kn)) = 0 then 0 else if (fn ((fo kn).toNatClampNeg)) = nm then 1 else 0
set_option maxRecDepth 20000 in
/-- X1_isInUse -/
theorem c_X1_isInUse (D : va_G) (q : Nat → Nat) (fc : Int32) (ft : Nat → Int32) (fn : Nat → Int32) (fh : Nat → Int32) (fe : Nat → Int32) (fo : Nat → Int32) (nm : Int32) (kn : Nat) (F0 : Nat) (hnm : nm = nI kn) (hkn : kn < 100) (hfc : fc = nI F0) (hF : F0 ≤ 40) (l : Launch) : Ct l yX1_isInUse cX1_isInUse 3 (some .boolean) (rmM 2 42 0 0) D [.ref (q 9), .int nm] [(q 9, .inr (1, [.int fc, .ref (q 10), .ref (q 11), .ref (q 12), .ref (q 13), .ref (q 14)])), (q 10, aI D 40 ft), (q 11, aI D 40 fn), (q 12, aZ D 40 fh), (q 13, aZ D 40 fe), (q 14, aI D 100 fo)] (QI1 D (r_X1_isInUse fc fn fe fo nm kn) [(q 9, .inr (1, [.int fc, .ref (q 10), .ref (q 11), .ref (q 12), .ref (q 13), .ref (q 14)])), (q 10, aI D 40 ft), (q 11, aI D 40 fn), (q 12, aZ D 40 fh), (q 13, aZ D 40 fe), (q 14, aI D 100 fo)]) := by
  refine Ct.ofV 1 (lv0 := [some (.ref (q 9)), some (.int nm), none]) (by decide) rfl rfl (fun Z E F => ?_)
  refine v_aload_n E dX1_isInUse_0 rfl ?_
  refine v_get E dX1_isInUse_1 (ci := 1) rfl iwX1 0 rfl 5 rfl fl_X1_31 rfl ?_
  refine v_iload_n E dX1_isInUse_4 rfl ?_
  refine v_iald E dX1_isInUse_5 5 rfl kn hnm (by omega) rfl ?_
  refine v_istore_n E dX1_isInUse_6 rfl rfl ?_
  refine v_aload_n E dX1_isInUse_7 rfl ?_
  refine v_iload_n E dX1_isInUse_8 rfl ?_
  refine v_cV_i E dX1_isInUse_9 (c_X1_has D q fc ft fn fh fe fo (fo kn) F0 hfc hF) cs_X1_48 rfl rfl rfl (Nat.le_of_ble_eq_true rfl) 0 rfl rfl [0, 1, 2, 3, 4, 5] rfl rfl ⟨Nat.le_of_ble_eq_true rfl, Nat.le_of_ble_eq_true rfl⟩ ?_
  refine v_if_eq E 29 dX1_isInUse_12 (by decide) (fun c_12 => ?_) (fun c_12 => ?_)
  · refine v_iconst E dX1_isInUse_29 (v := 0) (by decide) ?_
    exact v_iret E F dX1_isInUse_30 rfl rfl () (by simp only [r_X1_isInUse, if_pos c_12]) rfl (Nat.le_of_ble_eq_true rfl) (Nat.le_of_ble_eq_true rfl)
  · obtain ⟨hf1, hf2, hf3⟩ := has_use hfc hF c_12
    refine v_aload_n E dX1_isInUse_15 rfl ?_
    refine v_get E dX1_isInUse_16 (ci := 1) rfl iwX1 0 rfl 2 rfl fl_X1_15 rfl ?_
    refine v_iload_n E dX1_isInUse_19 rfl ?_
    refine v_iald E dX1_isInUse_20 2 rfl ((fo kn).toNatClampNeg) hf1 (by omega) rfl ?_
    refine v_iload_n E dX1_isInUse_21 rfl ?_
    refine v_icmp_ne E 29 dX1_isInUse_22 (by decide) (fun c_22 => ?_) (fun c_22 => ?_)
    · refine v_iconst E dX1_isInUse_29 (v := 0) (by decide) ?_
      exact v_iret E F dX1_isInUse_30 rfl rfl () (by simp only [r_X1_isInUse, if_neg c_12, if_neg c_22]) rfl (Nat.le_of_ble_eq_true rfl) (Nat.le_of_ble_eq_true rfl)
    · refine v_iconst E dX1_isInUse_25 (v := 1) (by decide) ?_
      refine v_goto E 30 dX1_isInUse_26 (by decide) ?_
      exact v_iret E F dX1_isInUse_30 rfl rfl () (by simp only [r_X1_isInUse, if_neg c_12, if_pos c_22]) rfl (Nat.le_of_ble_eq_true rfl) (Nat.le_of_ble_eq_true rfl)
theorem nz_X1_isInUse (fc : Int32) (fn : Nat → Int32) (fe : Nat → Int32) (fo : Nat → Int32) (nm : Int32) (kn : Nat) : narrow .boolean (.int (r_X1_isInUse fc fn fe fo nm kn)) = .int (r_X1_isInUse fc fn fe fo nm kn) := by
  unfold r_X1_isInUse
  repeat' split
  all_goals first | rfl 

def w_X1_giveName_2 (fn : Nat → Int32) (nm : Int32) (kf : Nat) : Nat → Int32 := upd fn kf nm
def w_X1_giveName_5 (fo : Nat → Int32) (f : Int32) (kn : Nat) : Nat → Int32 := upd fo kn f
set_option maxRecDepth 20000 in
/-- X1_giveName -/
theorem c_X1_giveName (D : va_G) (q : Nat → Nat) (fc : Int32) (ft : Nat → Int32) (fn : Nat → Int32) (fh : Nat → Int32) (fe : Nat → Int32) (fo : Nat → Int32) (f : Int32) (nm : Int32) (kf : Nat) (kn : Nat) (hf : f = nI kf) (hnm : nm = nI kn) (hkf : kf < 40) (hkn : kn < 100) (l : Launch) : Ct l yX1_giveName cX1_giveName 3 none (rmM 0 0 0 0) D [.ref (q 9), .int f, .int nm] [(q 9, .inr (1, [.int fc, .ref (q 10), .ref (q 11), .ref (q 12), .ref (q 13), .ref (q 14)])), (q 10, aI D 40 ft), (q 11, aI D 40 fn), (q 12, aZ D 40 fh), (q 13, aZ D 40 fe), (q 14, aI D 100 fo)] (QV1 D [(q 9, .inr (1, [.int fc, .ref (q 10), .ref (q 11), .ref (q 12), .ref (q 13), .ref (q 14)])), (q 10, aI D 40 ft), (q 11, aI D 40 (w_X1_giveName_2 fn nm kf)), (q 12, aZ D 40 fh), (q 13, aZ D 40 fe), (q 14, aI D 100 (w_X1_giveName_5 fo f kn))]) := by
  refine Ct.ofV 0 (lv0 := [some (.ref (q 9)), some (.int f), some (.int nm)]) (by decide) rfl rfl (fun Z E F => ?_)
  refine v_aload_n E dX1_giveName_0 rfl ?_
  refine v_get E dX1_giveName_1 (ci := 1) rfl iwX1 0 rfl 2 rfl fl_X1_15 rfl ?_
  refine v_iload_n E dX1_giveName_4 rfl ?_
  refine v_iload_n E dX1_giveName_5 rfl ?_
  refine v_iast E dX1_giveName_6 2 rfl kf hf (by omega) rfl ?_
  refine v_wd (wd2 := [(q 9, .inr (1, [.int fc, .ref (q 10), .ref (q 11), .ref (q 12), .ref (q 13), .ref (q 14)])), (q 10, aI D 40 ft), (q 11, aI D 40 (upd fn kf nm)), (q 12, aZ D 40 fh), (q 13, aZ D 40 fe), (q 14, aI D 100 fo)]) rfl ?_
  refine v_aload_n E dX1_giveName_7 rfl ?_
  refine v_get E dX1_giveName_8 (ci := 1) rfl iwX1 0 rfl 5 rfl fl_X1_31 rfl ?_
  refine v_iload_n E dX1_giveName_11 rfl ?_
  refine v_iload_n E dX1_giveName_12 rfl ?_
  refine v_iast E dX1_giveName_13 5 rfl kn hnm (by omega) rfl ?_
  refine v_wd (wd2 := [(q 9, .inr (1, [.int fc, .ref (q 10), .ref (q 11), .ref (q 12), .ref (q 13), .ref (q 14)])), (q 10, aI D 40 ft), (q 11, aI D 40 (upd fn kf nm)), (q 12, aZ D 40 fh), (q 13, aZ D 40 fe), (q 14, aI D 100 (upd fo kn f))]) rfl ?_
  exact v_vret E F dX1_giveName_14 rfl () trivial rfl (Nat.le_of_ble_eq_true rfl) (Nat.le_of_ble_eq_true rfl)

def r_X1_append (fc : Int32) : Int32 := fc
def w_X1_append_0_0 (fc : Int32) : Int32 := fc + 1
def w_X1_append_1 (ft : Nat → Int32) (t : Int32) (F0 : Nat) : Nat → Int32 := upd ft F0 t
def w_X1_append_2 (fn : Nat → Int32) (nm : Int32) (F0 : Nat) : Nat → Int32 := (w_X1_giveName_2 fn nm F0)
def w_X1_append_3 (fh : Nat → Int32) (hd : Int32) (F0 : Nat) : Nat → Int32 := upd fh F0 (vp_nar .boolean hd)
def w_X1_append_4 (fe : Nat → Int32) (F0 : Nat) : Nat → Int32 := upd fe F0 (vp_nar .boolean 1)
def w_X1_append_5 (fc : Int32) (fo : Nat → Int32) (kn : Nat) : Nat → Int32 := (w_X1_giveName_5 fo fc kn)
set_option maxRecDepth 20000 in
/-- X1_append -/
theorem c_X1_append (D : va_G) (q : Nat → Nat) (fc : Int32) (ft : Nat → Int32) (fn : Nat → Int32) (fh : Nat → Int32) (fe : Nat → Int32) (fo : Nat → Int32) (t : Int32) (hd : Int32) (nm : Int32) (kn : Nat) (F0 : Nat) (hnm : nm = nI kn) (hkn : kn < 100) (hfc : fc = nI F0) (hF : F0 < 40) (l : Launch) : Ct l yX1_append cX1_append 5 (some .int) (rmM 1 22 0 0) D [.ref (q 9), .int t, .int hd, .int nm] [(q 9, .inr (1, [.int fc, .ref (q 10), .ref (q 11), .ref (q 12), .ref (q 13), .ref (q 14)])), (q 10, aI D 40 ft), (q 11, aI D 40 fn), (q 12, aZ D 40 fh), (q 13, aZ D 40 fe), (q 14, aI D 100 fo)] (QI1 D (r_X1_append fc) [(q 9, .inr (1, [.int (w_X1_append_0_0 fc), .ref (q 10), .ref (q 11), .ref (q 12), .ref (q 13), .ref (q 14)])), (q 10, aI D 40 (w_X1_append_1 ft t F0)), (q 11, aI D 40 (w_X1_append_2 fn nm F0)), (q 12, aZ D 40 (w_X1_append_3 fh hd F0)), (q 13, aZ D 40 (w_X1_append_4 fe F0)), (q 14, aI D 100 (w_X1_append_5 fc fo kn))]) := by
  refine Ct.ofV 1 (lv0 := [some (.ref (q 9)), some (.int t), some (.int hd), some (.int nm), none]) (by decide) rfl rfl (fun Z E F => ?_)
  refine v_aload_n E dX1_append_0 rfl ?_
  refine v_get E dX1_append_1 (ci := 1) rfl iwX1 0 rfl 0 rfl fl_X1_34 rfl ?_
  refine v_istore E dX1_append_4 rfl rfl ?_
  refine v_aload_n E dX1_append_6 rfl ?_
  refine v_get E dX1_append_7 (ci := 1) rfl iwX1 0 rfl 1 rfl fl_X1_9 rfl ?_
  refine v_iload E dX1_append_10 rfl ?_
  refine v_iload_n E dX1_append_12 rfl ?_
  refine v_iast E dX1_append_13 1 rfl F0 hfc (by omega) rfl ?_
  refine v_wd (wd2 := [(q 9, .inr (1, [.int fc, .ref (q 10), .ref (q 11), .ref (q 12), .ref (q 13), .ref (q 14)])), (q 10, aI D 40 (upd ft F0 t)), (q 11, aI D 40 fn), (q 12, aZ D 40 fh), (q 13, aZ D 40 fe), (q 14, aI D 100 fo)]) rfl ?_
  refine v_aload_n E dX1_append_14 rfl ?_
  refine v_get E dX1_append_15 (ci := 1) rfl iwX1 0 rfl 3 rfl fl_X1_18 rfl ?_
  refine v_iload E dX1_append_18 rfl ?_
  refine v_iload_n E dX1_append_20 rfl ?_
  refine v_zast E dX1_append_21 3 rfl F0 hfc (by omega) rfl ?_
  refine v_wd (wd2 := [(q 9, .inr (1, [.int fc, .ref (q 10), .ref (q 11), .ref (q 12), .ref (q 13), .ref (q 14)])), (q 10, aI D 40 (upd ft F0 t)), (q 11, aI D 40 fn), (q 12, aZ D 40 (upd fh F0 (vp_nar .boolean hd))), (q 13, aZ D 40 fe), (q 14, aI D 100 fo)]) rfl ?_
  refine v_aload_n E dX1_append_22 rfl ?_
  refine v_get E dX1_append_23 (ci := 1) rfl iwX1 0 rfl 4 rfl fl_X1_22 rfl ?_
  refine v_iload E dX1_append_26 rfl ?_
  refine v_iconst E dX1_append_28 (v := 1) (by decide) ?_
  refine v_zast E dX1_append_29 4 rfl F0 hfc (by omega) rfl ?_
  refine v_wd (wd2 := [(q 9, .inr (1, [.int fc, .ref (q 10), .ref (q 11), .ref (q 12), .ref (q 13), .ref (q 14)])), (q 10, aI D 40 (upd ft F0 t)), (q 11, aI D 40 fn), (q 12, aZ D 40 (upd fh F0 (vp_nar .boolean hd))), (q 13, aZ D 40 (upd fe F0 (vp_nar .boolean 1))), (q 14, aI D 100 fo)]) rfl ?_
  refine v_aload_n E dX1_append_30 rfl ?_
  refine v_dup E dX1_append_31 rfl ?_
  refine v_get E dX1_append_32 (ci := 1) rfl iwX1 0 rfl 0 rfl fl_X1_34 rfl ?_
  refine v_iconst E dX1_append_35 (v := 1) (by decide) ?_
  refine v_iadd E dX1_append_36 ?_
  refine v_put E dX1_append_37 (ci := 1) rfl iwX1 tyX1 tyX1_ok nmX1 0 rfl 0 rfl fl_X1_34 rfl rfl rfl rfl rfl ?_
  refine v_wd (wd2 := [(q 9, .inr (1, [.int (fc + 1), .ref (q 10), .ref (q 11), .ref (q 12), .ref (q 13), .ref (q 14)])), (q 10, aI D 40 (upd ft F0 t)), (q 11, aI D 40 fn), (q 12, aZ D 40 (upd fh F0 (vp_nar .boolean hd))), (q 13, aZ D 40 (upd fe F0 (vp_nar .boolean 1))), (q 14, aI D 100 fo)]) rfl ?_
  refine v_aload_n E dX1_append_40 rfl ?_
  refine v_iload E dX1_append_41 rfl ?_
  refine v_iload_n E dX1_append_43 rfl ?_
  refine v_cV_vU E dX1_append_44 (c_X1_giveName D q (fc + 1) (upd ft F0 t) fn (upd fh F0 (vp_nar .boolean hd)) (upd fe F0 (vp_nar .boolean 1)) fo fc nm F0 kn hfc hnm (by omega) (by omega)) cs_X1_52 rfl rfl rfl (Nat.le_of_ble_eq_true rfl) 0 rfl rfl [0, 1, 2, 3, 4, 5] rfl rfl ⟨Nat.le_of_ble_eq_true rfl, Nat.le_of_ble_eq_true rfl⟩ [q 9, q 10, q 11, q 12, q 13, q 14] rfl rfl ?_
  refine v_wd (wd2 := [(q 9, .inr (1, [.int (fc + 1), .ref (q 10), .ref (q 11), .ref (q 12), .ref (q 13), .ref (q 14)])), (q 10, aI D 40 (upd ft F0 t)), (q 11, aI D 40 (w_X1_giveName_2 fn nm F0)), (q 12, aZ D 40 (upd fh F0 (vp_nar .boolean hd))), (q 13, aZ D 40 (upd fe F0 (vp_nar .boolean 1))), (q 14, aI D 100 (w_X1_giveName_5 fo fc kn))]) rfl ?_
  refine v_iload E dX1_append_47 rfl ?_
  exact v_iret E F dX1_append_49 rfl rfl () rfl rfl (Nat.le_of_ble_eq_true rfl) (Nat.le_of_ble_eq_true rfl)

def w_X1_copyFrom_0_0 (fc2 : Int32) : Int32 := fc2
def w_X1_copyFrom_1 (ft : Nat → Int32) (ft2 : Nat → Int32) : Nat → Int32 := va_cpy ft2 ft 0 0 40
def w_X1_copyFrom_2 (fn : Nat → Int32) (fn2 : Nat → Int32) : Nat → Int32 := va_cpy fn2 fn 0 0 40
def w_X1_copyFrom_3 (fh : Nat → Int32) (fh2 : Nat → Int32) : Nat → Int32 := va_cpy fh2 fh 0 0 40
def w_X1_copyFrom_4 (fe : Nat → Int32) (fe2 : Nat → Int32) : Nat → Int32 := va_cpy fe2 fe 0 0 40
def w_X1_copyFrom_5 (fo : Nat → Int32) (fo2 : Nat → Int32) : Nat → Int32 := va_cpy fo2 fo 0 0 100
set_option maxRecDepth 20000 in
/-- X1_copyFrom -/
theorem c_X1_copyFrom (D : va_G) (q : Nat → Nat) (fc : Int32) (ft : Nat → Int32) (fn : Nat → Int32) (fh : Nat → Int32) (fe : Nat → Int32) (fo : Nat → Int32) (q2 : Nat → Nat) (fc2 : Int32) (ft2 : Nat → Int32) (fn2 : Nat → Int32) (fh2 : Nat → Int32) (fe2 : Nat → Int32) (fo2 : Nat → Int32) (hfh : ∀ i, i < 40 → fits .boolean (.int (fh2 i)) = true) (hfe : ∀ i, i < 40 → fits .boolean (.int (fe2 i)) = true) (l : Launch) : Ct l yX1_copyFrom cX1_copyFrom 2 none (rmM 1 60 0 0) D [.ref (q 9), .ref (q2 9)] [(q 9, .inr (1, [.int fc, .ref (q 10), .ref (q 11), .ref (q 12), .ref (q 13), .ref (q 14)])), (q 10, aI D 40 ft), (q 11, aI D 40 fn), (q 12, aZ D 40 fh), (q 13, aZ D 40 fe), (q 14, aI D 100 fo), (q2 9, .inr (1, [.int fc2, .ref (q2 10), .ref (q2 11), .ref (q2 12), .ref (q2 13), .ref (q2 14)])), (q2 10, aI D 40 ft2), (q2 11, aI D 40 fn2), (q2 12, aZ D 40 fh2), (q2 13, aZ D 40 fe2), (q2 14, aI D 100 fo2)] (QV1 D [(q 9, .inr (1, [.int (w_X1_copyFrom_0_0 fc2), .ref (q 10), .ref (q 11), .ref (q 12), .ref (q 13), .ref (q 14)])), (q 10, aI D 40 (w_X1_copyFrom_1 ft ft2)), (q 11, aI D 40 (w_X1_copyFrom_2 fn fn2)), (q 12, aZ D 40 (w_X1_copyFrom_3 fh fh2)), (q 13, aZ D 40 (w_X1_copyFrom_4 fe fe2)), (q 14, aI D 100 (w_X1_copyFrom_5 fo fo2)), (q2 9, .inr (1, [.int fc2, .ref (q2 10), .ref (q2 11), .ref (q2 12), .ref (q2 13), .ref (q2 14)])), (q2 10, aI D 40 ft2), (q2 11, aI D 40 fn2), (q2 12, aZ D 40 fh2), (q2 13, aZ D 40 fe2), (q2 14, aI D 100 fo2)]) := by
  refine Ct.ofV 0 (lv0 := [some (.ref (q 9)), some (.ref (q2 9))]) (by decide) rfl rfl (fun Z E F => ?_)
  refine v_aload_n E dX1_copyFrom_0 rfl ?_
  refine v_aload_n E dX1_copyFrom_1 rfl ?_
  refine v_get E dX1_copyFrom_2 (ci := 1) rfl iwX1 6 rfl 0 rfl fl_X1_34 rfl ?_
  refine v_put E dX1_copyFrom_5 (ci := 1) rfl iwX1 tyX1 tyX1_ok nmX1 0 rfl 0 rfl fl_X1_34 rfl rfl rfl rfl rfl ?_
  refine v_wd (wd2 := [(q 9, .inr (1, [.int fc2, .ref (q 10), .ref (q 11), .ref (q 12), .ref (q 13), .ref (q 14)])), (q 10, aI D 40 ft), (q 11, aI D 40 fn), (q 12, aZ D 40 fh), (q 13, aZ D 40 fe), (q 14, aI D 100 fo), (q2 9, .inr (1, [.int fc2, .ref (q2 10), .ref (q2 11), .ref (q2 12), .ref (q2 13), .ref (q2 14)])), (q2 10, aI D 40 ft2), (q2 11, aI D 40 fn2), (q2 12, aZ D 40 fh2), (q2 13, aZ D 40 fe2), (q2 14, aI D 100 fo2)]) rfl ?_
  refine v_aload_n E dX1_copyFrom_8 rfl ?_
  refine v_get E dX1_copyFrom_9 (ci := 1) rfl iwX1 6 rfl 1 rfl fl_X1_9 rfl ?_
  refine v_iconst E dX1_copyFrom_12 (v := 0) (by decide) ?_
  refine v_aload_n E dX1_copyFrom_13 rfl ?_
  refine v_get E dX1_copyFrom_14 (ci := 1) rfl iwX1 0 rfl 1 rfl fl_X1_9 rfl ?_
  refine v_iconst E dX1_copyFrom_17 (v := 0) (by decide) ?_
  refine v_bipush E dX1_copyFrom_18 (v := 40) (by decide) ?_
  refine v_cpyI E 40 dX1_copyFrom_20 mo_X1_38 7 1 rfl rfl (show (40 : Int32) = nI 40 by decide) rfl (by decide) (by decide) rfl rfl (Nat.le_of_ble_eq_true rfl) ?_
  refine v_wd (wd2 := [(q 9, .inr (1, [.int fc2, .ref (q 10), .ref (q 11), .ref (q 12), .ref (q 13), .ref (q 14)])), (q 10, aI D 40 (va_cpy ft2 ft 0 0 40)), (q 11, aI D 40 fn), (q 12, aZ D 40 fh), (q 13, aZ D 40 fe), (q 14, aI D 100 fo), (q2 9, .inr (1, [.int fc2, .ref (q2 10), .ref (q2 11), .ref (q2 12), .ref (q2 13), .ref (q2 14)])), (q2 10, aI D 40 ft2), (q2 11, aI D 40 fn2), (q2 12, aZ D 40 fh2), (q2 13, aZ D 40 fe2), (q2 14, aI D 100 fo2)]) rfl ?_
  refine v_aload_n E dX1_copyFrom_23 rfl ?_
  refine v_get E dX1_copyFrom_24 (ci := 1) rfl iwX1 6 rfl 2 rfl fl_X1_15 rfl ?_
  refine v_iconst E dX1_copyFrom_27 (v := 0) (by decide) ?_
  refine v_aload_n E dX1_copyFrom_28 rfl ?_
  refine v_get E dX1_copyFrom_29 (ci := 1) rfl iwX1 0 rfl 2 rfl fl_X1_15 rfl ?_
  refine v_iconst E dX1_copyFrom_32 (v := 0) (by decide) ?_
  refine v_bipush E dX1_copyFrom_33 (v := 40) (by decide) ?_
  refine v_cpyI E 40 dX1_copyFrom_35 mo_X1_38 8 2 rfl rfl (show (40 : Int32) = nI 40 by decide) rfl (by decide) (by decide) rfl rfl (Nat.le_of_ble_eq_true rfl) ?_
  refine v_wd (wd2 := [(q 9, .inr (1, [.int fc2, .ref (q 10), .ref (q 11), .ref (q 12), .ref (q 13), .ref (q 14)])), (q 10, aI D 40 (va_cpy ft2 ft 0 0 40)), (q 11, aI D 40 (va_cpy fn2 fn 0 0 40)), (q 12, aZ D 40 fh), (q 13, aZ D 40 fe), (q 14, aI D 100 fo), (q2 9, .inr (1, [.int fc2, .ref (q2 10), .ref (q2 11), .ref (q2 12), .ref (q2 13), .ref (q2 14)])), (q2 10, aI D 40 ft2), (q2 11, aI D 40 fn2), (q2 12, aZ D 40 fh2), (q2 13, aZ D 40 fe2), (q2 14, aI D 100 fo2)]) rfl ?_
  refine v_aload_n E dX1_copyFrom_38 rfl ?_
  refine v_get E dX1_copyFrom_39 (ci := 1) rfl iwX1 6 rfl 3 rfl fl_X1_18 rfl ?_
  refine v_iconst E dX1_copyFrom_42 (v := 0) (by decide) ?_
  refine v_aload_n E dX1_copyFrom_43 rfl ?_
  refine v_get E dX1_copyFrom_44 (ci := 1) rfl iwX1 0 rfl 3 rfl fl_X1_18 rfl ?_
  refine v_iconst E dX1_copyFrom_47 (v := 0) (by decide) ?_
  refine v_bipush E dX1_copyFrom_48 (v := 40) (by decide) ?_
  refine v_cpyZ E 40 dX1_copyFrom_50 mo_X1_38 9 3 rfl rfl (show (40 : Int32) = nI 40 by decide) rfl (by decide) (by decide) hfh rfl rfl (Nat.le_of_ble_eq_true rfl) ?_
  refine v_wd (wd2 := [(q 9, .inr (1, [.int fc2, .ref (q 10), .ref (q 11), .ref (q 12), .ref (q 13), .ref (q 14)])), (q 10, aI D 40 (va_cpy ft2 ft 0 0 40)), (q 11, aI D 40 (va_cpy fn2 fn 0 0 40)), (q 12, aZ D 40 (va_cpy fh2 fh 0 0 40)), (q 13, aZ D 40 fe), (q 14, aI D 100 fo), (q2 9, .inr (1, [.int fc2, .ref (q2 10), .ref (q2 11), .ref (q2 12), .ref (q2 13), .ref (q2 14)])), (q2 10, aI D 40 ft2), (q2 11, aI D 40 fn2), (q2 12, aZ D 40 fh2), (q2 13, aZ D 40 fe2), (q2 14, aI D 100 fo2)]) rfl ?_
  refine v_aload_n E dX1_copyFrom_53 rfl ?_
  refine v_get E dX1_copyFrom_54 (ci := 1) rfl iwX1 6 rfl 4 rfl fl_X1_22 rfl ?_
  refine v_iconst E dX1_copyFrom_57 (v := 0) (by decide) ?_
  refine v_aload_n E dX1_copyFrom_58 rfl ?_
  refine v_get E dX1_copyFrom_59 (ci := 1) rfl iwX1 0 rfl 4 rfl fl_X1_22 rfl ?_
  refine v_iconst E dX1_copyFrom_62 (v := 0) (by decide) ?_
  refine v_bipush E dX1_copyFrom_63 (v := 40) (by decide) ?_
  refine v_cpyZ E 40 dX1_copyFrom_65 mo_X1_38 10 4 rfl rfl (show (40 : Int32) = nI 40 by decide) rfl (by decide) (by decide) hfe rfl rfl (Nat.le_of_ble_eq_true rfl) ?_
  refine v_wd (wd2 := [(q 9, .inr (1, [.int fc2, .ref (q 10), .ref (q 11), .ref (q 12), .ref (q 13), .ref (q 14)])), (q 10, aI D 40 (va_cpy ft2 ft 0 0 40)), (q 11, aI D 40 (va_cpy fn2 fn 0 0 40)), (q 12, aZ D 40 (va_cpy fh2 fh 0 0 40)), (q 13, aZ D 40 (va_cpy fe2 fe 0 0 40)), (q 14, aI D 100 fo), (q2 9, .inr (1, [.int fc2, .ref (q2 10), .ref (q2 11), .ref (q2 12), .ref (q2 13), .ref (q2 14)])), (q2 10, aI D 40 ft2), (q2 11, aI D 40 fn2), (q2 12, aZ D 40 fh2), (q2 13, aZ D 40 fe2), (q2 14, aI D 100 fo2)]) rfl ?_
  refine v_aload_n E dX1_copyFrom_68 rfl ?_
  refine v_get E dX1_copyFrom_69 (ci := 1) rfl iwX1 6 rfl 5 rfl fl_X1_31 rfl ?_
  refine v_iconst E dX1_copyFrom_72 (v := 0) (by decide) ?_
  refine v_aload_n E dX1_copyFrom_73 rfl ?_
  refine v_get E dX1_copyFrom_74 (ci := 1) rfl iwX1 0 rfl 5 rfl fl_X1_31 rfl ?_
  refine v_iconst E dX1_copyFrom_77 (v := 0) (by decide) ?_
  refine v_bipush E dX1_copyFrom_78 (v := 100) (by decide) ?_
  refine v_cpyI E 100 dX1_copyFrom_80 mo_X1_38 11 5 rfl rfl (show (100 : Int32) = nI 100 by decide) rfl (by decide) (by decide) rfl rfl (Nat.le_of_ble_eq_true rfl) ?_
  refine v_wd (wd2 := [(q 9, .inr (1, [.int fc2, .ref (q 10), .ref (q 11), .ref (q 12), .ref (q 13), .ref (q 14)])), (q 10, aI D 40 (va_cpy ft2 ft 0 0 40)), (q 11, aI D 40 (va_cpy fn2 fn 0 0 40)), (q 12, aZ D 40 (va_cpy fh2 fh 0 0 40)), (q 13, aZ D 40 (va_cpy fe2 fe 0 0 40)), (q 14, aI D 100 (va_cpy fo2 fo 0 0 100)), (q2 9, .inr (1, [.int fc2, .ref (q2 10), .ref (q2 11), .ref (q2 12), .ref (q2 13), .ref (q2 14)])), (q2 10, aI D 40 ft2), (q2 11, aI D 40 fn2), (q2 12, aZ D 40 fh2), (q2 13, aZ D 40 fe2), (q2 14, aI D 100 fo2)]) rfl ?_
  exact v_vret E F dX1_copyFrom_83 rfl () trivial rfl (Nat.le_of_ble_eq_true rfl) (Nat.le_of_ble_eq_true rfl)

def w_X5_copyFrom_0_0 (ct2 : Int32) : Int32 := ct2
def w_X5_copyFrom_0_1 (dp2 : Int32) : Int32 := dp2
def w_X5_copyFrom_1 (we : Nat → Int32) (we2 : Nat → Int32) : Nat → Int32 := va_cpy we2 we 0 0 20
def w_X5_copyFrom_2 (ok : Nat → Int32) (ok2 : Nat → Int32) : Nat → Int32 := va_cpy ok2 ok 0 0 3
def w_X5_copyFrom_4 (us : Nat → Nat → Int32) (us2 : Nat → Nat → Int32) : Nat → Nat → Int32 := (setR (setR (setR (setR us 0 (va_cpy (us2 0) (us 0) 0 0 20)) 1 (va_cpy (us2 1) ((setR us 0 (va_cpy (us2 0) (us 0) 0 0 20)) 1) 0 0 20)) 2 (va_cpy (us2 2) ((setR (setR us 0 (va_cpy (us2 0) (us 0) 0 0 20)) 1 (va_cpy (us2 1) ((setR us 0 (va_cpy (us2 0) (us 0) 0 0 20)) 1) 0 0 20)) 2) 0 0 20)) 3 (va_cpy (us2 3) ((setR (setR (setR us 0 (va_cpy (us2 0) (us 0) 0 0 20)) 1 (va_cpy (us2 1) ((setR us 0 (va_cpy (us2 0) (us 0) 0 0 20)) 1) 0 0 20)) 2 (va_cpy (us2 2) ((setR (setR us 0 (va_cpy (us2 0) (us 0) 0 0 20)) 1 (va_cpy (us2 1) ((setR us 0 (va_cpy (us2 0) (us 0) 0 0 20)) 1) 0 0 20)) 2) 0 0 20)) 3) 0 0 20))
set_option maxRecDepth 20000 in
/-- X5_copyFrom -/
theorem c_X5_copyFrom (D : va_G) (q : Nat → Nat) (ct : Int32) (dp : Int32) (we : Nat → Int32) (ok : Nat → Int32) (us : Nat → Nat → Int32) (q2 : Nat → Nat) (ct2 : Int32) (dp2 : Int32) (we2 : Nat → Int32) (ok2 : Nat → Int32) (us2 : Nat → Nat → Int32) (l : Launch) : Ct l yX5_copyFrom cX5_copyFrom 3 none (rmM 1 60 0 0) D [.ref (q 1), .ref (q2 1)] [(q 1, .inr (5, [.int ct, .int dp, .ref (q 2), .ref (q 3), .ref (q 4)])), (q 2, aI D 20 we), (q 3, aI D 3 ok), (q 4, aG D 4 (gU q 5)), (q 5, aI D 20 (us 0)), (q 6, aI D 20 (us 1)), (q 7, aI D 20 (us 2)), (q 8, aI D 20 (us 3)), (q2 1, .inr (5, [.int ct2, .int dp2, .ref (q2 2), .ref (q2 3), .ref (q2 4)])), (q2 2, aI D 20 we2), (q2 3, aI D 3 ok2), (q2 4, aG D 4 (gU q2 5)), (q2 5, aI D 20 (us2 0)), (q2 6, aI D 20 (us2 1)), (q2 7, aI D 20 (us2 2)), (q2 8, aI D 20 (us2 3))] (QV1 D [(q 1, .inr (5, [.int (w_X5_copyFrom_0_0 ct2), .int (w_X5_copyFrom_0_1 dp2), .ref (q 2), .ref (q 3), .ref (q 4)])), (q 2, aI D 20 (w_X5_copyFrom_1 we we2)), (q 3, aI D 3 (w_X5_copyFrom_2 ok ok2)), (q 4, aG D 4 (gU q 5)), (q 5, aI D 20 ((w_X5_copyFrom_4 us us2) 0)), (q 6, aI D 20 ((w_X5_copyFrom_4 us us2) 1)), (q 7, aI D 20 ((w_X5_copyFrom_4 us us2) 2)), (q 8, aI D 20 ((w_X5_copyFrom_4 us us2) 3)), (q2 1, .inr (5, [.int ct2, .int dp2, .ref (q2 2), .ref (q2 3), .ref (q2 4)])), (q2 2, aI D 20 we2), (q2 3, aI D 3 ok2), (q2 4, aG D 4 (gU q2 5)), (q2 5, aI D 20 (us2 0)), (q2 6, aI D 20 (us2 1)), (q2 7, aI D 20 (us2 2)), (q2 8, aI D 20 (us2 3))]) := by
  refine Ct.ofV 1 (lv0 := [some (.ref (q 1)), some (.ref (q2 1)), none]) (by decide) rfl rfl (fun Z E F => ?_)
  refine v_aload_n E dX5_copyFrom_0 rfl ?_
  refine v_aload_n E dX5_copyFrom_1 rfl ?_
  refine v_get E dX5_copyFrom_2 (ci := 5) rfl iwX5 8 rfl 0 rfl fl_X5_23 rfl ?_
  refine v_put E dX5_copyFrom_5 (ci := 5) rfl iwX5 tyX5 tyX5_ok nmX5 0 rfl 0 rfl fl_X5_23 rfl rfl rfl rfl rfl ?_
  refine v_wd (wd2 := [(q 1, .inr (5, [.int ct2, .int dp, .ref (q 2), .ref (q 3), .ref (q 4)])), (q 2, aI D 20 we), (q 3, aI D 3 ok), (q 4, aG D 4 (gU q 5)), (q 5, aI D 20 (us 0)), (q 6, aI D 20 (us 1)), (q 7, aI D 20 (us 2)), (q 8, aI D 20 (us 3)), (q2 1, .inr (5, [.int ct2, .int dp2, .ref (q2 2), .ref (q2 3), .ref (q2 4)])), (q2 2, aI D 20 we2), (q2 3, aI D 3 ok2), (q2 4, aG D 4 (gU q2 5)), (q2 5, aI D 20 (us2 0)), (q2 6, aI D 20 (us2 1)), (q2 7, aI D 20 (us2 2)), (q2 8, aI D 20 (us2 3))]) rfl ?_
  refine v_aload_n E dX5_copyFrom_8 rfl ?_
  refine v_aload_n E dX5_copyFrom_9 rfl ?_
  refine v_get E dX5_copyFrom_10 (ci := 5) rfl iwX5 8 rfl 1 rfl fl_X5_27 rfl ?_
  refine v_put E dX5_copyFrom_13 (ci := 5) rfl iwX5 tyX5 tyX5_ok nmX5 0 rfl 1 rfl fl_X5_27 rfl rfl rfl rfl rfl ?_
  refine v_wd (wd2 := [(q 1, .inr (5, [.int ct2, .int dp2, .ref (q 2), .ref (q 3), .ref (q 4)])), (q 2, aI D 20 we), (q 3, aI D 3 ok), (q 4, aG D 4 (gU q 5)), (q 5, aI D 20 (us 0)), (q 6, aI D 20 (us 1)), (q 7, aI D 20 (us 2)), (q 8, aI D 20 (us 3)), (q2 1, .inr (5, [.int ct2, .int dp2, .ref (q2 2), .ref (q2 3), .ref (q2 4)])), (q2 2, aI D 20 we2), (q2 3, aI D 3 ok2), (q2 4, aG D 4 (gU q2 5)), (q2 5, aI D 20 (us2 0)), (q2 6, aI D 20 (us2 1)), (q2 7, aI D 20 (us2 2)), (q2 8, aI D 20 (us2 3))]) rfl ?_
  refine v_aload_n E dX5_copyFrom_16 rfl ?_
  refine v_get E dX5_copyFrom_17 (ci := 5) rfl iwX5 8 rfl 2 rfl fl_X5_9 rfl ?_
  refine v_iconst E dX5_copyFrom_20 (v := 0) (by decide) ?_
  refine v_aload_n E dX5_copyFrom_21 rfl ?_
  refine v_get E dX5_copyFrom_22 (ci := 5) rfl iwX5 0 rfl 2 rfl fl_X5_9 rfl ?_
  refine v_iconst E dX5_copyFrom_25 (v := 0) (by decide) ?_
  refine v_bipush E dX5_copyFrom_26 (v := 20) (by decide) ?_
  refine v_cpyI E 20 dX5_copyFrom_28 mo_X5_30 9 1 rfl rfl (show (20 : Int32) = nI 20 by decide) rfl (by decide) (by decide) rfl rfl (Nat.le_of_ble_eq_true rfl) ?_
  refine v_wd (wd2 := [(q 1, .inr (5, [.int ct2, .int dp2, .ref (q 2), .ref (q 3), .ref (q 4)])), (q 2, aI D 20 (va_cpy we2 we 0 0 20)), (q 3, aI D 3 ok), (q 4, aG D 4 (gU q 5)), (q 5, aI D 20 (us 0)), (q 6, aI D 20 (us 1)), (q 7, aI D 20 (us 2)), (q 8, aI D 20 (us 3)), (q2 1, .inr (5, [.int ct2, .int dp2, .ref (q2 2), .ref (q2 3), .ref (q2 4)])), (q2 2, aI D 20 we2), (q2 3, aI D 3 ok2), (q2 4, aG D 4 (gU q2 5)), (q2 5, aI D 20 (us2 0)), (q2 6, aI D 20 (us2 1)), (q2 7, aI D 20 (us2 2)), (q2 8, aI D 20 (us2 3))]) rfl ?_
  refine v_aload_n E dX5_copyFrom_31 rfl ?_
  refine v_get E dX5_copyFrom_32 (ci := 5) rfl iwX5 8 rfl 3 rfl fl_X5_15 rfl ?_
  refine v_iconst E dX5_copyFrom_35 (v := 0) (by decide) ?_
  refine v_aload_n E dX5_copyFrom_36 rfl ?_
  refine v_get E dX5_copyFrom_37 (ci := 5) rfl iwX5 0 rfl 3 rfl fl_X5_15 rfl ?_
  refine v_iconst E dX5_copyFrom_40 (v := 0) (by decide) ?_
  refine v_iconst E dX5_copyFrom_41 (v := 3) (by decide) ?_
  refine v_cpyI E 3 dX5_copyFrom_42 mo_X5_30 10 2 rfl rfl (show (3 : Int32) = nI 3 by decide) rfl (by decide) (by decide) rfl rfl (Nat.le_of_ble_eq_true rfl) ?_
  refine v_wd (wd2 := [(q 1, .inr (5, [.int ct2, .int dp2, .ref (q 2), .ref (q 3), .ref (q 4)])), (q 2, aI D 20 (va_cpy we2 we 0 0 20)), (q 3, aI D 3 (va_cpy ok2 ok 0 0 3)), (q 4, aG D 4 (gU q 5)), (q 5, aI D 20 (us 0)), (q 6, aI D 20 (us 1)), (q 7, aI D 20 (us 2)), (q 8, aI D 20 (us 3)), (q2 1, .inr (5, [.int ct2, .int dp2, .ref (q2 2), .ref (q2 3), .ref (q2 4)])), (q2 2, aI D 20 we2), (q2 3, aI D 3 ok2), (q2 4, aG D 4 (gU q2 5)), (q2 5, aI D 20 (us2 0)), (q2 6, aI D 20 (us2 1)), (q2 7, aI D 20 (us2 2)), (q2 8, aI D 20 (us2 3))]) rfl ?_
  refine v_iconst E dX5_copyFrom_45 (v := 0) (by decide) ?_
  refine v_istore_n E dX5_copyFrom_46 rfl rfl ?_
  refine v_iload_n E dX5_copyFrom_47 rfl ?_
  refine v_iconst E dX5_copyFrom_48 (v := 4) (by decide) ?_
  refine v_icmp_ge E 77 dX5_copyFrom_49 (by decide) (fun c_49 => ?_) (fun c_49 => ?_)
  · exact absurd c_49 (by decide)
  · refine v_aload_n E dX5_copyFrom_52 rfl ?_
    refine v_get E dX5_copyFrom_53 (ci := 5) rfl iwX5 8 rfl 4 rfl fl_X5_20 rfl ?_
    refine v_iload_n E dX5_copyFrom_56 rfl ?_
    refine v_uald E dX5_copyFrom_57 11 rfl 0 (show (0 : Int32) = nI 0 by decide) (by omega) ?_
    refine v_iconst E dX5_copyFrom_58 (v := 0) (by decide) ?_
    refine v_aload_n E dX5_copyFrom_59 rfl ?_
    refine v_get E dX5_copyFrom_60 (ci := 5) rfl iwX5 0 rfl 4 rfl fl_X5_20 rfl ?_
    refine v_iload_n E dX5_copyFrom_63 rfl ?_
    refine v_uald E dX5_copyFrom_64 3 rfl 0 (show (0 : Int32) = nI 0 by decide) (by omega) ?_
    refine v_iconst E dX5_copyFrom_65 (v := 0) (by decide) ?_
    refine v_bipush E dX5_copyFrom_66 (v := 20) (by decide) ?_
    refine v_cpyI E 20 dX5_copyFrom_68 mo_X5_30 12 4 rfl rfl (show (20 : Int32) = nI 20 by decide) rfl (by decide) (by decide) rfl rfl (Nat.le_of_ble_eq_true rfl) ?_
    refine v_wd (wd2 := [(q 1, .inr (5, [.int ct2, .int dp2, .ref (q 2), .ref (q 3), .ref (q 4)])), (q 2, aI D 20 (va_cpy we2 we 0 0 20)), (q 3, aI D 3 (va_cpy ok2 ok 0 0 3)), (q 4, aG D 4 (gU q 5)), (q 5, aI D 20 ((setR us 0 (va_cpy (us2 0) (us 0) 0 0 20)) 0)), (q 6, aI D 20 ((setR us 0 (va_cpy (us2 0) (us 0) 0 0 20)) 1)), (q 7, aI D 20 ((setR us 0 (va_cpy (us2 0) (us 0) 0 0 20)) 2)), (q 8, aI D 20 ((setR us 0 (va_cpy (us2 0) (us 0) 0 0 20)) 3)), (q2 1, .inr (5, [.int ct2, .int dp2, .ref (q2 2), .ref (q2 3), .ref (q2 4)])), (q2 2, aI D 20 we2), (q2 3, aI D 3 ok2), (q2 4, aG D 4 (gU q2 5)), (q2 5, aI D 20 (us2 0)), (q2 6, aI D 20 (us2 1)), (q2 7, aI D 20 (us2 2)), (q2 8, aI D 20 (us2 3))]) rfl ?_
    refine v_iinc E dX5_copyFrom_71 (v := 1) rfl (by decide) rfl rfl ?_
    refine v_goto E 47 dX5_copyFrom_74 (by decide) ?_
    refine v_iload_n E dX5_copyFrom_47 rfl ?_
    refine v_iconst E dX5_copyFrom_48 (v := 4) (by decide) ?_
    refine v_icmp_ge E 77 dX5_copyFrom_49 (by decide) (fun c_49 => ?_) (fun c_49 => ?_)
    · exact absurd c_49 (by decide)
    · refine v_aload_n E dX5_copyFrom_52 rfl ?_
      refine v_get E dX5_copyFrom_53 (ci := 5) rfl iwX5 8 rfl 4 rfl fl_X5_20 rfl ?_
      refine v_iload_n E dX5_copyFrom_56 rfl ?_
      refine v_uald E dX5_copyFrom_57 11 rfl 1 (show (1 : Int32) = nI 1 by decide) (by omega) ?_
      refine v_iconst E dX5_copyFrom_58 (v := 0) (by decide) ?_
      refine v_aload_n E dX5_copyFrom_59 rfl ?_
      refine v_get E dX5_copyFrom_60 (ci := 5) rfl iwX5 0 rfl 4 rfl fl_X5_20 rfl ?_
      refine v_iload_n E dX5_copyFrom_63 rfl ?_
      refine v_uald E dX5_copyFrom_64 3 rfl 1 (show (1 : Int32) = nI 1 by decide) (by omega) ?_
      refine v_iconst E dX5_copyFrom_65 (v := 0) (by decide) ?_
      refine v_bipush E dX5_copyFrom_66 (v := 20) (by decide) ?_
      refine v_cpyI E 20 dX5_copyFrom_68 mo_X5_30 13 5 rfl rfl (show (20 : Int32) = nI 20 by decide) rfl (by decide) (by decide) rfl rfl (Nat.le_of_ble_eq_true rfl) ?_
      refine v_wd (wd2 := [(q 1, .inr (5, [.int ct2, .int dp2, .ref (q 2), .ref (q 3), .ref (q 4)])), (q 2, aI D 20 (va_cpy we2 we 0 0 20)), (q 3, aI D 3 (va_cpy ok2 ok 0 0 3)), (q 4, aG D 4 (gU q 5)), (q 5, aI D 20 ((setR (setR us 0 (va_cpy (us2 0) (us 0) 0 0 20)) 1 (va_cpy (us2 1) ((setR us 0 (va_cpy (us2 0) (us 0) 0 0 20)) 1) 0 0 20)) 0)), (q 6, aI D 20 ((setR (setR us 0 (va_cpy (us2 0) (us 0) 0 0 20)) 1 (va_cpy (us2 1) ((setR us 0 (va_cpy (us2 0) (us 0) 0 0 20)) 1) 0 0 20)) 1)), (q 7, aI D 20 ((setR (setR us 0 (va_cpy (us2 0) (us 0) 0 0 20)) 1 (va_cpy (us2 1) ((setR us 0 (va_cpy (us2 0) (us 0) 0 0 20)) 1) 0 0 20)) 2)), (q 8, aI D 20 ((setR (setR us 0 (va_cpy (us2 0) (us 0) 0 0 20)) 1 (va_cpy (us2 1) ((setR us 0 (va_cpy (us2 0) (us 0) 0 0 20)) 1) 0 0 20)) 3)), (q2 1, .inr (5, [.int ct2, .int dp2, .ref (q2 2), .ref (q2 3), .ref (q2 4)])), (q2 2, aI D 20 we2), (q2 3, aI D 3 ok2), (q2 4, aG D 4 (gU q2 5)), (q2 5, aI D 20 (us2 0)), (q2 6, aI D 20 (us2 1)), (q2 7, aI D 20 (us2 2)), (q2 8, aI D 20 (us2 3))]) rfl ?_
      refine v_iinc E dX5_copyFrom_71 (v := 2) rfl (by decide) rfl rfl ?_
      refine v_goto E 47 dX5_copyFrom_74 (by decide) ?_
      refine v_iload_n E dX5_copyFrom_47 rfl ?_
      refine v_iconst E dX5_copyFrom_48 (v := 4) (by decide) ?_
      refine v_icmp_ge E 77 dX5_copyFrom_49 (by decide) (fun c_49 => ?_) (fun c_49 => ?_)
      · exact absurd c_49 (by decide)
      · refine v_aload_n E dX5_copyFrom_52 rfl ?_
        refine v_get E dX5_copyFrom_53 (ci := 5) rfl iwX5 8 rfl 4 rfl fl_X5_20 rfl ?_
        refine v_iload_n E dX5_copyFrom_56 rfl ?_
        refine v_uald E dX5_copyFrom_57 11 rfl 2 (show (2 : Int32) = nI 2 by decide) (by omega) ?_
        refine v_iconst E dX5_copyFrom_58 (v := 0) (by decide) ?_
        refine v_aload_n E dX5_copyFrom_59 rfl ?_
        refine v_get E dX5_copyFrom_60 (ci := 5) rfl iwX5 0 rfl 4 rfl fl_X5_20 rfl ?_
        refine v_iload_n E dX5_copyFrom_63 rfl ?_
        refine v_uald E dX5_copyFrom_64 3 rfl 2 (show (2 : Int32) = nI 2 by decide) (by omega) ?_
        refine v_iconst E dX5_copyFrom_65 (v := 0) (by decide) ?_
        refine v_bipush E dX5_copyFrom_66 (v := 20) (by decide) ?_
        refine v_cpyI E 20 dX5_copyFrom_68 mo_X5_30 14 6 rfl rfl (show (20 : Int32) = nI 20 by decide) rfl (by decide) (by decide) rfl rfl (Nat.le_of_ble_eq_true rfl) ?_
        refine v_wd (wd2 := [(q 1, .inr (5, [.int ct2, .int dp2, .ref (q 2), .ref (q 3), .ref (q 4)])), (q 2, aI D 20 (va_cpy we2 we 0 0 20)), (q 3, aI D 3 (va_cpy ok2 ok 0 0 3)), (q 4, aG D 4 (gU q 5)), (q 5, aI D 20 ((setR (setR (setR us 0 (va_cpy (us2 0) (us 0) 0 0 20)) 1 (va_cpy (us2 1) ((setR us 0 (va_cpy (us2 0) (us 0) 0 0 20)) 1) 0 0 20)) 2 (va_cpy (us2 2) ((setR (setR us 0 (va_cpy (us2 0) (us 0) 0 0 20)) 1 (va_cpy (us2 1) ((setR us 0 (va_cpy (us2 0) (us 0) 0 0 20)) 1) 0 0 20)) 2) 0 0 20)) 0)), (q 6, aI D 20 ((setR (setR (setR us 0 (va_cpy (us2 0) (us 0) 0 0 20)) 1 (va_cpy (us2 1) ((setR us 0 (va_cpy (us2 0) (us 0) 0 0 20)) 1) 0 0 20)) 2 (va_cpy (us2 2) ((setR (setR us 0 (va_cpy (us2 0) (us 0) 0 0 20)) 1 (va_cpy (us2 1) ((setR us 0 (va_cpy (us2 0) (us 0) 0 0 20)) 1) 0 0 20)) 2) 0 0 20)) 1)), (q 7, aI D 20 ((setR (setR (setR us 0 (va_cpy (us2 0) (us 0) 0 0 20)) 1 (va_cpy (us2 1) ((setR us 0 (va_cpy (us2 0) (us 0) 0 0 20)) 1) 0 0 20)) 2 (va_cpy (us2 2) ((setR (setR us 0 (va_cpy (us2 0) (us 0) 0 0 20)) 1 (va_cpy (us2 1) ((setR us 0 (va_cpy (us2 0) (us 0) 0 0 20)) 1) 0 0 20)) 2) 0 0 20)) 2)), (q 8, aI D 20 ((setR (setR (setR us 0 (va_cpy (us2 0) (us 0) 0 0 20)) 1 (va_cpy (us2 1) ((setR us 0 (va_cpy (us2 0) (us 0) 0 0 20)) 1) 0 0 20)) 2 (va_cpy (us2 2) ((setR (setR us 0 (va_cpy (us2 0) (us 0) 0 0 20)) 1 (va_cpy (us2 1) ((setR us 0 (va_cpy (us2 0) (us 0) 0 0 20)) 1) 0 0 20)) 2) 0 0 20)) 3)), (q2 1, .inr (5, [.int ct2, .int dp2, .ref (q2 2), .ref (q2 3), .ref (q2 4)])), (q2 2, aI D 20 we2), (q2 3, aI D 3 ok2), (q2 4, aG D 4 (gU q2 5)), (q2 5, aI D 20 (us2 0)), (q2 6, aI D 20 (us2 1)), (q2 7, aI D 20 (us2 2)), (q2 8, aI D 20 (us2 3))]) rfl ?_
        refine v_iinc E dX5_copyFrom_71 (v := 3) rfl (by decide) rfl rfl ?_
        refine v_goto E 47 dX5_copyFrom_74 (by decide) ?_
        refine v_iload_n E dX5_copyFrom_47 rfl ?_
        refine v_iconst E dX5_copyFrom_48 (v := 4) (by decide) ?_
        refine v_icmp_ge E 77 dX5_copyFrom_49 (by decide) (fun c_49 => ?_) (fun c_49 => ?_)
        · exact absurd c_49 (by decide)
        · refine v_aload_n E dX5_copyFrom_52 rfl ?_
          refine v_get E dX5_copyFrom_53 (ci := 5) rfl iwX5 8 rfl 4 rfl fl_X5_20 rfl ?_
          refine v_iload_n E dX5_copyFrom_56 rfl ?_
          refine v_uald E dX5_copyFrom_57 11 rfl 3 (show (3 : Int32) = nI 3 by decide) (by omega) ?_
          refine v_iconst E dX5_copyFrom_58 (v := 0) (by decide) ?_
          refine v_aload_n E dX5_copyFrom_59 rfl ?_
          refine v_get E dX5_copyFrom_60 (ci := 5) rfl iwX5 0 rfl 4 rfl fl_X5_20 rfl ?_
          refine v_iload_n E dX5_copyFrom_63 rfl ?_
          refine v_uald E dX5_copyFrom_64 3 rfl 3 (show (3 : Int32) = nI 3 by decide) (by omega) ?_
          refine v_iconst E dX5_copyFrom_65 (v := 0) (by decide) ?_
          refine v_bipush E dX5_copyFrom_66 (v := 20) (by decide) ?_
          refine v_cpyI E 20 dX5_copyFrom_68 mo_X5_30 15 7 rfl rfl (show (20 : Int32) = nI 20 by decide) rfl (by decide) (by decide) rfl rfl (Nat.le_of_ble_eq_true rfl) ?_
          refine v_wd (wd2 := [(q 1, .inr (5, [.int ct2, .int dp2, .ref (q 2), .ref (q 3), .ref (q 4)])), (q 2, aI D 20 (va_cpy we2 we 0 0 20)), (q 3, aI D 3 (va_cpy ok2 ok 0 0 3)), (q 4, aG D 4 (gU q 5)), (q 5, aI D 20 ((setR (setR (setR (setR us 0 (va_cpy (us2 0) (us 0) 0 0 20)) 1 (va_cpy (us2 1) ((setR us 0 (va_cpy (us2 0) (us 0) 0 0 20)) 1) 0 0 20)) 2 (va_cpy (us2 2) ((setR (setR us 0 (va_cpy (us2 0) (us 0) 0 0 20)) 1 (va_cpy (us2 1) ((setR us 0 (va_cpy (us2 0) (us 0) 0 0 20)) 1) 0 0 20)) 2) 0 0 20)) 3 (va_cpy (us2 3) ((setR (setR (setR us 0 (va_cpy (us2 0) (us 0) 0 0 20)) 1 (va_cpy (us2 1) ((setR us 0 (va_cpy (us2 0) (us 0) 0 0 20)) 1) 0 0 20)) 2 (va_cpy (us2 2) ((setR (setR us 0 (va_cpy (us2 0) (us 0) 0 0 20)) 1 (va_cpy (us2 1) ((setR us 0 (va_cpy (us2 0) (us 0) 0 0 20)) 1) 0 0 20)) 2) 0 0 20)) 3) 0 0 20)) 0)), (q 6, aI D 20 ((setR (setR (setR (setR us 0 (va_cpy (us2 0) (us 0) 0 0 20)) 1 (va_cpy (us2 1) ((setR us 0 (va_cpy (us2 0) (us 0) 0 0 20)) 1) 0 0 20)) 2 (va_cpy (us2 2) ((setR (setR us 0 (va_cpy (us2 0) (us 0) 0 0 20)) 1 (va_cpy (us2 1) ((setR us 0 (va_cpy (us2 0) (us 0) 0 0 20)) 1) 0 0 20)) 2) 0 0 20)) 3 (va_cpy (us2 3) ((setR (setR (setR us 0 (va_cpy (us2 0) (us 0) 0 0 20)) 1 (va_cpy (us2 1) ((setR us 0 (va_cpy (us2 0) (us 0) 0 0 20)) 1) 0 0 20)) 2 (va_cpy (us2 2) ((setR (setR us 0 (va_cpy (us2 0) (us 0) 0 0 20)) 1 (va_cpy (us2 1) ((setR us 0 (va_cpy (us2 0) (us 0) 0 0 20)) 1) 0 0 20)) 2) 0 0 20)) 3) 0 0 20)) 1)), (q 7, aI D 20 ((setR (setR (setR (setR us 0 (va_cpy (us2 0) (us 0) 0 0 20)) 1 (va_cpy (us2 1) ((setR us 0 (va_cpy (us2 0) (us 0) 0 0 20)) 1) 0 0 20)) 2 (va_cpy (us2 2) ((setR (setR us 0 (va_cpy (us2 0) (us 0) 0 0 20)) 1 (va_cpy (us2 1) ((setR us 0 (va_cpy (us2 0) (us 0) 0 0 20)) 1) 0 0 20)) 2) 0 0 20)) 3 (va_cpy (us2 3) ((setR (setR (setR us 0 (va_cpy (us2 0) (us 0) 0 0 20)) 1 (va_cpy (us2 1) ((setR us 0 (va_cpy (us2 0) (us 0) 0 0 20)) 1) 0 0 20)) 2 (va_cpy (us2 2) ((setR (setR us 0 (va_cpy (us2 0) (us 0) 0 0 20)) 1 (va_cpy (us2 1) ((setR us 0 (va_cpy (us2 0) (us 0) 0 0 20)) 1) 0 0 20)) 2) 0 0 20)) 3) 0 0 20)) 2)), (q 8, aI D 20 ((setR (setR (setR (setR us 0 (va_cpy (us2 0) (us 0) 0 0 20)) 1 (va_cpy (us2 1) ((setR us 0 (va_cpy (us2 0) (us 0) 0 0 20)) 1) 0 0 20)) 2 (va_cpy (us2 2) ((setR (setR us 0 (va_cpy (us2 0) (us 0) 0 0 20)) 1 (va_cpy (us2 1) ((setR us 0 (va_cpy (us2 0) (us 0) 0 0 20)) 1) 0 0 20)) 2) 0 0 20)) 3 (va_cpy (us2 3) ((setR (setR (setR us 0 (va_cpy (us2 0) (us 0) 0 0 20)) 1 (va_cpy (us2 1) ((setR us 0 (va_cpy (us2 0) (us 0) 0 0 20)) 1) 0 0 20)) 2 (va_cpy (us2 2) ((setR (setR us 0 (va_cpy (us2 0) (us 0) 0 0 20)) 1 (va_cpy (us2 1) ((setR us 0 (va_cpy (us2 0) (us 0) 0 0 20)) 1) 0 0 20)) 2) 0 0 20)) 3) 0 0 20)) 3)), (q2 1, .inr (5, [.int ct2, .int dp2, .ref (q2 2), .ref (q2 3), .ref (q2 4)])), (q2 2, aI D 20 we2), (q2 3, aI D 3 ok2), (q2 4, aG D 4 (gU q2 5)), (q2 5, aI D 20 (us2 0)), (q2 6, aI D 20 (us2 1)), (q2 7, aI D 20 (us2 2)), (q2 8, aI D 20 (us2 3))]) rfl ?_
          refine v_iinc E dX5_copyFrom_71 (v := 4) rfl (by decide) rfl rfl ?_
          refine v_goto E 47 dX5_copyFrom_74 (by decide) ?_
          refine v_iload_n E dX5_copyFrom_47 rfl ?_
          refine v_iconst E dX5_copyFrom_48 (v := 4) (by decide) ?_
          refine v_icmp_ge E 77 dX5_copyFrom_49 (by decide) (fun c_49 => ?_) (fun c_49 => ?_)
          · exact v_vret E F dX5_copyFrom_77 rfl () trivial rfl (Nat.le_of_ble_eq_true rfl) (Nat.le_of_ble_eq_true rfl)
          · exact absurd c_49 (by decide)

def w_X4_touchBy_0_2 (ft : Nat → Int32) (fh : Nat → Int32) (di : Int64) (kf : Nat) : Int64 := if (fh kf) = 0 then di ||| (r_X6_pairsWith (r_X6_setOf (ft kf)) 1) else di ||| (r_X6_pairsWith (r_X6_setOf (ft kf)) 0)
set_option maxRecDepth 20000 in
/-- X4_touchBy -/
theorem c_X4_touchBy (D : va_G) (q : Nat → Nat) (ct : Int32) (dp : Int32) (we : Nat → Int32) (ok : Nat → Int32) (us : Nat → Nat → Int32) (fc : Int32) (ft : Nat → Int32) (fn : Nat → Int32) (fh : Nat → Int32) (fe : Nat → Int32) (fo : Nat → Int32) (di : Int64) (f : Int32) (kf : Nat) (hf : f = nI kf) (hkf : kf < 40) (l : Launch) : Ct l yX4_touchBy cX4_touchBy 3 none (rmM 1 21 0 0) D [.ref (q 0), .int f] [(q 0, .inr (4, [.ref (q 1), .ref (q 9), .long di])), (q 1, .inr (5, [.int ct, .int dp, .ref (q 2), .ref (q 3), .ref (q 4)])), (q 2, aI D 20 we), (q 3, aI D 3 ok), (q 4, aG D 4 (gU q 5)), (q 5, aI D 20 (us 0)), (q 6, aI D 20 (us 1)), (q 7, aI D 20 (us 2)), (q 8, aI D 20 (us 3)), (q 9, .inr (1, [.int fc, .ref (q 10), .ref (q 11), .ref (q 12), .ref (q 13), .ref (q 14)])), (q 10, aI D 40 ft), (q 11, aI D 40 fn), (q 12, aZ D 40 fh), (q 13, aZ D 40 fe), (q 14, aI D 100 fo)] (QV1 D [(q 0, .inr (4, [.ref (q 1), .ref (q 9), .long (w_X4_touchBy_0_2 ft fh di kf)])), (q 1, .inr (5, [.int ct, .int dp, .ref (q 2), .ref (q 3), .ref (q 4)])), (q 2, aI D 20 we), (q 3, aI D 3 ok), (q 4, aG D 4 (gU q 5)), (q 5, aI D 20 (us 0)), (q 6, aI D 20 (us 1)), (q 7, aI D 20 (us 2)), (q 8, aI D 20 (us 3)), (q 9, .inr (1, [.int fc, .ref (q 10), .ref (q 11), .ref (q 12), .ref (q 13), .ref (q 14)])), (q 10, aI D 40 ft), (q 11, aI D 40 fn), (q 12, aZ D 40 fh), (q 13, aZ D 40 fe), (q 14, aI D 100 fo)]) := by
  refine Ct.ofV 1 (lv0 := [some (.ref (q 0)), some (.int f), none]) (by decide) rfl rfl (fun Z E F => ?_)
  refine v_aload_n E dX4_touchBy_0 rfl ?_
  refine v_get E dX4_touchBy_1 (ci := 4) rfl iwX4 0 rfl 1 rfl fl_X4_21 rfl ?_
  refine v_get E dX4_touchBy_4 (ci := 1) rfl iwX1 9 rfl 3 rfl fl_X4_36 rfl ?_
  refine v_iload_n E dX4_touchBy_7 rfl ?_
  refine v_zald E dX4_touchBy_8 12 rfl kf hf (by omega) rfl ?_
  refine v_if_eq E 16 dX4_touchBy_9 (by decide) (fun c_9 => ?_) (fun c_9 => ?_)
  · refine v_iconst E dX4_touchBy_16 (v := 1) (by decide) ?_
    refine v_istore_n E dX4_touchBy_17 rfl rfl ?_
    refine v_aload_n E dX4_touchBy_18 rfl ?_
    refine v_dup E dX4_touchBy_19 rfl ?_
    refine v_get E dX4_touchBy_20 (ci := 4) rfl iwX4 0 rfl 2 rfl fl_X4_32 rfl ?_
    refine v_aload_n E dX4_touchBy_23 rfl ?_
    refine v_get E dX4_touchBy_24 (ci := 4) rfl iwX4 0 rfl 1 rfl fl_X4_21 rfl ?_
    refine v_get E dX4_touchBy_27 (ci := 1) rfl iwX1 9 rfl 1 rfl fl_X4_40 rfl ?_
    refine v_iload_n E dX4_touchBy_30 rfl ?_
    refine v_iald E dX4_touchBy_31 10 rfl kf hf (by omega) rfl ?_
    refine v_cN_i E dX4_touchBy_32 (c_X6_setOf D (ft kf)) cs_X4_44 rfl rfl rfl (Nat.le_of_ble_eq_true rfl) [] rfl rfl ⟨Nat.le_of_ble_eq_true rfl, Nat.le_of_ble_eq_true rfl⟩ ?_
    refine v_iload_n E dX4_touchBy_35 rfl ?_
    refine v_cN_l E dX4_touchBy_36 (c_X6_pairsWith D (r_X6_setOf (ft kf)) 1) cs_X4_48 rfl rfl rfl (Nat.le_of_ble_eq_true rfl) [] rfl rfl ⟨Nat.le_of_ble_eq_true rfl, Nat.le_of_ble_eq_true rfl⟩ ?_
    refine v_lor E dX4_touchBy_39 ?_
    refine v_put E dX4_touchBy_40 (ci := 4) rfl iwX4 tyX4 tyX4_ok nmX4 0 rfl 2 rfl fl_X4_32 rfl rfl rfl rfl rfl ?_
    refine v_wd (wd2 := [(q 0, .inr (4, [.ref (q 1), .ref (q 9), .long (di ||| (r_X6_pairsWith (r_X6_setOf (ft kf)) 1))])), (q 1, .inr (5, [.int ct, .int dp, .ref (q 2), .ref (q 3), .ref (q 4)])), (q 2, aI D 20 we), (q 3, aI D 3 ok), (q 4, aG D 4 (gU q 5)), (q 5, aI D 20 (us 0)), (q 6, aI D 20 (us 1)), (q 7, aI D 20 (us 2)), (q 8, aI D 20 (us 3)), (q 9, .inr (1, [.int fc, .ref (q 10), .ref (q 11), .ref (q 12), .ref (q 13), .ref (q 14)])), (q 10, aI D 40 ft), (q 11, aI D 40 fn), (q 12, aZ D 40 fh), (q 13, aZ D 40 fe), (q 14, aI D 100 fo)]) rfl ?_
    exact v_vret E F dX4_touchBy_43 rfl () trivial (by simp only [w_X4_touchBy_0_2, if_pos c_9] <;> rfl) (Nat.le_of_ble_eq_true rfl) (Nat.le_of_ble_eq_true rfl)
  · refine v_iconst E dX4_touchBy_12 (v := 0) (by decide) ?_
    refine v_goto E 17 dX4_touchBy_13 (by decide) ?_
    refine v_istore_n E dX4_touchBy_17 rfl rfl ?_
    refine v_aload_n E dX4_touchBy_18 rfl ?_
    refine v_dup E dX4_touchBy_19 rfl ?_
    refine v_get E dX4_touchBy_20 (ci := 4) rfl iwX4 0 rfl 2 rfl fl_X4_32 rfl ?_
    refine v_aload_n E dX4_touchBy_23 rfl ?_
    refine v_get E dX4_touchBy_24 (ci := 4) rfl iwX4 0 rfl 1 rfl fl_X4_21 rfl ?_
    refine v_get E dX4_touchBy_27 (ci := 1) rfl iwX1 9 rfl 1 rfl fl_X4_40 rfl ?_
    refine v_iload_n E dX4_touchBy_30 rfl ?_
    refine v_iald E dX4_touchBy_31 10 rfl kf hf (by omega) rfl ?_
    refine v_cN_i E dX4_touchBy_32 (c_X6_setOf D (ft kf)) cs_X4_44 rfl rfl rfl (Nat.le_of_ble_eq_true rfl) [] rfl rfl ⟨Nat.le_of_ble_eq_true rfl, Nat.le_of_ble_eq_true rfl⟩ ?_
    refine v_iload_n E dX4_touchBy_35 rfl ?_
    refine v_cN_l E dX4_touchBy_36 (c_X6_pairsWith D (r_X6_setOf (ft kf)) 0) cs_X4_48 rfl rfl rfl (Nat.le_of_ble_eq_true rfl) [] rfl rfl ⟨Nat.le_of_ble_eq_true rfl, Nat.le_of_ble_eq_true rfl⟩ ?_
    refine v_lor E dX4_touchBy_39 ?_
    refine v_put E dX4_touchBy_40 (ci := 4) rfl iwX4 tyX4 tyX4_ok nmX4 0 rfl 2 rfl fl_X4_32 rfl rfl rfl rfl rfl ?_
    refine v_wd (wd2 := [(q 0, .inr (4, [.ref (q 1), .ref (q 9), .long (di ||| (r_X6_pairsWith (r_X6_setOf (ft kf)) 0))])), (q 1, .inr (5, [.int ct, .int dp, .ref (q 2), .ref (q 3), .ref (q 4)])), (q 2, aI D 20 we), (q 3, aI D 3 ok), (q 4, aG D 4 (gU q 5)), (q 5, aI D 20 (us 0)), (q 6, aI D 20 (us 1)), (q 7, aI D 20 (us 2)), (q 8, aI D 20 (us 3)), (q 9, .inr (1, [.int fc, .ref (q 10), .ref (q 11), .ref (q 12), .ref (q 13), .ref (q 14)])), (q 10, aI D 40 ft), (q 11, aI D 40 fn), (q 12, aZ D 40 fh), (q 13, aZ D 40 fe), (q 14, aI D 100 fo)]) rfl ?_
    exact v_vret E F dX4_touchBy_43 rfl () trivial (by simp only [w_X4_touchBy_0_2, if_neg c_9] <;> rfl) (Nat.le_of_ble_eq_true rfl) (Nat.le_of_ble_eq_true rfl)

def r_X4_rebuilt (us : Nat → Nat → Int32) (di : Int64) : Int32 := (r_X6_targetsWith (r_X5_reachOf us di) 1)
set_option maxRecDepth 20000 in
/-- X4_rebuilt -/
theorem c_X4_rebuilt (D : va_G) (q : Nat → Nat) (ct : Int32) (dp : Int32) (we : Nat → Int32) (ok : Nat → Int32) (us : Nat → Nat → Int32) (fc : Int32) (ft : Nat → Int32) (fn : Nat → Int32) (fh : Nat → Int32) (fe : Nat → Int32) (fo : Nat → Int32) (di : Int64) (l : Launch) : Ct l yX4_rebuilt cX4_rebuilt 1 (some .int) (rmM 4 95 0 0) D [.ref (q 0)] [(q 0, .inr (4, [.ref (q 1), .ref (q 9), .long di])), (q 1, .inr (5, [.int ct, .int dp, .ref (q 2), .ref (q 3), .ref (q 4)])), (q 2, aI D 20 we), (q 3, aI D 3 ok), (q 4, aG D 4 (gU q 5)), (q 5, aI D 20 (us 0)), (q 6, aI D 20 (us 1)), (q 7, aI D 20 (us 2)), (q 8, aI D 20 (us 3)), (q 9, .inr (1, [.int fc, .ref (q 10), .ref (q 11), .ref (q 12), .ref (q 13), .ref (q 14)])), (q 10, aI D 40 ft), (q 11, aI D 40 fn), (q 12, aZ D 40 fh), (q 13, aZ D 40 fe), (q 14, aI D 100 fo)] (QI1 D (r_X4_rebuilt us di) [(q 0, .inr (4, [.ref (q 1), .ref (q 9), .long di])), (q 1, .inr (5, [.int ct, .int dp, .ref (q 2), .ref (q 3), .ref (q 4)])), (q 2, aI D 20 we), (q 3, aI D 3 ok), (q 4, aG D 4 (gU q 5)), (q 5, aI D 20 (us 0)), (q 6, aI D 20 (us 1)), (q 7, aI D 20 (us 2)), (q 8, aI D 20 (us 3)), (q 9, .inr (1, [.int fc, .ref (q 10), .ref (q 11), .ref (q 12), .ref (q 13), .ref (q 14)])), (q 10, aI D 40 ft), (q 11, aI D 40 fn), (q 12, aZ D 40 fh), (q 13, aZ D 40 fe), (q 14, aI D 100 fo)]) := by
  refine Ct.ofV 0 (lv0 := [some (.ref (q 0))]) (by decide) rfl rfl (fun Z E F => ?_)
  refine v_aload_n E dX4_rebuilt_0 rfl ?_
  refine v_get E dX4_rebuilt_1 (ci := 4) rfl iwX4 0 rfl 0 rfl fl_X4_12 rfl ?_
  refine v_aload_n E dX4_rebuilt_4 rfl ?_
  refine v_get E dX4_rebuilt_5 (ci := 4) rfl iwX4 0 rfl 2 rfl fl_X4_32 rfl ?_
  refine v_cV_l E dX4_rebuilt_8 (c_X5_reachOf D q ct dp we ok us di) cs_X4_52 rfl rfl rfl (Nat.le_of_ble_eq_true rfl) 1 rfl rfl [1, 2, 3, 4, 5, 6, 7, 8] rfl rfl ⟨Nat.le_of_ble_eq_true rfl, Nat.le_of_ble_eq_true rfl⟩ ?_
  refine v_iconst E dX4_rebuilt_11 (v := 1) (by decide) ?_
  refine v_cN_i E dX4_rebuilt_12 (c_X6_targetsWith D (r_X5_reachOf us di) 1) cs_X4_56 rfl rfl rfl (Nat.le_of_ble_eq_true rfl) [] rfl rfl ⟨Nat.le_of_ble_eq_true rfl, Nat.le_of_ble_eq_true rfl⟩ ?_
  exact v_iret E F dX4_rebuilt_15 rfl rfl () rfl rfl (Nat.le_of_ble_eq_true rfl) (Nat.le_of_ble_eq_true rfl)

def r_X4_testsToRun (ok : Nat → Int32) (us : Nat → Nat → Int32) (di : Int64) : Int32 := (r_X5_withAllUsers us (r_X4_rebuilt us di) 11) &&& (ok 2)
set_option maxRecDepth 20000 in
/-- X4_testsToRun -/
theorem c_X4_testsToRun (D : va_G) (q : Nat → Nat) (ct : Int32) (dp : Int32) (we : Nat → Int32) (ok : Nat → Int32) (us : Nat → Nat → Int32) (fc : Int32) (ft : Nat → Int32) (fn : Nat → Int32) (fh : Nat → Int32) (fe : Nat → Int32) (fo : Nat → Int32) (di : Int64) (l : Launch) : Ct l yX4_testsToRun cX4_testsToRun 1 (some .int) (rmM 5 115 0 0) D [.ref (q 0)] [(q 0, .inr (4, [.ref (q 1), .ref (q 9), .long di])), (q 1, .inr (5, [.int ct, .int dp, .ref (q 2), .ref (q 3), .ref (q 4)])), (q 2, aI D 20 we), (q 3, aI D 3 ok), (q 4, aG D 4 (gU q 5)), (q 5, aI D 20 (us 0)), (q 6, aI D 20 (us 1)), (q 7, aI D 20 (us 2)), (q 8, aI D 20 (us 3)), (q 9, .inr (1, [.int fc, .ref (q 10), .ref (q 11), .ref (q 12), .ref (q 13), .ref (q 14)])), (q 10, aI D 40 ft), (q 11, aI D 40 fn), (q 12, aZ D 40 fh), (q 13, aZ D 40 fe), (q 14, aI D 100 fo)] (QI1 D (r_X4_testsToRun ok us di) [(q 0, .inr (4, [.ref (q 1), .ref (q 9), .long di])), (q 1, .inr (5, [.int ct, .int dp, .ref (q 2), .ref (q 3), .ref (q 4)])), (q 2, aI D 20 we), (q 3, aI D 3 ok), (q 4, aG D 4 (gU q 5)), (q 5, aI D 20 (us 0)), (q 6, aI D 20 (us 1)), (q 7, aI D 20 (us 2)), (q 8, aI D 20 (us 3)), (q 9, .inr (1, [.int fc, .ref (q 10), .ref (q 11), .ref (q 12), .ref (q 13), .ref (q 14)])), (q 10, aI D 40 ft), (q 11, aI D 40 fn), (q 12, aZ D 40 fh), (q 13, aZ D 40 fe), (q 14, aI D 100 fo)]) := by
  refine Ct.ofV 0 (lv0 := [some (.ref (q 0))]) (by decide) rfl rfl (fun Z E F => ?_)
  refine v_aload_n E dX4_testsToRun_0 rfl ?_
  refine v_get E dX4_testsToRun_1 (ci := 4) rfl iwX4 0 rfl 0 rfl fl_X4_12 rfl ?_
  refine v_aload_n E dX4_testsToRun_4 rfl ?_
  refine v_cV_i E dX4_testsToRun_5 (c_X4_rebuilt D q ct dp we ok us fc ft fn fh fe fo di) cs_X4_60 rfl rfl rfl (Nat.le_of_ble_eq_true rfl) 0 rfl rfl [0, 1, 2, 3, 4, 5, 6, 7, 8, 9, 10, 11, 12, 13, 14] rfl rfl ⟨Nat.le_of_ble_eq_true rfl, Nat.le_of_ble_eq_true rfl⟩ ?_
  refine v_bipush E dX4_testsToRun_8 (v := 11) (by decide) ?_
  refine v_cV_i E dX4_testsToRun_10 (c_X5_withAllUsers D q ct dp we ok us (r_X4_rebuilt us di) 11) cs_X4_64 rfl rfl rfl (Nat.le_of_ble_eq_true rfl) 1 rfl rfl [1, 2, 3, 4, 5, 6, 7, 8] rfl rfl ⟨Nat.le_of_ble_eq_true rfl, Nat.le_of_ble_eq_true rfl⟩ ?_
  refine v_aload_n E dX4_testsToRun_13 rfl ?_
  refine v_get E dX4_testsToRun_14 (ci := 4) rfl iwX4 0 rfl 0 rfl fl_X4_12 rfl ?_
  refine v_get E dX4_testsToRun_17 (ci := 5) rfl iwX5 1 rfl 3 rfl fl_X4_68 rfl ?_
  refine v_iconst E dX4_testsToRun_20 (v := 2) (by decide) ?_
  refine v_iald E dX4_testsToRun_21 3 rfl 2 (show (2 : Int32) = nI 2 by decide) (by omega) rfl ?_
  refine v_iand E dX4_testsToRun_22 ?_
  exact v_iret E F dX4_testsToRun_23 rfl rfl () rfl rfl (Nat.le_of_ble_eq_true rfl) (Nat.le_of_ble_eq_true rfl)

def w_X4_copyFrom_0_2 (di2 : Int64) : Int64 := di2
def w_X4_copyFrom_1_0 (ct2 : Int32) : Int32 := (w_X5_copyFrom_0_0 ct2)
def w_X4_copyFrom_1_1 (dp2 : Int32) : Int32 := (w_X5_copyFrom_0_1 dp2)
def w_X4_copyFrom_2 (we : Nat → Int32) (we2 : Nat → Int32) : Nat → Int32 := (w_X5_copyFrom_1 we we2)
def w_X4_copyFrom_3 (ok : Nat → Int32) (ok2 : Nat → Int32) : Nat → Int32 := (w_X5_copyFrom_2 ok ok2)
def w_X4_copyFrom_5 (us : Nat → Nat → Int32) (us2 : Nat → Nat → Int32) : Nat → Nat → Int32 := (w_X5_copyFrom_4 us us2)
def w_X4_copyFrom_9_0 (fc2 : Int32) : Int32 := (w_X1_copyFrom_0_0 fc2)
def w_X4_copyFrom_10 (ft : Nat → Int32) (ft2 : Nat → Int32) : Nat → Int32 := (w_X1_copyFrom_1 ft ft2)
def w_X4_copyFrom_11 (fn : Nat → Int32) (fn2 : Nat → Int32) : Nat → Int32 := (w_X1_copyFrom_2 fn fn2)
def w_X4_copyFrom_12 (fh : Nat → Int32) (fh2 : Nat → Int32) : Nat → Int32 := (w_X1_copyFrom_3 fh fh2)
def w_X4_copyFrom_13 (fe : Nat → Int32) (fe2 : Nat → Int32) : Nat → Int32 := (w_X1_copyFrom_4 fe fe2)
def w_X4_copyFrom_14 (fo : Nat → Int32) (fo2 : Nat → Int32) : Nat → Int32 := (w_X1_copyFrom_5 fo fo2)
set_option maxRecDepth 20000 in
/-- X4_copyFrom -/
theorem c_X4_copyFrom (D : va_G) (q : Nat → Nat) (ct : Int32) (dp : Int32) (we : Nat → Int32) (ok : Nat → Int32) (us : Nat → Nat → Int32) (fc : Int32) (ft : Nat → Int32) (fn : Nat → Int32) (fh : Nat → Int32) (fe : Nat → Int32) (fo : Nat → Int32) (di : Int64) (q2 : Nat → Nat) (ct2 : Int32) (dp2 : Int32) (we2 : Nat → Int32) (ok2 : Nat → Int32) (us2 : Nat → Nat → Int32) (fc2 : Int32) (ft2 : Nat → Int32) (fn2 : Nat → Int32) (fh2 : Nat → Int32) (fe2 : Nat → Int32) (fo2 : Nat → Int32) (di2 : Int64) (hfh : ∀ i, i < 40 → fits .boolean (.int (fh2 i)) = true) (hfe : ∀ i, i < 40 → fits .boolean (.int (fe2 i)) = true) (l : Launch) : Ct l yX4_copyFrom cX4_copyFrom 2 none (rmM 2 82 0 0) D [.ref (q 0), .ref (q2 0)] [(q 0, .inr (4, [.ref (q 1), .ref (q 9), .long di])), (q 1, .inr (5, [.int ct, .int dp, .ref (q 2), .ref (q 3), .ref (q 4)])), (q 2, aI D 20 we), (q 3, aI D 3 ok), (q 4, aG D 4 (gU q 5)), (q 5, aI D 20 (us 0)), (q 6, aI D 20 (us 1)), (q 7, aI D 20 (us 2)), (q 8, aI D 20 (us 3)), (q 9, .inr (1, [.int fc, .ref (q 10), .ref (q 11), .ref (q 12), .ref (q 13), .ref (q 14)])), (q 10, aI D 40 ft), (q 11, aI D 40 fn), (q 12, aZ D 40 fh), (q 13, aZ D 40 fe), (q 14, aI D 100 fo), (q2 0, .inr (4, [.ref (q2 1), .ref (q2 9), .long di2])), (q2 1, .inr (5, [.int ct2, .int dp2, .ref (q2 2), .ref (q2 3), .ref (q2 4)])), (q2 2, aI D 20 we2), (q2 3, aI D 3 ok2), (q2 4, aG D 4 (gU q2 5)), (q2 5, aI D 20 (us2 0)), (q2 6, aI D 20 (us2 1)), (q2 7, aI D 20 (us2 2)), (q2 8, aI D 20 (us2 3)), (q2 9, .inr (1, [.int fc2, .ref (q2 10), .ref (q2 11), .ref (q2 12), .ref (q2 13), .ref (q2 14)])), (q2 10, aI D 40 ft2), (q2 11, aI D 40 fn2), (q2 12, aZ D 40 fh2), (q2 13, aZ D 40 fe2), (q2 14, aI D 100 fo2)] (QV1 D [(q 0, .inr (4, [.ref (q 1), .ref (q 9), .long (w_X4_copyFrom_0_2 di2)])), (q 1, .inr (5, [.int (w_X4_copyFrom_1_0 ct2), .int (w_X4_copyFrom_1_1 dp2), .ref (q 2), .ref (q 3), .ref (q 4)])), (q 2, aI D 20 (w_X4_copyFrom_2 we we2)), (q 3, aI D 3 (w_X4_copyFrom_3 ok ok2)), (q 4, aG D 4 (gU q 5)), (q 5, aI D 20 ((w_X4_copyFrom_5 us us2) 0)), (q 6, aI D 20 ((w_X4_copyFrom_5 us us2) 1)), (q 7, aI D 20 ((w_X4_copyFrom_5 us us2) 2)), (q 8, aI D 20 ((w_X4_copyFrom_5 us us2) 3)), (q 9, .inr (1, [.int (w_X4_copyFrom_9_0 fc2), .ref (q 10), .ref (q 11), .ref (q 12), .ref (q 13), .ref (q 14)])), (q 10, aI D 40 (w_X4_copyFrom_10 ft ft2)), (q 11, aI D 40 (w_X4_copyFrom_11 fn fn2)), (q 12, aZ D 40 (w_X4_copyFrom_12 fh fh2)), (q 13, aZ D 40 (w_X4_copyFrom_13 fe fe2)), (q 14, aI D 100 (w_X4_copyFrom_14 fo fo2)), (q2 0, .inr (4, [.ref (q2 1), .ref (q2 9), .long di2])), (q2 1, .inr (5, [.int ct2, .int dp2, .ref (q2 2), .ref (q2 3), .ref (q2 4)])), (q2 2, aI D 20 we2), (q2 3, aI D 3 ok2), (q2 4, aG D 4 (gU q2 5)), (q2 5, aI D 20 (us2 0)), (q2 6, aI D 20 (us2 1)), (q2 7, aI D 20 (us2 2)), (q2 8, aI D 20 (us2 3)), (q2 9, .inr (1, [.int fc2, .ref (q2 10), .ref (q2 11), .ref (q2 12), .ref (q2 13), .ref (q2 14)])), (q2 10, aI D 40 ft2), (q2 11, aI D 40 fn2), (q2 12, aZ D 40 fh2), (q2 13, aZ D 40 fe2), (q2 14, aI D 100 fo2)]) := by
  refine Ct.ofV 0 (lv0 := [some (.ref (q 0)), some (.ref (q2 0))]) (by decide) rfl rfl (fun Z E F => ?_)
  refine v_aload_n E dX4_copyFrom_0 rfl ?_
  refine v_get E dX4_copyFrom_1 (ci := 4) rfl iwX4 0 rfl 0 rfl fl_X4_12 rfl ?_
  refine v_aload_n E dX4_copyFrom_4 rfl ?_
  refine v_get E dX4_copyFrom_5 (ci := 4) rfl iwX4 15 rfl 0 rfl fl_X4_12 rfl ?_
  refine v_cV_vU E dX4_copyFrom_8 (c_X5_copyFrom D q ct dp we ok us q2 ct2 dp2 we2 ok2 us2) cs_X4_25 rfl rfl rfl (Nat.le_of_ble_eq_true rfl) 1 rfl rfl [1, 2, 3, 4, 5, 6, 7, 8, 16, 17, 18, 19, 20, 21, 22, 23] rfl rfl ⟨Nat.le_of_ble_eq_true rfl, Nat.le_of_ble_eq_true rfl⟩ [q 1, q 2, q 3, q 4, q 5, q 6, q 7, q 8, q2 1, q2 2, q2 3, q2 4, q2 5, q2 6, q2 7, q2 8] rfl rfl ?_
  refine v_wd (wd2 := [(q 0, .inr (4, [.ref (q 1), .ref (q 9), .long di])), (q 1, .inr (5, [.int (w_X5_copyFrom_0_0 ct2), .int (w_X5_copyFrom_0_1 dp2), .ref (q 2), .ref (q 3), .ref (q 4)])), (q 2, aI D 20 (w_X5_copyFrom_1 we we2)), (q 3, aI D 3 (w_X5_copyFrom_2 ok ok2)), (q 4, aG D 4 (gU q 5)), (q 5, aI D 20 ((w_X5_copyFrom_4 us us2) 0)), (q 6, aI D 20 ((w_X5_copyFrom_4 us us2) 1)), (q 7, aI D 20 ((w_X5_copyFrom_4 us us2) 2)), (q 8, aI D 20 ((w_X5_copyFrom_4 us us2) 3)), (q 9, .inr (1, [.int fc, .ref (q 10), .ref (q 11), .ref (q 12), .ref (q 13), .ref (q 14)])), (q 10, aI D 40 ft), (q 11, aI D 40 fn), (q 12, aZ D 40 fh), (q 13, aZ D 40 fe), (q 14, aI D 100 fo), (q2 0, .inr (4, [.ref (q2 1), .ref (q2 9), .long di2])), (q2 1, .inr (5, [.int ct2, .int dp2, .ref (q2 2), .ref (q2 3), .ref (q2 4)])), (q2 2, aI D 20 we2), (q2 3, aI D 3 ok2), (q2 4, aG D 4 (gU q2 5)), (q2 5, aI D 20 (us2 0)), (q2 6, aI D 20 (us2 1)), (q2 7, aI D 20 (us2 2)), (q2 8, aI D 20 (us2 3)), (q2 9, .inr (1, [.int fc2, .ref (q2 10), .ref (q2 11), .ref (q2 12), .ref (q2 13), .ref (q2 14)])), (q2 10, aI D 40 ft2), (q2 11, aI D 40 fn2), (q2 12, aZ D 40 fh2), (q2 13, aZ D 40 fe2), (q2 14, aI D 100 fo2)]) rfl ?_
  refine v_aload_n E dX4_copyFrom_11 rfl ?_
  refine v_get E dX4_copyFrom_12 (ci := 4) rfl iwX4 0 rfl 1 rfl fl_X4_21 rfl ?_
  refine v_aload_n E dX4_copyFrom_15 rfl ?_
  refine v_get E dX4_copyFrom_16 (ci := 4) rfl iwX4 15 rfl 1 rfl fl_X4_21 rfl ?_
  refine v_cV_vU E dX4_copyFrom_19 (c_X1_copyFrom D q fc ft fn fh fe fo q2 fc2 ft2 fn2 fh2 fe2 fo2 hfh hfe) cs_X4_29 rfl rfl rfl (Nat.le_of_ble_eq_true rfl) 9 rfl rfl [9, 10, 11, 12, 13, 14, 24, 25, 26, 27, 28, 29] rfl rfl ⟨Nat.le_of_ble_eq_true rfl, Nat.le_of_ble_eq_true rfl⟩ [q 9, q 10, q 11, q 12, q 13, q 14, q2 9, q2 10, q2 11, q2 12, q2 13, q2 14] rfl rfl ?_
  refine v_wd (wd2 := [(q 0, .inr (4, [.ref (q 1), .ref (q 9), .long di])), (q 1, .inr (5, [.int (w_X5_copyFrom_0_0 ct2), .int (w_X5_copyFrom_0_1 dp2), .ref (q 2), .ref (q 3), .ref (q 4)])), (q 2, aI D 20 (w_X5_copyFrom_1 we we2)), (q 3, aI D 3 (w_X5_copyFrom_2 ok ok2)), (q 4, aG D 4 (gU q 5)), (q 5, aI D 20 ((w_X5_copyFrom_4 us us2) 0)), (q 6, aI D 20 ((w_X5_copyFrom_4 us us2) 1)), (q 7, aI D 20 ((w_X5_copyFrom_4 us us2) 2)), (q 8, aI D 20 ((w_X5_copyFrom_4 us us2) 3)), (q 9, .inr (1, [.int (w_X1_copyFrom_0_0 fc2), .ref (q 10), .ref (q 11), .ref (q 12), .ref (q 13), .ref (q 14)])), (q 10, aI D 40 (w_X1_copyFrom_1 ft ft2)), (q 11, aI D 40 (w_X1_copyFrom_2 fn fn2)), (q 12, aZ D 40 (w_X1_copyFrom_3 fh fh2)), (q 13, aZ D 40 (w_X1_copyFrom_4 fe fe2)), (q 14, aI D 100 (w_X1_copyFrom_5 fo fo2)), (q2 0, .inr (4, [.ref (q2 1), .ref (q2 9), .long di2])), (q2 1, .inr (5, [.int ct2, .int dp2, .ref (q2 2), .ref (q2 3), .ref (q2 4)])), (q2 2, aI D 20 we2), (q2 3, aI D 3 ok2), (q2 4, aG D 4 (gU q2 5)), (q2 5, aI D 20 (us2 0)), (q2 6, aI D 20 (us2 1)), (q2 7, aI D 20 (us2 2)), (q2 8, aI D 20 (us2 3)), (q2 9, .inr (1, [.int fc2, .ref (q2 10), .ref (q2 11), .ref (q2 12), .ref (q2 13), .ref (q2 14)])), (q2 10, aI D 40 ft2), (q2 11, aI D 40 fn2), (q2 12, aZ D 40 fh2), (q2 13, aZ D 40 fe2), (q2 14, aI D 100 fo2)]) rfl ?_
  refine v_aload_n E dX4_copyFrom_22 rfl ?_
  refine v_aload_n E dX4_copyFrom_23 rfl ?_
  refine v_get E dX4_copyFrom_24 (ci := 4) rfl iwX4 15 rfl 2 rfl fl_X4_32 rfl ?_
  refine v_put E dX4_copyFrom_27 (ci := 4) rfl iwX4 tyX4 tyX4_ok nmX4 0 rfl 2 rfl fl_X4_32 rfl rfl rfl rfl rfl ?_
  refine v_wd (wd2 := [(q 0, .inr (4, [.ref (q 1), .ref (q 9), .long di2])), (q 1, .inr (5, [.int (w_X5_copyFrom_0_0 ct2), .int (w_X5_copyFrom_0_1 dp2), .ref (q 2), .ref (q 3), .ref (q 4)])), (q 2, aI D 20 (w_X5_copyFrom_1 we we2)), (q 3, aI D 3 (w_X5_copyFrom_2 ok ok2)), (q 4, aG D 4 (gU q 5)), (q 5, aI D 20 ((w_X5_copyFrom_4 us us2) 0)), (q 6, aI D 20 ((w_X5_copyFrom_4 us us2) 1)), (q 7, aI D 20 ((w_X5_copyFrom_4 us us2) 2)), (q 8, aI D 20 ((w_X5_copyFrom_4 us us2) 3)), (q 9, .inr (1, [.int (w_X1_copyFrom_0_0 fc2), .ref (q 10), .ref (q 11), .ref (q 12), .ref (q 13), .ref (q 14)])), (q 10, aI D 40 (w_X1_copyFrom_1 ft ft2)), (q 11, aI D 40 (w_X1_copyFrom_2 fn fn2)), (q 12, aZ D 40 (w_X1_copyFrom_3 fh fh2)), (q 13, aZ D 40 (w_X1_copyFrom_4 fe fe2)), (q 14, aI D 100 (w_X1_copyFrom_5 fo fo2)), (q2 0, .inr (4, [.ref (q2 1), .ref (q2 9), .long di2])), (q2 1, .inr (5, [.int ct2, .int dp2, .ref (q2 2), .ref (q2 3), .ref (q2 4)])), (q2 2, aI D 20 we2), (q2 3, aI D 3 ok2), (q2 4, aG D 4 (gU q2 5)), (q2 5, aI D 20 (us2 0)), (q2 6, aI D 20 (us2 1)), (q2 7, aI D 20 (us2 2)), (q2 8, aI D 20 (us2 3)), (q2 9, .inr (1, [.int fc2, .ref (q2 10), .ref (q2 11), .ref (q2 12), .ref (q2 13), .ref (q2 14)])), (q2 10, aI D 40 ft2), (q2 11, aI D 40 fn2), (q2 12, aZ D 40 fh2), (q2 13, aZ D 40 fe2), (q2 14, aI D 100 fo2)]) rfl ?_
  exact v_vret E F dX4_copyFrom_30 rfl () trivial rfl (Nat.le_of_ble_eq_true rfl) (Nat.le_of_ble_eq_true rfl)

