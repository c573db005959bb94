/-! save, restore: a slot out of range -/
def r_save_b  : Int32 := (-3)
set_option maxRecDepth 20000 in
/-- X6_save -/
theorem c_save_b (D : va_G) (x0 : Nat) (x1 : Nat) (sv : Nat → Option Nat) (q : Nat → Nat) (ct : Int32) (dp : Int32) (we : Nat → Int32) (ok : Nat → Int32) (us : Nat → Nat → Int32) (fc : Int32) (ft : Nat → Int32) (fn : Nat → Int32) (fh : Nat → Int32) (fe : Nat → Int32) (fo : Nat → Int32) (di : Int64) (s : Int32) (hb : r_X6_inRange s 2 = 0) (l : Launch) : Ct l yX6_save cX6_save 3 (some .int) (rmM 1 21 0 0) D [.ref x0, .int s] [(x0, .inr (6, [.ref (q 0), .ref x1])), (x1, aS D 2 sv), (q 0, .inr (4, [.ref (q 1), .ref (q 9), .long di])), (q 1, .inr (5, [.int ct, .int dp, .ref (q 2), .ref (q 3), .ref (q 4)])), (q 2, aI D 20 we), (q 3, aI D 3 ok), (q 4, aG D 4 (gU q 5)), (q 5, aI D 20 (us 0)), (q 6, aI D 20 (us 1)), (q 7, aI D 20 (us 2)), (q 8, aI D 20 (us 3)), (q 9, .inr (1, [.int fc, .ref (q 10), .ref (q 11), .ref (q 12), .ref (q 13), .ref (q 14)])), (q 10, aI D 40 ft), (q 11, aI D 40 fn), (q 12, aZ D 40 fh), (q 13, aZ D 40 fe), (q 14, aI D 100 fo)] (QI1 D (r_save_b) [(x0, .inr (6, [.ref (q 0), .ref x1])), (x1, aS D 2 sv), (q 0, .inr (4, [.ref (q 1), .ref (q 9), .long di])), (q 1, .inr (5, [.int ct, .int dp, .ref (q 2), .ref (q 3), .ref (q 4)])), (q 2, aI D 20 we), (q 3, aI D 3 ok), (q 4, aG D 4 (gU q 5)), (q 5, aI D 20 (us 0)), (q 6, aI D 20 (us 1)), (q 7, aI D 20 (us 2)), (q 8, aI D 20 (us 3)), (q 9, .inr (1, [.int fc, .ref (q 10), .ref (q 11), .ref (q 12), .ref (q 13), .ref (q 14)])), (q 10, aI D 40 ft), (q 11, aI D 40 fn), (q 12, aZ D 40 fh), (q 13, aZ D 40 fe), (q 14, aI D 100 fo)]) := by
  refine Ct.ofV 1 (lv0 := [some (.ref x0), some (.int s), none]) (by decide) rfl rfl (fun Z E F => ?_)
  refine v_iload_n E dX6_save_0 rfl ?_
  refine v_iconst E dX6_save_1 (v := 2) (by decide) ?_
  refine v_cS_i E dX6_save_2 (c_X6_inRange D s 2) cs_X6_24 rfl rfl rfl (Nat.le_of_ble_eq_true rfl) [] rfl rfl ⟨Nat.le_of_ble_eq_true rfl, Nat.le_of_ble_eq_true rfl⟩ ?_
  refine v_if_ne E 11 dX6_save_5 (by decide) (fun c_5 => ?_) (fun c_5 => ?_)
  · exact absurd hb c_5
  · refine v_bipush E dX6_save_8 (v := -3) (by decide) ?_
    exact v_iret E F dX6_save_10 rfl rfl () rfl rfl (Nat.le_of_ble_eq_true rfl) (Nat.le_of_ble_eq_true rfl)

def r_restore_b  : Int32 := (-3)
set_option maxRecDepth 20000 in
/-- X6_restore -/
theorem c_restore_b (D : va_G) (x0 : Nat) (x1 : Nat) (sv : Nat → Option Nat) (q : Nat → Nat) (ct : Int32) (dp : Int32) (we : Nat → Int32) (ok : Nat → Int32) (us : Nat → Nat → Int32) (fc : Int32) (ft : Nat → Int32) (fn : Nat → Int32) (fh : Nat → Int32) (fe : Nat → Int32) (fo : Nat → Int32) (di : Int64) (s : Int32) (hb : r_X6_inRange s 2 = 0) (l : Launch) : Ct l yX6_restore cX6_restore 3 (some .int) (rmM 1 21 0 0) D [.ref x0, .int s] [(x0, .inr (6, [.ref (q 0), .ref x1])), (x1, aS D 2 sv), (q 0, .inr (4, [.ref (q 1), .ref (q 9), .long di])), (q 1, .inr (5, [.int ct, .int dp, .ref (q 2), .ref (q 3), .ref (q 4)])), (q 2, aI D 20 we), (q 3, aI D 3 ok), (q 4, aG D 4 (gU q 5)), (q 5, aI D 20 (us 0)), (q 6, aI D 20 (us 1)), (q 7, aI D 20 (us 2)), (q 8, aI D 20 (us 3)), (q 9, .inr (1, [.int fc, .ref (q 10), .ref (q 11), .ref (q 12), .ref (q 13), .ref (q 14)])), (q 10, aI D 40 ft), (q 11, aI D 40 fn), (q 12, aZ D 40 fh), (q 13, aZ D 40 fe), (q 14, aI D 100 fo)] (QI1 D (r_restore_b) [(x0, .inr (6, [.ref (q 0), .ref x1])), (x1, aS D 2 sv), (q 0, .inr (4, [.ref (q 1), .ref (q 9), .long di])), (q 1, .inr (5, [.int ct, .int dp, .ref (q 2), .ref (q 3), .ref (q 4)])), (q 2, aI D 20 we), (q 3, aI D 3 ok), (q 4, aG D 4 (gU q 5)), (q 5, aI D 20 (us 0)), (q 6, aI D 20 (us 1)), (q 7, aI D 20 (us 2)), (q 8, aI D 20 (us 3)), (q 9, .inr (1, [.int fc, .ref (q 10), .ref (q 11), .ref (q 12), .ref (q 13), .ref (q 14)])), (q 10, aI D 40 ft), (q 11, aI D 40 fn), (q 12, aZ D 40 fh), (q 13, aZ D 40 fe), (q 14, aI D 100 fo)]) := by
  refine Ct.ofV 1 (lv0 := [some (.ref x0), some (.int s), none]) (by decide) rfl rfl (fun Z E F => ?_)
  refine v_iload_n E dX6_restore_0 rfl ?_
  refine v_iconst E dX6_restore_1 (v := 2) (by decide) ?_
  refine v_cS_i E dX6_restore_2 (c_X6_inRange D s 2) cs_X6_24 rfl rfl rfl (Nat.le_of_ble_eq_true rfl) [] rfl rfl ⟨Nat.le_of_ble_eq_true rfl, Nat.le_of_ble_eq_true rfl⟩ ?_
  refine v_if_ne E 11 dX6_restore_5 (by decide) (fun c_5 => ?_) (fun c_5 => ?_)
  · exact absurd hb c_5
  · refine v_bipush E dX6_restore_8 (v := -3) (by decide) ?_
    exact v_iret E F dX6_restore_10 rfl rfl () rfl rfl (Nat.le_of_ble_eq_true rfl) (Nat.le_of_ble_eq_true rfl)

