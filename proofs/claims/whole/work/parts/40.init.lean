/-! the constructors -/
def us0 : Nat → Nat → Int32 := fun _ _ => 0
def adT (w o a : Nat) (r : Nat → Nat) : Nat → Nat := fun k => match k with
  | 2 => w
  | 3 => o
  | 4 => a
  | 5 => r 0
  | 6 => r 1
  | 7 => r 2
  | 8 => r 3
  | _ => 0
theorem gU_eq {q r : Nat → Nat} {a b : Nat} (h0 : q a = r b) (h1 : q (a + 1) = r (b + 1)) (h2 : q (a + 2) = r (b + 2)) (h3 : q (a + 3) = r (b + 3)) : gU q a = gU r b := by
  funext i
  unfold gU
  by_cases h : i < 4
  · rw [if_pos h, if_pos h]
    rcases lt4 h with e | e | e | e <;> subst e
    · exact congrArg some h0
    · exact congrArg some h1
    · exact congrArg some h2
    · exact congrArg some h3
  · rw [if_neg h, if_neg h]
set_option maxRecDepth 20000 in
/-- X5_init -/
theorem c_X5_init (D : va_G) (r0 : Nat) (l : Launch) : Ct l yX5_init cX5_init 1 none (rmM 1 20 7 107) D [.ref r0] [(r0, .inr (5, [.int 0, .int 0, .null, .null, .null]))] (QV (S := Nat → Nat) D (fun _ => True) (fun u => [(r0, .inr (5, [.int 0, .int 0, .ref (u 2), .ref (u 3), .ref (u 4)])), (u 2, aI D 20 (fun _ => 0)), (u 3, aI D 3 (fun _ => 0)), (u 4, aG D 4 (gU u 5)), (u 5, aI D 20 (us0 0)), (u 6, aI D 20 (us0 1)), (u 7, aI D 20 (us0 2)), (u 8, aI D 20 (us0 3))])) := by
  refine Ct.ofVI 0 (lv0 := [some (.ref r0)]) (by decide) rfl rfl rfl (fun Z E F I0 => ?_)
  refine v_aload_n E dX5_init_0 rfl ?_
  refine v_objInit E dX5_init_1 mo_X5_3 rfl rfl (Nat.le_of_ble_eq_true rfl) ?_
  refine v_aload_n E dX5_init_4 rfl ?_
  refine v_bipush E dX5_init_5 (v := 20) (by decide) ?_
  refine v_newI E 20 dX5_init_7 (show (20 : Int32) = nI 20 by decide) rfl (Nat.le_of_ble_eq_true rfl) (Nat.le_of_ble_eq_true rfl) (fun qv7 => ?_)
  refine v_wd (wd2 := [(r0, .inr (5, [.int 0, .int 0, .null, .null, .null])), (qv7, aI D 20 (fun _ => 0))]) rfl ?_
  refine v_putF E I0 dX5_init_9 (ci := 5) rfl iwX5 tyX5 tyX5_ok nmX5 0 rfl 2 rfl fl_X5_9 rfl rfl rfl rfl rfl rfl ?_
  refine v_wd (wd2 := [(r0, .inr (5, [.int 0, .int 0, .ref qv7, .null, .null])), (qv7, aI D 20 (fun _ => 0))]) rfl ?_
  refine v_aload_n E dX5_init_12 rfl ?_
  refine v_iconst E dX5_init_13 (v := 3) (by decide) ?_
  refine v_newI E 3 dX5_init_14 (show (3 : Int32) = nI 3 by decide) rfl (Nat.le_of_ble_eq_true rfl) (Nat.le_of_ble_eq_true rfl) (fun qv14 => ?_)
  refine v_wd (wd2 := [(r0, .inr (5, [.int 0, .int 0, .ref qv7, .null, .null])), (qv7, aI D 20 (fun _ => 0)), (qv14, aI D 3 (fun _ => 0))]) rfl ?_
  refine v_putF E I0 dX5_init_16 (ci := 5) rfl iwX5 tyX5 tyX5_ok nmX5 0 rfl 3 rfl fl_X5_15 rfl rfl rfl rfl rfl rfl ?_
  refine v_wd (wd2 := [(r0, .inr (5, [.int 0, .int 0, .ref qv7, .ref qv14, .null])), (qv7, aI D 20 (fun _ => 0)), (qv14, aI D 3 (fun _ => 0))]) rfl ?_
  refine v_aload_n E dX5_init_19 rfl ?_
  refine v_iconst E dX5_init_20 (v := 4) (by decide) ?_
  refine v_bipush E dX5_init_21 (v := 20) (by decide) ?_
  refine v_mna E dX5_init_23 cl_X5_18 (Nat.le_of_ble_eq_true rfl) (Nat.le_of_ble_eq_true rfl) (fun qa qr => ?_)
  refine v_wd (wd2 := [(r0, .inr (5, [.int 0, .int 0, .ref qv7, .ref qv14, .null])), (qv7, aI D 20 (fun _ => 0)), (qv14, aI D 3 (fun _ => 0)), (qa, aG D 4 (gU qr 0)), (qr 0, aI D 20 (us0 0)), (qr 1, aI D 20 (us0 1)), (qr 2, aI D 20 (us0 2)), (qr 3, aI D 20 (us0 3))]) rfl ?_
  refine v_putF E I0 dX5_init_27 (ci := 5) rfl iwX5 tyX5 tyX5_ok nmX5 0 rfl 4 rfl fl_X5_20 rfl rfl rfl rfl rfl rfl ?_
  refine v_wd (wd2 := [(r0, .inr (5, [.int 0, .int 0, .ref qv7, .ref qv14, .ref qa])), (qv7, aI D 20 (fun _ => 0)), (qv14, aI D 3 (fun _ => 0)), (qa, aG D 4 (gU qr 0)), (qr 0, aI D 20 (us0 0)), (qr 1, aI D 20 (us0 1)), (qr 2, aI D 20 (us0 2)), (qr 3, aI D 20 (us0 3))]) rfl ?_
  refine v_wd (wd2 := [(r0, .inr (5, [.int 0, .int 0, .ref ((adT qv7 qv14 qa qr) 2), .ref ((adT qv7 qv14 qa qr) 3), .ref ((adT qv7 qv14 qa qr) 4)])), ((adT qv7 qv14 qa qr) 2, aI D 20 (fun _ => 0)), ((adT qv7 qv14 qa qr) 3, aI D 3 (fun _ => 0)), ((adT qv7 qv14 qa qr) 4, aG D 4 (gU (adT qv7 qv14 qa qr) 5)), ((adT qv7 qv14 qa qr) 5, aI D 20 (us0 0)), ((adT qv7 qv14 qa qr) 6, aI D 20 (us0 1)), ((adT qv7 qv14 qa qr) 7, aI D 20 (us0 2)), ((adT qv7 qv14 qa qr) 8, aI D 20 (us0 3))]) (by rw [gU_eq (q := adT qv7 qv14 qa qr) (r := qr) (a := 5) (b := 0) rfl rfl rfl rfl]; rfl) ?_
  exact v_vret E F dX5_init_30 rfl (adT qv7 qv14 qa qr) trivial rfl (Nat.le_of_ble_eq_true rfl) (Nat.le_of_ble_eq_true rfl)

def adF (a b c d e : Nat) : Nat → Nat := fun k => match k with
  | 10 => a
  | 11 => b
  | 12 => c
  | 13 => d
  | 14 => e
  | _ => 0
def w_X1_init_n4  : Nat → Int32 := (w_J7_fill_53178_0 100 (fun _ => 0) (-10))
set_option maxRecDepth 20000 in
/-- X1_init -/
theorem c_X1_init (D : va_G) (r0 : Nat) (l : Launch) : Ct l yX1_init cX1_init 2 none (rmM 1 23 5 260) D [.ref r0] [(r0, .inr (1, [.int 0, .null, .null, .null, .null, .null]))] (QV (S := Nat → Nat) D (fun _ => True) (fun u => [(r0, .inr (1, [.int 0, .ref (u 10), .ref (u 11), .ref (u 12), .ref (u 13), .ref (u 14)])), (u 10, aI D 40 (fun _ => 0)), (u 11, aI D 40 (fun _ => 0)), (u 12, aZ D 40 (fun _ => 0)), (u 13, aZ D 40 (fun _ => 0)), (u 14, aI D 100 w_X1_init_n4)])) := by
  refine Ct.ofVI 1 (lv0 := [some (.ref r0), none]) (by decide) rfl rfl rfl (fun Z E F I0 => ?_)
  refine v_aload_n E dX1_init_0 rfl ?_
  refine v_objInit E dX1_init_1 mo_X1_3 rfl rfl (Nat.le_of_ble_eq_true rfl) ?_
  refine v_aload_n E dX1_init_4 rfl ?_
  refine v_bipush E dX1_init_5 (v := 40) (by decide) ?_
  refine v_newI E 40 dX1_init_7 (show (40 : Int32) = nI 40 by decide) rfl (Nat.le_of_ble_eq_true rfl) (Nat.le_of_ble_eq_true rfl) (fun qv7 => ?_)
  refine v_wd (wd2 := [(r0, .inr (1, [.int 0, .null, .null, .null, .null, .null])), (qv7, aI D 40 (fun _ => 0))]) rfl ?_
  refine v_putF E I0 dX1_init_9 (ci := 1) rfl iwX1 tyX1 tyX1_ok nmX1 0 rfl 1 rfl fl_X1_9 rfl rfl rfl rfl rfl rfl ?_
  refine v_wd (wd2 := [(r0, .inr (1, [.int 0, .ref qv7, .null, .null, .null, .null])), (qv7, aI D 40 (fun _ => 0))]) rfl ?_
  refine v_aload_n E dX1_init_12 rfl ?_
  refine v_bipush E dX1_init_13 (v := 40) (by decide) ?_
  refine v_newI E 40 dX1_init_15 (show (40 : Int32) = nI 40 by decide) rfl (Nat.le_of_ble_eq_true rfl) (Nat.le_of_ble_eq_true rfl) (fun qv15 => ?_)
  refine v_wd (wd2 := [(r0, .inr (1, [.int 0, .ref qv7, .null, .null, .null, .null])), (qv7, aI D 40 (fun _ => 0)), (qv15, aI D 40 (fun _ => 0))]) rfl ?_
  refine v_putF E I0 dX1_init_17 (ci := 1) rfl iwX1 tyX1 tyX1_ok nmX1 0 rfl 2 rfl fl_X1_15 rfl rfl rfl rfl rfl rfl ?_
  refine v_wd (wd2 := [(r0, .inr (1, [.int 0, .ref qv7, .ref qv15, .null, .null, .null])), (qv7, aI D 40 (fun _ => 0)), (qv15, aI D 40 (fun _ => 0))]) rfl ?_
  refine v_aload_n E dX1_init_20 rfl ?_
  refine v_bipush E dX1_init_21 (v := 40) (by decide) ?_
  refine v_newZ E 40 dX1_init_23 (show (40 : Int32) = nI 40 by decide) rfl (Nat.le_of_ble_eq_true rfl) (Nat.le_of_ble_eq_true rfl) (fun qv23 => ?_)
  refine v_wd (wd2 := [(r0, .inr (1, [.int 0, .ref qv7, .ref qv15, .null, .null, .null])), (qv7, aI D 40 (fun _ => 0)), (qv15, aI D 40 (fun _ => 0)), (qv23, aZ D 40 (fun _ => 0))]) rfl ?_
  refine v_putF E I0 dX1_init_25 (ci := 1) rfl iwX1 tyX1 tyX1_ok nmX1 0 rfl 3 rfl fl_X1_18 rfl rfl rfl rfl rfl rfl ?_
  refine v_wd (wd2 := [(r0, .inr (1, [.int 0, .ref qv7, .ref qv15, .ref qv23, .null, .null])), (qv7, aI D 40 (fun _ => 0)), (qv15, aI D 40 (fun _ => 0)), (qv23, aZ D 40 (fun _ => 0))]) rfl ?_
  refine v_aload_n E dX1_init_28 rfl ?_
  refine v_bipush E dX1_init_29 (v := 40) (by decide) ?_
  refine v_newZ E 40 dX1_init_31 (show (40 : Int32) = nI 40 by decide) rfl (Nat.le_of_ble_eq_true rfl) (Nat.le_of_ble_eq_true rfl) (fun qv31 => ?_)
  refine v_wd (wd2 := [(r0, .inr (1, [.int 0, .ref qv7, .ref qv15, .ref qv23, .null, .null])), (qv7, aI D 40 (fun _ => 0)), (qv15, aI D 40 (fun _ => 0)), (qv23, aZ D 40 (fun _ => 0)), (qv31, aZ D 40 (fun _ => 0))]) rfl ?_
  refine v_putF E I0 dX1_init_33 (ci := 1) rfl iwX1 tyX1 tyX1_ok nmX1 0 rfl 4 rfl fl_X1_22 rfl rfl rfl rfl rfl rfl ?_
  refine v_wd (wd2 := [(r0, .inr (1, [.int 0, .ref qv7, .ref qv15, .ref qv23, .ref qv31, .null])), (qv7, aI D 40 (fun _ => 0)), (qv15, aI D 40 (fun _ => 0)), (qv23, aZ D 40 (fun _ => 0)), (qv31, aZ D 40 (fun _ => 0))]) rfl ?_
  refine v_bipush E dX1_init_36 (v := 100) (by decide) ?_
  refine v_newI E 100 dX1_init_38 (show (100 : Int32) = nI 100 by decide) rfl (Nat.le_of_ble_eq_true rfl) (Nat.le_of_ble_eq_true rfl) (fun qv38 => ?_)
  refine v_wd (wd2 := [(r0, .inr (1, [.int 0, .ref qv7, .ref qv15, .ref qv23, .ref qv31, .null])), (qv7, aI D 40 (fun _ => 0)), (qv15, aI D 40 (fun _ => 0)), (qv23, aZ D 40 (fun _ => 0)), (qv31, aZ D 40 (fun _ => 0)), (qv38, aI D 100 (fun _ => 0))]) rfl ?_
  refine v_astore_n E dX1_init_40 rfl rfl ?_
  refine v_aload_n E dX1_init_41 rfl ?_
  refine v_bipush E dX1_init_42 (v := -10) (by decide) ?_
  refine v_cS_vU E dX1_init_44 (c_J7_fill_53178 D qv38 100 (fun _ => 0) (-10) (by omega)) cs_X1_25 rfl rfl rfl (Nat.le_of_ble_eq_true rfl) [5] rfl rfl ⟨Nat.le_of_ble_eq_true rfl, Nat.le_of_ble_eq_true rfl⟩ [qv38] rfl rfl ?_
  refine v_wd (wd2 := [(r0, .inr (1, [.int 0, .ref qv7, .ref qv15, .ref qv23, .ref qv31, .null])), (qv7, aI D 40 (fun _ => 0)), (qv15, aI D 40 (fun _ => 0)), (qv23, aZ D 40 (fun _ => 0)), (qv31, aZ D 40 (fun _ => 0)), (qv38, aI D 100 (w_J7_fill_53178_0 100 (fun _ => 0) (-10)))]) rfl ?_
  refine v_aload_n E dX1_init_47 rfl ?_
  refine v_aload_n E dX1_init_48 rfl ?_
  refine v_putF E I0 dX1_init_49 (ci := 1) rfl iwX1 tyX1 tyX1_ok nmX1 0 rfl 5 rfl fl_X1_31 rfl rfl rfl rfl rfl rfl ?_
  refine v_wd (wd2 := [(r0, .inr (1, [.int 0, .ref qv7, .ref qv15, .ref qv23, .ref qv31, .ref qv38])), (qv7, aI D 40 (fun _ => 0)), (qv15, aI D 40 (fun _ => 0)), (qv23, aZ D 40 (fun _ => 0)), (qv31, aZ D 40 (fun _ => 0)), (qv38, aI D 100 (w_J7_fill_53178_0 100 (fun _ => 0) (-10)))]) rfl ?_
  refine v_wd (wd2 := [(r0, .inr (1, [.int 0, .ref ((adF qv7 qv15 qv23 qv31 qv38) 10), .ref ((adF qv7 qv15 qv23 qv31 qv38) 11), .ref ((adF qv7 qv15 qv23 qv31 qv38) 12), .ref ((adF qv7 qv15 qv23 qv31 qv38) 13), .ref ((adF qv7 qv15 qv23 qv31 qv38) 14)])), ((adF qv7 qv15 qv23 qv31 qv38) 10, aI D 40 (fun _ => 0)), ((adF qv7 qv15 qv23 qv31 qv38) 11, aI D 40 (fun _ => 0)), ((adF qv7 qv15 qv23 qv31 qv38) 12, aZ D 40 (fun _ => 0)), ((adF qv7 qv15 qv23 qv31 qv38) 13, aZ D 40 (fun _ => 0)), ((adF qv7 qv15 qv23 qv31 qv38) 14, aI D 100 (w_J7_fill_53178_0 100 (fun _ => 0) (-10)))]) rfl ?_
  exact v_vret E F dX1_init_52 rfl (adF qv7 qv15 qv23 qv31 qv38) trivial rfl (Nat.le_of_ble_eq_true rfl) (Nat.le_of_ble_eq_true rfl)

def adS (t : Nat) (p : Nat → Nat) (f : Nat) (r : Nat → Nat) : Nat → Nat := fun k => match k with
  | 1 => t
  | 9 => f
  | 10 => r 10
  | 11 => r 11
  | 12 => r 12
  | 13 => r 13
  | 14 => r 14
  | k => p k
def w_X4_init_n13  : Nat → Int32 := (w_X1_init_n4)
set_option maxRecDepth 20000 in
/-- X4_init -/
theorem c_X4_init (D : va_G) (r0 : Nat) (l : Launch) : Ct l yX4_init cX4_init 1 none (rmM 2 44 14 378) D [.ref r0] [(r0, .inr (4, [.null, .null, .long 0]))] (QV (S := Nat → Nat) D (fun _ => True) (fun u => [(r0, .inr (4, [.ref (u 1), .ref (u 9), .long 0])), (u 1, .inr (5, [.int 0, .int 0, .ref (u 2), .ref (u 3), .ref (u 4)])), (u 2, aI D 20 (fun _ => 0)), (u 3, aI D 3 (fun _ => 0)), (u 4, aG D 4 (gU u 5)), (u 5, aI D 20 (us0 0)), (u 6, aI D 20 (us0 1)), (u 7, aI D 20 (us0 2)), (u 8, aI D 20 (us0 3)), (u 9, .inr (1, [.int 0, .ref (u 10), .ref (u 11), .ref (u 12), .ref (u 13), .ref (u 14)])), (u 10, aI D 40 (fun _ => 0)), (u 11, aI D 40 (fun _ => 0)), (u 12, aZ D 40 (fun _ => 0)), (u 13, aZ D 40 (fun _ => 0)), (u 14, aI D 100 w_X4_init_n13)])) := by
  refine Ct.ofVI 0 (lv0 := [some (.ref r0)]) (by decide) rfl rfl rfl (fun Z E F I0 => ?_)
  refine v_aload_n E dX4_init_0 rfl ?_
  refine v_objInit E dX4_init_1 mo_X4_3 rfl rfl (Nat.le_of_ble_eq_true rfl) ?_
  refine v_aload_n E dX4_init_4 rfl ?_
  refine v_new E dX4_init_5 (ci := 5) rfl iwX5 tyX5 tyX5_ok cl_X4_9 ib_X5 tw_in_X5 [.int 0, .int 0, .null, .null, .null] (fun j hj => by rcases (show j = 0 ∨ j = 1 ∨ j = 2 ∨ j = 3 ∨ j = 4 by omega) with rfl | rfl | rfl | rfl | rfl <;> rfl) (Nat.le_of_ble_eq_true rfl) (Nat.le_of_ble_eq_true rfl) (fun qv5 => ?_)
  refine v_wd (wd2 := [(r0, .inr (4, [.null, .null, .long 0])), (qv5, .inr (5, [.int 0, .int 0, .null, .null, .null]))]) rfl ?_
  refine v_dup E dX4_init_8 rfl ?_
  refine v_cJ_vG E dX4_init_9 (c_X5_init D qv5) cs_X4_11 rfl rfl rfl (Nat.le_of_ble_eq_true rfl) [1] rfl rfl ⟨Nat.le_of_ble_eq_true rfl, Nat.le_of_ble_eq_true rfl⟩ (wr := [(r0, .inr (4, [.null, .null, .long 0]))]) [0] rfl rfl (by decide) (fun u9 hu9 => ?_)
  refine v_wd (wd2 := [(r0, .inr (4, [.null, .null, .long 0])), (qv5, .inr (5, [.int 0, .int 0, .ref (u9 2), .ref (u9 3), .ref (u9 4)])), (u9 2, aI D 20 (fun _ => 0)), (u9 3, aI D 3 (fun _ => 0)), (u9 4, aG D 4 (gU u9 5)), (u9 5, aI D 20 (us0 0)), (u9 6, aI D 20 (us0 1)), (u9 7, aI D 20 (us0 2)), (u9 8, aI D 20 (us0 3))]) rfl ?_
  refine v_putF E I0 dX4_init_12 (ci := 4) rfl iwX4 tyX4 tyX4_ok nmX4 0 rfl 0 rfl fl_X4_12 rfl rfl rfl rfl rfl rfl ?_
  refine v_wd (wd2 := [(r0, .inr (4, [.ref qv5, .null, .long 0])), (qv5, .inr (5, [.int 0, .int 0, .ref (u9 2), .ref (u9 3), .ref (u9 4)])), (u9 2, aI D 20 (fun _ => 0)), (u9 3, aI D 3 (fun _ => 0)), (u9 4, aG D 4 (gU u9 5)), (u9 5, aI D 20 (us0 0)), (u9 6, aI D 20 (us0 1)), (u9 7, aI D 20 (us0 2)), (u9 8, aI D 20 (us0 3))]) rfl ?_
  refine v_aload_n E dX4_init_15 rfl ?_
  refine v_new E dX4_init_16 (ci := 1) rfl iwX1 tyX1 tyX1_ok cl_X4_18 ib_X1 tw_in_X1 [.int 0, .null, .null, .null, .null, .null] (fun j hj => by rcases (show j = 0 ∨ j = 1 ∨ j = 2 ∨ j = 3 ∨ j = 4 ∨ j = 5 by omega) with rfl | rfl | rfl | rfl | rfl | rfl <;> rfl) (Nat.le_of_ble_eq_true rfl) (Nat.le_of_ble_eq_true rfl) (fun qv16 => ?_)
  refine v_wd (wd2 := [(r0, .inr (4, [.ref qv5, .null, .long 0])), (qv5, .inr (5, [.int 0, .int 0, .ref (u9 2), .ref (u9 3), .ref (u9 4)])), (u9 2, aI D 20 (fun _ => 0)), (u9 3, aI D 3 (fun _ => 0)), (u9 4, aG D 4 (gU u9 5)), (u9 5, aI D 20 (us0 0)), (u9 6, aI D 20 (us0 1)), (u9 7, aI D 20 (us0 2)), (u9 8, aI D 20 (us0 3)), (qv16, .inr (1, [.int 0, .null, .null, .null, .null, .null]))]) rfl ?_
  refine v_dup E dX4_init_19 rfl ?_
  refine v_cI_vG E dX4_init_20 (c_X1_init D qv16) cs_X4_20 rfl rfl rfl (Nat.le_of_ble_eq_true rfl) [9] rfl rfl ⟨Nat.le_of_ble_eq_true rfl, Nat.le_of_ble_eq_true rfl⟩ (wr := [(r0, .inr (4, [.ref qv5, .null, .long 0])), (qv5, .inr (5, [.int 0, .int 0, .ref (u9 2), .ref (u9 3), .ref (u9 4)])), (u9 2, aI D 20 (fun _ => 0)), (u9 3, aI D 3 (fun _ => 0)), (u9 4, aG D 4 (gU u9 5)), (u9 5, aI D 20 (us0 0)), (u9 6, aI D 20 (us0 1)), (u9 7, aI D 20 (us0 2)), (u9 8, aI D 20 (us0 3))]) [0, 1, 2, 3, 4, 5, 6, 7, 8] rfl rfl (by decide) (fun u20 hu20 => ?_)
  refine v_wd (wd2 := [(r0, .inr (4, [.ref qv5, .null, .long 0])), (qv5, .inr (5, [.int 0, .int 0, .ref (u9 2), .ref (u9 3), .ref (u9 4)])), (u9 2, aI D 20 (fun _ => 0)), (u9 3, aI D 3 (fun _ => 0)), (u9 4, aG D 4 (gU u9 5)), (u9 5, aI D 20 (us0 0)), (u9 6, aI D 20 (us0 1)), (u9 7, aI D 20 (us0 2)), (u9 8, aI D 20 (us0 3)), (qv16, .inr (1, [.int 0, .ref (u20 10), .ref (u20 11), .ref (u20 12), .ref (u20 13), .ref (u20 14)])), (u20 10, aI D 40 (fun _ => 0)), (u20 11, aI D 40 (fun _ => 0)), (u20 12, aZ D 40 (fun _ => 0)), (u20 13, aZ D 40 (fun _ => 0)), (u20 14, aI D 100 (w_X1_init_n4))]) rfl ?_
  refine v_putF E I0 dX4_init_23 (ci := 4) rfl iwX4 tyX4 tyX4_ok nmX4 0 rfl 1 rfl fl_X4_21 rfl rfl rfl rfl rfl rfl ?_
  refine v_wd (wd2 := [(r0, .inr (4, [.ref qv5, .ref qv16, .long 0])), (qv5, .inr (5, [.int 0, .int 0, .ref (u9 2), .ref (u9 3), .ref (u9 4)])), (u9 2, aI D 20 (fun _ => 0)), (u9 3, aI D 3 (fun _ => 0)), (u9 4, aG D 4 (gU u9 5)), (u9 5, aI D 20 (us0 0)), (u9 6, aI D 20 (us0 1)), (u9 7, aI D 20 (us0 2)), (u9 8, aI D 20 (us0 3)), (qv16, .inr (1, [.int 0, .ref (u20 10), .ref (u20 11), .ref (u20 12), .ref (u20 13), .ref (u20 14)])), (u20 10, aI D 40 (fun _ => 0)), (u20 11, aI D 40 (fun _ => 0)), (u20 12, aZ D 40 (fun _ => 0)), (u20 13, aZ D 40 (fun _ => 0)), (u20 14, aI D 100 (w_X1_init_n4))]) rfl ?_
  refine v_wd (wd2 := [(r0, .inr (4, [.ref ((adS qv5 u9 qv16 u20) 1), .ref ((adS qv5 u9 qv16 u20) 9), .long 0])), ((adS qv5 u9 qv16 u20) 1, .inr (5, [.int 0, .int 0, .ref ((adS qv5 u9 qv16 u20) 2), .ref ((adS qv5 u9 qv16 u20) 3), .ref ((adS qv5 u9 qv16 u20) 4)])), ((adS qv5 u9 qv16 u20) 2, aI D 20 (fun _ => 0)), ((adS qv5 u9 qv16 u20) 3, aI D 3 (fun _ => 0)), ((adS qv5 u9 qv16 u20) 4, aG D 4 (gU (adS qv5 u9 qv16 u20) 5)), ((adS qv5 u9 qv16 u20) 5, aI D 20 (us0 0)), ((adS qv5 u9 qv16 u20) 6, aI D 20 (us0 1)), ((adS qv5 u9 qv16 u20) 7, aI D 20 (us0 2)), ((adS qv5 u9 qv16 u20) 8, aI D 20 (us0 3)), ((adS qv5 u9 qv16 u20) 9, .inr (1, [.int 0, .ref ((adS qv5 u9 qv16 u20) 10), .ref ((adS qv5 u9 qv16 u20) 11), .ref ((adS qv5 u9 qv16 u20) 12), .ref ((adS qv5 u9 qv16 u20) 13), .ref ((adS qv5 u9 qv16 u20) 14)])), ((adS qv5 u9 qv16 u20) 10, aI D 40 (fun _ => 0)), ((adS qv5 u9 qv16 u20) 11, aI D 40 (fun _ => 0)), ((adS qv5 u9 qv16 u20) 12, aZ D 40 (fun _ => 0)), ((adS qv5 u9 qv16 u20) 13, aZ D 40 (fun _ => 0)), ((adS qv5 u9 qv16 u20) 14, aI D 100 (w_X1_init_n4))]) (by rw [gU_eq (q := adS qv5 u9 qv16 u20) (r := u9) (a := 5) (b := 5) rfl rfl rfl rfl]; rfl) ?_
  exact v_vret E F dX4_init_26 rfl (adS qv5 u9 qv16 u20) trivial rfl (Nat.le_of_ble_eq_true rfl) (Nat.le_of_ble_eq_true rfl)

def ad6 (s : Nat) (p : Nat → Nat) (v : Nat) : Nat → Nat := fun k => match k with
  | 0 => s
  | 15 => v
  | k => p k
def w_X6_init_n14  : Nat → Int32 := (w_X4_init_n13)
set_option maxRecDepth 20000 in
/-- X6_init -/
theorem c_X6_init (D : va_G) (r0 : Nat) (l : Launch) : Ct l yX6_init cX6_init 1 none (rmM 3 64 16 383) D [.ref r0] [(r0, .inr (6, [.null, .null]))] (QV (S := Nat → Nat) D (fun _ => True) (fun u => [(r0, .inr (6, [.ref (u 0), .ref (u 15)])), (u 0, .inr (4, [.ref (u 1), .ref (u 9), .long 0])), (u 1, .inr (5, [.int 0, .int 0, .ref (u 2), .ref (u 3), .ref (u 4)])), (u 2, aI D 20 (fun _ => 0)), (u 3, aI D 3 (fun _ => 0)), (u 4, aG D 4 (gU u 5)), (u 5, aI D 20 (us0 0)), (u 6, aI D 20 (us0 1)), (u 7, aI D 20 (us0 2)), (u 8, aI D 20 (us0 3)), (u 9, .inr (1, [.int 0, .ref (u 10), .ref (u 11), .ref (u 12), .ref (u 13), .ref (u 14)])), (u 10, aI D 40 (fun _ => 0)), (u 11, aI D 40 (fun _ => 0)), (u 12, aZ D 40 (fun _ => 0)), (u 13, aZ D 40 (fun _ => 0)), (u 14, aI D 100 w_X6_init_n14), (u 15, aS D 2 (fun _ => none))])) := by
  refine Ct.ofVI 0 (lv0 := [some (.ref r0)]) (by decide) rfl rfl rfl (fun Z E F I0 => ?_)
  refine v_aload_n E dX6_init_0 rfl ?_
  refine v_objInit E dX6_init_1 mo_X6_3 rfl rfl (Nat.le_of_ble_eq_true rfl) ?_
  refine v_aload_n E dX6_init_4 rfl ?_
  refine v_new E dX6_init_5 (ci := 4) rfl iwX4 tyX4 tyX4_ok cl_X6_9 ib_X4 tw_in_X4 [.null, .null, .long 0] (fun j hj => by rcases (show j = 0 ∨ j = 1 ∨ j = 2 by omega) with rfl | rfl | rfl <;> rfl) (Nat.le_of_ble_eq_true rfl) (Nat.le_of_ble_eq_true rfl) (fun qv5 => ?_)
  refine v_wd (wd2 := [(r0, .inr (6, [.null, .null])), (qv5, .inr (4, [.null, .null, .long 0]))]) rfl ?_
  refine v_dup E dX6_init_8 rfl ?_
  refine v_cJ_vG E dX6_init_9 (c_X4_init D qv5) cs_X6_11 rfl rfl rfl (Nat.le_of_ble_eq_true rfl) [1] rfl rfl ⟨Nat.le_of_ble_eq_true rfl, Nat.le_of_ble_eq_true rfl⟩ (wr := [(r0, .inr (6, [.null, .null]))]) [0] rfl rfl (by decide) (fun u9 hu9 => ?_)
  refine v_wd (wd2 := [(r0, .inr (6, [.null, .null])), (qv5, .inr (4, [.ref (u9 1), .ref (u9 9), .long 0])), (u9 1, .inr (5, [.int 0, .int 0, .ref (u9 2), .ref (u9 3), .ref (u9 4)])), (u9 2, aI D 20 (fun _ => 0)), (u9 3, aI D 3 (fun _ => 0)), (u9 4, aG D 4 (gU u9 5)), (u9 5, aI D 20 (us0 0)), (u9 6, aI D 20 (us0 1)), (u9 7, aI D 20 (us0 2)), (u9 8, aI D 20 (us0 3)), (u9 9, .inr (1, [.int 0, .ref (u9 10), .ref (u9 11), .ref (u9 12), .ref (u9 13), .ref (u9 14)])), (u9 10, aI D 40 (fun _ => 0)), (u9 11, aI D 40 (fun _ => 0)), (u9 12, aZ D 40 (fun _ => 0)), (u9 13, aZ D 40 (fun _ => 0)), (u9 14, aI D 100 (w_X4_init_n13))]) rfl ?_
  refine v_putF E I0 dX6_init_12 (ci := 6) rfl iwX6 tyX6 tyX6_ok nmX6 0 rfl 0 rfl fl_X6_12 rfl rfl rfl rfl rfl rfl ?_
  refine v_wd (wd2 := [(r0, .inr (6, [.ref qv5, .null])), (qv5, .inr (4, [.ref (u9 1), .ref (u9 9), .long 0])), (u9 1, .inr (5, [.int 0, .int 0, .ref (u9 2), .ref (u9 3), .ref (u9 4)])), (u9 2, aI D 20 (fun _ => 0)), (u9 3, aI D 3 (fun _ => 0)), (u9 4, aG D 4 (gU u9 5)), (u9 5, aI D 20 (us0 0)), (u9 6, aI D 20 (us0 1)), (u9 7, aI D 20 (us0 2)), (u9 8, aI D 20 (us0 3)), (u9 9, .inr (1, [.int 0, .ref (u9 10), .ref (u9 11), .ref (u9 12), .ref (u9 13), .ref (u9 14)])), (u9 10, aI D 40 (fun _ => 0)), (u9 11, aI D 40 (fun _ => 0)), (u9 12, aZ D 40 (fun _ => 0)), (u9 13, aZ D 40 (fun _ => 0)), (u9 14, aI D 100 (w_X4_init_n13))]) rfl ?_
  refine v_aload_n E dX6_init_15 rfl ?_
  refine v_iconst E dX6_init_16 (v := 2) (by decide) ?_
  refine v_newS E 2 dX6_init_17 cl_X6_9 (show (2 : Int32) = nI 2 by decide) rfl (Nat.le_of_ble_eq_true rfl) (Nat.le_of_ble_eq_true rfl) (fun qv17 => ?_)
  refine v_wd (wd2 := [(r0, .inr (6, [.ref qv5, .null])), (qv5, .inr (4, [.ref (u9 1), .ref (u9 9), .long 0])), (u9 1, .inr (5, [.int 0, .int 0, .ref (u9 2), .ref (u9 3), .ref (u9 4)])), (u9 2, aI D 20 (fun _ => 0)), (u9 3, aI D 3 (fun _ => 0)), (u9 4, aG D 4 (gU u9 5)), (u9 5, aI D 20 (us0 0)), (u9 6, aI D 20 (us0 1)), (u9 7, aI D 20 (us0 2)), (u9 8, aI D 20 (us0 3)), (u9 9, .inr (1, [.int 0, .ref (u9 10), .ref (u9 11), .ref (u9 12), .ref (u9 13), .ref (u9 14)])), (u9 10, aI D 40 (fun _ => 0)), (u9 11, aI D 40 (fun _ => 0)), (u9 12, aZ D 40 (fun _ => 0)), (u9 13, aZ D 40 (fun _ => 0)), (u9 14, aI D 100 (w_X4_init_n13)), (qv17, aS D 2 (fun _ => none))]) rfl ?_
  refine v_putF E I0 dX6_init_20 (ci := 6) rfl iwX6 tyX6 tyX6_ok nmX6 0 rfl 1 rfl fl_X6_16 rfl rfl rfl rfl rfl rfl ?_
  refine v_wd (wd2 := [(r0, .inr (6, [.ref qv5, .ref qv17])), (qv5, .inr (4, [.ref (u9 1), .ref (u9 9), .long 0])), (u9 1, .inr (5, [.int 0, .int 0, .ref (u9 2), .ref (u9 3), .ref (u9 4)])), (u9 2, aI D 20 (fun _ => 0)), (u9 3, aI D 3 (fun _ => 0)), (u9 4, aG D 4 (gU u9 5)), (u9 5, aI D 20 (us0 0)), (u9 6, aI D 20 (us0 1)), (u9 7, aI D 20 (us0 2)), (u9 8, aI D 20 (us0 3)), (u9 9, .inr (1, [.int 0, .ref (u9 10), .ref (u9 11), .ref (u9 12), .ref (u9 13), .ref (u9 14)])), (u9 10, aI D 40 (fun _ => 0)), (u9 11, aI D 40 (fun _ => 0)), (u9 12, aZ D 40 (fun _ => 0)), (u9 13, aZ D 40 (fun _ => 0)), (u9 14, aI D 100 (w_X4_init_n13)), (qv17, aS D 2 (fun _ => none))]) rfl ?_
  refine v_wd (wd2 := [(r0, .inr (6, [.ref ((ad6 qv5 u9 qv17) 0), .ref ((ad6 qv5 u9 qv17) 15)])), ((ad6 qv5 u9 qv17) 0, .inr (4, [.ref ((ad6 qv5 u9 qv17) 1), .ref ((ad6 qv5 u9 qv17) 9), .long 0])), ((ad6 qv5 u9 qv17) 1, .inr (5, [.int 0, .int 0, .ref ((ad6 qv5 u9 qv17) 2), .ref ((ad6 qv5 u9 qv17) 3), .ref ((ad6 qv5 u9 qv17) 4)])), ((ad6 qv5 u9 qv17) 2, aI D 20 (fun _ => 0)), ((ad6 qv5 u9 qv17) 3, aI D 3 (fun _ => 0)), ((ad6 qv5 u9 qv17) 4, aG D 4 (gU (ad6 qv5 u9 qv17) 5)), ((ad6 qv5 u9 qv17) 5, aI D 20 (us0 0)), ((ad6 qv5 u9 qv17) 6, aI D 20 (us0 1)), ((ad6 qv5 u9 qv17) 7, aI D 20 (us0 2)), ((ad6 qv5 u9 qv17) 8, aI D 20 (us0 3)), ((ad6 qv5 u9 qv17) 9, .inr (1, [.int 0, .ref ((ad6 qv5 u9 qv17) 10), .ref ((ad6 qv5 u9 qv17) 11), .ref ((ad6 qv5 u9 qv17) 12), .ref ((ad6 qv5 u9 qv17) 13), .ref ((ad6 qv5 u9 qv17) 14)])), ((ad6 qv5 u9 qv17) 10, aI D 40 (fun _ => 0)), ((ad6 qv5 u9 qv17) 11, aI D 40 (fun _ => 0)), ((ad6 qv5 u9 qv17) 12, aZ D 40 (fun _ => 0)), ((ad6 qv5 u9 qv17) 13, aZ D 40 (fun _ => 0)), ((ad6 qv5 u9 qv17) 14, aI D 100 (w_X4_init_n13)), ((ad6 qv5 u9 qv17) 15, aS D 2 (fun _ => none))]) (by rw [gU_eq (q := ad6 qv5 u9 qv17) (r := u9) (a := 5) (b := 5) rfl rfl rfl rfl]; rfl) ?_
  exact v_vret E F dX6_init_23 rfl (ad6 qv5 u9 qv17) trivial rfl (Nat.le_of_ble_eq_true rfl) (Nat.le_of_ble_eq_true rfl)

def adM (a b c d e f g h i j : Nat) : Nat → Nat := fun k => match k with
  | 1 => a
  | 2 => b
  | 3 => c
  | 4 => d
  | 5 => e
  | 6 => f
  | 7 => g
  | 8 => h
  | 9 => i
  | 10 => j
  | _ => 0
set_option maxRecDepth 20000 in
/-- X7_init -/
theorem c_X7_init (D : va_G) (r0 : Nat) (l : Launch) : Ct l yX7_init cX7_init 1 none (rmM 1 20 10 2265) D [.ref r0] [(r0, .inr (7, [.null, .null, .null, .null, .null, .null, .null, .null, .null, .null]))] (QV (S := Nat → Nat) D (fun _ => True) (fun u => [(r0, .inr (7, [.ref (u 1), .ref (u 2), .ref (u 3), .ref (u 4), .ref (u 5), .ref (u 6), .ref (u 7), .ref (u 8), .ref (u 9), .ref (u 10)])), (u 1, aI D 703 (fun _ => 0)), (u 2, aI D 1406 (fun _ => 0)), (u 3, aZ D 2 (fun _ => 0)), (u 4, aZ D 40 (fun _ => 0)), (u 5, aI D 40 (fun _ => 0)), (u 6, aI D 20 (fun _ => 0)), (u 7, aI D 20 (fun _ => 0)), (u 8, aI D 4 (fun _ => 0)), (u 9, aI D 20 (fun _ => 0)), (u 10, aI D 10 (fun _ => 0))])) := by
  refine Ct.ofVI 0 (lv0 := [some (.ref r0)]) (by decide) rfl rfl rfl (fun Z E F I0 => ?_)
  refine v_aload_n E dX7_init_0 rfl ?_
  refine v_objInit E dX7_init_1 mo_X7_1 rfl rfl (Nat.le_of_ble_eq_true rfl) ?_
  refine v_aload_n E dX7_init_4 rfl ?_
  refine v_sipush E dX7_init_5 (v := 703) (by decide) ?_
  refine v_newI E 703 dX7_init_8 (show (703 : Int32) = nI 703 by decide) rfl (Nat.le_of_ble_eq_true rfl) (Nat.le_of_ble_eq_true rfl) (fun qv8 => ?_)
  refine v_wd (wd2 := [(r0, .inr (7, [.null, .null, .null, .null, .null, .null, .null, .null, .null, .null])), (qv8, aI D 703 (fun _ => 0))]) rfl ?_
  refine v_putF E I0 dX7_init_10 (ci := 7) rfl iwX7 tyX7 tyX7_ok nmX7 0 rfl 0 rfl fl_X7_7 rfl rfl rfl rfl rfl rfl ?_
  refine v_wd (wd2 := [(r0, .inr (7, [.ref qv8, .null, .null, .null, .null, .null, .null, .null, .null, .null])), (qv8, aI D 703 (fun _ => 0))]) rfl ?_
  refine v_aload_n E dX7_init_13 rfl ?_
  refine v_sipush E dX7_init_14 (v := 1406) (by decide) ?_
  refine v_newI E 1406 dX7_init_17 (show (1406 : Int32) = nI 1406 by decide) rfl (Nat.le_of_ble_eq_true rfl) (Nat.le_of_ble_eq_true rfl) (fun qv17 => ?_)
  refine v_wd (wd2 := [(r0, .inr (7, [.ref qv8, .null, .null, .null, .null, .null, .null, .null, .null, .null])), (qv8, aI D 703 (fun _ => 0)), (qv17, aI D 1406 (fun _ => 0))]) rfl ?_
  refine v_putF E I0 dX7_init_19 (ci := 7) rfl iwX7 tyX7 tyX7_ok nmX7 0 rfl 1 rfl fl_X7_13 rfl rfl rfl rfl rfl rfl ?_
  refine v_wd (wd2 := [(r0, .inr (7, [.ref qv8, .ref qv17, .null, .null, .null, .null, .null, .null, .null, .null])), (qv8, aI D 703 (fun _ => 0)), (qv17, aI D 1406 (fun _ => 0))]) rfl ?_
  refine v_aload_n E dX7_init_22 rfl ?_
  refine v_iconst E dX7_init_23 (v := 2) (by decide) ?_
  refine v_newZ E 2 dX7_init_24 (show (2 : Int32) = nI 2 by decide) rfl (Nat.le_of_ble_eq_true rfl) (Nat.le_of_ble_eq_true rfl) (fun qv24 => ?_)
  refine v_wd (wd2 := [(r0, .inr (7, [.ref qv8, .ref qv17, .null, .null, .null, .null, .null, .null, .null, .null])), (qv8, aI D 703 (fun _ => 0)), (qv17, aI D 1406 (fun _ => 0)), (qv24, aZ D 2 (fun _ => 0))]) rfl ?_
  refine v_putF E I0 dX7_init_26 (ci := 7) rfl iwX7 tyX7 tyX7_ok nmX7 0 rfl 2 rfl fl_X7_16 rfl rfl rfl rfl rfl rfl ?_
  refine v_wd (wd2 := [(r0, .inr (7, [.ref qv8, .ref qv17, .ref qv24, .null, .null, .null, .null, .null, .null, .null])), (qv8, aI D 703 (fun _ => 0)), (qv17, aI D 1406 (fun _ => 0)), (qv24, aZ D 2 (fun _ => 0))]) rfl ?_
  refine v_aload_n E dX7_init_29 rfl ?_
  refine v_bipush E dX7_init_30 (v := 40) (by decide) ?_
  refine v_newZ E 40 dX7_init_32 (show (40 : Int32) = nI 40 by decide) rfl (Nat.le_of_ble_eq_true rfl) (Nat.le_of_ble_eq_true rfl) (fun qv32 => ?_)
  refine v_wd (wd2 := [(r0, .inr (7, [.ref qv8, .ref qv17, .ref qv24, .null, .null, .null, .null, .null, .null, .null])), (qv8, aI D 703 (fun _ => 0)), (qv17, aI D 1406 (fun _ => 0)), (qv24, aZ D 2 (fun _ => 0)), (qv32, aZ D 40 (fun _ => 0))]) rfl ?_
  refine v_putF E I0 dX7_init_34 (ci := 7) rfl iwX7 tyX7 tyX7_ok nmX7 0 rfl 3 rfl fl_X7_20 rfl rfl rfl rfl rfl rfl ?_
  refine v_wd (wd2 := [(r0, .inr (7, [.ref qv8, .ref qv17, .ref qv24, .ref qv32, .null, .null, .null, .null, .null, .null])), (qv8, aI D 703 (fun _ => 0)), (qv17, aI D 1406 (fun _ => 0)), (qv24, aZ D 2 (fun _ => 0)), (qv32, aZ D 40 (fun _ => 0))]) rfl ?_
  refine v_aload_n E dX7_init_37 rfl ?_
  refine v_bipush E dX7_init_38 (v := 40) (by decide) ?_
  refine v_newI E 40 dX7_init_40 (show (40 : Int32) = nI 40 by decide) rfl (Nat.le_of_ble_eq_true rfl) (Nat.le_of_ble_eq_true rfl) (fun qv40 => ?_)
  refine v_wd (wd2 := [(r0, .inr (7, [.ref qv8, .ref qv17, .ref qv24, .ref qv32, .null, .null, .null, .null, .null, .null])), (qv8, aI D 703 (fun _ => 0)), (qv17, aI D 1406 (fun _ => 0)), (qv24, aZ D 2 (fun _ => 0)), (qv32, aZ D 40 (fun _ => 0)), (qv40, aI D 40 (fun _ => 0))]) rfl ?_
  refine v_putF E I0 dX7_init_42 (ci := 7) rfl iwX7 tyX7 tyX7_ok nmX7 0 rfl 4 rfl fl_X7_23 rfl rfl rfl rfl rfl rfl ?_
  refine v_wd (wd2 := [(r0, .inr (7, [.ref qv8, .ref qv17, .ref qv24, .ref qv32, .ref qv40, .null, .null, .null, .null, .null])), (qv8, aI D 703 (fun _ => 0)), (qv17, aI D 1406 (fun _ => 0)), (qv24, aZ D 2 (fun _ => 0)), (qv32, aZ D 40 (fun _ => 0)), (qv40, aI D 40 (fun _ => 0))]) rfl ?_
  refine v_aload_n E dX7_init_45 rfl ?_
  refine v_bipush E dX7_init_46 (v := 20) (by decide) ?_
  refine v_newI E 20 dX7_init_48 (show (20 : Int32) = nI 20 by decide) rfl (Nat.le_of_ble_eq_true rfl) (Nat.le_of_ble_eq_true rfl) (fun qv48 => ?_)
  refine v_wd (wd2 := [(r0, .inr (7, [.ref qv8, .ref qv17, .ref qv24, .ref qv32, .ref qv40, .null, .null, .null, .null, .null])), (qv8, aI D 703 (fun _ => 0)), (qv17, aI D 1406 (fun _ => 0)), (qv24, aZ D 2 (fun _ => 0)), (qv32, aZ D 40 (fun _ => 0)), (qv40, aI D 40 (fun _ => 0)), (qv48, aI D 20 (fun _ => 0))]) rfl ?_
  refine v_putF E I0 dX7_init_50 (ci := 7) rfl iwX7 tyX7 tyX7_ok nmX7 0 rfl 5 rfl fl_X7_26 rfl rfl rfl rfl rfl rfl ?_
  refine v_wd (wd2 := [(r0, .inr (7, [.ref qv8, .ref qv17, .ref qv24, .ref qv32, .ref qv40, .ref qv48, .null, .null, .null, .null])), (qv8, aI D 703 (fun _ => 0)), (qv17, aI D 1406 (fun _ => 0)), (qv24, aZ D 2 (fun _ => 0)), (qv32, aZ D 40 (fun _ => 0)), (qv40, aI D 40 (fun _ => 0)), (qv48, aI D 20 (fun _ => 0))]) rfl ?_
  refine v_aload_n E dX7_init_53 rfl ?_
  refine v_bipush E dX7_init_54 (v := 20) (by decide) ?_
  refine v_newI E 20 dX7_init_56 (show (20 : Int32) = nI 20 by decide) rfl (Nat.le_of_ble_eq_true rfl) (Nat.le_of_ble_eq_true rfl) (fun qv56 => ?_)
  refine v_wd (wd2 := [(r0, .inr (7, [.ref qv8, .ref qv17, .ref qv24, .ref qv32, .ref qv40, .ref qv48, .null, .null, .null, .null])), (qv8, aI D 703 (fun _ => 0)), (qv17, aI D 1406 (fun _ => 0)), (qv24, aZ D 2 (fun _ => 0)), (qv32, aZ D 40 (fun _ => 0)), (qv40, aI D 40 (fun _ => 0)), (qv48, aI D 20 (fun _ => 0)), (qv56, aI D 20 (fun _ => 0))]) rfl ?_
  refine v_putF E I0 dX7_init_58 (ci := 7) rfl iwX7 tyX7 tyX7_ok nmX7 0 rfl 6 rfl fl_X7_29 rfl rfl rfl rfl rfl rfl ?_
  refine v_wd (wd2 := [(r0, .inr (7, [.ref qv8, .ref qv17, .ref qv24, .ref qv32, .ref qv40, .ref qv48, .ref qv56, .null, .null, .null])), (qv8, aI D 703 (fun _ => 0)), (qv17, aI D 1406 (fun _ => 0)), (qv24, aZ D 2 (fun _ => 0)), (qv32, aZ D 40 (fun _ => 0)), (qv40, aI D 40 (fun _ => 0)), (qv48, aI D 20 (fun _ => 0)), (qv56, aI D 20 (fun _ => 0))]) rfl ?_
  refine v_aload_n E dX7_init_61 rfl ?_
  refine v_iconst E dX7_init_62 (v := 4) (by decide) ?_
  refine v_newI E 4 dX7_init_63 (show (4 : Int32) = nI 4 by decide) rfl (Nat.le_of_ble_eq_true rfl) (Nat.le_of_ble_eq_true rfl) (fun qv63 => ?_)
  refine v_wd (wd2 := [(r0, .inr (7, [.ref qv8, .ref qv17, .ref qv24, .ref qv32, .ref qv40, .ref qv48, .ref qv56, .null, .null, .null])), (qv8, aI D 703 (fun _ => 0)), (qv17, aI D 1406 (fun _ => 0)), (qv24, aZ D 2 (fun _ => 0)), (qv32, aZ D 40 (fun _ => 0)), (qv40, aI D 40 (fun _ => 0)), (qv48, aI D 20 (fun _ => 0)), (qv56, aI D 20 (fun _ => 0)), (qv63, aI D 4 (fun _ => 0))]) rfl ?_
  refine v_putF E I0 dX7_init_65 (ci := 7) rfl iwX7 tyX7 tyX7_ok nmX7 0 rfl 7 rfl fl_X7_32 rfl rfl rfl rfl rfl rfl ?_
  refine v_wd (wd2 := [(r0, .inr (7, [.ref qv8, .ref qv17, .ref qv24, .ref qv32, .ref qv40, .ref qv48, .ref qv56, .ref qv63, .null, .null])), (qv8, aI D 703 (fun _ => 0)), (qv17, aI D 1406 (fun _ => 0)), (qv24, aZ D 2 (fun _ => 0)), (qv32, aZ D 40 (fun _ => 0)), (qv40, aI D 40 (fun _ => 0)), (qv48, aI D 20 (fun _ => 0)), (qv56, aI D 20 (fun _ => 0)), (qv63, aI D 4 (fun _ => 0))]) rfl ?_
  refine v_aload_n E dX7_init_68 rfl ?_
  refine v_bipush E dX7_init_69 (v := 20) (by decide) ?_
  refine v_newI E 20 dX7_init_71 (show (20 : Int32) = nI 20 by decide) rfl (Nat.le_of_ble_eq_true rfl) (Nat.le_of_ble_eq_true rfl) (fun qv71 => ?_)
  refine v_wd (wd2 := [(r0, .inr (7, [.ref qv8, .ref qv17, .ref qv24, .ref qv32, .ref qv40, .ref qv48, .ref qv56, .ref qv63, .null, .null])), (qv8, aI D 703 (fun _ => 0)), (qv17, aI D 1406 (fun _ => 0)), (qv24, aZ D 2 (fun _ => 0)), (qv32, aZ D 40 (fun _ => 0)), (qv40, aI D 40 (fun _ => 0)), (qv48, aI D 20 (fun _ => 0)), (qv56, aI D 20 (fun _ => 0)), (qv63, aI D 4 (fun _ => 0)), (qv71, aI D 20 (fun _ => 0))]) rfl ?_
  refine v_putF E I0 dX7_init_73 (ci := 7) rfl iwX7 tyX7 tyX7_ok nmX7 0 rfl 8 rfl fl_X7_35 rfl rfl rfl rfl rfl rfl ?_
  refine v_wd (wd2 := [(r0, .inr (7, [.ref qv8, .ref qv17, .ref qv24, .ref qv32, .ref qv40, .ref qv48, .ref qv56, .ref qv63, .ref qv71, .null])), (qv8, aI D 703 (fun _ => 0)), (qv17, aI D 1406 (fun _ => 0)), (qv24, aZ D 2 (fun _ => 0)), (qv32, aZ D 40 (fun _ => 0)), (qv40, aI D 40 (fun _ => 0)), (qv48, aI D 20 (fun _ => 0)), (qv56, aI D 20 (fun _ => 0)), (qv63, aI D 4 (fun _ => 0)), (qv71, aI D 20 (fun _ => 0))]) rfl ?_
  refine v_aload_n E dX7_init_76 rfl ?_
  refine v_bipush E dX7_init_77 (v := 10) (by decide) ?_
  refine v_newI E 10 dX7_init_79 (show (10 : Int32) = nI 10 by decide) rfl (Nat.le_of_ble_eq_true rfl) (Nat.le_of_ble_eq_true rfl) (fun qv79 => ?_)
  refine v_wd (wd2 := [(r0, .inr (7, [.ref qv8, .ref qv17, .ref qv24, .ref qv32, .ref qv40, .ref qv48, .ref qv56, .ref qv63, .ref qv71, .null])), (qv8, aI D 703 (fun _ => 0)), (qv17, aI D 1406 (fun _ => 0)), (qv24, aZ D 2 (fun _ => 0)), (qv32, aZ D 40 (fun _ => 0)), (qv40, aI D 40 (fun _ => 0)), (qv48, aI D 20 (fun _ => 0)), (qv56, aI D 20 (fun _ => 0)), (qv63, aI D 4 (fun _ => 0)), (qv71, aI D 20 (fun _ => 0)), (qv79, aI D 10 (fun _ => 0))]) rfl ?_
  refine v_putF E I0 dX7_init_81 (ci := 7) rfl iwX7 tyX7 tyX7_ok nmX7 0 rfl 9 rfl fl_X7_38 rfl rfl rfl rfl rfl rfl ?_
  refine v_wd (wd2 := [(r0, .inr (7, [.ref qv8, .ref qv17, .ref qv24, .ref qv32, .ref qv40, .ref qv48, .ref qv56, .ref qv63, .ref qv71, .ref qv79])), (qv8, aI D 703 (fun _ => 0)), (qv17, aI D 1406 (fun _ => 0)), (qv24, aZ D 2 (fun _ => 0)), (qv32, aZ D 40 (fun _ => 0)), (qv40, aI D 40 (fun _ => 0)), (qv48, aI D 20 (fun _ => 0)), (qv56, aI D 20 (fun _ => 0)), (qv63, aI D 4 (fun _ => 0)), (qv71, aI D 20 (fun _ => 0)), (qv79, aI D 10 (fun _ => 0))]) rfl ?_
  refine v_wd (wd2 := [(r0, .inr (7, [.ref ((adM qv8 qv17 qv24 qv32 qv40 qv48 qv56 qv63 qv71 qv79) 1), .ref ((adM qv8 qv17 qv24 qv32 qv40 qv48 qv56 qv63 qv71 qv79) 2), .ref ((adM qv8 qv17 qv24 qv32 qv40 qv48 qv56 qv63 qv71 qv79) 3), .ref ((adM qv8 qv17 qv24 qv32 qv40 qv48 qv56 qv63 qv71 qv79) 4), .ref ((adM qv8 qv17 qv24 qv32 qv40 qv48 qv56 qv63 qv71 qv79) 5), .ref ((adM qv8 qv17 qv24 qv32 qv40 qv48 qv56 qv63 qv71 qv79) 6), .ref ((adM qv8 qv17 qv24 qv32 qv40 qv48 qv56 qv63 qv71 qv79) 7), .ref ((adM qv8 qv17 qv24 qv32 qv40 qv48 qv56 qv63 qv71 qv79) 8), .ref ((adM qv8 qv17 qv24 qv32 qv40 qv48 qv56 qv63 qv71 qv79) 9), .ref ((adM qv8 qv17 qv24 qv32 qv40 qv48 qv56 qv63 qv71 qv79) 10)])), ((adM qv8 qv17 qv24 qv32 qv40 qv48 qv56 qv63 qv71 qv79) 1, aI D 703 (fun _ => 0)), ((adM qv8 qv17 qv24 qv32 qv40 qv48 qv56 qv63 qv71 qv79) 2, aI D 1406 (fun _ => 0)), ((adM qv8 qv17 qv24 qv32 qv40 qv48 qv56 qv63 qv71 qv79) 3, aZ D 2 (fun _ => 0)), ((adM qv8 qv17 qv24 qv32 qv40 qv48 qv56 qv63 qv71 qv79) 4, aZ D 40 (fun _ => 0)), ((adM qv8 qv17 qv24 qv32 qv40 qv48 qv56 qv63 qv71 qv79) 5, aI D 40 (fun _ => 0)), ((adM qv8 qv17 qv24 qv32 qv40 qv48 qv56 qv63 qv71 qv79) 6, aI D 20 (fun _ => 0)), ((adM qv8 qv17 qv24 qv32 qv40 qv48 qv56 qv63 qv71 qv79) 7, aI D 20 (fun _ => 0)), ((adM qv8 qv17 qv24 qv32 qv40 qv48 qv56 qv63 qv71 qv79) 8, aI D 4 (fun _ => 0)), ((adM qv8 qv17 qv24 qv32 qv40 qv48 qv56 qv63 qv71 qv79) 9, aI D 20 (fun _ => 0)), ((adM qv8 qv17 qv24 qv32 qv40 qv48 qv56 qv63 qv71 qv79) 10, aI D 10 (fun _ => 0))]) rfl ?_
  exact v_vret E F dX7_init_84 rfl (adM qv8 qv17 qv24 qv32 qv40 qv48 qv56 qv63 qv71 qv79) trivial rfl (Nat.le_of_ble_eq_true rfl) (Nat.le_of_ble_eq_true rfl)

