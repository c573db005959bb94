/-! ChangeImpact: the constructors of Rebuild, Shards, Chain; what makes them -/
def s_X2_init_27 (us : Nat → Nat → Int32) (i : Nat) (z_ : Int32 × Nat × (Nat → Int32)) : Int32 × Nat × (Nat → Int32) := match z_ with
  | (un, lk, od1) => if (r_X6_smallestTarget (un &&& ((r_X5_usersOfAny us un 7) ^^^ (-1)))) = (-10) then (un, lk, od1) else (un &&& ((r_X6_setOf (r_X6_smallestTarget (un &&& ((r_X5_usersOfAny us un 7) ^^^ (-1))))) ^^^ (-1)), (lk + 1), upd od1 lk (r_X6_smallestTarget (un &&& ((r_X5_usersOfAny us un 7) ^^^ (-1)))))
def b_X2_init_27  (z_ : Int32 × Nat × (Nat → Int32)) : Bool := match z_ with
  | (un, lk, od1) => decide (un = 0)
def w_X2_init_0_1 (rb : Int32) : Int32 := rb
def w_X2_init_0_3 (us : Nat → Nat → Int32) (rb : Int32) : Int32 := nI ((brkN b_X2_init_27 (s_X2_init_27 us) 20 0 (rb, 0, fun _ => 0)).2.1)
def w_X2_init_n0 (us : Nat → Nat → Int32) (rb : Int32) : Nat → Int32 := (brkN b_X2_init_27 (s_X2_init_27 us) 20 0 (rb, 0, fun _ => 0)).2.2
set_option maxRecDepth 20000 in
/-- X2_init -/
theorem c_X2_init (D : va_G) (r0 : Nat) (q : Nat → Nat) (ct : Int32) (dp : Int32) (we : Nat → Int32) (ok : Nat → Int32) (us : Nat → Nat → Int32) (rb : Int32) (l : Launch) : Ct l yX2_init cX2_init 6 none (rmM 2 48 1 20) D [.ref r0, .ref (q 1), .int rb] [(r0, .inr (2, [.null, .int 0, .null, .int 0])), (q 1, .inr (5, [.int ct, .int dp, .ref (q 2), .ref (q 3), .ref (q 4)])), (q 2, aI D 20 we), (q 3, aI D 3 ok), (q 4, aG D 4 (gU q 5)), (q 5, aI D 20 (us 0)), (q 6, aI D 20 (us 1)), (q 7, aI D 20 (us 2)), (q 8, aI D 20 (us 3))] (QV (S := Nat) D (fun _ => True) (fun u => [(r0, .inr (2, [.ref (q 1), .int (w_X2_init_0_1 rb), .ref u, .int (w_X2_init_0_3 us rb)])), (q 1, .inr (5, [.int ct, .int dp, .ref (q 2), .ref (q 3), .ref (q 4)])), (q 2, aI D 20 we), (q 3, aI D 3 ok), (q 4, aG D 4 (gU q 5)), (q 5, aI D 20 (us 0)), (q 6, aI D 20 (us 1)), (q 7, aI D 20 (us 2)), (q 8, aI D 20 (us 3)), (u, aI D 20 (w_X2_init_n0 us rb))])) := by
  refine Ct.ofVI 3 (lv0 := [some (.ref r0), some (.ref (q 1)), some (.int rb), none, none, none]) (by decide) rfl rfl rfl (fun Z E F I0 => ?_)
  refine v_aload_n E dX2_init_0 rfl ?_
  refine v_objInit E dX2_init_1 mo_X2_3 rfl rfl (Nat.le_of_ble_eq_true rfl) ?_
  refine v_aload_n E dX2_init_4 rfl ?_
  refine v_bipush E dX2_init_5 (v := 20) (by decide) ?_
  refine v_newI E 20 dX2_init_7 (show (20 : Int32) = nI 20 by decide) rfl (Nat.le_of_ble_eq_true rfl) (Nat.le_of_ble_eq_true rfl) (fun qv7 => ?_)
  refine v_wd (wd2 := [(r0, .inr (2, [.null, .int 0, .null, .int 0])), (q 1, .inr (5, [.int ct, .int dp, .ref (q 2), .ref (q 3), .ref (q 4)])), (q 2, aI D 20 we), (q 3, aI D 3 ok), (q 4, aG D 4 (gU q 5)), (q 5, aI D 20 (us 0)), (q 6, aI D 20 (us 1)), (q 7, aI D 20 (us 2)), (q 8, aI D 20 (us 3)), (qv7, aI D 20 (fun _ => 0))]) rfl ?_
  refine v_putF E I0 dX2_init_9 (ci := 2) rfl iwX2 tyX2 tyX2_ok nmX2 0 rfl 2 rfl fl_X2_9 rfl rfl rfl rfl rfl rfl ?_
  refine v_wd (wd2 := [(r0, .inr (2, [.null, .int 0, .ref qv7, .int 0])), (q 1, .inr (5, [.int ct, .int dp, .ref (q 2), .ref (q 3), .ref (q 4)])), (q 2, aI D 20 we), (q 3, aI D 3 ok), (q 4, aG D 4 (gU q 5)), (q 5, aI D 20 (us 0)), (q 6, aI D 20 (us 1)), (q 7, aI D 20 (us 2)), (q 8, aI D 20 (us 3)), (qv7, aI D 20 (fun _ => 0))]) rfl ?_
  refine v_aload_n E dX2_init_12 rfl ?_
  refine v_aload_n E dX2_init_13 rfl ?_
  refine v_putF E I0 dX2_init_14 (ci := 2) rfl iwX2 tyX2 tyX2_ok nmX2 0 rfl 0 rfl fl_X2_15 rfl rfl rfl rfl rfl rfl ?_
  refine v_wd (wd2 := [(r0, .inr (2, [.ref (q 1), .int 0, .ref qv7, .int 0])), (q 1, .inr (5, [.int ct, .int dp, .ref (q 2), .ref (q 3), .ref (q 4)])), (q 2, aI D 20 we), (q 3, aI D 3 ok), (q 4, aG D 4 (gU q 5)), (q 5, aI D 20 (us 0)), (q 6, aI D 20 (us 1)), (q 7, aI D 20 (us 2)), (q 8, aI D 20 (us 3)), (qv7, aI D 20 (fun _ => 0))]) rfl ?_
  refine v_aload_n E dX2_init_17 rfl ?_
  refine v_iload_n E dX2_init_18 rfl ?_
  refine v_putF E I0 dX2_init_19 (ci := 2) rfl iwX2 tyX2 tyX2_ok nmX2 0 rfl 1 rfl fl_X2_19 rfl rfl rfl rfl rfl rfl ?_
  refine v_wd (wd2 := [(r0, .inr (2, [.ref (q 1), .int rb, .ref qv7, .int 0])), (q 1, .inr (5, [.int ct, .int dp, .ref (q 2), .ref (q 3), .ref (q 4)])), (q 2, aI D 20 we), (q 3, aI D 3 ok), (q 4, aG D 4 (gU q 5)), (q 5, aI D 20 (us 0)), (q 6, aI D 20 (us 1)), (q 7, aI D 20 (us 2)), (q 8, aI D 20 (us 3)), (qv7, aI D 20 (fun _ => 0))]) rfl ?_
  refine v_iload_n E dX2_init_22 rfl ?_
  refine v_istore_n E dX2_init_23 rfl rfl ?_
  refine v_iconst E dX2_init_24 (v := 0) (by decide) ?_
  refine v_istore E dX2_init_25 rfl rfl ?_
  have L27 : ∀ (n i : Nat) (un : Int32) (lk : Nat) (od1 : Nat → Int32), i + n = 20 → lk ≤ i → V Z D 1 20 [(r0, .inr (2, [.ref (q 1), .int rb, .ref qv7, .int (nI ((brkN b_X2_init_27 (s_X2_init_27 us) n i (un, lk, od1)).2.1))])), (q 1, .inr (5, [.int ct, .int dp, .ref (q 2), .ref (q 3), .ref (q 4)])), (q 2, aI D 20 we), (q 3, aI D 3 ok), (q 4, aG D 4 (gU q 5)), (q 5, aI D 20 (us 0)), (q 6, aI D 20 (us 1)), (q 7, aI D 20 (us 2)), (q 8, aI D 20 (us 3)), (qv7, aI D 20 ((brkN b_X2_init_27 (s_X2_init_27 us) n i (un, lk, od1)).2.2))] [some (.ref r0), some (.ref (q 1)), some (.int rb), some (.int ((brkN b_X2_init_27 (s_X2_init_27 us) n i (un, lk, od1)).1)), none, none] [] 98 → V Z D 1 20 [(r0, .inr (2, [.ref (q 1), .int rb, .ref qv7, .int (nI lk)])), (q 1, .inr (5, [.int ct, .int dp, .ref (q 2), .ref (q 3), .ref (q 4)])), (q 2, aI D 20 we), (q 3, aI D 3 ok), (q 4, aG D 4 (gU q 5)), (q 5, aI D 20 (us 0)), (q 6, aI D 20 (us 1)), (q 7, aI D 20 (us 2)), (q 8, aI D 20 (us 3)), (qv7, aI D 20 od1)] [some (.ref r0), some (.ref (q 1)), some (.int rb), some (.int un), some (.int (nI i)), none] [] 27 := by
    intro n
    induction n with
    | zero =>
      intro i un lk od1 hi hlk K27
      have hiN : i = 20 := by omega
      rw [hiN]
      refine v_iload E dX2_init_27 rfl ?_
      refine v_bipush E dX2_init_29 (v := 20) (by decide) ?_
      refine v_icmp_ge E 98 dX2_init_31 (by decide) (fun c_31 => ?_) (fun c_31 => ?_)
      · refine v_mask [true, true, true, true, false, true] rfl ?_
        exact K27
      · exact absurd (leN (a := 20) (b := 20) (show (20 : Int32) = nI 20 by decide) rfl (by omega) (by omega)) c_31
    | succ n ih =>
      intro i un lk od1 hi hlk K27
      refine v_iload E dX2_init_27 rfl ?_
      refine v_bipush E dX2_init_29 (v := 20) (by decide) ?_
      refine v_icmp_ge E 98 dX2_init_31 (by decide) (fun c_31 => ?_) (fun c_31 => ?_)
      · exact absurd c_31 (nleN (a := 20) (b := i) (show (20 : Int32) = nI 20 by decide) rfl (by omega) (by omega))
      · refine v_iload_n E dX2_init_34 rfl ?_
        refine v_if_eq E 98 dX2_init_35 (by decide) (fun c_35 => ?_) (fun c_35 => ?_)
        · rw [brkN_t (show b_X2_init_27 (un, lk, od1) = true from decide_eq_true c_35)] at K27
          refine v_mask [true, true, true, true, false, true] rfl ?_
          exact K27
        · refine v_iload_n E dX2_init_38 rfl ?_
          refine v_aload_n E dX2_init_39 rfl ?_
          refine v_iload_n E dX2_init_40 rfl ?_
          refine v_bipush E dX2_init_41 (v := 7) (by decide) ?_
          refine v_cV_i E dX2_init_43 (c_X5_usersOfAny D q ct dp we ok us un 7) cs_X2_23 rfl rfl rfl (Nat.le_of_ble_eq_true rfl) 1 rfl rfl [1, 2, 3, 4, 5, 6, 7, 8] rfl rfl ⟨Nat.le_of_ble_eq_true rfl, Nat.le_of_ble_eq_true rfl⟩ ?_
          refine v_iconst E dX2_init_46 (v := -1) (by decide) ?_
          refine v_ixor E dX2_init_47 ?_
          refine v_iand E dX2_init_48 ?_
          refine v_cN_i E dX2_init_49 (c_X6_smallestTarget D (un &&& ((r_X5_usersOfAny us un 7) ^^^ (-1)))) cs_X2_29 rfl rfl rfl (Nat.le_of_ble_eq_true rfl) [] rfl rfl ⟨Nat.le_of_ble_eq_true rfl, Nat.le_of_ble_eq_true rfl⟩ ?_
          refine v_istore E dX2_init_52 rfl rfl ?_
          refine v_iload E dX2_init_54 rfl ?_
          refine v_bipush E dX2_init_56 (v := -10) (by decide) ?_
          refine v_icmp_eq E 92 dX2_init_58 (by decide) (fun c_58 => ?_) (fun c_58 => ?_)
          · refine v_iinc E dX2_init_92 (v := nI (i + 1)) rfl (inc1 _) rfl rfl ?_
            refine v_goto E 27 dX2_init_95 (by decide) ?_
            have hs : s_X2_init_27 us i (un, lk, od1) = (un, lk, od1) := by simp only [s_X2_init_27, if_pos c_58]
            rw [brkN_f (show b_X2_init_27 (un, lk, od1) = false from decide_eq_false c_35), hs] at K27
            refine v_mask [true, true, true, true, true, false] rfl ?_
            exact ih (i + 1) un lk od1 (by omega) (by omega) K27
          · refine v_aload_n E dX2_init_61 rfl ?_
            refine v_get E dX2_init_62 (ci := 2) rfl iwX2 0 rfl 2 rfl fl_X2_9 rfl ?_
            refine v_aload_n E dX2_init_65 rfl ?_
            refine v_get E dX2_init_66 (ci := 2) rfl iwX2 0 rfl 3 rfl fl_X2_33 rfl ?_
            refine v_iload E dX2_init_69 rfl ?_
            refine v_iast E dX2_init_71 9 rfl lk rfl (by omega) rfl ?_
            refine v_wd (wd2 := [(r0, .inr (2, [.ref (q 1), .int rb, .ref qv7, .int (nI lk)])), (q 1, .inr (5, [.int ct, .int dp, .ref (q 2), .ref (q 3), .ref (q 4)])), (q 2, aI D 20 we), (q 3, aI D 3 ok), (q 4, aG D 4 (gU q 5)), (q 5, aI D 20 (us 0)), (q 6, aI D 20 (us 1)), (q 7, aI D 20 (us 2)), (q 8, aI D 20 (us 3)), (qv7, aI D 20 (upd od1 lk (r_X6_smallestTarget (un &&& ((r_X5_usersOfAny us un 7) ^^^ (-1))))))]) rfl ?_
            refine v_aload_n E dX2_init_72 rfl ?_
            refine v_dup E dX2_init_73 rfl ?_
            refine v_get E dX2_init_74 (ci := 2) rfl iwX2 0 rfl 3 rfl fl_X2_33 rfl ?_
            refine v_iconst E dX2_init_77 (v := 1) (by decide) ?_
            refine v_iadd E dX2_init_78 ?_
            refine v_put E dX2_init_79 (ci := 2) rfl iwX2 tyX2 tyX2_ok nmX2 0 rfl 3 rfl fl_X2_33 rfl rfl rfl rfl rfl ?_
            refine v_wd (wd2 := [(r0, .inr (2, [.ref (q 1), .int rb, .ref qv7, .int ((nI lk) + 1)])), (q 1, .inr (5, [.int ct, .int dp, .ref (q 2), .ref (q 3), .ref (q 4)])), (q 2, aI D 20 we), (q 3, aI D 3 ok), (q 4, aG D 4 (gU q 5)), (q 5, aI D 20 (us 0)), (q 6, aI D 20 (us 1)), (q 7, aI D 20 (us 2)), (q 8, aI D 20 (us 3)), (qv7, aI D 20 (upd od1 lk (r_X6_smallestTarget (un &&& ((r_X5_usersOfAny us un 7) ^^^ (-1))))))]) rfl ?_
            refine v_iload_n E dX2_init_82 rfl ?_
            refine v_iload E dX2_init_83 rfl ?_
            refine v_cN_i E dX2_init_85 (c_X6_setOf D (r_X6_smallestTarget (un &&& ((r_X5_usersOfAny us un 7) ^^^ (-1))))) cs_X2_36 rfl rfl rfl (Nat.le_of_ble_eq_true rfl) [] rfl rfl ⟨Nat.le_of_ble_eq_true rfl, Nat.le_of_ble_eq_true rfl⟩ ?_
            refine v_iconst E dX2_init_88 (v := -1) (by decide) ?_
            refine v_ixor E dX2_init_89 ?_
            refine v_iand E dX2_init_90 ?_
            refine v_istore_n E dX2_init_91 rfl rfl ?_
            refine v_iinc E dX2_init_92 (v := nI (i + 1)) rfl (inc1 _) rfl rfl ?_
            refine v_goto E 27 dX2_init_95 (by decide) ?_
            rw [show (nI lk) + 1 = nI (lk + 1) from (hadd rfl (show (1 : Int32) = nI 1 by decide))]
            have hs : s_X2_init_27 us i (un, lk, od1) = (un &&& ((r_X6_setOf (r_X6_smallestTarget (un &&& ((r_X5_usersOfAny us un 7) ^^^ (-1))))) ^^^ (-1)), (lk + 1), upd od1 lk (r_X6_smallestTarget (un &&& ((r_X5_usersOfAny us un 7) ^^^ (-1))))) := by simp only [s_X2_init_27, if_neg c_58]
            rw [brkN_f (show b_X2_init_27 (un, lk, od1) = false from decide_eq_false c_35), hs] at K27
            refine v_mask [true, true, true, true, true, false] rfl ?_
            exact ih (i + 1) (un &&& ((r_X6_setOf (r_X6_smallestTarget (un &&& ((r_X5_usersOfAny us un 7) ^^^ (-1))))) ^^^ (-1))) (lk + 1) (upd od1 lk (r_X6_smallestTarget (un &&& ((r_X5_usersOfAny us un 7) ^^^ (-1))))) (by omega) (by omega) K27
  refine L27 20 0 rb 0 (fun _ => 0) (by omega) (Nat.le_refl 0) ?_
  exact v_vret E F dX2_init_98 rfl qv7 trivial rfl (Nat.le_of_ble_eq_true rfl) (Nat.le_of_ble_eq_true rfl)

