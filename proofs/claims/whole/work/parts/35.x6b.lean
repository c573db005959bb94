/-! ChangeImpact: the constructors of Rebuild, Shards, Chain; what makes them -/
def s_X2_init_27 (us : Nat → Nat → Int32) (i : Nat) (z_ : Int32 × Nat × (Nat → Int32)) : Int32 × Nat × (Nat → Int32) := match z_ with
  | (un, lk, od1) => if (r_X6_smallestTarget (un &&& ((r_X5_usersOfAny us un 7) ^^^ (-1)))) = (-10) then (un, lk, od1) else (un &&& ((r_X6_setOf (r_X6_smallestTarget (un &&& ((r_X5_usersOfAny us un 7) ^^^ (-1))))) ^^^ (-1)), (lk + 1), upd od1 lk (r_X6_smallestTarget (un &&& ((r_X5_usersOfAny us un 7) ^^^ (-1)))))
def b_X2_init_27  (z_ : Int32 × Nat × (Nat → Int32)) : Bool := match z_ with
  | (un, lk, od1) => decide (un = 0)
def w_X2_init_0_1 (rb : Int32) : Int32 := rb
def w_X2_init_0_3 (us : Nat → Nat → Int32) (rb : Int32) : Int32 := nI ((brkN b_X2_init_27 (s_X2_init_27 us) 20 0 (rb, 0, fun _ => 0)).2.1)
def w_X2_init_n0 (us : Nat → Nat → Int32) (rb : Int32) : Nat → Int32 := (brkN b_X2_init_27 (s_X2_init_27 us) 20 0 (rb, 0, fun _ => 0)).2.2
set_option maxRecDepth 20000 in
/-- X2_init -/
theorem c_X2_init (D : va_G) (r0 : Nat) (q : Nat → Nat) (ct : Int32) (dp : Int32) (we : Nat → Int32) (ok : Nat → Int32) (us : Nat → Nat → Int32) (rb : Int32) (l : Launch) : Ct l yX2_init cX2_init 6 none (rmM 2 48 1 20) D [.ref r0, .ref (q 1), .int rb] [(r0, .inr (2, [.null, .int 0, .null, .int 0])), (q 1, .inr (5, [.int ct, .int dp, .ref (q 2), .ref (q 3), .ref (q 4)])), (q 2, aI D 20 we), (q 3, aI D 3 ok), (q 4, aG D 4 (gU q 5)), (q 5, aI D 20 (us 0)), (q 6, aI D 20 (us 1)), (q 7, aI D 20 (us 2)), (q 8, aI D 20 (us 3))] (QV (S := Nat) D (fun _ => True) (fun u => [(r0, .inr (2, [.ref (q 1), .int (w_X2_init_0_1 rb), .ref u, .int (w_X2_init_0_3 us rb)])), (q 1, .inr (5, [.int ct, .int dp, .ref (q 2), .ref (q 3), .ref (q 4)])), (q 2, aI D 20 we), (q 3, aI D 3 ok), (q 4, aG D 4 (gU q 5)), (q 5, aI D 20 (us 0)), (q 6, aI D 20 (us 1)), (q 7, aI D 20 (us 2)), (q 8, aI D 20 (us 3)), (u, aI D 20 (w_X2_init_n0 us rb))])) := by
  refine Ct.ofVI 3 (lv0 := [some (.ref r0), some (.ref (q 1)), some (.int rb), none, none, none]) (by decide) rfl rfl rfl (fun Z E F I0 => ?_)
  refine v_aload_n E dX2_init_0 rfl ?_
  refine v_objInit E dX2_init_1 mo_X2_3 rfl rfl (Nat.le_of_ble_eq_true rfl) ?_
  refine v_aload_n E dX2_init_4 rfl ?_
  refine v_bipush E dX2_init_5 (v := 20) (by decide) ?_
  refine v_newI E 20 dX2_init_7 (show (20 : Int32) = nI 20 by decide) rfl (Nat.le_of_ble_eq_true rfl) (Nat.le_of_ble_eq_true rfl) (fun qv7 => ?_)
  refine v_wd (wd2 := [(r0, .inr (2, [.null, .int 0, .null, .int 0])), (q 1, .inr (5, [.int ct, .int dp, .ref (q 2), .ref (q 3), .ref (q 4)])), (q 2, aI D 20 we), (q 3, aI D 3 ok), (q 4, aG D 4 (gU q 5)), (q 5, aI D 20 (us 0)), (q 6, aI D 20 (us 1)), (q 7, aI D 20 (us 2)), (q 8, aI D 20 (us 3)), (qv7, aI D 20 (fun _ => 0))]) rfl ?_
  refine v_putF E I0 dX2_init_9 (ci := 2) rfl iwX2 tyX2 tyX2_ok nmX2 0 rfl 2 rfl fl_X2_9 rfl rfl rfl rfl rfl rfl ?_
  refine v_wd (wd2 := [(r0, .inr (2, [.null, .int 0, .ref qv7, .int 0])), (q 1, .inr (5, [.int ct, .int dp, .ref (q 2), .ref (q 3), .ref (q 4)])), (q 2, aI D 20 we), (q 3, aI D 3 ok), (q 4, aG D 4 (gU q 5)), (q 5, aI D 20 (us 0)), (q 6, aI D 20 (us 1)), (q 7, aI D 20 (us 2)), (q 8, aI D 20 (us 3)), (qv7, aI D 20 (fun _ => 0))]) rfl ?_
  refine v_aload_n E dX2_init_12 rfl ?_
  refine v_aload_n E dX2_init_13 rfl ?_
  refine v_putF E I0 dX2_init_14 (ci := 2) rfl iwX2 tyX2 tyX2_ok nmX2 0 rfl 0 rfl fl_X2_15 rfl rfl rfl rfl rfl rfl ?_
  refine v_wd (wd2 := [(r0, .inr (2, [.ref (q 1), .int 0, .ref qv7, .int 0])), (q 1, .inr (5, [.int ct, .int dp, .ref (q 2), .ref (q 3), .ref (q 4)])), (q 2, aI D 20 we), (q 3, aI D 3 ok), (q 4, aG D 4 (gU q 5)), (q 5, aI D 20 (us 0)), (q 6, aI D 20 (us 1)), (q 7, aI D 20 (us 2)), (q 8, aI D 20 (us 3)), (qv7, aI D 20 (fun _ => 0))]) rfl ?_
  refine v_aload_n E dX2_init_17 rfl ?_
  refine v_iload_n E dX2_init_18 rfl ?_
  refine v_putF E I0 dX2_init_19 (ci := 2) rfl iwX2 tyX2 tyX2_ok nmX2 0 rfl 1 rfl fl_X2_19 rfl rfl rfl rfl rfl rfl ?_
  refine v_wd (wd2 := [(r0, .inr (2, [.ref (q 1), .int rb, .ref qv7, .int 0])), (q 1, .inr (5, [.int ct, .int dp, .ref (q 2), .ref (q 3), .ref (q 4)])), (q 2, aI D 20 we), (q 3, aI D 3 ok), (q 4, aG D 4 (gU q 5)), (q 5, aI D 20 (us 0)), (q 6, aI D 20 (us 1)), (q 7, aI D 20 (us 2)), (q 8, aI D 20 (us 3)), (qv7, aI D 20 (fun _ => 0))]) rfl ?_
  refine v_iload_n E dX2_init_22 rfl ?_
  refine v_istore_n E dX2_init_23 rfl rfl ?_
  refine v_iconst E dX2_init_24 (v := 0) (by decide) ?_
  refine v_istore E dX2_init_25 rfl rfl ?_
  have L27 : ∀ (n i : Nat) (un : Int32) (lk : Nat) (od1 : Nat → Int32), i + n = 20 → lk ≤ i → V Z D 1 20 [(r0, .inr (2, [.ref (q 1), .int rb, .ref qv7, .int (nI ((brkN b_X2_init_27 (s_X2_init_27 us) n i (un, lk, od1)).2.1))])), (q 1, .inr (5, [.int ct, .int dp, .ref (q 2), .ref (q 3), .ref (q 4)])), (q 2, aI D 20 we), (q 3, aI D 3 ok), (q 4, aG D 4 (gU q 5)), (q 5, aI D 20 (us 0)), (q 6, aI D 20 (us 1)), (q 7, aI D 20 (us 2)), (q 8, aI D 20 (us 3)), (qv7, aI D 20 ((brkN b_X2_init_27 (s_X2_init_27 us) n i (un, lk, od1)).2.2))] [some (.ref r0), some (.ref (q 1)), some (.int rb), some (.int ((brkN b_X2_init_27 (s_X2_init_27 us) n i (un, lk, od1)).1)), none, none] [] 98 → V Z D 1 20 [(r0, .inr (2, [.ref (q 1), .int rb, .ref qv7, .int (nI lk)])), (q 1, .inr (5, [.int ct, .int dp, .ref (q 2), .ref (q 3), .ref (q 4)])), (q 2, aI D 20 we), (q 3, aI D 3 ok), (q 4, aG D 4 (gU q 5)), (q 5, aI D 20 (us 0)), (q 6, aI D 20 (us 1)), (q 7, aI D 20 (us 2)), (q 8, aI D 20 (us 3)), (qv7, aI D 20 od1)] [some (.ref r0), some (.ref (q 1)), some (.int rb), some (.int un), some (.int (nI i)), none] [] 27 := by
    intro n
    induction n with
    | zero =>
      intro i un lk od1 hi hlk K27
      have hiN : i = 20 := by omega
      rw [hiN]
      refine v_iload E dX2_init_27 rfl ?_
      refine v_bipush E dX2_init_29 (v := 20) (by decide) ?_
      refine v_icmp_ge E 98 dX2_init_31 (by decide) (fun c_31 => ?_) (fun c_31 => ?_)
      · refine v_mask [true, true, true, true, false, true] rfl ?_
        exact K27
      · exact absurd (leN (a := 20) (b := 20) (show (20 : Int32) = nI 20 by decide) rfl (by omega) (by omega)) c_31
    | succ n ih =>
      intro i un lk od1 hi hlk K27
      refine v_iload E dX2_init_27 rfl ?_
      refine v_bipush E dX2_init_29 (v := 20) (by decide) ?_
      refine v_icmp_ge E 98 dX2_init_31 (by decide) (fun c_31 => ?_) (fun c_31 => ?_)
      · exact absurd c_31 (nleN (a := 20) (b := i) (show (20 : Int32) = nI 20 by decide) rfl (by omega) (by omega))
      · refine v_iload_n E dX2_init_34 rfl ?_
        refine v_if_eq E 98 dX2_init_35 (by decide) (fun c_35 => ?_) (fun c_35 => ?_)
        · rw [brkN_t (show b_X2_init_27 (un, lk, od1) = true from decide_eq_true c_35)] at K27
          refine v_mask [true, true, true, true, false, true] rfl ?_
          exact K27
        · refine v_iload_n E dX2_init_38 rfl ?_
          refine v_aload_n E dX2_init_39 rfl ?_
          refine v_iload_n E dX2_init_40 rfl ?_
          refine v_bipush E dX2_init_41 (v := 7) (by decide) ?_
          refine v_cV_i E dX2_init_43 (c_X5_usersOfAny D q ct dp we ok us un 7) cs_X2_23 rfl rfl rfl (Nat.le_of_ble_eq_true rfl) 1 rfl rfl [1, 2, 3, 4, 5, 6, 7, 8] rfl rfl ⟨Nat.le_of_ble_eq_true rfl, Nat.le_of_ble_eq_true rfl⟩ ?_
          refine v_iconst E dX2_init_46 (v := -1) (by decide) ?_
          refine v_ixor E dX2_init_47 ?_
          refine v_iand E dX2_init_48 ?_
          refine v_cN_i E dX2_init_49 (c_X6_smallestTarget D (un &&& ((r_X5_usersOfAny us un 7) ^^^ (-1)))) cs_X2_29 rfl rfl rfl (Nat.le_of_ble_eq_true rfl) [] rfl rfl ⟨Nat.le_of_ble_eq_true rfl, Nat.le_of_ble_eq_true rfl⟩ ?_
          refine v_istore E dX2_init_52 rfl rfl ?_
          refine v_iload E dX2_init_54 rfl ?_
          refine v_bipush E dX2_init_56 (v := -10) (by decide) ?_
          refine v_icmp_eq E 92 dX2_init_58 (by decide) (fun c_58 => ?_) (fun c_58 => ?_)
          · refine v_iinc E dX2_init_92 (v := nI (i + 1)) rfl (inc1 _) rfl rfl ?_
            refine v_goto E 27 dX2_init_95 (by decide) ?_
            have hs : s_X2_init_27 us i (un, lk, od1) = (un, lk, od1) := by simp only [s_X2_init_27, if_pos c_58]
            rw [brkN_f (show b_X2_init_27 (un, lk, od1) = false from decide_eq_false c_35), hs] at K27
            refine v_mask [true, true, true, true, true, false] rfl ?_
            exact ih (i + 1) un lk od1 (by omega) (by omega) K27
          · refine v_aload_n E dX2_init_61 rfl ?_
            refine v_get E dX2_init_62 (ci := 2) rfl iwX2 0 rfl 2 rfl fl_X2_9 rfl ?_
            refine v_aload_n E dX2_init_65 rfl ?_
            refine v_get E dX2_init_66 (ci := 2) rfl iwX2 0 rfl 3 rfl fl_X2_33 rfl ?_
            refine v_iload E dX2_init_69 rfl ?_
            refine v_iast E dX2_init_71 9 rfl lk rfl (by omega) rfl ?_
            refine v_wd (wd2 := [(r0, .inr (2, [.ref (q 1), .int rb, .ref qv7, .int (nI lk)])), (q 1, .inr (5, [.int ct, .int dp, .ref (q 2), .ref (q 3), .ref (q 4)])), (q 2, aI D 20 we), (q 3, aI D 3 ok), (q 4, aG D 4 (gU q 5)), (q 5, aI D 20 (us 0)), (q 6, aI D 20 (us 1)), (q 7, aI D 20 (us 2)), (q 8, aI D 20 (us 3)), (qv7, aI D 20 (upd od1 lk (r_X6_smallestTarget (un &&& ((r_X5_usersOfAny us un 7) ^^^ (-1))))))]) rfl ?_
            refine v_aload_n E dX2_init_72 rfl ?_
            refine v_dup E dX2_init_73 rfl ?_
            refine v_get E dX2_init_74 (ci := 2) rfl iwX2 0 rfl 3 rfl fl_X2_33 rfl ?_
            refine v_iconst E dX2_init_77 (v := 1) (by decide) ?_
            refine v_iadd E dX2_init_78 ?_
            refine v_put E dX2_init_79 (ci := 2) rfl iwX2 tyX2 tyX2_ok nmX2 0 rfl 3 rfl fl_X2_33 rfl rfl rfl rfl rfl ?_
            refine v_wd (wd2 := [(r0, .inr (2, [.ref (q 1), .int rb, .ref qv7, .int ((nI lk) + 1)])), (q 1, .inr (5, [.int ct, .int dp, .ref (q 2), .ref (q 3), .ref (q 4)])), (q 2, aI D 20 we), (q 3, aI D 3 ok), (q 4, aG D 4 (gU q 5)), (q 5, aI D 20 (us 0)), (q 6, aI D 20 (us 1)), (q 7, aI D 20 (us 2)), (q 8, aI D 20 (us 3)), (qv7, aI D 20 (upd od1 lk (r_X6_smallestTarget (un &&& ((r_X5_usersOfAny us un 7) ^^^ (-1))))))]) rfl ?_
            refine v_iload_n E dX2_init_82 rfl ?_
            refine v_iload E dX2_init_83 rfl ?_
            refine v_cN_i E dX2_init_85 (c_X6_setOf D (r_X6_smallestTarget (un &&& ((r_X5_usersOfAny us un 7) ^^^ (-1))))) cs_X2_36 rfl rfl rfl (Nat.le_of_ble_eq_true rfl) [] rfl rfl ⟨Nat.le_of_ble_eq_true rfl, Nat.le_of_ble_eq_true rfl⟩ ?_
            refine v_iconst E dX2_init_88 (v := -1) (by decide) ?_
            refine v_ixor E dX2_init_89 ?_
            refine v_iand E dX2_init_90 ?_
            refine v_istore_n E dX2_init_91 rfl rfl ?_
            refine v_iinc E dX2_init_92 (v := nI (i + 1)) rfl (inc1 _) rfl rfl ?_
            refine v_goto E 27 dX2_init_95 (by decide) ?_
            rw [show (nI lk) + 1 = nI (lk + 1) from (hadd rfl (show (1 : Int32) = nI 1 by decide))]
            have hs : s_X2_init_27 us i (un, lk, od1) = (un &&& ((r_X6_setOf (r_X6_smallestTarget (un &&& ((r_X5_usersOfAny us un 7) ^^^ (-1))))) ^^^ (-1)), (lk + 1), upd od1 lk (r_X6_smallestTarget (un &&& ((r_X5_usersOfAny us un 7) ^^^ (-1))))) := by simp only [s_X2_init_27, if_neg c_58]
            rw [brkN_f (show b_X2_init_27 (un, lk, od1) = false from decide_eq_false c_35), hs] at K27
            refine v_mask [true, true, true, true, true, false] rfl ?_
            exact ih (i + 1) (un &&& ((r_X6_setOf (r_X6_smallestTarget (un &&& ((r_X5_usersOfAny us un 7) ^^^ (-1))))) ^^^ (-1))) (lk + 1) (upd od1 lk (r_X6_smallestTarget (un &&& ((r_X5_usersOfAny us un 7) ^^^ (-1))))) (by omega) (by omega) K27
  refine L27 20 0 rb 0 (fun _ => 0) (by omega) (Nat.le_refl 0) ?_
  exact v_vret E F dX2_init_98 rfl qv7 trivial rfl (Nat.le_of_ble_eq_true rfl) (Nat.le_of_ble_eq_true rfl)

def k_X3_leastLoaded (S : Nat) (lo : Nat → Int32) : Nat := foldN (s_X3_leastLoaded_4 lo) (S - 1) 1 0
theorem k_X3_leastLoaded_lt {S : Nat} (lo : Nat → Int32) (hS1 : 1 ≤ S) : k_X3_leastLoaded S lo < S := by
  exact foldN_ind (f := s_X3_leastLoaded_4 lo) (M := S) (fun i b => b < S) (fun j a hj ha => by
    unfold s_X3_leastLoaded_4
    split <;> omega) (S - 1) 1 0 (by omega) (by omega)
def s_X3_init_31 (ct : Int32) (we : Nat → Int32) (S : Nat) (i : Nat) (z_ : Int32 × Nat × (Nat → Int32) × (Nat → Int32) × (Nat → Int32)) : Int32 × Nat × (Nat → Int32) × (Nat → Int32) × (Nat → Int32) := match z_ with
  | (lf, ts, gv, wg, ld) => if (r_X5_has ct (r_X5_heaviest we lf)) = 0 then (lf, ts, gv, wg, ld) else (lf &&& ((r_X6_setOf (r_X5_heaviest we lf)) ^^^ (-1)), (ts + 1), upd gv ((r_X5_heaviest we lf).toNatClampNeg) (r_X3_leastLoaded S ld), upd wg i (we ((r_X5_heaviest we lf).toNatClampNeg)), upd ld (k_X3_leastLoaded S ld) ((ld (k_X3_leastLoaded S ld)) + (we ((r_X5_heaviest we lf).toNatClampNeg))))
def b_X3_init_31  (z_ : Int32 × Nat × (Nat → Int32) × (Nat → Int32) × (Nat → Int32)) : Bool := match z_ with
  | (lf, ts, gv, wg, ld) => decide (lf = 0)
def w_X3_init_0_3 (ct : Int32) (we : Nat → Int32) (st : Int32) (S : Nat) : Int32 := nI ((brkN b_X3_init_31 (s_X3_init_31 ct we S) 10 0 (st, 0, fun _ => 0, fun _ => 0, fun _ => 0)).2.1)
def w_X3_init_n0 (ct : Int32) (we : Nat → Int32) (st : Int32) (S : Nat) : Nat → Int32 := (brkN b_X3_init_31 (s_X3_init_31 ct we S) 10 0 (st, 0, fun _ => 0, fun _ => 0, fun _ => 0)).2.2.1
def w_X3_init_n1 (ct : Int32) (we : Nat → Int32) (st : Int32) (S : Nat) : Nat → Int32 := (brkN b_X3_init_31 (s_X3_init_31 ct we S) 10 0 (st, 0, fun _ => 0, fun _ => 0, fun _ => 0)).2.2.2.1
def w_X3_init_n2 (ct : Int32) (we : Nat → Int32) (st : Int32) (S : Nat) : Nat → Int32 := (brkN b_X3_init_31 (s_X3_init_31 ct we S) 10 0 (st, 0, fun _ => 0, fun _ => 0, fun _ => 0)).2.2.2.2
set_option maxRecDepth 20000 in
/-- X3_init -/
theorem c_X3_init (D : va_G) (r0 : Nat) (q : Nat → Nat) (ct : Int32) (dp : Int32) (we : Nat → Int32) (ok : Nat → Int32) (us : Nat → Nat → Int32) (st : Int32) (sd : Int32) (S : Nat) (N : Nat) (hsd : sd = nI S) (hct : ct = nI N) (hN : N ≤ 20) (hS1 : 1 ≤ S) (hS : S ≤ 4) (l : Launch) : Ct l yX3_init cX3_init 9 none (rmM 2 45 3 34) D [.ref r0, .ref (q 1), .int st, .int sd] [(r0, .inr (3, [.null, .null, .null, .int 0])), (q 1, .inr (5, [.int ct, .int dp, .ref (q 2), .ref (q 3), .ref (q 4)])), (q 2, aI D 20 we), (q 3, aI D 3 ok), (q 4, aG D 4 (gU q 5)), (q 5, aI D 20 (us 0)), (q 6, aI D 20 (us 1)), (q 7, aI D 20 (us 2)), (q 8, aI D 20 (us 3))] (QV (S := Nat × Nat × Nat) D (fun _ => True) (fun u => [(r0, .inr (3, [.ref u.2.2, .ref u.1, .ref u.2.1, .int (w_X3_init_0_3 ct we st S)])), (q 1, .inr (5, [.int ct, .int dp, .ref (q 2), .ref (q 3), .ref (q 4)])), (q 2, aI D 20 we), (q 3, aI D 3 ok), (q 4, aG D 4 (gU q 5)), (q 5, aI D 20 (us 0)), (q 6, aI D 20 (us 1)), (q 7, aI D 20 (us 2)), (q 8, aI D 20 (us 3)), (u.1, aI D 20 (w_X3_init_n0 ct we st S)), (u.2.1, aI D 10 (w_X3_init_n1 ct we st S)), (u.2.2, aI D S (w_X3_init_n2 ct we st S))])) := by
  refine Ct.ofVI 5 (lv0 := [some (.ref r0), some (.ref (q 1)), some (.int st), some (.int sd), none, none, none, none, none]) (by decide) rfl rfl rfl (fun Z E F I0 => ?_)
  refine v_aload_n E dX3_init_0 rfl ?_
  refine v_objInit E dX3_init_1 mo_X3_3 rfl rfl (Nat.le_of_ble_eq_true rfl) ?_
  refine v_aload_n E dX3_init_4 rfl ?_
  refine v_bipush E dX3_init_5 (v := 20) (by decide) ?_
  refine v_newI E 20 dX3_init_7 (show (20 : Int32) = nI 20 by decide) rfl (Nat.le_of_ble_eq_true rfl) (Nat.le_of_ble_eq_true rfl) (fun qv7 => ?_)
  refine v_wd (wd2 := [(r0, .inr (3, [.null, .null, .null, .int 0])), (q 1, .inr (5, [.int ct, .int dp, .ref (q 2), .ref (q 3), .ref (q 4)])), (q 2, aI D 20 we), (q 3, aI D 3 ok), (q 4, aG D 4 (gU q 5)), (q 5, aI D 20 (us 0)), (q 6, aI D 20 (us 1)), (q 7, aI D 20 (us 2)), (q 8, aI D 20 (us 3)), (qv7, aI D 20 (fun _ => 0))]) rfl ?_
  refine v_putF E I0 dX3_init_9 (ci := 3) rfl iwX3 tyX3 tyX3_ok nmX3 0 rfl 1 rfl fl_X3_9 rfl rfl rfl rfl rfl rfl ?_
  refine v_wd (wd2 := [(r0, .inr (3, [.null, .ref qv7, .null, .int 0])), (q 1, .inr (5, [.int ct, .int dp, .ref (q 2), .ref (q 3), .ref (q 4)])), (q 2, aI D 20 we), (q 3, aI D 3 ok), (q 4, aG D 4 (gU q 5)), (q 5, aI D 20 (us 0)), (q 6, aI D 20 (us 1)), (q 7, aI D 20 (us 2)), (q 8, aI D 20 (us 3)), (qv7, aI D 20 (fun _ => 0))]) rfl ?_
  refine v_aload_n E dX3_init_12 rfl ?_
  refine v_bipush E dX3_init_13 (v := 10) (by decide) ?_
  refine v_newI E 10 dX3_init_15 (show (10 : Int32) = nI 10 by decide) rfl (Nat.le_of_ble_eq_true rfl) (Nat.le_of_ble_eq_true rfl) (fun qv15 => ?_)
  refine v_wd (wd2 := [(r0, .inr (3, [.null, .ref qv7, .null, .int 0])), (q 1, .inr (5, [.int ct, .int dp, .ref (q 2), .ref (q 3), .ref (q 4)])), (q 2, aI D 20 we), (q 3, aI D 3 ok), (q 4, aG D 4 (gU q 5)), (q 5, aI D 20 (us 0)), (q 6, aI D 20 (us 1)), (q 7, aI D 20 (us 2)), (q 8, aI D 20 (us 3)), (qv7, aI D 20 (fun _ => 0)), (qv15, aI D 10 (fun _ => 0))]) rfl ?_
  refine v_putF E I0 dX3_init_17 (ci := 3) rfl iwX3 tyX3 tyX3_ok nmX3 0 rfl 2 rfl fl_X3_15 rfl rfl rfl rfl rfl rfl ?_
  refine v_wd (wd2 := [(r0, .inr (3, [.null, .ref qv7, .ref qv15, .int 0])), (q 1, .inr (5, [.int ct, .int dp, .ref (q 2), .ref (q 3), .ref (q 4)])), (q 2, aI D 20 we), (q 3, aI D 3 ok), (q 4, aG D 4 (gU q 5)), (q 5, aI D 20 (us 0)), (q 6, aI D 20 (us 1)), (q 7, aI D 20 (us 2)), (q 8, aI D 20 (us 3)), (qv7, aI D 20 (fun _ => 0)), (qv15, aI D 10 (fun _ => 0))]) rfl ?_
  refine v_iload_n E dX3_init_20 rfl ?_
  refine v_newI E S dX3_init_21 hsd (Nat.ble_eq_true_of_le (by omega)) (Nat.le_of_ble_eq_true rfl) (Nat.le_trans (Nat.add_le_add_left (show S ≤ 4 by omega) _) (Nat.le_of_ble_eq_true rfl)) (fun qv21 => ?_)
  refine v_widen (c1 := 3) (s1 := 34) (Nat.le_refl _) (Nat.add_le_add_left (show S ≤ 4 by omega) _) ?_
  refine v_wd (wd2 := [(r0, .inr (3, [.null, .ref qv7, .ref qv15, .int 0])), (q 1, .inr (5, [.int ct, .int dp, .ref (q 2), .ref (q 3), .ref (q 4)])), (q 2, aI D 20 we), (q 3, aI D 3 ok), (q 4, aG D 4 (gU q 5)), (q 5, aI D 20 (us 0)), (q 6, aI D 20 (us 1)), (q 7, aI D 20 (us 2)), (q 8, aI D 20 (us 3)), (qv7, aI D 20 (fun _ => 0)), (qv15, aI D 10 (fun _ => 0)), (qv21, aI D S (fun _ => 0))]) rfl ?_
  refine v_astore E dX3_init_23 rfl rfl ?_
  refine v_iload_n E dX3_init_25 rfl ?_
  refine v_istore E dX3_init_26 rfl rfl ?_
  refine v_iconst E dX3_init_28 (v := 0) (by decide) ?_
  refine v_istore E dX3_init_29 rfl rfl ?_
  have L31 : ∀ (n i : Nat) (lf : Int32) (ts : Nat) (gv : Nat → Int32) (wg : Nat → Int32) (ld : Nat → Int32), i + n = 10 → V Z D 3 34 [(r0, .inr (3, [.null, .ref qv7, .ref qv15, .int (nI ((brkN b_X3_init_31 (s_X3_init_31 ct we S) n i (lf, ts, gv, wg, ld)).2.1))])), (q 1, .inr (5, [.int ct, .int dp, .ref (q 2), .ref (q 3), .ref (q 4)])), (q 2, aI D 20 we), (q 3, aI D 3 ok), (q 4, aG D 4 (gU q 5)), (q 5, aI D 20 (us 0)), (q 6, aI D 20 (us 1)), (q 7, aI D 20 (us 2)), (q 8, aI D 20 (us 3)), (qv7, aI D 20 ((brkN b_X3_init_31 (s_X3_init_31 ct we S) n i (lf, ts, gv, wg, ld)).2.2.1)), (qv15, aI D 10 ((brkN b_X3_init_31 (s_X3_init_31 ct we S) n i (lf, ts, gv, wg, ld)).2.2.2.1)), (qv21, aI D S ((brkN b_X3_init_31 (s_X3_init_31 ct we S) n i (lf, ts, gv, wg, ld)).2.2.2.2))] [some (.ref r0), some (.ref (q 1)), some (.int st), some (.int sd), some (.ref qv21), some (.int ((brkN b_X3_init_31 (s_X3_init_31 ct we S) n i (lf, ts, gv, wg, ld)).1)), none, none, none] [] 133 → V Z D 3 34 [(r0, .inr (3, [.null, .ref qv7, .ref qv15, .int (nI ts)])), (q 1, .inr (5, [.int ct, .int dp, .ref (q 2), .ref (q 3), .ref (q 4)])), (q 2, aI D 20 we), (q 3, aI D 3 ok), (q 4, aG D 4 (gU q 5)), (q 5, aI D 20 (us 0)), (q 6, aI D 20 (us 1)), (q 7, aI D 20 (us 2)), (q 8, aI D 20 (us 3)), (qv7, aI D 20 gv), (qv15, aI D 10 wg), (qv21, aI D S ld)] [some (.ref r0), some (.ref (q 1)), some (.int st), some (.int sd), some (.ref qv21), some (.int lf), some (.int (nI i)), none, none] [] 31 := by
    intro n
    induction n with
    | zero =>
      intro i lf ts gv wg ld hi  K31
      have hiN : i = 10 := by omega
      rw [hiN]
      refine v_iload E dX3_init_31 rfl ?_
      refine v_bipush E dX3_init_33 (v := 10) (by decide) ?_
      refine v_icmp_ge E 133 dX3_init_35 (by decide) (fun c_35 => ?_) (fun c_35 => ?_)
      · refine v_mask [true, true, true, true, true, true, false, true, true] rfl ?_
        exact K31
      · exact absurd (leN (a := 10) (b := 10) (show (10 : Int32) = nI 10 by decide) rfl (by omega) (by omega)) c_35
    | succ n ih =>
      intro i lf ts gv wg ld hi  K31
      refine v_iload E dX3_init_31 rfl ?_
      refine v_bipush E dX3_init_33 (v := 10) (by decide) ?_
      refine v_icmp_ge E 133 dX3_init_35 (by decide) (fun c_35 => ?_) (fun c_35 => ?_)
      · exact absurd c_35 (nleN (a := 10) (b := i) (show (10 : Int32) = nI 10 by decide) rfl (by omega) (by omega))
      · refine v_iload E dX3_init_38 rfl ?_
        refine v_if_eq E 133 dX3_init_40 (by decide) (fun c_40 => ?_) (fun c_40 => ?_)
        · rw [brkN_t (show b_X3_init_31 (lf, ts, gv, wg, ld) = true from decide_eq_true c_40)] at K31
          refine v_mask [true, true, true, true, true, true, false, true, true] rfl ?_
          exact K31
        · refine v_aload_n E dX3_init_43 rfl ?_
          refine v_iload E dX3_init_44 rfl ?_
          refine v_cV_i E dX3_init_46 (c_X5_heaviest D q ct dp we ok us lf) cs_X3_18 rfl rfl rfl (Nat.le_of_ble_eq_true rfl) 1 rfl rfl [1, 2, 3, 4, 5, 6, 7, 8] rfl rfl ⟨Nat.le_of_ble_eq_true rfl, Nat.le_of_ble_eq_true rfl⟩ ?_
          refine v_istore E dX3_init_49 rfl rfl ?_
          refine v_aload_n E dX3_init_51 rfl ?_
          refine v_iload E dX3_init_52 rfl ?_
          refine v_cV_i E dX3_init_54 (c_X5_has D q ct dp we ok us (r_X5_heaviest we lf)) cs_X3_24 rfl rfl rfl (Nat.le_of_ble_eq_true rfl) 1 rfl rfl [1, 2, 3, 4, 5, 6, 7, 8] rfl rfl ⟨Nat.le_of_ble_eq_true rfl, Nat.le_of_ble_eq_true rfl⟩ ?_
          refine v_if_eq E 127 dX3_init_57 (by decide) (fun c_57 => ?_) (fun c_57 => ?_)
          · refine v_iinc E dX3_init_127 (v := nI (i + 1)) rfl (inc1 _) rfl rfl ?_
            refine v_goto E 31 dX3_init_130 (by decide) ?_
            have hs : s_X3_init_31 ct we S i (lf, ts, gv, wg, ld) = (lf, ts, gv, wg, ld) := by simp only [s_X3_init_31, if_pos c_57]
            rw [brkN_f (show b_X3_init_31 (lf, ts, gv, wg, ld) = false from decide_eq_false c_40), hs] at K31
            refine v_mask [true, true, true, true, true, true, true, false, true] rfl ?_
            exact ih (i + 1) lf ts gv wg ld (by omega) K31
          · obtain ⟨ht1, ht2⟩ := inR_use hct (by omega) c_57
            have hlb := k_X3_leastLoaded_lt ld hS1
            refine v_aload E dX3_init_60 rfl ?_
            refine v_cS_i E dX3_init_62 (c_X3_leastLoaded D qv21 S ld (by omega) (by omega)) cs_X3_28 rfl rfl rfl (Nat.le_of_ble_eq_true rfl) [11] rfl rfl ⟨Nat.le_of_ble_eq_true rfl, Nat.le_of_ble_eq_true rfl⟩ ?_
            refine v_istore E dX3_init_65 rfl rfl ?_
            refine v_aload_n E dX3_init_67 rfl ?_
            refine v_get E dX3_init_68 (ci := 3) rfl iwX3 0 rfl 1 rfl fl_X3_9 rfl ?_
            refine v_iload E dX3_init_71 rfl ?_
            refine v_iload E dX3_init_73 rfl ?_
            refine v_iast E dX3_init_75 9 rfl ((r_X5_heaviest we lf).toNatClampNeg) ht1 (by omega) rfl ?_
            refine v_wd (wd2 := [(r0, .inr (3, [.null, .ref qv7, .ref qv15, .int (nI ts)])), (q 1, .inr (5, [.int ct, .int dp, .ref (q 2), .ref (q 3), .ref (q 4)])), (q 2, aI D 20 we), (q 3, aI D 3 ok), (q 4, aG D 4 (gU q 5)), (q 5, aI D 20 (us 0)), (q 6, aI D 20 (us 1)), (q 7, aI D 20 (us 2)), (q 8, aI D 20 (us 3)), (qv7, aI D 20 (upd gv ((r_X5_heaviest we lf).toNatClampNeg) (r_X3_leastLoaded S ld))), (qv15, aI D 10 wg), (qv21, aI D S ld)]) rfl ?_
            refine v_aload E dX3_init_76 rfl ?_
            refine v_iload E dX3_init_78 rfl ?_
            refine v_dup2 E dX3_init_80 rfl rfl ?_
            refine v_iald E dX3_init_81 11 rfl (k_X3_leastLoaded S ld) rfl (by omega) (Nat.ble_eq_true_of_le (by omega)) ?_
            refine v_aload_n E dX3_init_82 rfl ?_
            refine v_get E dX3_init_83 (ci := 5) rfl iwX5 1 rfl 2 rfl fl_X3_32 rfl ?_
            refine v_iload E dX3_init_86 rfl ?_
            refine v_iald E dX3_init_88 2 rfl ((r_X5_heaviest we lf).toNatClampNeg) ht1 (by omega) rfl ?_
            refine v_iadd E dX3_init_89 ?_
            refine v_iast E dX3_init_90 11 rfl (k_X3_leastLoaded S ld) rfl (by omega) (Nat.ble_eq_true_of_le (by omega)) ?_
            refine v_wd (wd2 := [(r0, .inr (3, [.null, .ref qv7, .ref qv15, .int (nI ts)])), (q 1, .inr (5, [.int ct, .int dp, .ref (q 2), .ref (q 3), .ref (q 4)])), (q 2, aI D 20 we), (q 3, aI D 3 ok), (q 4, aG D 4 (gU q 5)), (q 5, aI D 20 (us 0)), (q 6, aI D 20 (us 1)), (q 7, aI D 20 (us 2)), (q 8, aI D 20 (us 3)), (qv7, aI D 20 (upd gv ((r_X5_heaviest we lf).toNatClampNeg) (r_X3_leastLoaded S ld))), (qv15, aI D 10 wg), (qv21, aI D S (upd ld (k_X3_leastLoaded S ld) ((ld (k_X3_leastLoaded S ld)) + (we ((r_X5_heaviest we lf).toNatClampNeg)))))]) rfl ?_
            refine v_aload_n E dX3_init_91 rfl ?_
            refine v_get E dX3_init_92 (ci := 3) rfl iwX3 0 rfl 2 rfl fl_X3_15 rfl ?_
            refine v_iload E dX3_init_95 rfl ?_
            refine v_aload_n E dX3_init_97 rfl ?_
            refine v_get E dX3_init_98 (ci := 5) rfl iwX5 1 rfl 2 rfl fl_X3_32 rfl ?_
            refine v_iload E dX3_init_101 rfl ?_
            refine v_iald E dX3_init_103 2 rfl ((r_X5_heaviest we lf).toNatClampNeg) ht1 (by omega) rfl ?_
            refine v_iast E dX3_init_104 10 rfl i rfl (by omega) rfl ?_
            refine v_wd (wd2 := [(r0, .inr (3, [.null, .ref qv7, .ref qv15, .int (nI ts)])), (q 1, .inr (5, [.int ct, .int dp, .ref (q 2), .ref (q 3), .ref (q 4)])), (q 2, aI D 20 we), (q 3, aI D 3 ok), (q 4, aG D 4 (gU q 5)), (q 5, aI D 20 (us 0)), (q 6, aI D 20 (us 1)), (q 7, aI D 20 (us 2)), (q 8, aI D 20 (us 3)), (qv7, aI D 20 (upd gv ((r_X5_heaviest we lf).toNatClampNeg) (r_X3_leastLoaded S ld))), (qv15, aI D 10 (upd wg i (we ((r_X5_heaviest we lf).toNatClampNeg)))), (qv21, aI D S (upd ld (k_X3_leastLoaded S ld) ((ld (k_X3_leastLoaded S ld)) + (we ((r_X5_heaviest we lf).toNatClampNeg)))))]) rfl ?_
            refine v_aload_n E dX3_init_105 rfl ?_
            refine v_dup E dX3_init_106 rfl ?_
            refine v_get E dX3_init_107 (ci := 3) rfl iwX3 0 rfl 3 rfl fl_X3_35 rfl ?_
            refine v_iconst E dX3_init_110 (v := 1) (by decide) ?_
            refine v_iadd E dX3_init_111 ?_
            refine v_put E dX3_init_112 (ci := 3) rfl iwX3 tyX3 tyX3_ok nmX3 0 rfl 3 rfl fl_X3_35 rfl rfl rfl rfl rfl ?_
            refine v_wd (wd2 := [(r0, .inr (3, [.null, .ref qv7, .ref qv15, .int ((nI ts) + 1)])), (q 1, .inr (5, [.int ct, .int dp, .ref (q 2), .ref (q 3), .ref (q 4)])), (q 2, aI D 20 we), (q 3, aI D 3 ok), (q 4, aG D 4 (gU q 5)), (q 5, aI D 20 (us 0)), (q 6, aI D 20 (us 1)), (q 7, aI D 20 (us 2)), (q 8, aI D 20 (us 3)), (qv7, aI D 20 (upd gv ((r_X5_heaviest we lf).toNatClampNeg) (r_X3_leastLoaded S ld))), (qv15, aI D 10 (upd wg i (we ((r_X5_heaviest we lf).toNatClampNeg)))), (qv21, aI D S (upd ld (k_X3_leastLoaded S ld) ((ld (k_X3_leastLoaded S ld)) + (we ((r_X5_heaviest we lf).toNatClampNeg)))))]) rfl ?_
            refine v_iload E dX3_init_115 rfl ?_
            refine v_iload E dX3_init_117 rfl ?_
            refine v_cN_i E dX3_init_119 (c_X6_setOf D (r_X5_heaviest we lf)) cs_X3_39 rfl rfl rfl (Nat.le_of_ble_eq_true rfl) [] rfl rfl ⟨Nat.le_of_ble_eq_true rfl, Nat.le_of_ble_eq_true rfl⟩ ?_
            refine v_iconst E dX3_init_122 (v := -1) (by decide) ?_
            refine v_ixor E dX3_init_123 ?_
            refine v_iand E dX3_init_124 ?_
            refine v_istore E dX3_init_125 rfl rfl ?_
            refine v_iinc E dX3_init_127 (v := nI (i + 1)) rfl (inc1 _) rfl rfl ?_
            refine v_goto E 31 dX3_init_130 (by decide) ?_
            rw [show (nI ts) + 1 = nI (ts + 1) from (hadd rfl (show (1 : Int32) = nI 1 by decide))]
            have hs : s_X3_init_31 ct we S i (lf, ts, gv, wg, ld) = (lf &&& ((r_X6_setOf (r_X5_heaviest we lf)) ^^^ (-1)), (ts + 1), upd gv ((r_X5_heaviest we lf).toNatClampNeg) (r_X3_leastLoaded S ld), upd wg i (we ((r_X5_heaviest we lf).toNatClampNeg)), upd ld (k_X3_leastLoaded S ld) ((ld (k_X3_leastLoaded S ld)) + (we ((r_X5_heaviest we lf).toNatClampNeg)))) := by simp only [s_X3_init_31, if_neg c_57]
            rw [brkN_f (show b_X3_init_31 (lf, ts, gv, wg, ld) = false from decide_eq_false c_40), hs] at K31
            refine v_mask [true, true, true, true, true, true, true, false, false] rfl ?_
            exact ih (i + 1) (lf &&& ((r_X6_setOf (r_X5_heaviest we lf)) ^^^ (-1))) (ts + 1) (upd gv ((r_X5_heaviest we lf).toNatClampNeg) (r_X3_leastLoaded S ld)) (upd wg i (we ((r_X5_heaviest we lf).toNatClampNeg))) (upd ld (k_X3_leastLoaded S ld) ((ld (k_X3_leastLoaded S ld)) + (we ((r_X5_heaviest we lf).toNatClampNeg)))) (by omega) K31
  refine L31 10 0 st 0 (fun _ => 0) (fun _ => 0) (fun _ => 0) (by omega)  ?_
  refine v_aload_n E dX3_init_133 rfl ?_
  refine v_aload E dX3_init_134 rfl ?_
  refine v_putF E I0 dX3_init_136 (ci := 3) rfl iwX3 tyX3 tyX3_ok nmX3 0 rfl 0 rfl fl_X3_42 rfl rfl rfl rfl rfl rfl ?_
  refine v_wd (wd2 := [(r0, .inr (3, [.ref qv21, .ref qv7, .ref qv15, .int (nI ((brkN b_X3_init_31 (s_X3_init_31 ct we S) 10 0 (st, 0, fun _ => 0, fun _ => 0, fun _ => 0)).2.1))])), (q 1, .inr (5, [.int ct, .int dp, .ref (q 2), .ref (q 3), .ref (q 4)])), (q 2, aI D 20 we), (q 3, aI D 3 ok), (q 4, aG D 4 (gU q 5)), (q 5, aI D 20 (us 0)), (q 6, aI D 20 (us 1)), (q 7, aI D 20 (us 2)), (q 8, aI D 20 (us 3)), (qv7, aI D 20 ((brkN b_X3_init_31 (s_X3_init_31 ct we S) 10 0 (st, 0, fun _ => 0, fun _ => 0, fun _ => 0)).2.2.1)), (qv15, aI D 10 ((brkN b_X3_init_31 (s_X3_init_31 ct we S) 10 0 (st, 0, fun _ => 0, fun _ => 0, fun _ => 0)).2.2.2.1)), (qv21, aI D S ((brkN b_X3_init_31 (s_X3_init_31 ct we S) 10 0 (st, 0, fun _ => 0, fun _ => 0, fun _ => 0)).2.2.2.2))]) rfl ?_
  exact v_vret E F dX3_init_139 rfl (qv7, qv15, qv21) trivial rfl (Nat.le_of_ble_eq_true rfl) (Nat.le_of_ble_eq_true rfl)

def r_X3_leastGreatestLoad (S : Nat) (ld : Nat → Int32) (wg : Nat → Int32) (km : Nat) : Int32 := (r_X3_improve wg S km @10 @0 (fun _ => 0) (r_X3_greatest S ld))
set_option maxRecDepth 20000 in
/-- X3_leastGreatestLoad -/
theorem c_X3_leastGreatestLoad (D : va_G) (r0 : Nat) (r1 : Nat) (r2 : Nat) (r3 : Nat) (ts : Int32) (S : Nat) (ld : Nat → Int32) (wg : Nat → Int32) (km : Nat) (hts : ts = nI km) (hkm : km ≤ 10) (hS1 : 1 ≤ S) (hS : S ≤ 4) (l : Launch) : Ct l yX3_leastGreatestLoad cX3_leastGreatestLoad 1 (some .int) (rmM 15 387 1 4) D [.ref r0] [(r0, .inr (3, [.ref r1, .ref r2, .ref r3, .int ts])), (r1, aI D S ld), (r3, aI D 10 wg)] (QI1 D (r_X3_leastGreatestLoad S ld wg km) [(r0, .inr (3, [.ref r1, .ref r2, .ref r3, .int ts])), (r1, aI D S ld), (r3, aI D 10 wg)]) := by
  refine Ct.ofV 0 (lv0 := [some (.ref r0)]) (by decide) rfl rfl (fun Z E F => ?_)
  refine v_aload_n E dX3_leastGreatestLoad_0 rfl ?_
  refine v_get E dX3_leastGreatestLoad_1 (ci := 3) rfl iwX3 0 rfl 2 rfl fl_X3_15 rfl ?_
  refine v_aload_n E dX3_leastGreatestLoad_4 rfl ?_
  refine v_get E dX3_leastGreatestLoad_5 (ci := 3) rfl iwX3 0 rfl 3 rfl fl_X3_35 rfl ?_
  refine v_iconst E dX3_leastGreatestLoad_8 (v := 0) (by decide) ?_
  refine v_aload_n E dX3_leastGreatestLoad_9 rfl ?_
  refine v_get E dX3_leastGreatestLoad_10 (ci := 3) rfl iwX3 0 rfl 0 rfl fl_X3_42 rfl ?_
  refine v_alen E dX3_leastGreatestLoad_13 1 rfl (v := nI S) rfl ?_
  refine v_newI E S dX3_leastGreatestLoad_14 rfl (Nat.ble_eq_true_of_le (by omega)) (Nat.le_of_ble_eq_true rfl) (Nat.le_trans (Nat.add_le_add_left (show S ≤ 4 by omega) _) (Nat.le_of_ble_eq_true rfl)) (fun qv14 => ?_)
  refine v_widen (c1 := 1) (s1 := 4) (Nat.le_refl _) (Nat.add_le_add_left (show S ≤ 4 by omega) _) ?_
  refine v_wd (wd2 := [(r0, .inr (3, [.ref r1, .ref r2, .ref r3, .int ts])), (r1, aI D S ld), (r3, aI D 10 wg), (qv14, aI D S (fun _ => 0))]) rfl ?_
  refine v_aload_n E dX3_leastGreatestLoad_16 rfl ?_
  refine v_get E dX3_leastGreatestLoad_17 (ci := 3) rfl iwX3 0 rfl 0 rfl fl_X3_42 rfl ?_
  refine v_cS_i E dX3_leastGreatestLoad_20 (c_X3_greatest D r1 S ld (by omega)) cs_X3_45 rfl rfl rfl (Nat.le_of_ble_eq_true rfl) [1] rfl rfl ⟨Nat.le_of_ble_eq_true rfl, Nat.le_of_ble_eq_true rfl⟩ ?_
  refine v_cS_i E dX3_leastGreatestLoad_23 (c_X3_improve D qv14 S r3 (fun _ => 0) wg ts 0 (r_X3_greatest S ld) km hts (show (0 : Int32) = nI 0 by decide) (by omega) (by omega) (by omega)) cs_X3_48 rfl rfl rfl (Nat.le_of_ble_eq_true rfl) [2, 3] rfl rfl ⟨Nat.le_of_ble_eq_true rfl, Nat.le_of_ble_eq_true rfl⟩ ?_
  refine v_sub [0, 1, 2] rfl (wd' := [(r0, .inr (3, [.ref r1, .ref r2, .ref r3, .int ts])), (r1, aI D S ld), (r3, aI D 10 wg)]) rfl ?_
  exact v_iret E F dX3_leastGreatestLoad_26 rfl rfl () rfl rfl (Nat.le_of_ble_eq_true rfl) (Nat.le_of_ble_eq_true rfl)

theorem spP_ok (m : Int64) : r_X6_smallestPair m = -10 ∨ (r_X6_smallestPair m = nI (r_X6_smallestPair m).toNatClampNeg ∧ (r_X6_smallestPair m).toNatClampNeg < 40) := by
  have key : ∀ n i : Nat, i + n = 40 → ∀ r, r = s_X6_smallestPair_2 m n i → r = -10 ∨ ∃ k, k < 40 ∧ r = nI k := by
    intro n
    induction n with
    | zero => intro i hi r hr; exact Or.inl hr
    | succ n ih =>
      intro i hi r hr
      unfold s_X6_smallestPair_2 at hr
      have h1 := ih (i + 1) (by omega) _ rfl
      have h2 : ∃ k, k < 40 ∧ nI i = nI k := ⟨i, by omega, rfl⟩
      repeat' split at hr
      all_goals subst hr
      all_goals first | exact h1 | exact Or.inr h2
  rcases key 40 0 rfl (r_X6_smallestPair m) rfl with e | ⟨k, hk, e⟩
  · exact Or.inl e
  · right
    rw [e, nI_clamp (by omega)]
    exact ⟨rfl, hk⟩
theorem whN_term {σ : Type} {e : σ → Bool} {f : σ → σ} (I : σ → Prop) (μ : σ → Nat) (h : ∀ a, I a → e a = false → I (f a) ∧ μ (f a) < μ a) : ∀ (n : Nat) (a : σ), I a → μ a ≤ n → e (whN e f n a) = true
  | 0, a, hi, hm => by
    cases he : e a with
    | true => exact he
    | false => exact absurd (h a hi he).2 (by omega)
  | n + 1, a, hi, hm => by
    cases he : e a with
    | true => rw [whN_e he]; exact he
    | false =>
      rw [whN_s he]
      have h2 := h a hi he
      exact whN_term I μ h n (f a) h2.1 (by omega)
def s_X0_init_30 (us : Nat → Nat → Int32) (z_ : Nat × (Nat → Int64)) : Nat × (Nat → Int64) := match z_ with
  | (la, ly) => ((la + 1), vp_updL ly (la + 1) (r_X5_causesOfAny us (ly la)))
def e_X0_init_30 (di : Int64) (z_ : Nat × (Nat → Int64)) : Bool := match z_ with
  | (la, ly) => decide ((39 ≤ (nI la)) ∨ ((lg_cmp (ly la) 0) = 0) ∨ (¬ ((lg_cmp ((ly la) &&& di) 0) = 0)))
def T_X0_init_30 (us : Nat → Nat → Int32) (di : Int64) (go : Int32) : Prop := (e_X0_init_30 di) (whN (e_X0_init_30 di) (s_X0_init_30 us) 40 (0, vp_updL (fun _ => 0) 0 (r_X6_setOfPair go))) = true
def s_X0_init_97 (us : Nat → Nat → Int32) (di : Int64) (go : Int32) (u_ : Nat) (z_ : Int32 × Nat × (Nat → Int32)) : Int32 × Nat × (Nat → Int32) := match z_ with
  | (nx, lk, pa) => if (nI u_) ≤ 0 then ((-10), (lk + 1), upd pa lk nx) else ((r_X6_smallestPair ((r_X5_followersOf us nx nx.toNatClampNeg) &&& (((whN (e_X0_init_30 di) (s_X0_init_30 us) 40 (0, vp_updL (fun _ => 0) 0 (r_X6_setOfPair go))).2) (u_ - 1)))), (lk + 1), upd pa lk nx)
def b_X0_init_97  (z_ : Int32 × Nat × (Nat → Int32)) : Bool := match z_ with
  | (nx, lk, pa) => decide (nx = (-10))
def w_X0_init_0_1 (us : Nat → Nat → Int32) (di : Int64) (go : Int32) : Int32 := nI ((brkD b_X0_init_97 (s_X0_init_97 us di go) ((whN (e_X0_init_30 di) (s_X0_init_30 us) 40 (0, vp_updL (fun _ => 0) 0 (r_X6_setOfPair go))).1 + 1) ((r_X6_smallestPair ((((whN (e_X0_init_30 di) (s_X0_init_30 us) 40 (0, vp_updL (fun _ => 0) 0 (r_X6_setOfPair go))).2) ((whN (e_X0_init_30 di) (s_X0_init_30 us) 40 (0, vp_updL (fun _ => 0) 0 (r_X6_setOfPair go))).1)) &&& di)), 0, fun _ => 0)).2.1)
def w_X0_init_n0 (us : Nat → Nat → Int32) (di : Int64) (go : Int32) : Nat → Int32 := (brkD b_X0_init_97 (s_X0_init_97 us di go) ((whN (e_X0_init_30 di) (s_X0_init_30 us) 40 (0, vp_updL (fun _ => 0) 0 (r_X6_setOfPair go))).1 + 1) ((r_X6_smallestPair ((((whN (e_X0_init_30 di) (s_X0_init_30 us) 40 (0, vp_updL (fun _ => 0) 0 (r_X6_setOfPair go))).2) ((whN (e_X0_init_30 di) (s_X0_init_30 us) 40 (0, vp_updL (fun _ => 0) 0 (r_X6_setOfPair go))).1)) &&& di)), 0, fun _ => 0)).2.2
theorem T_X0 (us : Nat → Nat → Int32) (di : Int64) (go : Int32) : T_X0_init_30 us di go := by
  refine whN_term (fun z => z.1 ≤ 39) (fun z => 39 - z.1) (fun z hi hz => ?_) 40 _ (Nat.zero_le 39) (by show 39 - 0 ≤ 40; omega)
  obtain ⟨la, ly⟩ := z
  have hi : la ≤ 39 := hi
  have h1 := of_decide_eq_false hz
  have h2 : ¬ (39 : Int32) ≤ nI la := fun q => h1 (Or.inl q)
  have h3 : la < 39 := nle_lt (show (39 : Int32) = nI 39 by decide) rfl (by omega) h2
  show la + 1 ≤ 39 ∧ 39 - (la + 1) < 39 - la
  omega
theorem la_X0 (us : Nat → Nat → Int32) (di : Int64) (go : Int32) : (whN (e_X0_init_30 di) (s_X0_init_30 us) 40 (0, vp_updL (fun _ => 0) 0 (r_X6_setOfPair go))).1 ≤ 39 := by
  have := whN_inv (e := e_X0_init_30 di) (f := s_X0_init_30 us) (P := fun _ z => z.1 ≤ 39) (fun n z hz hp => by
    obtain ⟨la, ly⟩ := z
    have h1 := of_decide_eq_false hz
    have h2 : ¬ (39 : Int32) ≤ nI la := fun q => h1 (Or.inl q)
    have hp : la ≤ 39 := hp
    have h3 : la < 39 := nle_lt (show (39 : Int32) = nI 39 by decide) rfl (by omega) h2
    show la + 1 ≤ 39
    omega) (fun n z hz => hz) 40 (0, vp_updL (fun _ => 0) 0 (r_X6_setOfPair go)) (Nat.zero_le 39)
  exact this
set_option maxRecDepth 20000 in
/-- X0_init -/
theorem c_X0_init (D : va_G) (r0 : Nat) (q : Nat → Nat) (ct : Int32) (dp : Int32) (we : Nat → Int32) (ok : Nat → Int32) (us : Nat → Nat → Int32) (di : Int64) (go : Int32) (l : Launch) : Ct l yX0_init cX0_init 9 none (rmM 3 68 2 80) D [.ref r0, .ref (q 1), .long di, .int go] [(r0, .inr (0, [.null, .int 0])), (q 1, .inr (5, [.int ct, .int dp, .ref (q 2), .ref (q 3), .ref (q 4)])), (q 2, aI D 20 we), (q 3, aI D 3 ok), (q 4, aG D 4 (gU q 5)), (q 5, aI D 20 (us 0)), (q 6, aI D 20 (us 1)), (q 7, aI D 20 (us 2)), (q 8, aI D 20 (us 3))] (QV (S := Nat) D (fun _ => True) (fun u => [(r0, .inr (0, [.ref u, .int (w_X0_init_0_1 us di go)])), (q 1, .inr (5, [.int ct, .int dp, .ref (q 2), .ref (q 3), .ref (q 4)])), (q 2, aI D 20 we), (q 3, aI D 3 ok), (q 4, aG D 4 (gU q 5)), (q 5, aI D 20 (us 0)), (q 6, aI D 20 (us 1)), (q 7, aI D 20 (us 2)), (q 8, aI D 20 (us 3)), (u, aI D 40 (w_X0_init_n0 us di go))])) := by
  refine Ct.ofVI 4 (lv0 := [some (.ref r0), some (.ref (q 1)), some (.long di), none, some (.int go), none, none, none, none]) (by decide) rfl rfl rfl (fun Z E F I0 => ?_)
  refine v_aload_n E dX0_init_0 rfl ?_
  refine v_objInit E dX0_init_1 mo_X0_3 rfl rfl (Nat.le_of_ble_eq_true rfl) ?_
  refine v_aload_n E dX0_init_4 rfl ?_
  refine v_bipush E dX0_init_5 (v := 40) (by decide) ?_
  refine v_newI E 40 dX0_init_7 (show (40 : Int32) = nI 40 by decide) rfl (Nat.le_of_ble_eq_true rfl) (Nat.le_of_ble_eq_true rfl) (fun qv7 => ?_)
  refine v_wd (wd2 := [(r0, .inr (0, [.null, .int 0])), (q 1, .inr (5, [.int ct, .int dp, .ref (q 2), .ref (q 3), .ref (q 4)])), (q 2, aI D 20 we), (q 3, aI D 3 ok), (q 4, aG D 4 (gU q 5)), (q 5, aI D 20 (us 0)), (q 6, aI D 20 (us 1)), (q 7, aI D 20 (us 2)), (q 8, aI D 20 (us 3)), (qv7, aI D 40 (fun _ => 0))]) rfl ?_
  refine v_putF E I0 dX0_init_9 (ci := 0) rfl iwX0 tyX0 tyX0_ok nmX0 0 rfl 0 rfl fl_X0_9 rfl rfl rfl rfl rfl rfl ?_
  refine v_wd (wd2 := [(r0, .inr (0, [.ref qv7, .int 0])), (q 1, .inr (5, [.int ct, .int dp, .ref (q 2), .ref (q 3), .ref (q 4)])), (q 2, aI D 20 we), (q 3, aI D 3 ok), (q 4, aG D 4 (gU q 5)), (q 5, aI D 20 (us 0)), (q 6, aI D 20 (us 1)), (q 7, aI D 20 (us 2)), (q 8, aI D 20 (us 3)), (qv7, aI D 40 (fun _ => 0))]) rfl ?_
  refine v_bipush E dX0_init_12 (v := 40) (by decide) ?_
  refine v_newJ E 40 dX0_init_14 (show (40 : Int32) = nI 40 by decide) rfl (Nat.le_of_ble_eq_true rfl) (Nat.le_of_ble_eq_true rfl) (fun qv14 => ?_)
  refine v_wd (wd2 := [(r0, .inr (0, [.ref qv7, .int 0])), (q 1, .inr (5, [.int ct, .int dp, .ref (q 2), .ref (q 3), .ref (q 4)])), (q 2, aI D 20 we), (q 3, aI D 3 ok), (q 4, aG D 4 (gU q 5)), (q 5, aI D 20 (us 0)), (q 6, aI D 20 (us 1)), (q 7, aI D 20 (us 2)), (q 8, aI D 20 (us 3)), (qv7, aI D 40 (fun _ => 0)), (qv14, aJ D 40 (fun _ => 0))]) rfl ?_
  refine v_astore E dX0_init_16 rfl rfl ?_
  refine v_aload E dX0_init_18 rfl ?_
  refine v_iconst E dX0_init_20 (v := 0) (by decide) ?_
  refine v_iload E dX0_init_21 rfl ?_
  refine v_cN_l E dX0_init_23 (c_X6_setOfPair D go) cs_X0_15 rfl rfl rfl (Nat.le_of_ble_eq_true rfl) [] rfl rfl ⟨Nat.le_of_ble_eq_true rfl, Nat.le_of_ble_eq_true rfl⟩ ?_
  refine v_last E dX0_init_26 10 rfl 0 (show (0 : Int32) = nI 0 by decide) (by omega) rfl ?_
  refine v_wd (wd2 := [(r0, .inr (0, [.ref qv7, .int 0])), (q 1, .inr (5, [.int ct, .int dp, .ref (q 2), .ref (q 3), .ref (q 4)])), (q 2, aI D 20 we), (q 3, aI D 3 ok), (q 4, aG D 4 (gU q 5)), (q 5, aI D 20 (us 0)), (q 6, aI D 20 (us 1)), (q 7, aI D 20 (us 2)), (q 8, aI D 20 (us 3)), (qv7, aI D 40 (fun _ => 0)), (qv14, aJ D 40 (vp_updL (fun _ => 0) 0 (r_X6_setOfPair go)))]) rfl ?_
  refine v_iconst E dX0_init_27 (v := 0) (by decide) ?_
  refine v_istore E dX0_init_28 rfl rfl ?_
  have L30 : ∀ (n : Nat) (la : Nat) (ly : Nat → Int64), la ≤ 39 → (e_X0_init_30 di) (whN (e_X0_init_30 di) (s_X0_init_30 us) n (la, ly)) = true → V Z D 2 80 [(r0, .inr (0, [.ref qv7, .int 0])), (q 1, .inr (5, [.int ct, .int dp, .ref (q 2), .ref (q 3), .ref (q 4)])), (q 2, aI D 20 we), (q 3, aI D 3 ok), (q 4, aG D 4 (gU q 5)), (q 5, aI D 20 (us 0)), (q 6, aI D 20 (us 1)), (q 7, aI D 20 (us 2)), (q 8, aI D 20 (us 3)), (qv7, aI D 40 (fun _ => 0)), (qv14, aJ D 40 ((whN (e_X0_init_30 di) (s_X0_init_30 us) n (la, ly)).2))] [some (.ref r0), some (.ref (q 1)), some (.long di), none, some (.int go), some (.ref qv14), some (.int (nI ((whN (e_X0_init_30 di) (s_X0_init_30 us) n (la, ly)).1))), none, none] [] 81 → V Z D 2 80 [(r0, .inr (0, [.ref qv7, .int 0])), (q 1, .inr (5, [.int ct, .int dp, .ref (q 2), .ref (q 3), .ref (q 4)])), (q 2, aI D 20 we), (q 3, aI D 3 ok), (q 4, aG D 4 (gU q 5)), (q 5, aI D 20 (us 0)), (q 6, aI D 20 (us 1)), (q 7, aI D 20 (us 2)), (q 8, aI D 20 (us 3)), (qv7, aI D 40 (fun _ => 0)), (qv14, aJ D 40 ly)] [some (.ref r0), some (.ref (q 1)), some (.long di), none, some (.int go), some (.ref qv14), some (.int (nI la)), none, none] [] 30 := by
    intro n
    induction n with
    | zero =>
      intro la ly hla hT30 K30
      refine v_iload E dX0_init_30 rfl ?_
      refine v_bipush E dX0_init_32 (v := 39) (by decide) ?_
      refine v_icmp_ge E 81 dX0_init_34 (by decide) (fun c_34 => ?_) (fun c_34 => ?_)
      · exact K30
      · have hla2 : la < 39 := nle_lt (show (39 : Int32) = nI 39 by decide) rfl (by omega) c_34
        refine v_aload E dX0_init_37 rfl ?_
        refine v_iload E dX0_init_39 rfl ?_
        refine v_lald E dX0_init_41 10 rfl la rfl (by omega) rfl ?_
        refine v_lconst E dX0_init_42 (v := 0) (by decide) ?_
        refine v_lcmp E dX0_init_43 ?_
        refine v_if_eq E 81 dX0_init_44 (by decide) (fun c_44 => ?_) (fun c_44 => ?_)
        · exact K30
        · refine v_aload E dX0_init_47 rfl ?_
          refine v_iload E dX0_init_49 rfl ?_
          refine v_lald E dX0_init_51 10 rfl la rfl (by omega) rfl ?_
          refine v_lload_n E dX0_init_52 rfl ?_
          refine v_land E dX0_init_53 ?_
          refine v_lconst E dX0_init_54 (v := 0) (by decide) ?_
          refine v_lcmp E dX0_init_55 ?_
          refine v_if_ne E 81 dX0_init_56 (by decide) (fun c_56 => ?_) (fun c_56 => ?_)
          · exact K30
          · exact absurd (of_decide_eq_true (p := (39 ≤ (nI la)) ∨ ((lg_cmp (ly la) 0) = 0) ∨ (¬ ((lg_cmp ((ly la) &&& di) 0) = 0))) hT30) (fun h => h.elim c_34 (fun h => h.elim c_44 (fun h => h c_56)))
    | succ n ih =>
      intro la ly hla hT30 K30
      refine v_iload E dX0_init_30 rfl ?_
      refine v_bipush E dX0_init_32 (v := 39) (by decide) ?_
      refine v_icmp_ge E 81 dX0_init_34 (by decide) (fun c_34 => ?_) (fun c_34 => ?_)
      · rw [whN_e (show (e_X0_init_30 di) (la, ly) = true from decide_eq_true (Or.inl c_34))] at K30
        exact K30
      · have hla2 : la < 39 := nle_lt (show (39 : Int32) = nI 39 by decide) rfl (by omega) c_34
        refine v_aload E dX0_init_37 rfl ?_
        refine v_iload E dX0_init_39 rfl ?_
        refine v_lald E dX0_init_41 10 rfl la rfl (by omega) rfl ?_
        refine v_lconst E dX0_init_42 (v := 0) (by decide) ?_
        refine v_lcmp E dX0_init_43 ?_
        refine v_if_eq E 81 dX0_init_44 (by decide) (fun c_44 => ?_) (fun c_44 => ?_)
        · rw [whN_e (show (e_X0_init_30 di) (la, ly) = true from decide_eq_true (Or.inr (Or.inl c_44)))] at K30
          exact K30
        · refine v_aload E dX0_init_47 rfl ?_
          refine v_iload E dX0_init_49 rfl ?_
          refine v_lald E dX0_init_51 10 rfl la rfl (by omega) rfl ?_
          refine v_lload_n E dX0_init_52 rfl ?_
          refine v_land E dX0_init_53 ?_
          refine v_lconst E dX0_init_54 (v := 0) (by decide) ?_
          refine v_lcmp E dX0_init_55 ?_
          refine v_if_ne E 81 dX0_init_56 (by decide) (fun c_56 => ?_) (fun c_56 => ?_)
          · rw [whN_e (show (e_X0_init_30 di) (la, ly) = true from decide_eq_true (Or.inr (Or.inr c_56)))] at K30
            exact K30
          · refine v_aload E dX0_init_59 rfl ?_
            refine v_iload E dX0_init_61 rfl ?_
            refine v_iconst E dX0_init_63 (v := 1) (by decide) ?_
            refine v_iadd E dX0_init_64 ?_
            refine v_aload_n E dX0_init_65 rfl ?_
            refine v_aload E dX0_init_66 rfl ?_
            refine v_iload E dX0_init_68 rfl ?_
            refine v_lald E dX0_init_70 10 rfl la rfl (by omega) rfl ?_
            refine v_cV_l E dX0_init_71 (c_X5_causesOfAny D q ct dp we ok us (ly la)) cs_X0_19 rfl rfl rfl (Nat.le_of_ble_eq_true rfl) 1 rfl rfl [1, 2, 3, 4, 5, 6, 7, 8] rfl rfl ⟨Nat.le_of_ble_eq_true rfl, Nat.le_of_ble_eq_true rfl⟩ ?_
            refine v_last E dX0_init_74 10 rfl (la + 1) (hadd rfl (show (1 : Int32) = nI 1 by decide)) (by omega) rfl ?_
            refine v_wd (wd2 := [(r0, .inr (0, [.ref qv7, .int 0])), (q 1, .inr (5, [.int ct, .int dp, .ref (q 2), .ref (q 3), .ref (q 4)])), (q 2, aI D 20 we), (q 3, aI D 3 ok), (q 4, aG D 4 (gU q 5)), (q 5, aI D 20 (us 0)), (q 6, aI D 20 (us 1)), (q 7, aI D 20 (us 2)), (q 8, aI D 20 (us 3)), (qv7, aI D 40 (fun _ => 0)), (qv14, aJ D 40 (vp_updL ly (la + 1) (r_X5_causesOfAny us (ly la))))]) rfl ?_
            refine v_iinc E dX0_init_75 (v := nI (la + 1)) rfl (inc1 _) rfl rfl ?_
            refine v_goto E 30 dX0_init_78 (by decide) ?_
            have hs : s_X0_init_30 us (la, ly) = ((la + 1), vp_updL ly (la + 1) (r_X5_causesOfAny us (ly la))) := by rfl
            rw [whN_s (show (e_X0_init_30 di) (la, ly) = false from decide_eq_false (fun h => h.elim c_34 (fun h => h.elim c_44 (fun h => h c_56)))), hs] at K30 hT30
            exact ih (la + 1) (vp_updL ly (la + 1) (r_X5_causesOfAny us (ly la))) (by omega) hT30 K30
  refine L30 40 0 (vp_updL (fun _ => 0) 0 (r_X6_setOfPair go)) (Nat.zero_le 39) (T_X0 us di go) ?_
  have hLA := la_X0 us di go
  refine v_aload E dX0_init_81 rfl ?_
  refine v_iload E dX0_init_83 rfl ?_
  refine v_lald E dX0_init_85 10 rfl ((whN (e_X0_init_30 di) (s_X0_init_30 us) 40 (0, vp_updL (fun _ => 0) 0 (r_X6_setOfPair go))).1) rfl (by omega) rfl ?_
  refine v_lload_n E dX0_init_86 rfl ?_
  refine v_land E dX0_init_87 ?_
  refine v_cN_i E dX0_init_88 (c_X6_smallestPair D ((((whN (e_X0_init_30 di) (s_X0_init_30 us) 40 (0, vp_updL (fun _ => 0) 0 (r_X6_setOfPair go))).2) ((whN (e_X0_init_30 di) (s_X0_init_30 us) 40 (0, vp_updL (fun _ => 0) 0 (r_X6_setOfPair go))).1)) &&& di)) cs_X0_25 rfl rfl rfl (Nat.le_of_ble_eq_true rfl) [] rfl rfl ⟨Nat.le_of_ble_eq_true rfl, Nat.le_of_ble_eq_true rfl⟩ ?_
  refine v_istore E dX0_init_91 rfl rfl ?_
  refine v_iload E dX0_init_93 rfl ?_
  refine v_top (y := nI ((whN (e_X0_init_30 di) (s_X0_init_30 us) 40 (0, vp_updL (fun _ => 0) 0 (r_X6_setOfPair go))).1 + 1) - 1) (nI_pred _).symm ?_
  refine v_istore E dX0_init_95 rfl rfl ?_
  have L97 : ∀ (u : Nat) (nx : Int32) (lk : Nat) (pa : Nat → Int32), u ≤ ((whN (e_X0_init_30 di) (s_X0_init_30 us) 40 (0, vp_updL (fun _ => 0) 0 (r_X6_setOfPair go))).1 + 1) → lk + u ≤ 40 → (nx = -10 ∨ (nx = nI nx.toNatClampNeg ∧ nx.toNatClampNeg < 40)) → V Z D 2 80 [(r0, .inr (0, [.ref qv7, .int (nI ((brkD b_X0_init_97 (s_X0_init_97 us di go) u (nx, lk, pa)).2.1))])), (q 1, .inr (5, [.int ct, .int dp, .ref (q 2), .ref (q 3), .ref (q 4)])), (q 2, aI D 20 we), (q 3, aI D 3 ok), (q 4, aG D 4 (gU q 5)), (q 5, aI D 20 (us 0)), (q 6, aI D 20 (us 1)), (q 7, aI D 20 (us 2)), (q 8, aI D 20 (us 3)), (qv7, aI D 40 ((brkD b_X0_init_97 (s_X0_init_97 us di go) u (nx, lk, pa)).2.2)), (qv14, aJ D 40 ((whN (e_X0_init_30 di) (s_X0_init_30 us) 40 (0, vp_updL (fun _ => 0) 0 (r_X6_setOfPair go))).2))] [some (.ref r0), some (.ref (q 1)), some (.long di), none, some (.int go), some (.ref qv14), some (.int (nI ((whN (e_X0_init_30 di) (s_X0_init_30 us) 40 (0, vp_updL (fun _ => 0) 0 (r_X6_setOfPair go))).1))), some (.int ((brkD b_X0_init_97 (s_X0_init_97 us di go) u (nx, lk, pa)).1)), none] [] 165 → V Z D 2 80 [(r0, .inr (0, [.ref qv7, .int (nI lk)])), (q 1, .inr (5, [.int ct, .int dp, .ref (q 2), .ref (q 3), .ref (q 4)])), (q 2, aI D 20 we), (q 3, aI D 3 ok), (q 4, aG D 4 (gU q 5)), (q 5, aI D 20 (us 0)), (q 6, aI D 20 (us 1)), (q 7, aI D 20 (us 2)), (q 8, aI D 20 (us 3)), (qv7, aI D 40 pa), (qv14, aJ D 40 ((whN (e_X0_init_30 di) (s_X0_init_30 us) 40 (0, vp_updL (fun _ => 0) 0 (r_X6_setOfPair go))).2))] [some (.ref r0), some (.ref (q 1)), some (.long di), none, some (.int go), some (.ref qv14), some (.int (nI ((whN (e_X0_init_30 di) (s_X0_init_30 us) 40 (0, vp_updL (fun _ => 0) 0 (r_X6_setOfPair go))).1))), some (.int nx), some (.int (nI u - 1))] [] 97 := by
    intro u
    induction u with
    | zero =>
      intro  nx lk pa hi hlk hnx K97
      refine v_iload E dX0_init_97 rfl ?_
      refine v_if_lt E 165 dX0_init_99 (by decide) (fun c_99 => ?_) (fun c_99 => ?_)
      · refine v_mask [true, true, true, true, true, true, true, true, false] rfl ?_
        exact K97
      · exact absurd (by decide) c_99
    | succ u_ ih =>
      intro  nx lk pa hi hlk hnx K97
      rw [nI_pred u_]
      refine v_iload E dX0_init_97 rfl ?_
      refine v_if_lt E 165 dX0_init_99 (by decide) (fun c_99 => ?_) (fun c_99 => ?_)
      · exact absurd c_99 (nI_pos (by omega))
      · refine v_iload E dX0_init_102 rfl ?_
        refine v_bipush E dX0_init_104 (v := -10) (by decide) ?_
        refine v_icmp_eq E 165 dX0_init_106 (by decide) (fun c_106 => ?_) (fun c_106 => ?_)
        · rw [brkD_t (show b_X0_init_97 (nx, lk, pa) = true from decide_eq_true c_106)] at K97
          refine v_mask [true, true, true, true, true, true, true, true, false] rfl ?_
          exact K97
        · obtain ⟨hn1, hn2⟩ := hnx.resolve_left c_106
          refine v_aload_n E dX0_init_109 rfl ?_
          refine v_get E dX0_init_110 (ci := 0) rfl iwX0 0 rfl 0 rfl fl_X0_9 rfl ?_
          refine v_aload_n E dX0_init_113 rfl ?_
          refine v_get E dX0_init_114 (ci := 0) rfl iwX0 0 rfl 1 rfl fl_X0_29 rfl ?_
          refine v_iload E dX0_init_117 rfl ?_
          refine v_iast E dX0_init_119 9 rfl lk rfl (by omega) rfl ?_
          refine v_wd (wd2 := [(r0, .inr (0, [.ref qv7, .int (nI lk)])), (q 1, .inr (5, [.int ct, .int dp, .ref (q 2), .ref (q 3), .ref (q 4)])), (q 2, aI D 20 we), (q 3, aI D 3 ok), (q 4, aG D 4 (gU q 5)), (q 5, aI D 20 (us 0)), (q 6, aI D 20 (us 1)), (q 7, aI D 20 (us 2)), (q 8, aI D 20 (us 3)), (qv7, aI D 40 (upd pa lk nx)), (qv14, aJ D 40 ((whN (e_X0_init_30 di) (s_X0_init_30 us) 40 (0, vp_updL (fun _ => 0) 0 (r_X6_setOfPair go))).2))]) rfl ?_
          refine v_aload_n E dX0_init_120 rfl ?_
          refine v_dup E dX0_init_121 rfl ?_
          refine v_get E dX0_init_122 (ci := 0) rfl iwX0 0 rfl 1 rfl fl_X0_29 rfl ?_
          refine v_iconst E dX0_init_125 (v := 1) (by decide) ?_
          refine v_iadd E dX0_init_126 ?_
          refine v_put E dX0_init_127 (ci := 0) rfl iwX0 tyX0 tyX0_ok nmX0 0 rfl 1 rfl fl_X0_29 rfl rfl rfl rfl rfl ?_
          refine v_wd (wd2 := [(r0, .inr (0, [.ref qv7, .int ((nI lk) + 1)])), (q 1, .inr (5, [.int ct, .int dp, .ref (q 2), .ref (q 3), .ref (q 4)])), (q 2, aI D 20 we), (q 3, aI D 3 ok), (q 4, aG D 4 (gU q 5)), (q 5, aI D 20 (us 0)), (q 6, aI D 20 (us 1)), (q 7, aI D 20 (us 2)), (q 8, aI D 20 (us 3)), (qv7, aI D 40 (upd pa lk nx)), (qv14, aJ D 40 ((whN (e_X0_init_30 di) (s_X0_init_30 us) 40 (0, vp_updL (fun _ => 0) 0 (r_X6_setOfPair go))).2))]) rfl ?_
          refine v_iload E dX0_init_130 rfl ?_
          refine v_if_le E 155 dX0_init_132 (by decide) (fun c_132 => ?_) (fun c_132 => ?_)
          · refine v_bipush E dX0_init_155 (v := -10) (by decide) ?_
            refine v_istore E dX0_init_157 rfl rfl ?_
            refine v_iinc E dX0_init_159 (v := nI u_ - 1) rfl (dec2 _) rfl rfl ?_
            refine v_goto E 97 dX0_init_162 (by decide) ?_
            rw [show (nI lk) + 1 = nI (lk + 1) from (hadd rfl (show (1 : Int32) = nI 1 by decide))]
            have hs : s_X0_init_97 us di go u_ (nx, lk, pa) = ((-10), (lk + 1), upd pa lk nx) := by simp only [s_X0_init_97, if_pos c_132]
            rw [brkD_f (show b_X0_init_97 (nx, lk, pa) = false from decide_eq_false c_106), hs] at K97
            exact ih (-10) (lk + 1) (upd pa lk nx) (by omega) (by omega) (Or.inl rfl) K97
          · have hu1 : 1 ≤ u_ := by rcases Nat.eq_zero_or_pos u_ with z | z; exact absurd (by rw [z]; decide) c_132; exact z
            refine v_aload_n E dX0_init_135 rfl ?_
            refine v_iload E dX0_init_136 rfl ?_
            refine v_cV_l E dX0_init_138 (c_X5_followersOf D q ct dp we ok us nx nx.toNatClampNeg hn1 (by omega)) cs_X0_33 rfl rfl rfl (Nat.le_of_ble_eq_true rfl) 1 rfl rfl [1, 2, 3, 4, 5, 6, 7, 8] rfl rfl ⟨Nat.le_of_ble_eq_true rfl, Nat.le_of_ble_eq_true rfl⟩ ?_
            refine v_aload E dX0_init_141 rfl ?_
            refine v_iload E dX0_init_143 rfl ?_
            refine v_iconst E dX0_init_145 (v := 1) (by decide) ?_
            refine v_isub E dX0_init_146 ?_
            refine v_lald E dX0_init_147 10 rfl (u_ - 1) (pk_sub (a := u_) (b := 1) (by omega)) (by omega) rfl ?_
            refine v_land E dX0_init_148 ?_
            refine v_cN_i E dX0_init_149 (c_X6_smallestPair D ((r_X5_followersOf us nx nx.toNatClampNeg) &&& (((whN (e_X0_init_30 di) (s_X0_init_30 us) 40 (0, vp_updL (fun _ => 0) 0 (r_X6_setOfPair go))).2) (u_ - 1)))) cs_X0_25 rfl rfl rfl (Nat.le_of_ble_eq_true rfl) [] rfl rfl ⟨Nat.le_of_ble_eq_true rfl, Nat.le_of_ble_eq_true rfl⟩ ?_
            refine v_goto E 157 dX0_init_152 (by decide) ?_
            refine v_istore E dX0_init_157 rfl rfl ?_
            refine v_iinc E dX0_init_159 (v := nI u_ - 1) rfl (dec2 _) rfl rfl ?_
            refine v_goto E 97 dX0_init_162 (by decide) ?_
            rw [show (nI lk) + 1 = nI (lk + 1) from (hadd rfl (show (1 : Int32) = nI 1 by decide))]
            have hs : s_X0_init_97 us di go u_ (nx, lk, pa) = ((r_X6_smallestPair ((r_X5_followersOf us nx nx.toNatClampNeg) &&& (((whN (e_X0_init_30 di) (s_X0_init_30 us) 40 (0, vp_updL (fun _ => 0) 0 (r_X6_setOfPair go))).2) (u_ - 1)))), (lk + 1), upd pa lk nx) := by simp only [s_X0_init_97, if_neg c_132]
            rw [brkD_f (show b_X0_init_97 (nx, lk, pa) = false from decide_eq_false c_106), hs] at K97
            exact ih (r_X6_smallestPair ((r_X5_followersOf us nx nx.toNatClampNeg) &&& (((whN (e_X0_init_30 di) (s_X0_init_30 us) 40 (0, vp_updL (fun _ => 0) 0 (r_X6_setOfPair go))).2) (u_ - 1)))) (lk + 1) (upd pa lk nx) (by omega) (by omega) (spP_ok _) K97
  refine L97 ((whN (e_X0_init_30 di) (s_X0_init_30 us) 40 (0, vp_updL (fun _ => 0) 0 (r_X6_setOfPair go))).1 + 1)  (r_X6_smallestPair ((((whN (e_X0_init_30 di) (s_X0_init_30 us) 40 (0, vp_updL (fun _ => 0) 0 (r_X6_setOfPair go))).2) ((whN (e_X0_init_30 di) (s_X0_init_30 us) 40 (0, vp_updL (fun _ => 0) 0 (r_X6_setOfPair go))).1)) &&& di)) 0 (fun _ => 0) (by omega) (by omega) (spP_ok _) ?_
  refine v_sub [0, 1, 2, 3, 4, 5, 6, 7, 8, 9] rfl (wd' := [(r0, .inr (0, [.ref qv7, .int (nI ((brkD b_X0_init_97 (s_X0_init_97 us di go) ((whN (e_X0_init_30 di) (s_X0_init_30 us) 40 (0, vp_updL (fun _ => 0) 0 (r_X6_setOfPair go))).1 + 1) ((r_X6_smallestPair ((((whN (e_X0_init_30 di) (s_X0_init_30 us) 40 (0, vp_updL (fun _ => 0) 0 (r_X6_setOfPair go))).2) ((whN (e_X0_init_30 di) (s_X0_init_30 us) 40 (0, vp_updL (fun _ => 0) 0 (r_X6_setOfPair go))).1)) &&& di)), 0, fun _ => 0)).2.1))])), (q 1, .inr (5, [.int ct, .int dp, .ref (q 2), .ref (q 3), .ref (q 4)])), (q 2, aI D 20 we), (q 3, aI D 3 ok), (q 4, aG D 4 (gU q 5)), (q 5, aI D 20 (us 0)), (q 6, aI D 20 (us 1)), (q 7, aI D 20 (us 2)), (q 8, aI D 20 (us 3)), (qv7, aI D 40 ((brkD b_X0_init_97 (s_X0_init_97 us di go) ((whN (e_X0_init_30 di) (s_X0_init_30 us) 40 (0, vp_updL (fun _ => 0) 0 (r_X6_setOfPair go))).1 + 1) ((r_X6_smallestPair ((((whN (e_X0_init_30 di) (s_X0_init_30 us) 40 (0, vp_updL (fun _ => 0) 0 (r_X6_setOfPair go))).2) ((whN (e_X0_init_30 di) (s_X0_init_30 us) 40 (0, vp_updL (fun _ => 0) 0 (r_X6_setOfPair go))).1)) &&& di)), 0, fun _ => 0)).2.2))]) rfl ?_
  exact v_vret E F dX0_init_165 rfl qv7 trivial rfl (Nat.le_of_ble_eq_true rfl) (Nat.le_of_ble_eq_true rfl)

