/-! the reference: chains, rebuild, shards -/
theorem in_pos {v hi : Int32} (h : ¬ r_X7_in v 0 hi = 0) : v = nI v.toNatClampNeg ∧ v.toNatClampNeg < 2 ^ 31 := by
  unfold r_X7_in at h
  by_cases h1 : v < 0
  · rw [if_pos h1] at h; exact absurd rfl h
  obtain ⟨j, hj, rfl⟩ := nI_of h1
  rw [nI_clamp hj]
  exact ⟨rfl, hj⟩
def s_X7_laySteps_2 (go : Int32) (i : Nat) (st1 : Nat → Int32) : Nat → Int32 := if (nI i) = go then upd st1 i 0 else upd st1 i (-10)
def s_X7_laySteps_56 (g : Nat → Int32) (d : Nat) (p : Nat) (j : Nat) (st4 : Nat → Int32) : Nat → Int32 := if (st4 j) = (nI d) then (if (r_X7_follows g (nI p) (nI j) p j) = 0 then upd st4 p (st4 p) else upd st4 p ((nI d) + 1)) else upd st4 p (st4 p)
def b_X7_laySteps_56 (p : Nat) (st4 : Nat → Int32) : Bool := decide (0 ≤ (st4 p))
def s_X7_laySteps_41 (g : Nat → Int32) (N : Nat) (d : Nat) (p : Nat) (st3 : Nat → Int32) : Nat → Int32 := (brkN (b_X7_laySteps_56 p) (s_X7_laySteps_56 g d p) (2 * N) 0 st3)
def s_X7_laySteps_33 (g : Nat → Int32) (N : Nat) (d : Nat) (st2 : Nat → Int32) : Nat → Int32 := (foldN (s_X7_laySteps_41 g N d) (2 * N) 0 st2)
def w_X7_laySteps_2 (g : Nat → Int32) (stp : Nat → Int32) (go : Int32) (N : Nat) : Nat → Int32 := (foldN (s_X7_laySteps_33 g N) 40 0 (foldN (s_X7_laySteps_2 go) 40 0 stp))
set_option maxRecDepth 20000 in
/-- X7_laySteps -/
theorem c_X7_laySteps (D : va_G) (q : Nat → Nat) (g : Nat → Int32) (stp : Nat → Int32) (go : Int32) (N : Nat) (h0 : g 0 = nI N) (hN : N ≤ 20) (l : Launch) : Ct l yX7_laySteps cX7_laySteps 5 none (rmM 2 49 0 0) D [.ref (q 0), .int go] [(q 0, .inr (7, [.ref (q 1), .ref (q 2), .ref (q 3), .ref (q 4), .ref (q 5), .ref (q 6), .ref (q 7), .ref (q 8), .ref (q 9), .ref (q 10)])), (q 1, aI D 703 g), (q 5, aI D 40 stp)] (QV1 D [(q 0, .inr (7, [.ref (q 1), .ref (q 2), .ref (q 3), .ref (q 4), .ref (q 5), .ref (q 6), .ref (q 7), .ref (q 8), .ref (q 9), .ref (q 10)])), (q 1, aI D 703 g), (q 5, aI D 40 (w_X7_laySteps_2 g stp go N))]) := by
  refine Ct.ofV 3 (lv0 := [some (.ref (q 0)), some (.int go), none, none, none]) (by decide) rfl rfl (fun Z E F => ?_)
  refine v_iconst E dX7_laySteps_0 (v := 0) (by decide) ?_
  refine v_istore_n E dX7_laySteps_1 rfl rfl ?_
  have L2 : ∀ (n i : Nat) (st1 : Nat → Int32), i + n = 40 → V Z D 0 0 [(q 0, .inr (7, [.ref (q 1), .ref (q 2), .ref (q 3), .ref (q 4), .ref (q 5), .ref (q 6), .ref (q 7), .ref (q 8), .ref (q 9), .ref (q 10)])), (q 1, aI D 703 g), (q 5, aI D 40 (foldN (s_X7_laySteps_2 go) n i st1))] [some (.ref (q 0)), some (.int go), some (.int (nI 40)), none, none] [] 31 → V Z D 0 0 [(q 0, .inr (7, [.ref (q 1), .ref (q 2), .ref (q 3), .ref (q 4), .ref (q 5), .ref (q 6), .ref (q 7), .ref (q 8), .ref (q 9), .ref (q 10)])), (q 1, aI D 703 g), (q 5, aI D 40 st1)] [some (.ref (q 0)), some (.int go), some (.int (nI i)), none, none] [] 2 := by
    intro n
    induction n with
    | zero =>
      intro i st1 hi  K2
      have hiN : i = 40 := by omega
      rw [hiN]
      refine v_iload_n E dX7_laySteps_2 rfl ?_
      refine v_bipush E dX7_laySteps_3 (v := 40) (by decide) ?_
      refine v_icmp_ge E 31 dX7_laySteps_5 (by decide) (fun c_5 => ?_) (fun c_5 => ?_)
      · exact K2
      · exact absurd (leN (a := 40) (b := 40) (show (40 : Int32) = nI 40 by decide) rfl (by omega) (by omega)) c_5
    | succ n ih =>
      intro i st1 hi  K2
      refine v_iload_n E dX7_laySteps_2 rfl ?_
      refine v_bipush E dX7_laySteps_3 (v := 40) (by decide) ?_
      refine v_icmp_ge E 31 dX7_laySteps_5 (by decide) (fun c_5 => ?_) (fun c_5 => ?_)
      · exact absurd c_5 (nleN (a := 40) (b := i) (show (40 : Int32) = nI 40 by decide) rfl (by omega) (by omega))
      · refine v_aload_n E dX7_laySteps_8 rfl ?_
        refine v_get E dX7_laySteps_9 (ci := 7) rfl iwX7 0 rfl 4 rfl fl_X7_23 rfl ?_
        refine v_iload_n E dX7_laySteps_12 rfl ?_
        refine v_iload_n E dX7_laySteps_13 rfl ?_
        refine v_iload_n E dX7_laySteps_14 rfl ?_
        refine v_icmp_ne E 22 dX7_laySteps_15 (by decide) (fun c_15 => ?_) (fun c_15 => ?_)
        · refine v_bipush E dX7_laySteps_22 (v := -10) (by decide) ?_
          refine v_iast E dX7_laySteps_24 2 rfl i rfl (by omega) rfl ?_
          refine v_wd (wd2 := [(q 0, .inr (7, [.ref (q 1), .ref (q 2), .ref (q 3), .ref (q 4), .ref (q 5), .ref (q 6), .ref (q 7), .ref (q 8), .ref (q 9), .ref (q 10)])), (q 1, aI D 703 g), (q 5, aI D 40 (upd st1 i (-10)))]) rfl ?_
          refine v_iinc E dX7_laySteps_25 (v := nI (i + 1)) rfl (inc1 _) rfl rfl ?_
          refine v_goto E 2 dX7_laySteps_28 (by decide) ?_
          have hs : s_X7_laySteps_2 go i st1 = (upd st1 i (-10)) := by simp only [s_X7_laySteps_2, if_neg c_15]
          rw [foldN_s (s_X7_laySteps_2 go) n i st1, hs] at K2
          exact ih (i + 1) (upd st1 i (-10)) (by omega) K2
        · refine v_iconst E dX7_laySteps_18 (v := 0) (by decide) ?_
          refine v_goto E 24 dX7_laySteps_19 (by decide) ?_
          refine v_iast E dX7_laySteps_24 2 rfl i rfl (by omega) rfl ?_
          refine v_wd (wd2 := [(q 0, .inr (7, [.ref (q 1), .ref (q 2), .ref (q 3), .ref (q 4), .ref (q 5), .ref (q 6), .ref (q 7), .ref (q 8), .ref (q 9), .ref (q 10)])), (q 1, aI D 703 g), (q 5, aI D 40 (upd st1 i 0))]) rfl ?_
          refine v_iinc E dX7_laySteps_25 (v := nI (i + 1)) rfl (inc1 _) rfl rfl ?_
          refine v_goto E 2 dX7_laySteps_28 (by decide) ?_
          have hs : s_X7_laySteps_2 go i st1 = (upd st1 i 0) := by simp only [s_X7_laySteps_2, if_pos c_15]
          rw [foldN_s (s_X7_laySteps_2 go) n i st1, hs] at K2
          exact ih (i + 1) (upd st1 i 0) (by omega) K2
  refine L2 40 0 stp (by omega)  ?_
  refine v_iconst E dX7_laySteps_31 (v := 0) (by decide) ?_
  refine v_istore_n E dX7_laySteps_32 rfl rfl ?_
  have L33 : ∀ (n1 d : Nat) (st2 : Nat → Int32), d + n1 = 40 → V Z D 0 0 [(q 0, .inr (7, [.ref (q 1), .ref (q 2), .ref (q 3), .ref (q 4), .ref (q 5), .ref (q 6), .ref (q 7), .ref (q 8), .ref (q 9), .ref (q 10)])), (q 1, aI D 703 g), (q 5, aI D 40 (foldN (s_X7_laySteps_33 g N) n1 d st2))] [some (.ref (q 0)), some (.int go), some (.int (nI 40)), none, none] [] 135 → V Z D 0 0 [(q 0, .inr (7, [.ref (q 1), .ref (q 2), .ref (q 3), .ref (q 4), .ref (q 5), .ref (q 6), .ref (q 7), .ref (q 8), .ref (q 9), .ref (q 10)])), (q 1, aI D 703 g), (q 5, aI D 40 st2)] [some (.ref (q 0)), some (.int go), some (.int (nI d)), none, none] [] 33 := by
    intro n1
    induction n1 with
    | zero =>
      intro d st2 hi  K33
      have hiN : d = 40 := by omega
      rw [hiN]
      refine v_iload_n E dX7_laySteps_33 rfl ?_
      refine v_bipush E dX7_laySteps_34 (v := 40) (by decide) ?_
      refine v_icmp_ge E 135 dX7_laySteps_36 (by decide) (fun c_36 => ?_) (fun c_36 => ?_)
      · exact K33
      · exact absurd (leN (a := 40) (b := 40) (show (40 : Int32) = nI 40 by decide) rfl (by omega) (by omega)) c_36
    | succ n1 ih =>
      intro d st2 hi  K33
      refine v_iload_n E dX7_laySteps_33 rfl ?_
      refine v_bipush E dX7_laySteps_34 (v := 40) (by decide) ?_
      refine v_icmp_ge E 135 dX7_laySteps_36 (by decide) (fun c_36 => ?_) (fun c_36 => ?_)
      · exact absurd c_36 (nleN (a := 40) (b := d) (show (40 : Int32) = nI 40 by decide) rfl (by omega) (by omega))
      · refine v_iconst E dX7_laySteps_39 (v := 0) (by decide) ?_
        refine v_istore_n E dX7_laySteps_40 rfl rfl ?_
        have L41 : ∀ (n2 p : Nat) (st3 : Nat → Int32), p + n2 = (2 * N) → V Z D 0 0 [(q 0, .inr (7, [.ref (q 1), .ref (q 2), .ref (q 3), .ref (q 4), .ref (q 5), .ref (q 6), .ref (q 7), .ref (q 8), .ref (q 9), .ref (q 10)])), (q 1, aI D 703 g), (q 5, aI D 40 (foldN (s_X7_laySteps_41 g N d) n2 p st3))] [some (.ref (q 0)), some (.int go), some (.int (nI d)), some (.int (nI (2 * N))), none] [] 129 → V Z D 0 0 [(q 0, .inr (7, [.ref (q 1), .ref (q 2), .ref (q 3), .ref (q 4), .ref (q 5), .ref (q 6), .ref (q 7), .ref (q 8), .ref (q 9), .ref (q 10)])), (q 1, aI D 703 g), (q 5, aI D 40 st3)] [some (.ref (q 0)), some (.int go), some (.int (nI d)), some (.int (nI p)), none] [] 41 := by
          intro n2
          induction n2 with
          | zero =>
            intro p st3 hi  K41
            have hiN : p = (2 * N) := by omega
            rw [hiN]
            refine v_iload_n E dX7_laySteps_41 rfl ?_
            refine v_iconst E dX7_laySteps_42 (v := 2) (by decide) ?_
            refine v_aload_n E dX7_laySteps_43 rfl ?_
            refine v_get E dX7_laySteps_44 (ci := 7) rfl iwX7 0 rfl 0 rfl fl_X7_7 rfl ?_
            refine v_iconst E dX7_laySteps_47 (v := 0) (by decide) ?_
            refine v_iald E dX7_laySteps_48 1 rfl 0 (show (0 : Int32) = nI 0 by decide) (by omega) rfl ?_
            refine v_imul E dX7_laySteps_49 ?_
            refine v_icmp_ge E 129 dX7_laySteps_50 (by decide) (fun c_50 => ?_) (fun c_50 => ?_)
            · exact K41
            · exact absurd (leN (a := (2 * N)) (b := (2 * N)) (hmul (show (2 : Int32) = nI 2 by decide) h0) rfl (by omega) (by omega)) c_50
          | succ n2 ih =>
            intro p st3 hi  K41
            refine v_iload_n E dX7_laySteps_41 rfl ?_
            refine v_iconst E dX7_laySteps_42 (v := 2) (by decide) ?_
            refine v_aload_n E dX7_laySteps_43 rfl ?_
            refine v_get E dX7_laySteps_44 (ci := 7) rfl iwX7 0 rfl 0 rfl fl_X7_7 rfl ?_
            refine v_iconst E dX7_laySteps_47 (v := 0) (by decide) ?_
            refine v_iald E dX7_laySteps_48 1 rfl 0 (show (0 : Int32) = nI 0 by decide) (by omega) rfl ?_
            refine v_imul E dX7_laySteps_49 ?_
            refine v_icmp_ge E 129 dX7_laySteps_50 (by decide) (fun c_50 => ?_) (fun c_50 => ?_)
            · exact absurd c_50 (nleN (a := (2 * N)) (b := p) (hmul (show (2 : Int32) = nI 2 by decide) h0) rfl (by omega) (by omega))
            · refine v_iconst E dX7_laySteps_53 (v := 0) (by decide) ?_
              refine v_istore E dX7_laySteps_54 rfl rfl ?_
              have L56 : ∀ (n3 j : Nat) (st4 : Nat → Int32), j + n3 = (2 * N) → V Z D 0 0 [(q 0, .inr (7, [.ref (q 1), .ref (q 2), .ref (q 3), .ref (q 4), .ref (q 5), .ref (q 6), .ref (q 7), .ref (q 8), .ref (q 9), .ref (q 10)])), (q 1, aI D 703 g), (q 5, aI D 40 (brkN (b_X7_laySteps_56 p) (s_X7_laySteps_56 g d p) n3 j st4))] [some (.ref (q 0)), some (.int go), some (.int (nI d)), some (.int (nI p)), none] [] 123 → V Z D 0 0 [(q 0, .inr (7, [.ref (q 1), .ref (q 2), .ref (q 3), .ref (q 4), .ref (q 5), .ref (q 6), .ref (q 7), .ref (q 8), .ref (q 9), .ref (q 10)])), (q 1, aI D 703 g), (q 5, aI D 40 st4)] [some (.ref (q 0)), some (.int go), some (.int (nI d)), some (.int (nI p)), some (.int (nI j))] [] 56 := by
                intro n3
                induction n3 with
                | zero =>
                  intro j st4 hi  K56
                  have hiN : j = (2 * N) := by omega
                  rw [hiN]
                  refine v_iload E dX7_laySteps_56 rfl ?_
                  refine v_iconst E dX7_laySteps_58 (v := 2) (by decide) ?_
                  refine v_aload_n E dX7_laySteps_59 rfl ?_
                  refine v_get E dX7_laySteps_60 (ci := 7) rfl iwX7 0 rfl 0 rfl fl_X7_7 rfl ?_
                  refine v_iconst E dX7_laySteps_63 (v := 0) (by decide) ?_
                  refine v_iald E dX7_laySteps_64 1 rfl 0 (show (0 : Int32) = nI 0 by decide) (by omega) rfl ?_
                  refine v_imul E dX7_laySteps_65 ?_
                  refine v_icmp_ge E 123 dX7_laySteps_66 (by decide) (fun c_66 => ?_) (fun c_66 => ?_)
                  · refine v_mask [true, true, true, true, false] rfl ?_
                    exact K56
                  · exact absurd (leN (a := (2 * N)) (b := (2 * N)) (hmul (show (2 : Int32) = nI 2 by decide) h0) rfl (by omega) (by omega)) c_66
                | succ n3 ih =>
                  intro j st4 hi  K56
                  refine v_iload E dX7_laySteps_56 rfl ?_
                  refine v_iconst E dX7_laySteps_58 (v := 2) (by decide) ?_
                  refine v_aload_n E dX7_laySteps_59 rfl ?_
                  refine v_get E dX7_laySteps_60 (ci := 7) rfl iwX7 0 rfl 0 rfl fl_X7_7 rfl ?_
                  refine v_iconst E dX7_laySteps_63 (v := 0) (by decide) ?_
                  refine v_iald E dX7_laySteps_64 1 rfl 0 (show (0 : Int32) = nI 0 by decide) (by omega) rfl ?_
                  refine v_imul E dX7_laySteps_65 ?_
                  refine v_icmp_ge E 123 dX7_laySteps_66 (by decide) (fun c_66 => ?_) (fun c_66 => ?_)
                  · exact absurd c_66 (nleN (a := (2 * N)) (b := j) (hmul (show (2 : Int32) = nI 2 by decide) h0) rfl (by omega) (by omega))
                  · refine v_aload_n E dX7_laySteps_69 rfl ?_
                    refine v_get E dX7_laySteps_70 (ci := 7) rfl iwX7 0 rfl 4 rfl fl_X7_23 rfl ?_
                    refine v_iload_n E dX7_laySteps_73 rfl ?_
                    refine v_iald E dX7_laySteps_74 2 rfl p rfl (by omega) rfl ?_
                    refine v_if_ge E 123 dX7_laySteps_75 (by decide) (fun c_75 => ?_) (fun c_75 => ?_)
                    · rw [brkN_t (show (b_X7_laySteps_56 p) st4 = true from decide_eq_true c_75)] at K56
                      refine v_mask [true, true, true, true, false] rfl ?_
                      exact K56
                    · refine v_aload_n E dX7_laySteps_78 rfl ?_
                      refine v_get E dX7_laySteps_79 (ci := 7) rfl iwX7 0 rfl 4 rfl fl_X7_23 rfl ?_
                      refine v_iload_n E dX7_laySteps_82 rfl ?_
                      refine v_aload_n E dX7_laySteps_83 rfl ?_
                      refine v_get E dX7_laySteps_84 (ci := 7) rfl iwX7 0 rfl 4 rfl fl_X7_23 rfl ?_
                      refine v_iload E dX7_laySteps_87 rfl ?_
                      refine v_iald E dX7_laySteps_89 2 rfl j rfl (by omega) rfl ?_
                      refine v_iload_n E dX7_laySteps_90 rfl ?_
                      refine v_icmp_ne E 110 dX7_laySteps_91 (by decide) (fun c_91 => ?_) (fun c_91 => ?_)
                      · refine v_aload_n E dX7_laySteps_110 rfl ?_
                        refine v_get E dX7_laySteps_111 (ci := 7) rfl iwX7 0 rfl 4 rfl fl_X7_23 rfl ?_
                        refine v_iload_n E dX7_laySteps_114 rfl ?_
                        refine v_iald E dX7_laySteps_115 2 rfl p rfl (by omega) rfl ?_
                        refine v_iast E dX7_laySteps_116 2 rfl p rfl (by omega) rfl ?_
                        refine v_wd (wd2 := [(q 0, .inr (7, [.ref (q 1), .ref (q 2), .ref (q 3), .ref (q 4), .ref (q 5), .ref (q 6), .ref (q 7), .ref (q 8), .ref (q 9), .ref (q 10)])), (q 1, aI D 703 g), (q 5, aI D 40 (upd st4 p (st4 p)))]) rfl ?_
                        refine v_iinc E dX7_laySteps_117 (v := nI (j + 1)) rfl (inc1 _) rfl rfl ?_
                        refine v_goto E 56 dX7_laySteps_120 (by decide) ?_
                        have hs : s_X7_laySteps_56 g d p j st4 = (upd st4 p (st4 p)) := by simp only [s_X7_laySteps_56, if_neg c_91]
                        rw [brkN_f (show (b_X7_laySteps_56 p) st4 = false from decide_eq_false c_75), hs] at K56
                        exact ih (j + 1) (upd st4 p (st4 p)) (by omega) K56
                      · refine v_aload_n E dX7_laySteps_94 rfl ?_
                        refine v_iload_n E dX7_laySteps_95 rfl ?_
                        refine v_iload E dX7_laySteps_96 rfl ?_
                        refine v_cV_i E dX7_laySteps_98 (c_X7_follows D q g (nI p) (nI j) p j rfl rfl (by omega) (by omega)) cs_X7_80 rfl rfl rfl (Nat.le_of_ble_eq_true rfl) 0 rfl rfl [0, 1] rfl rfl ⟨Nat.le_of_ble_eq_true rfl, Nat.le_of_ble_eq_true rfl⟩ ?_
                        refine v_if_eq E 110 dX7_laySteps_101 (by decide) (fun c_101 => ?_) (fun c_101 => ?_)
                        · refine v_aload_n E dX7_laySteps_110 rfl ?_
                          refine v_get E dX7_laySteps_111 (ci := 7) rfl iwX7 0 rfl 4 rfl fl_X7_23 rfl ?_
                          refine v_iload_n E dX7_laySteps_114 rfl ?_
                          refine v_iald E dX7_laySteps_115 2 rfl p rfl (by omega) rfl ?_
                          refine v_iast E dX7_laySteps_116 2 rfl p rfl (by omega) rfl ?_
                          refine v_wd (wd2 := [(q 0, .inr (7, [.ref (q 1), .ref (q 2), .ref (q 3), .ref (q 4), .ref (q 5), .ref (q 6), .ref (q 7), .ref (q 8), .ref (q 9), .ref (q 10)])), (q 1, aI D 703 g), (q 5, aI D 40 (upd st4 p (st4 p)))]) rfl ?_
                          refine v_iinc E dX7_laySteps_117 (v := nI (j + 1)) rfl (inc1 _) rfl rfl ?_
                          refine v_goto E 56 dX7_laySteps_120 (by decide) ?_
                          have hs : s_X7_laySteps_56 g d p j st4 = (upd st4 p (st4 p)) := by simp only [s_X7_laySteps_56, if_pos c_91, if_pos c_101]
                          rw [brkN_f (show (b_X7_laySteps_56 p) st4 = false from decide_eq_false c_75), hs] at K56
                          exact ih (j + 1) (upd st4 p (st4 p)) (by omega) K56
                        · refine v_iload_n E dX7_laySteps_104 rfl ?_
                          refine v_iconst E dX7_laySteps_105 (v := 1) (by decide) ?_
                          refine v_iadd E dX7_laySteps_106 ?_
                          refine v_goto E 116 dX7_laySteps_107 (by decide) ?_
                          refine v_iast E dX7_laySteps_116 2 rfl p rfl (by omega) rfl ?_
                          refine v_wd (wd2 := [(q 0, .inr (7, [.ref (q 1), .ref (q 2), .ref (q 3), .ref (q 4), .ref (q 5), .ref (q 6), .ref (q 7), .ref (q 8), .ref (q 9), .ref (q 10)])), (q 1, aI D 703 g), (q 5, aI D 40 (upd st4 p ((nI d) + 1)))]) rfl ?_
                          refine v_iinc E dX7_laySteps_117 (v := nI (j + 1)) rfl (inc1 _) rfl rfl ?_
                          refine v_goto E 56 dX7_laySteps_120 (by decide) ?_
                          have hs : s_X7_laySteps_56 g d p j st4 = (upd st4 p ((nI d) + 1)) := by simp only [s_X7_laySteps_56, if_pos c_91, if_neg c_101]
                          rw [brkN_f (show (b_X7_laySteps_56 p) st4 = false from decide_eq_false c_75), hs] at K56
                          exact ih (j + 1) (upd st4 p ((nI d) + 1)) (by omega) K56
              refine L56 (2 * N) 0 st3 (by omega)  ?_
              refine v_iinc E dX7_laySteps_123 (v := nI (p + 1)) rfl (inc1 _) rfl rfl ?_
              refine v_goto E 41 dX7_laySteps_126 (by decide) ?_
              have hs : s_X7_laySteps_41 g N d p st3 = (brkN (b_X7_laySteps_56 p) (s_X7_laySteps_56 g d p) (2 * N) 0 st3) := by rfl
              rw [foldN_s (s_X7_laySteps_41 g N d) n2 p st3, hs] at K41
              exact ih (p + 1) (brkN (b_X7_laySteps_56 p) (s_X7_laySteps_56 g d p) (2 * N) 0 st3) (by omega) K41
        refine L41 (2 * N) 0 st2 (by omega)  ?_
        refine v_iinc E dX7_laySteps_129 (v := nI (d + 1)) rfl (inc1 _) rfl rfl ?_
        refine v_goto E 33 dX7_laySteps_132 (by decide) ?_
        have hs : s_X7_laySteps_33 g N d st2 = (foldN (s_X7_laySteps_41 g N d) (2 * N) 0 st2) := by rfl
        rw [foldN_s (s_X7_laySteps_33 g N) n1 d st2, hs] at K33
        refine v_mask [true, true, true, false, true] rfl ?_
        exact ih (d + 1) (foldN (s_X7_laySteps_41 g N d) (2 * N) 0 st2) (by omega) K33
  refine L33 40 0 (foldN (s_X7_laySteps_2 go) 40 0 stp) (by omega)  ?_
  exact v_vret E F dX7_laySteps_135 rfl () trivial rfl (Nat.le_of_ble_eq_true rfl) (Nat.le_of_ble_eq_true rfl)

def s_X7_smallest_2 (g : Nat → Int32) (stp : Nat → Int32) (of : Int32) (fr : Int32) : Nat → Nat → Int32
  | 0, i => (-10)
  | n + 1, i => if 0 ≤ fr then (if (r_X7_follows g fr (nI i) fr.toNatClampNeg i) = 0 then s_X7_smallest_2 g stp of fr n (i + 1) else if (stp i) = of then nI i else s_X7_smallest_2 g stp of fr n (i + 1)) else if (g (663 + i)) = 1 then (if (stp i) = of then nI i else s_X7_smallest_2 g stp of fr n (i + 1)) else s_X7_smallest_2 g stp of fr n (i + 1)
def r_X7_smallest (g : Nat → Int32) (stp : Nat → Int32) (of : Int32) (fr : Int32) (N : Nat) : Int32 := s_X7_smallest_2 g stp of fr (2 * N) 0
set_option maxRecDepth 20000 in
/-- X7_smallest -/
theorem c_X7_smallest (D : va_G) (q : Nat → Nat) (g : Nat → Int32) (stp : Nat → Int32) (of : Int32) (fr : Int32) (N : Nat) (h0 : g 0 = nI N) (hN : N ≤ 20) (hfr : 0 ≤ fr → fr = nI fr.toNatClampNeg ∧ fr.toNatClampNeg < 40) (l : Launch) : Ct l yX7_smallest cX7_smallest 5 (some .int) (rmM 2 49 0 0) D [.ref (q 0), .int of, .int fr] [(q 0, .inr (7, [.ref (q 1), .ref (q 2), .ref (q 3), .ref (q 4), .ref (q 5), .ref (q 6), .ref (q 7), .ref (q 8), .ref (q 9), .ref (q 10)])), (q 1, aI D 703 g), (q 5, aI D 40 stp)] (QI1 D (r_X7_smallest g stp of fr N) [(q 0, .inr (7, [.ref (q 1), .ref (q 2), .ref (q 3), .ref (q 4), .ref (q 5), .ref (q 6), .ref (q 7), .ref (q 8), .ref (q 9), .ref (q 10)])), (q 1, aI D 703 g), (q 5, aI D 40 stp)]) := by
  refine Ct.ofV 2 (lv0 := [some (.ref (q 0)), some (.int of), some (.int fr), none, none]) (by decide) rfl rfl (fun Z E F => ?_)
  refine v_iconst E dX7_smallest_0 (v := 0) (by decide) ?_
  refine v_istore_n E dX7_smallest_1 rfl rfl ?_
  have L2 : ∀ n i : Nat, i + n = (2 * N) → s_X7_smallest_2 g stp of fr (2 * N) 0 = s_X7_smallest_2 g stp of fr n i → V Z D 0 0 [(q 0, .inr (7, [.ref (q 1), .ref (q 2), .ref (q 3), .ref (q 4), .ref (q 5), .ref (q 6), .ref (q 7), .ref (q 8), .ref (q 9), .ref (q 10)])), (q 1, aI D 703 g), (q 5, aI D 40 stp)] [some (.ref (q 0)), some (.int of), some (.int fr), some (.int (nI i)), none] [] 2 := by
    intro n
    induction n with
    | zero =>
      intro i hi hR
      have hiN : i = (2 * N) := by omega
      rw [hiN] at hR ⊢
      refine v_iload_n E dX7_smallest_2 rfl ?_
      refine v_iconst E dX7_smallest_3 (v := 2) (by decide) ?_
      refine v_aload_n E dX7_smallest_4 rfl ?_
      refine v_get E dX7_smallest_5 (ci := 7) rfl iwX7 0 rfl 0 rfl fl_X7_7 rfl ?_
      refine v_iconst E dX7_smallest_8 (v := 0) (by decide) ?_
      refine v_iald E dX7_smallest_9 1 rfl 0 (show (0 : Int32) = nI 0 by decide) (by omega) rfl ?_
      refine v_imul E dX7_smallest_10 ?_
      refine v_icmp_ge E 71 dX7_smallest_11 (by decide) (fun c_11 => ?_) (fun c_11 => ?_)
      · refine v_bipush E dX7_smallest_71 (v := -10) (by decide) ?_
        exact v_iret E F dX7_smallest_73 rfl rfl () (show _ = s_X7_smallest_2 g stp of fr (2 * N) 0 by rw [hR]; simp only [s_X7_smallest_2]) rfl (Nat.le_of_ble_eq_true rfl) (Nat.le_of_ble_eq_true rfl)
      · exact absurd (leN (a := (2 * N)) (b := (2 * N)) (hmul (show (2 : Int32) = nI 2 by decide) h0) rfl (by omega) (by omega)) c_11
    | succ n ih =>
      intro i hi hR
      refine v_iload_n E dX7_smallest_2 rfl ?_
      refine v_iconst E dX7_smallest_3 (v := 2) (by decide) ?_
      refine v_aload_n E dX7_smallest_4 rfl ?_
      refine v_get E dX7_smallest_5 (ci := 7) rfl iwX7 0 rfl 0 rfl fl_X7_7 rfl ?_
      refine v_iconst E dX7_smallest_8 (v := 0) (by decide) ?_
      refine v_iald E dX7_smallest_9 1 rfl 0 (show (0 : Int32) = nI 0 by decide) (by omega) rfl ?_
      refine v_imul E dX7_smallest_10 ?_
      refine v_icmp_ge E 71 dX7_smallest_11 (by decide) (fun c_11 => ?_) (fun c_11 => ?_)
      · exact absurd c_11 (nleN (a := (2 * N)) (b := i) (hmul (show (2 : Int32) = nI 2 by decide) h0) rfl (by omega) (by omega))
      · refine v_iload_n E dX7_smallest_14 rfl ?_
        refine v_if_ge E 40 dX7_smallest_15 (by decide) (fun c_15 => ?_) (fun c_15 => ?_)
        · obtain ⟨hq1, hq2⟩ := hfr c_15
          refine v_aload_n E dX7_smallest_40 rfl ?_
          refine v_iload_n E dX7_smallest_41 rfl ?_
          refine v_iload_n E dX7_smallest_42 rfl ?_
          refine v_cV_i E dX7_smallest_43 (c_X7_follows D q g fr (nI i) fr.toNatClampNeg i hq1 rfl (by omega) (by omega)) cs_X7_80 rfl rfl rfl (Nat.le_of_ble_eq_true rfl) 0 rfl rfl [0, 1] rfl rfl ⟨Nat.le_of_ble_eq_true rfl, Nat.le_of_ble_eq_true rfl⟩ ?_
          refine v_istore E dX7_smallest_46 rfl rfl ?_
          refine v_iload E dX7_smallest_48 rfl ?_
          refine v_if_eq E 65 dX7_smallest_50 (by decide) (fun c_50 => ?_) (fun c_50 => ?_)
          · refine v_iinc E dX7_smallest_65 (v := nI (i + 1)) rfl (inc1 _) rfl rfl ?_
            refine v_goto E 2 dX7_smallest_68 (by decide) ?_
            have hR2 : s_X7_smallest_2 g stp of fr (2 * N) 0 = s_X7_smallest_2 g stp of fr n (i + 1) := by rw [hR]; simp only [s_X7_smallest_2, if_pos c_15, if_pos c_50]
            refine v_mask [true, true, true, true, false] rfl ?_
            exact ih (i + 1) (by omega) hR2
          · refine v_aload_n E dX7_smallest_53 rfl ?_
            refine v_get E dX7_smallest_54 (ci := 7) rfl iwX7 0 rfl 4 rfl fl_X7_23 rfl ?_
            refine v_iload_n E dX7_smallest_57 rfl ?_
            refine v_iald E dX7_smallest_58 2 rfl i rfl (by omega) rfl ?_
            refine v_iload_n E dX7_smallest_59 rfl ?_
            refine v_icmp_ne E 65 dX7_smallest_60 (by decide) (fun c_60 => ?_) (fun c_60 => ?_)
            · refine v_iinc E dX7_smallest_65 (v := nI (i + 1)) rfl (inc1 _) rfl rfl ?_
              refine v_goto E 2 dX7_smallest_68 (by decide) ?_
              have hR2 : s_X7_smallest_2 g stp of fr (2 * N) 0 = s_X7_smallest_2 g stp of fr n (i + 1) := by rw [hR]; simp only [s_X7_smallest_2, if_pos c_15, if_neg c_50, if_neg c_60]
              refine v_mask [true, true, true, true, false] rfl ?_
              exact ih (i + 1) (by omega) hR2
            · refine v_iload_n E dX7_smallest_63 rfl ?_
              exact v_iret E F dX7_smallest_64 rfl rfl () (show _ = s_X7_smallest_2 g stp of fr (2 * N) 0 by rw [hR]; simp only [s_X7_smallest_2, if_pos c_15, if_neg c_50, if_pos c_60]) rfl (Nat.le_of_ble_eq_true rfl) (Nat.le_of_ble_eq_true rfl)
        · refine v_aload_n E dX7_smallest_18 rfl ?_
          refine v_get E dX7_smallest_19 (ci := 7) rfl iwX7 0 rfl 0 rfl fl_X7_7 rfl ?_
          refine v_sipush E dX7_smallest_22 (v := 663) (by decide) ?_
          refine v_iload_n E dX7_smallest_25 rfl ?_
          refine v_iadd E dX7_smallest_26 ?_
          refine v_iald E dX7_smallest_27 1 rfl (663 + i) (hadd (show (663 : Int32) = nI 663 by decide) rfl) (by omega) rfl ?_
          refine v_iconst E dX7_smallest_28 (v := 1) (by decide) ?_
          refine v_icmp_ne E 36 dX7_smallest_29 (by decide) (fun c_29 => ?_) (fun c_29 => ?_)
          · refine v_iconst E dX7_smallest_36 (v := 0) (by decide) ?_
            refine v_goto E 46 dX7_smallest_37 (by decide) ?_
            refine v_istore E dX7_smallest_46 rfl rfl ?_
            refine v_iload E dX7_smallest_48 rfl ?_
            refine v_if_eq E 65 dX7_smallest_50 (by decide) (fun c_50 => ?_) (fun c_50 => ?_)
            · refine v_iinc E dX7_smallest_65 (v := nI (i + 1)) rfl (inc1 _) rfl rfl ?_
              refine v_goto E 2 dX7_smallest_68 (by decide) ?_
              have hR2 : s_X7_smallest_2 g stp of fr (2 * N) 0 = s_X7_smallest_2 g stp of fr n (i + 1) := by rw [hR]; simp only [s_X7_smallest_2, if_neg c_15, if_neg c_29]
              refine v_mask [true, true, true, true, false] rfl ?_
              exact ih (i + 1) (by omega) hR2
            · exact absurd c_50 (by decide)
          · refine v_iconst E dX7_smallest_32 (v := 1) (by decide) ?_
            refine v_goto E 46 dX7_smallest_33 (by decide) ?_
            refine v_istore E dX7_smallest_46 rfl rfl ?_
            refine v_iload E dX7_smallest_48 rfl ?_
            refine v_if_eq E 65 dX7_smallest_50 (by decide) (fun c_50 => ?_) (fun c_50 => ?_)
            · exact absurd c_50 (by decide)
            · refine v_aload_n E dX7_smallest_53 rfl ?_
              refine v_get E dX7_smallest_54 (ci := 7) rfl iwX7 0 rfl 4 rfl fl_X7_23 rfl ?_
              refine v_iload_n E dX7_smallest_57 rfl ?_
              refine v_iald E dX7_smallest_58 2 rfl i rfl (by omega) rfl ?_
              refine v_iload_n E dX7_smallest_59 rfl ?_
              refine v_icmp_ne E 65 dX7_smallest_60 (by decide) (fun c_60 => ?_) (fun c_60 => ?_)
              · refine v_iinc E dX7_smallest_65 (v := nI (i + 1)) rfl (inc1 _) rfl rfl ?_
                refine v_goto E 2 dX7_smallest_68 (by decide) ?_
                have hR2 : s_X7_smallest_2 g stp of fr (2 * N) 0 = s_X7_smallest_2 g stp of fr n (i + 1) := by rw [hR]; simp only [s_X7_smallest_2, if_neg c_15, if_pos c_29, if_neg c_60]
                refine v_mask [true, true, true, true, false] rfl ?_
                exact ih (i + 1) (by omega) hR2
              · refine v_iload_n E dX7_smallest_63 rfl ?_
                exact v_iret E F dX7_smallest_64 rfl rfl () (show _ = s_X7_smallest_2 g stp of fr (2 * N) 0 by rw [hR]; simp only [s_X7_smallest_2, if_neg c_15, if_pos c_29, if_pos c_60]) rfl (Nat.le_of_ble_eq_true rfl) (Nat.le_of_ble_eq_true rfl)
  exact L2 (2 * N) 0 (by omega) rfl

theorem sm_ok (g stp : Nat → Int32) (of fr : Int32) (N : Nat) (hN : N ≤ 20) : 0 ≤ r_X7_smallest g stp of fr N → r_X7_smallest g stp of fr N = nI (r_X7_smallest g stp of fr N).toNatClampNeg ∧ (r_X7_smallest g stp of fr N).toNatClampNeg < 40 := by
  have key : ∀ n i : Nat, i + n = 2 * N → ∀ r, r = s_X7_smallest_2 g stp of fr n i → r = -10 ∨ ∃ k, k < 40 ∧ r = nI k := by
    intro n
    induction n with
    | zero => intro i hi r hr; exact Or.inl hr
    | succ n ih =>
      intro i hi r hr
      unfold s_X7_smallest_2 at hr
      have h1 := ih (i + 1) (by omega) _ rfl
      have h2 : ∃ k, k < 40 ∧ nI i = nI k := ⟨i, by omega, rfl⟩
      repeat' split at hr
      all_goals subst hr
      all_goals first | exact h1 | exact Or.inr h2
  intro h
  rcases key (2 * N) 0 (by omega) (r_X7_smallest g stp of fr N) rfl with e | ⟨k, hk, e⟩
  · rw [e] at h; exact absurd h (by decide)
  · rw [e, nI_clamp (by omega)]
    exact ⟨rfl, hk⟩
def s_X7_chain_52  (of : Int32) : Int32 := of + 1
def e_X7_chain_52 (g : Nat → Int32) (stp : Nat → Int32) (t : Int32) (p : Int32) (N : Nat) (of : Int32) : Bool := decide (0 ≤ (r_X7_smallest g (w_X7_laySteps_2 g stp ((2 * t) + p) N) of (-10) N))
def T_X7_chain_52 (g : Nat → Int32) (stp : Nat → Int32) (t : Int32) (p : Int32) (N : Nat) : Prop := (e_X7_chain_52 g stp t p N) (whN (e_X7_chain_52 g stp t p N) s_X7_chain_52 40 0) = true
def s_X7_chain_105 (g : Nat → Int32) (stp : Nat → Int32) (t : Int32) (p : Int32) (N : Nat) (i : Nat) (p5 : Int32) : Int32 := (r_X7_smallest g (w_X7_laySteps_2 g stp ((2 * t) + p) N) (((whN (e_X7_chain_52 g stp t p N) s_X7_chain_52 40 0) - 1) - (nI i)) p5 N)
def r_X7_chain (g : Nat → Int32) (ch : Nat → Int32) (stp : Nat → Int32) (t : Int32) (p : Int32) (ix : Int32) (N : Nat) : Int32 := if (r_X7_isTarget g t) = 0 then (-1) else if (r_X7_isPart p) = 0 then (-3) else if ((w_X7_layChanged_2 g ch N) ((2 * t.toNatClampNeg) + p.toNatClampNeg)) = 0 then (-10) else if ix = (-1) then (whN (e_X7_chain_52 g stp t p N) s_X7_chain_52 40 0) + 1 else if (r_X7_in ix 0 (whN (e_X7_chain_52 g stp t p N) s_X7_chain_52 40 0)) = 0 then (-10) else (foldN (s_X7_chain_105 g stp t p N) ix.toNatClampNeg 0 (r_X7_smallest g (w_X7_laySteps_2 g stp ((2 * t) + p) N) (whN (e_X7_chain_52 g stp t p N) s_X7_chain_52 40 0) (-10) N))
def w_X7_chain_2 (g : Nat → Int32) (ch : Nat → Int32) (t : Int32) (p : Int32) (N : Nat) : Nat → Int32 := if (r_X7_isTarget g t) = 0 then ch else if (r_X7_isPart p) = 0 then ch else (w_X7_layChanged_2 g ch N)
def w_X7_chain_3 (g : Nat → Int32) (ch : Nat → Int32) (stp : Nat → Int32) (t : Int32) (p : Int32) (N : Nat) : Nat → Int32 := if (r_X7_isTarget g t) = 0 then stp else if (r_X7_isPart p) = 0 then stp else if ((w_X7_layChanged_2 g ch N) ((2 * t.toNatClampNeg) + p.toNatClampNeg)) = 0 then stp else (w_X7_laySteps_2 g stp ((2 * t) + p) N)
set_option maxRecDepth 20000 in
/-- X7_chain -/
theorem c_X7_chain (D : va_G) (q : Nat → Nat) (g : Nat → Int32) (ch : Nat → Int32) (stp : Nat → Int32) (t : Int32) (p : Int32) (ix : Int32) (N : Nat) (h0 : g 0 = nI N) (hN : N ≤ 20) (hWs : ∀ ch : Nat → Int32, T_X7_spread_2 g ch N) (hW52 : ¬ (r_X7_isTarget g t) = 0 → ¬ (r_X7_isPart p) = 0 → ¬ ((w_X7_layChanged_2 g ch N) ((2 * t.toNatClampNeg) + p.toNatClampNeg)) = 0 → T_X7_chain_52 g stp t p N) (l : Launch) : Ct l yX7_chain cX7_chain 7 (some .int) (rmM 4 93 0 0) D [.ref (q 0), .int t, .int p, .int ix] [(q 0, .inr (7, [.ref (q 1), .ref (q 2), .ref (q 3), .ref (q 4), .ref (q 5), .ref (q 6), .ref (q 7), .ref (q 8), .ref (q 9), .ref (q 10)])), (q 1, aI D 703 g), (q 4, aZ D 40 ch), (q 5, aI D 40 stp)] (QI1 D (r_X7_chain g ch stp t p ix N) [(q 0, .inr (7, [.ref (q 1), .ref (q 2), .ref (q 3), .ref (q 4), .ref (q 5), .ref (q 6), .ref (q 7), .ref (q 8), .ref (q 9), .ref (q 10)])), (q 1, aI D 703 g), (q 4, aZ D 40 (w_X7_chain_2 g ch t p N)), (q 5, aI D 40 (w_X7_chain_3 g ch stp t p N))]) := by
  refine Ct.ofV 3 (lv0 := [some (.ref (q 0)), some (.int t), some (.int p), some (.int ix), none, none, none]) (by decide) rfl rfl (fun Z E F => ?_)
  refine v_aload_n E dX7_chain_0 rfl ?_
  refine v_iload_n E dX7_chain_1 rfl ?_
  refine v_cV_i E dX7_chain_2 (c_X7_isTarget D q g t) cs_X7_57 rfl rfl rfl (Nat.le_of_ble_eq_true rfl) 0 rfl rfl [0, 1] rfl rfl ⟨Nat.le_of_ble_eq_true rfl, Nat.le_of_ble_eq_true rfl⟩ ?_
  refine v_if_ne E 10 dX7_chain_5 (by decide) (fun c_5 => ?_) (fun c_5 => ?_)
  · refine v_iload_n E dX7_chain_10 rfl ?_
    refine v_cS_i E dX7_chain_11 (c_X7_isPart D p) cs_X7_87 rfl rfl rfl (Nat.le_of_ble_eq_true rfl) [] rfl rfl ⟨Nat.le_of_ble_eq_true rfl, Nat.le_of_ble_eq_true rfl⟩ ?_
    refine v_if_ne E 20 dX7_chain_14 (by decide) (fun c_14 => ?_) (fun c_14 => ?_)
    · obtain ⟨ht1, ht2⟩ := isT_use h0 hN c_5
      obtain ⟨hp1, hp2⟩ := in_useK (v := p) (hi := 1) (M := 1) (by decide) c_14
      refine v_aload_n E dX7_chain_20 rfl ?_
      refine v_cV_vU E dX7_chain_21 (c_X7_layChanged D q g ch N h0 hN hWs) cs_X7_90 rfl rfl rfl (Nat.le_of_ble_eq_true rfl) 0 rfl rfl [0, 1, 2] rfl rfl ⟨Nat.le_of_ble_eq_true rfl, Nat.le_of_ble_eq_true rfl⟩ [q 0, q 1, q 4] rfl rfl ?_
      refine v_wd (wd2 := [(q 0, .inr (7, [.ref (q 1), .ref (q 2), .ref (q 3), .ref (q 4), .ref (q 5), .ref (q 6), .ref (q 7), .ref (q 8), .ref (q 9), .ref (q 10)])), (q 1, aI D 703 g), (q 4, aZ D 40 (w_X7_layChanged_2 g ch N)), (q 5, aI D 40 stp)]) rfl ?_
      refine v_aload_n E dX7_chain_24 rfl ?_
      refine v_get E dX7_chain_25 (ci := 7) rfl iwX7 0 rfl 3 rfl fl_X7_20 rfl ?_
      refine v_iconst E dX7_chain_28 (v := 2) (by decide) ?_
      refine v_iload_n E dX7_chain_29 rfl ?_
      refine v_imul E dX7_chain_30 ?_
      refine v_iload_n E dX7_chain_31 rfl ?_
      refine v_iadd E dX7_chain_32 ?_
      refine v_zald E dX7_chain_33 2 rfl ((2 * t.toNatClampNeg) + p.toNatClampNeg) (hadd (hmul (show (2 : Int32) = nI 2 by decide) ht1) hp1) (by omega) rfl ?_
      refine v_if_ne E 40 dX7_chain_34 (by decide) (fun c_34 => ?_) (fun c_34 => ?_)
      · refine v_aload_n E dX7_chain_40 rfl ?_
        refine v_iconst E dX7_chain_41 (v := 2) (by decide) ?_
        refine v_iload_n E dX7_chain_42 rfl ?_
        refine v_imul E dX7_chain_43 ?_
        refine v_iload_n E dX7_chain_44 rfl ?_
        refine v_iadd E dX7_chain_45 ?_
        refine v_cV_vU E dX7_chain_46 (c_X7_laySteps D q g stp ((2 * t) + p) N h0 hN) cs_X7_99 rfl rfl rfl (Nat.le_of_ble_eq_true rfl) 0 rfl rfl [0, 1, 3] rfl rfl ⟨Nat.le_of_ble_eq_true rfl, Nat.le_of_ble_eq_true rfl⟩ [q 0, q 1, q 5] rfl rfl ?_
        refine v_wd (wd2 := [(q 0, .inr (7, [.ref (q 1), .ref (q 2), .ref (q 3), .ref (q 4), .ref (q 5), .ref (q 6), .ref (q 7), .ref (q 8), .ref (q 9), .ref (q 10)])), (q 1, aI D 703 g), (q 4, aZ D 40 (w_X7_layChanged_2 g ch N)), (q 5, aI D 40 (w_X7_laySteps_2 g stp ((2 * t) + p) N))]) rfl ?_
        refine v_iconst E dX7_chain_49 (v := 0) (by decide) ?_
        refine v_istore E dX7_chain_50 rfl rfl ?_
        have L52 : ∀ (n : Nat) (of : Int32), (e_X7_chain_52 g stp t p N) (whN (e_X7_chain_52 g stp t p N) s_X7_chain_52 n of) = true → V Z D 0 0 [(q 0, .inr (7, [.ref (q 1), .ref (q 2), .ref (q 3), .ref (q 4), .ref (q 5), .ref (q 6), .ref (q 7), .ref (q 8), .ref (q 9), .ref (q 10)])), (q 1, aI D 703 g), (q 4, aZ D 40 (w_X7_layChanged_2 g ch N)), (q 5, aI D 40 (w_X7_laySteps_2 g stp ((2 * t) + p) N))] [some (.ref (q 0)), some (.int t), some (.int p), some (.int ix), some (.int (whN (e_X7_chain_52 g stp t p N) s_X7_chain_52 n of)), none, none] [] 69 → V Z D 0 0 [(q 0, .inr (7, [.ref (q 1), .ref (q 2), .ref (q 3), .ref (q 4), .ref (q 5), .ref (q 6), .ref (q 7), .ref (q 8), .ref (q 9), .ref (q 10)])), (q 1, aI D 703 g), (q 4, aZ D 40 (w_X7_layChanged_2 g ch N)), (q 5, aI D 40 (w_X7_laySteps_2 g stp ((2 * t) + p) N))] [some (.ref (q 0)), some (.int t), some (.int p), some (.int ix), some (.int of), none, none] [] 52 := by
          intro n
          induction n with
          | zero =>
            intro of  hT52 K52
            refine v_aload_n E dX7_chain_52 rfl ?_
            refine v_iload E dX7_chain_53 rfl ?_
            refine v_bipush E dX7_chain_55 (v := -10) (by decide) ?_
            refine v_cV_i E dX7_chain_57 (c_X7_smallest D q g (w_X7_laySteps_2 g stp ((2 * t) + p) N) of (-10) N h0 hN (fun h => absurd h (by decide))) cs_X7_103 rfl rfl rfl (Nat.le_of_ble_eq_true rfl) 0 rfl rfl [0, 1, 3] rfl rfl ⟨Nat.le_of_ble_eq_true rfl, Nat.le_of_ble_eq_true rfl⟩ ?_
            refine v_if_ge E 69 dX7_chain_60 (by decide) (fun c_60 => ?_) (fun c_60 => ?_)
            · exact K52
            · exact absurd (of_decide_eq_true (p := 0 ≤ (r_X7_smallest g (w_X7_laySteps_2 g stp ((2 * t) + p) N) of (-10) N)) hT52) c_60
          | succ n ih =>
            intro of  hT52 K52
            refine v_aload_n E dX7_chain_52 rfl ?_
            refine v_iload E dX7_chain_53 rfl ?_
            refine v_bipush E dX7_chain_55 (v := -10) (by decide) ?_
            refine v_cV_i E dX7_chain_57 (c_X7_smallest D q g (w_X7_laySteps_2 g stp ((2 * t) + p) N) of (-10) N h0 hN (fun h => absurd h (by decide))) cs_X7_103 rfl rfl rfl (Nat.le_of_ble_eq_true rfl) 0 rfl rfl [0, 1, 3] rfl rfl ⟨Nat.le_of_ble_eq_true rfl, Nat.le_of_ble_eq_true rfl⟩ ?_
            refine v_if_ge E 69 dX7_chain_60 (by decide) (fun c_60 => ?_) (fun c_60 => ?_)
            · rw [whN_e (show (e_X7_chain_52 g stp t p N) of = true from decide_eq_true c_60)] at K52
              exact K52
            · refine v_iinc E dX7_chain_63 (v := of + 1) rfl rfl rfl rfl ?_
              refine v_goto E 52 dX7_chain_66 (by decide) ?_
              have hs : s_X7_chain_52 of = (of + 1) := by rfl
              rw [whN_s (show (e_X7_chain_52 g stp t p N) of = false from decide_eq_false c_60), hs] at K52 hT52
              exact ih (of + 1)  hT52 K52
        refine L52 40 0  (hW52 c_5 c_14 c_34) ?_
        refine v_iload_n E dX7_chain_69 rfl ?_
        refine v_iconst E dX7_chain_70 (v := -1) (by decide) ?_
        refine v_icmp_ne E 79 dX7_chain_71 (by decide) (fun c_71 => ?_) (fun c_71 => ?_)
        · refine v_iload_n E dX7_chain_79 rfl ?_
          refine v_iconst E dX7_chain_80 (v := 0) (by decide) ?_
          refine v_iload E dX7_chain_81 rfl ?_
          refine v_cS_i E dX7_chain_83 (c_X7_in D ix 0 (whN (e_X7_chain_52 g stp t p N) s_X7_chain_52 40 0)) cs_X7_41 rfl rfl rfl (Nat.le_of_ble_eq_true rfl) [] rfl rfl ⟨Nat.le_of_ble_eq_true rfl, Nat.le_of_ble_eq_true rfl⟩ ?_
          refine v_if_ne E 92 dX7_chain_86 (by decide) (fun c_86 => ?_) (fun c_86 => ?_)
          · obtain ⟨hx1, hx2⟩ := in_pos c_86
            refine v_aload_n E dX7_chain_92 rfl ?_
            refine v_iload E dX7_chain_93 rfl ?_
            refine v_bipush E dX7_chain_95 (v := -10) (by decide) ?_
            refine v_cV_i E dX7_chain_97 (c_X7_smallest D q g (w_X7_laySteps_2 g stp ((2 * t) + p) N) (whN (e_X7_chain_52 g stp t p N) s_X7_chain_52 40 0) (-10) N h0 hN (fun h => absurd h (by decide))) cs_X7_103 rfl rfl rfl (Nat.le_of_ble_eq_true rfl) 0 rfl rfl [0, 1, 3] rfl rfl ⟨Nat.le_of_ble_eq_true rfl, Nat.le_of_ble_eq_true rfl⟩ ?_
            refine v_istore E dX7_chain_100 rfl rfl ?_
            refine v_iconst E dX7_chain_102 (v := 0) (by decide) ?_
            refine v_istore E dX7_chain_103 rfl rfl ?_
            have L105 : ∀ (n1 i : Nat) (p5 : Int32), i + n1 = ix.toNatClampNeg → (0 ≤ p5 → p5 = nI p5.toNatClampNeg ∧ p5.toNatClampNeg < 40) → V Z D 0 0 [(q 0, .inr (7, [.ref (q 1), .ref (q 2), .ref (q 3), .ref (q 4), .ref (q 5), .ref (q 6), .ref (q 7), .ref (q 8), .ref (q 9), .ref (q 10)])), (q 1, aI D 703 g), (q 4, aZ D 40 (w_X7_layChanged_2 g ch N)), (q 5, aI D 40 (w_X7_laySteps_2 g stp ((2 * t) + p) N))] [some (.ref (q 0)), some (.int t), some (.int p), some (.int ix), some (.int (whN (e_X7_chain_52 g stp t p N) s_X7_chain_52 40 0)), some (.int (foldN (s_X7_chain_105 g stp t p N) n1 i p5)), some (.int (nI ix.toNatClampNeg))] [] 132 → V Z D 0 0 [(q 0, .inr (7, [.ref (q 1), .ref (q 2), .ref (q 3), .ref (q 4), .ref (q 5), .ref (q 6), .ref (q 7), .ref (q 8), .ref (q 9), .ref (q 10)])), (q 1, aI D 703 g), (q 4, aZ D 40 (w_X7_layChanged_2 g ch N)), (q 5, aI D 40 (w_X7_laySteps_2 g stp ((2 * t) + p) N))] [some (.ref (q 0)), some (.int t), some (.int p), some (.int ix), some (.int (whN (e_X7_chain_52 g stp t p N) s_X7_chain_52 40 0)), some (.int p5), some (.int (nI i))] [] 105 := by
              intro n1
              induction n1 with
              | zero =>
                intro i p5 hi hp5 K105
                have hiN : i = ix.toNatClampNeg := by omega
                rw [hiN]
                refine v_iload E dX7_chain_105 rfl ?_
                refine v_iload_n E dX7_chain_107 rfl ?_
                refine v_icmp_ge E 132 dX7_chain_108 (by decide) (fun c_108 => ?_) (fun c_108 => ?_)
                · exact K105
                · exact absurd (leN (a := ix.toNatClampNeg) (b := ix.toNatClampNeg) hx1 rfl (by omega) (by omega)) c_108
              | succ n1 ih =>
                intro i p5 hi hp5 K105
                refine v_iload E dX7_chain_105 rfl ?_
                refine v_iload_n E dX7_chain_107 rfl ?_
                refine v_icmp_ge E 132 dX7_chain_108 (by decide) (fun c_108 => ?_) (fun c_108 => ?_)
                · exact absurd c_108 (nleN (a := ix.toNatClampNeg) (b := i) hx1 rfl (by omega) (by omega))
                · refine v_aload_n E dX7_chain_111 rfl ?_
                  refine v_iload E dX7_chain_112 rfl ?_
                  refine v_iconst E dX7_chain_114 (v := 1) (by decide) ?_
                  refine v_isub E dX7_chain_115 ?_
                  refine v_iload E dX7_chain_116 rfl ?_
                  refine v_isub E dX7_chain_118 ?_
                  refine v_iload E dX7_chain_119 rfl ?_
                  refine v_cV_i E dX7_chain_121 (c_X7_smallest D q g (w_X7_laySteps_2 g stp ((2 * t) + p) N) (((whN (e_X7_chain_52 g stp t p N) s_X7_chain_52 40 0) - 1) - (nI i)) p5 N h0 hN hp5) cs_X7_103 rfl rfl rfl (Nat.le_of_ble_eq_true rfl) 0 rfl rfl [0, 1, 3] rfl rfl ⟨Nat.le_of_ble_eq_true rfl, Nat.le_of_ble_eq_true rfl⟩ ?_
                  refine v_istore E dX7_chain_124 rfl rfl ?_
                  refine v_iinc E dX7_chain_126 (v := nI (i + 1)) rfl (inc1 _) rfl rfl ?_
                  refine v_goto E 105 dX7_chain_129 (by decide) ?_
                  have hs : s_X7_chain_105 g stp t p N i p5 = (r_X7_smallest g (w_X7_laySteps_2 g stp ((2 * t) + p) N) (((whN (e_X7_chain_52 g stp t p N) s_X7_chain_52 40 0) - 1) - (nI i)) p5 N) := by rfl
                  rw [foldN_s (s_X7_chain_105 g stp t p N) n1 i p5, hs] at K105
                  exact ih (i + 1) (r_X7_smallest g (w_X7_laySteps_2 g stp ((2 * t) + p) N) (((whN (e_X7_chain_52 g stp t p N) s_X7_chain_52 40 0) - 1) - (nI i)) p5 N) (by omega) (sm_ok _ _ _ _ _ hN) K105
            refine L105 ix.toNatClampNeg 0 (r_X7_smallest g (w_X7_laySteps_2 g stp ((2 * t) + p) N) (whN (e_X7_chain_52 g stp t p N) s_X7_chain_52 40 0) (-10) N) (by omega) (sm_ok _ _ _ _ _ hN) ?_
            refine v_iload E dX7_chain_132 rfl ?_
            exact v_iret E F dX7_chain_134 rfl rfl () (by simp only [r_X7_chain, if_neg c_5, if_neg c_14, if_neg c_34, if_neg c_71, if_neg c_86]) (by simp only [w_X7_chain_2, w_X7_chain_3, if_neg c_5, if_neg c_14, if_neg c_34, if_neg c_71, if_neg c_86] <;> rfl) (Nat.le_of_ble_eq_true rfl) (Nat.le_of_ble_eq_true rfl)
          · refine v_bipush E dX7_chain_89 (v := -10) (by decide) ?_
            exact v_iret E F dX7_chain_91 rfl rfl () (by simp only [r_X7_chain, if_neg c_5, if_neg c_14, if_neg c_34, if_neg c_71, if_pos c_86]) (by simp only [w_X7_chain_2, w_X7_chain_3, if_neg c_5, if_neg c_14, if_neg c_34, if_neg c_71, if_pos c_86] <;> rfl) (Nat.le_of_ble_eq_true rfl) (Nat.le_of_ble_eq_true rfl)
        · refine v_iload E dX7_chain_74 rfl ?_
          refine v_iconst E dX7_chain_76 (v := 1) (by decide) ?_
          refine v_iadd E dX7_chain_77 ?_
          exact v_iret E F dX7_chain_78 rfl rfl () (by simp only [r_X7_chain, if_neg c_5, if_neg c_14, if_neg c_34, if_pos c_71]) (by simp only [w_X7_chain_2, w_X7_chain_3, if_neg c_5, if_neg c_14, if_neg c_34, if_pos c_71] <;> rfl) (Nat.le_of_ble_eq_true rfl) (Nat.le_of_ble_eq_true rfl)
      · refine v_bipush E dX7_chain_37 (v := -10) (by decide) ?_
        exact v_iret E F dX7_chain_39 rfl rfl () (by simp only [r_X7_chain, if_neg c_5, if_neg c_14, if_pos c_34]) (by simp only [w_X7_chain_2, w_X7_chain_3, if_neg c_5, if_neg c_14, if_pos c_34] <;> rfl) (Nat.le_of_ble_eq_true rfl) (Nat.le_of_ble_eq_true rfl)
    · refine v_bipush E dX7_chain_17 (v := -3) (by decide) ?_
      exact v_iret E F dX7_chain_19 rfl rfl () (by simp only [r_X7_chain, if_neg c_5, if_pos c_14]) (by simp only [w_X7_chain_2, w_X7_chain_3, if_neg c_5, if_pos c_14] <;> rfl) (Nat.le_of_ble_eq_true rfl) (Nat.le_of_ble_eq_true rfl)
  · refine v_iconst E dX7_chain_8 (v := -1) (by decide) ?_
    exact v_iret E F dX7_chain_9 rfl rfl () (by simp only [r_X7_chain, if_pos c_5]) (by simp only [w_X7_chain_2, w_X7_chain_3, if_pos c_5] <;> rfl) (Nat.le_of_ble_eq_true rfl) (Nat.le_of_ble_eq_true rfl)

