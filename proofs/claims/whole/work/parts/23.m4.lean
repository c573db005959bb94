def s_X7_layOrder_49 (g : Nat → Int32) (lf : Int32) (u_ : Nat) (j : Nat) (cn : Int32) : Int32 := if cn = 0 then 0 else if ((lf >>> ((nI j) &&& 31)) &&& 1) = 1 then (if (r_X7_waits g u_ j) = 0 then 1 else 0) else 1
def s_X7_layOrder_24 (g : Nat → Int32) (N : Nat) (lf : Int32) (u_ : Nat) (nx : Int32) : Int32 := if ((lf >>> ((nI u_) &&& 31)) &&& 1) = 1 then (if (foldN (s_X7_layOrder_49 g lf u_) N 0 1) = 0 then nx else nI u_) else if (foldN (s_X7_layOrder_49 g lf u_) N 0 0) = 0 then nx else nI u_
def s_X7_layOrder_7 (g : Nat → Int32) (N : Nat) (z_ : Int32 × Nat × (Nat → Int32)) : Int32 × Nat × (Nat → Int32) := match z_ with
  | (lf, k0, od1) => (lf &&& ((1 <<< ((foldD (s_X7_layOrder_24 g N lf) N (-10)) &&& 31)) ^^^ (-1)), (k0 + 1), upd od1 k0 (foldD (s_X7_layOrder_24 g N lf) N (-10)))
def e_X7_layOrder_7  (z_ : Int32 × Nat × (Nat → Int32)) : Bool := match z_ with
  | (lf, k0, od1) => decide (lf = 0)
def T_X7_layOrder_7 (g : Nat → Int32) (ch : Nat → Int32) (od : Nat → Int32) (N : Nat) : Prop := e_X7_layOrder_7 (whN e_X7_layOrder_7 (s_X7_layOrder_7 g N) 20 ((r_X7_rebuilt g ch N), 0, od)) = true
def r_X7_layOrder (g : Nat → Int32) (ch : Nat → Int32) (od : Nat → Int32) (N : Nat) : Int32 := nI ((whN e_X7_layOrder_7 (s_X7_layOrder_7 g N) 20 ((r_X7_rebuilt g ch N), 0, od)).2.1)
def w_X7_layOrder_2 (g : Nat → Int32) (ch : Nat → Int32) (N : Nat) : Nat → Int32 := (w_X7_rebuilt_2 g ch N)
def w_X7_layOrder_3 (g : Nat → Int32) (ch : Nat → Int32) (od : Nat → Int32) (N : Nat) : Nat → Int32 := (whN e_X7_layOrder_7 (s_X7_layOrder_7 g N) 20 ((r_X7_rebuilt g ch N), 0, od)).2.2
set_option maxRecDepth 20000 in
/-- X7_layOrder -/
theorem c_X7_layOrder (D : va_G) (q : Nat → Nat) (g : Nat → Int32) (ch : Nat → Int32) (od : Nat → Int32) (N : Nat) (h0 : g 0 = nI N) (hN : N ≤ 20) (hWs : ∀ ch : Nat → Int32, T_X7_spread_2 g ch N) (hWo : T_X7_layOrder_7 g ch od N) (l : Launch) : Ct l yX7_layOrder cX7_layOrder 7 (some .int) (rmM 5 113 0 0) D [.ref (q 0)] [(q 0, .inr (7, [.ref (q 1), .ref (q 2), .ref (q 3), .ref (q 4), .ref (q 5), .ref (q 6), .ref (q 7), .ref (q 8), .ref (q 9), .ref (q 10)])), (q 1, aI D 703 g), (q 4, aZ D 40 ch), (q 6, aI D 20 od)] (QI1 D (r_X7_layOrder g ch od N) [(q 0, .inr (7, [.ref (q 1), .ref (q 2), .ref (q 3), .ref (q 4), .ref (q 5), .ref (q 6), .ref (q 7), .ref (q 8), .ref (q 9), .ref (q 10)])), (q 1, aI D 703 g), (q 4, aZ D 40 (w_X7_layOrder_2 g ch N)), (q 6, aI D 20 (w_X7_layOrder_3 g ch od N))]) := by
  refine Ct.ofV 6 (lv0 := [some (.ref (q 0)), none, none, none, none, none, none]) (by decide) rfl rfl (fun Z E F => ?_)
  refine v_aload_n E dX7_layOrder_0 rfl ?_
  refine v_cV_iU E dX7_layOrder_1 (c_X7_rebuilt D q g ch N h0 hN hWs) cs_X7_96 rfl rfl rfl (Nat.le_of_ble_eq_true rfl) 0 rfl rfl [0, 1, 2] rfl rfl ⟨Nat.le_of_ble_eq_true rfl, Nat.le_of_ble_eq_true rfl⟩ [q 0, q 1, q 4] rfl rfl ?_
  refine v_wd (wd2 := [(q 0, .inr (7, [.ref (q 1), .ref (q 2), .ref (q 3), .ref (q 4), .ref (q 5), .ref (q 6), .ref (q 7), .ref (q 8), .ref (q 9), .ref (q 10)])), (q 1, aI D 703 g), (q 4, aZ D 40 (w_X7_rebuilt_2 g ch N)), (q 6, aI D 20 od)]) rfl ?_
  refine v_istore_n E dX7_layOrder_4 rfl rfl ?_
  refine v_iconst E dX7_layOrder_5 (v := 0) (by decide) ?_
  refine v_istore_n E dX7_layOrder_6 rfl rfl ?_
  have L7 : ∀ (n : Nat) (lf : Int32) (k0 : Nat) (od1 : Nat → Int32), k0 + n = 20 → e_X7_layOrder_7 (whN e_X7_layOrder_7 (s_X7_layOrder_7 g N) n (lf, k0, od1)) = true → V Z D 0 0 [(q 0, .inr (7, [.ref (q 1), .ref (q 2), .ref (q 3), .ref (q 4), .ref (q 5), .ref (q 6), .ref (q 7), .ref (q 8), .ref (q 9), .ref (q 10)])), (q 1, aI D 703 g), (q 4, aZ D 40 (w_X7_rebuilt_2 g ch N)), (q 6, aI D 20 ((whN e_X7_layOrder_7 (s_X7_layOrder_7 g N) n (lf, k0, od1)).2.2))] [some (.ref (q 0)), some (.int ((whN e_X7_layOrder_7 (s_X7_layOrder_7 g N) n (lf, k0, od1)).1)), some (.int (nI ((whN e_X7_layOrder_7 (s_X7_layOrder_7 g N) n (lf, k0, od1)).2.1))), none, none, none, none] [] 138 → V Z D 0 0 [(q 0, .inr (7, [.ref (q 1), .ref (q 2), .ref (q 3), .ref (q 4), .ref (q 5), .ref (q 6), .ref (q 7), .ref (q 8), .ref (q 9), .ref (q 10)])), (q 1, aI D 703 g), (q 4, aZ D 40 (w_X7_rebuilt_2 g ch N)), (q 6, aI D 20 od1)] [some (.ref (q 0)), some (.int lf), some (.int (nI k0)), none, none, none, none] [] 7 := by
    intro n
    induction n with
    | zero =>
      intro lf k0 od1 hk hT7 K7
      refine v_iload_n E dX7_layOrder_7 rfl ?_
      refine v_if_eq E 138 dX7_layOrder_8 (by decide) (fun c_8 => ?_) (fun c_8 => ?_)
      · exact K7
      · exact absurd (of_decide_eq_true (p := lf = 0) hT7) c_8
    | succ n ih =>
      intro lf k0 od1 hk hT7 K7
      refine v_iload_n E dX7_layOrder_7 rfl ?_
      refine v_if_eq E 138 dX7_layOrder_8 (by decide) (fun c_8 => ?_) (fun c_8 => ?_)
      · rw [whN_e (show e_X7_layOrder_7 (lf, k0, od1) = true from decide_eq_true c_8)] at K7
        exact K7
      · refine v_bipush E dX7_layOrder_11 (v := -10) (by decide) ?_
        refine v_istore_n E dX7_layOrder_13 rfl rfl ?_
        refine v_aload_n E dX7_layOrder_14 rfl ?_
        refine v_get E dX7_layOrder_15 (ci := 7) rfl iwX7 0 rfl 0 rfl fl_X7_7 rfl ?_
        refine v_iconst E dX7_layOrder_18 (v := 0) (by decide) ?_
        refine v_iald E dX7_layOrder_19 1 rfl 0 (show (0 : Int32) = nI 0 by decide) (by omega) rfl ?_
        refine v_iconst E dX7_layOrder_20 (v := 1) (by decide) ?_
        refine v_isub E dX7_layOrder_21 ?_
        refine v_istore E dX7_layOrder_22 rfl rfl ?_
        have L24 : ∀ (u : Nat) (nx : Int32), u ≤ N → V Z D 0 0 [(q 0, .inr (7, [.ref (q 1), .ref (q 2), .ref (q 3), .ref (q 4), .ref (q 5), .ref (q 6), .ref (q 7), .ref (q 8), .ref (q 9), .ref (q 10)])), (q 1, aI D 703 g), (q 4, aZ D 40 (w_X7_rebuilt_2 g ch N)), (q 6, aI D 20 od1)] [some (.ref (q 0)), some (.int lf), some (.int (nI k0)), some (.int (foldD (s_X7_layOrder_24 g N lf) u nx)), none, none, none] [] 117 → V Z D 0 0 [(q 0, .inr (7, [.ref (q 1), .ref (q 2), .ref (q 3), .ref (q 4), .ref (q 5), .ref (q 6), .ref (q 7), .ref (q 8), .ref (q 9), .ref (q 10)])), (q 1, aI D 703 g), (q 4, aZ D 40 (w_X7_rebuilt_2 g ch N)), (q 6, aI D 20 od1)] [some (.ref (q 0)), some (.int lf), some (.int (nI k0)), some (.int nx), some (.int (nI u - 1)), none, none] [] 24 := by
          intro u
          induction u with
          | zero =>
            intro  nx hi  K24
            refine v_iload E dX7_layOrder_24 rfl ?_
            refine v_if_lt E 117 dX7_layOrder_26 (by decide) (fun c_26 => ?_) (fun c_26 => ?_)
            · refine v_mask [true, true, true, true, false, true, true] rfl ?_
              exact K24
            · exact absurd (by decide) c_26
          | succ u_ ih =>
            intro  nx hi  K24
            rw [nI_pred u_]
            refine v_iload E dX7_layOrder_24 rfl ?_
            refine v_if_lt E 117 dX7_layOrder_26 (by decide) (fun c_26 => ?_) (fun c_26 => ?_)
            · exact absurd c_26 (nI_pos (by omega))
            · refine v_iload_n E dX7_layOrder_29 rfl ?_
              refine v_iload E dX7_layOrder_30 rfl ?_
              refine v_ishr E dX7_layOrder_32 ?_
              refine v_iconst E dX7_layOrder_33 (v := 1) (by decide) ?_
              refine v_iand E dX7_layOrder_34 ?_
              refine v_iconst E dX7_layOrder_35 (v := 1) (by decide) ?_
              refine v_icmp_ne E 43 dX7_layOrder_36 (by decide) (fun c_36 => ?_) (fun c_36 => ?_)
              · refine v_iconst E dX7_layOrder_43 (v := 0) (by decide) ?_
                refine v_istore E dX7_layOrder_44 rfl rfl ?_
                refine v_iconst E dX7_layOrder_46 (v := 0) (by decide) ?_
                refine v_istore E dX7_layOrder_47 rfl rfl ?_
                have L49 : ∀ (n2 j : Nat) (cn : Int32), j + n2 = N → V Z D 0 0 [(q 0, .inr (7, [.ref (q 1), .ref (q 2), .ref (q 3), .ref (q 4), .ref (q 5), .ref (q 6), .ref (q 7), .ref (q 8), .ref (q 9), .ref (q 10)])), (q 1, aI D 703 g), (q 4, aZ D 40 (w_X7_rebuilt_2 g ch N)), (q 6, aI D 20 od1)] [some (.ref (q 0)), some (.int lf), some (.int (nI k0)), some (.int nx), some (.int (nI u_)), some (.int (foldN (s_X7_layOrder_49 g lf u_) n2 j cn)), none] [] 99 → V Z D 0 0 [(q 0, .inr (7, [.ref (q 1), .ref (q 2), .ref (q 3), .ref (q 4), .ref (q 5), .ref (q 6), .ref (q 7), .ref (q 8), .ref (q 9), .ref (q 10)])), (q 1, aI D 703 g), (q 4, aZ D 40 (w_X7_rebuilt_2 g ch N)), (q 6, aI D 20 od1)] [some (.ref (q 0)), some (.int lf), some (.int (nI k0)), some (.int nx), some (.int (nI u_)), some (.int cn), some (.int (nI j))] [] 49 := by
                  intro n2
                  induction n2 with
                  | zero =>
                    intro j cn hi  K49
                    have hiN : j = N := by omega
                    rw [hiN]
                    refine v_iload E dX7_layOrder_49 rfl ?_
                    refine v_aload_n E dX7_layOrder_51 rfl ?_
                    refine v_get E dX7_layOrder_52 (ci := 7) rfl iwX7 0 rfl 0 rfl fl_X7_7 rfl ?_
                    refine v_iconst E dX7_layOrder_55 (v := 0) (by decide) ?_
                    refine v_iald E dX7_layOrder_56 1 rfl 0 (show (0 : Int32) = nI 0 by decide) (by omega) rfl ?_
                    refine v_icmp_ge E 99 dX7_layOrder_57 (by decide) (fun c_57 => ?_) (fun c_57 => ?_)
                    · refine v_mask [true, true, true, true, true, true, false] rfl ?_
                      exact K49
                    · exact absurd (leN (a := N) (b := N) h0 rfl (by omega) (by omega)) c_57
                  | succ n2 ih =>
                    intro j cn hi  K49
                    refine v_iload E dX7_layOrder_49 rfl ?_
                    refine v_aload_n E dX7_layOrder_51 rfl ?_
                    refine v_get E dX7_layOrder_52 (ci := 7) rfl iwX7 0 rfl 0 rfl fl_X7_7 rfl ?_
                    refine v_iconst E dX7_layOrder_55 (v := 0) (by decide) ?_
                    refine v_iald E dX7_layOrder_56 1 rfl 0 (show (0 : Int32) = nI 0 by decide) (by omega) rfl ?_
                    refine v_icmp_ge E 99 dX7_layOrder_57 (by decide) (fun c_57 => ?_) (fun c_57 => ?_)
                    · exact absurd c_57 (nleN (a := N) (b := j) h0 rfl (by omega) (by omega))
                    · refine v_iload E dX7_layOrder_60 rfl ?_
                      refine v_if_eq E 90 dX7_layOrder_62 (by decide) (fun c_62 => ?_) (fun c_62 => ?_)
                      · refine v_iconst E dX7_layOrder_90 (v := 0) (by decide) ?_
                        refine v_istore E dX7_layOrder_91 rfl rfl ?_
                        refine v_iinc E dX7_layOrder_93 (v := nI (j + 1)) rfl (inc1 _) rfl rfl ?_
                        refine v_goto E 49 dX7_layOrder_96 (by decide) ?_
                        have hs : s_X7_layOrder_49 g lf u_ j cn = 0 := by simp only [s_X7_layOrder_49, if_pos c_62]
                        rw [foldN_s (s_X7_layOrder_49 g lf u_) n2 j cn, hs] at K49
                        exact ih (j + 1) 0 (by omega) K49
                      · refine v_iload_n E dX7_layOrder_65 rfl ?_
                        refine v_iload E dX7_layOrder_66 rfl ?_
                        refine v_ishr E dX7_layOrder_68 ?_
                        refine v_iconst E dX7_layOrder_69 (v := 1) (by decide) ?_
                        refine v_iand E dX7_layOrder_70 ?_
                        refine v_iconst E dX7_layOrder_71 (v := 1) (by decide) ?_
                        refine v_icmp_ne E 86 dX7_layOrder_72 (by decide) (fun c_72 => ?_) (fun c_72 => ?_)
                        · refine v_iconst E dX7_layOrder_86 (v := 1) (by decide) ?_
                          refine v_goto E 91 dX7_layOrder_87 (by decide) ?_
                          refine v_istore E dX7_layOrder_91 rfl rfl ?_
                          refine v_iinc E dX7_layOrder_93 (v := nI (j + 1)) rfl (inc1 _) rfl rfl ?_
                          refine v_goto E 49 dX7_layOrder_96 (by decide) ?_
                          have hs : s_X7_layOrder_49 g lf u_ j cn = 1 := by simp only [s_X7_layOrder_49, if_neg c_62, if_neg c_72]
                          rw [foldN_s (s_X7_layOrder_49 g lf u_) n2 j cn, hs] at K49
                          exact ih (j + 1) 1 (by omega) K49
                        · refine v_aload_n E dX7_layOrder_75 rfl ?_
                          refine v_iload E dX7_layOrder_76 rfl ?_
                          refine v_iload E dX7_layOrder_78 rfl ?_
                          refine v_cV_i E dX7_layOrder_80 (c_X7_waits D q g (nI u_) (nI j) u_ j rfl rfl (by omega) (by omega)) cs_X7_112 rfl rfl rfl (Nat.le_of_ble_eq_true rfl) 0 rfl rfl [0, 1] rfl rfl ⟨Nat.le_of_ble_eq_true rfl, Nat.le_of_ble_eq_true rfl⟩ ?_
                          refine v_if_ne E 90 dX7_layOrder_83 (by decide) (fun c_83 => ?_) (fun c_83 => ?_)
                          · refine v_iconst E dX7_layOrder_90 (v := 0) (by decide) ?_
                            refine v_istore E dX7_layOrder_91 rfl rfl ?_
                            refine v_iinc E dX7_layOrder_93 (v := nI (j + 1)) rfl (inc1 _) rfl rfl ?_
                            refine v_goto E 49 dX7_layOrder_96 (by decide) ?_
                            have hs : s_X7_layOrder_49 g lf u_ j cn = 0 := by simp only [s_X7_layOrder_49, if_neg c_62, if_pos c_72, if_neg c_83]
                            rw [foldN_s (s_X7_layOrder_49 g lf u_) n2 j cn, hs] at K49
                            exact ih (j + 1) 0 (by omega) K49
                          · refine v_iconst E dX7_layOrder_86 (v := 1) (by decide) ?_
                            refine v_goto E 91 dX7_layOrder_87 (by decide) ?_
                            refine v_istore E dX7_layOrder_91 rfl rfl ?_
                            refine v_iinc E dX7_layOrder_93 (v := nI (j + 1)) rfl (inc1 _) rfl rfl ?_
                            refine v_goto E 49 dX7_layOrder_96 (by decide) ?_
                            have hs : s_X7_layOrder_49 g lf u_ j cn = 1 := by simp only [s_X7_layOrder_49, if_neg c_62, if_pos c_72, if_pos c_83]
                            rw [foldN_s (s_X7_layOrder_49 g lf u_) n2 j cn, hs] at K49
                            exact ih (j + 1) 1 (by omega) K49
                refine L49 N 0 0 (by omega)  ?_
                refine v_iload E dX7_layOrder_99 rfl ?_
                refine v_if_eq E 109 dX7_layOrder_101 (by decide) (fun c_101 => ?_) (fun c_101 => ?_)
                · refine v_iload_n E dX7_layOrder_109 rfl ?_
                  refine v_istore_n E dX7_layOrder_110 rfl rfl ?_
                  refine v_iinc E dX7_layOrder_111 (v := nI u_ - 1) rfl (dec2 _) rfl rfl ?_
                  refine v_goto E 24 dX7_layOrder_114 (by decide) ?_
                  have hs : s_X7_layOrder_24 g N lf u_ nx = nx := by simp only [s_X7_layOrder_24, if_neg c_36, if_pos c_101]
                  rw [foldD_s (s_X7_layOrder_24 g N lf) u_ nx, hs] at K24
                  refine v_mask [true, true, true, true, true, false, true] rfl ?_
                  exact ih nx (by omega) K24
                · refine v_iload E dX7_layOrder_104 rfl ?_
                  refine v_goto E 110 dX7_layOrder_106 (by decide) ?_
                  refine v_istore_n E dX7_layOrder_110 rfl rfl ?_
                  refine v_iinc E dX7_layOrder_111 (v := nI u_ - 1) rfl (dec2 _) rfl rfl ?_
                  refine v_goto E 24 dX7_layOrder_114 (by decide) ?_
                  have hs : s_X7_layOrder_24 g N lf u_ nx = (nI u_) := by simp only [s_X7_layOrder_24, if_neg c_36, if_neg c_101]
                  rw [foldD_s (s_X7_layOrder_24 g N lf) u_ nx, hs] at K24
                  refine v_mask [true, true, true, true, true, false, true] rfl ?_
                  exact ih (nI u_) (by omega) K24
              · refine v_iconst E dX7_layOrder_39 (v := 1) (by decide) ?_
                refine v_goto E 44 dX7_layOrder_40 (by decide) ?_
                refine v_istore E dX7_layOrder_44 rfl rfl ?_
                refine v_iconst E dX7_layOrder_46 (v := 0) (by decide) ?_
                refine v_istore E dX7_layOrder_47 rfl rfl ?_
                have L49 : ∀ (n2 j : Nat) (cn : Int32), j + n2 = N → V Z D 0 0 [(q 0, .inr (7, [.ref (q 1), .ref (q 2), .ref (q 3), .ref (q 4), .ref (q 5), .ref (q 6), .ref (q 7), .ref (q 8), .ref (q 9), .ref (q 10)])), (q 1, aI D 703 g), (q 4, aZ D 40 (w_X7_rebuilt_2 g ch N)), (q 6, aI D 20 od1)] [some (.ref (q 0)), some (.int lf), some (.int (nI k0)), some (.int nx), some (.int (nI u_)), some (.int (foldN (s_X7_layOrder_49 g lf u_) n2 j cn)), none] [] 99 → V Z D 0 0 [(q 0, .inr (7, [.ref (q 1), .ref (q 2), .ref (q 3), .ref (q 4), .ref (q 5), .ref (q 6), .ref (q 7), .ref (q 8), .ref (q 9), .ref (q 10)])), (q 1, aI D 703 g), (q 4, aZ D 40 (w_X7_rebuilt_2 g ch N)), (q 6, aI D 20 od1)] [some (.ref (q 0)), some (.int lf), some (.int (nI k0)), some (.int nx), some (.int (nI u_)), some (.int cn), some (.int (nI j))] [] 49 := by
                  intro n2
                  induction n2 with
                  | zero =>
                    intro j cn hi  K49
                    have hiN : j = N := by omega
                    rw [hiN]
                    refine v_iload E dX7_layOrder_49 rfl ?_
                    refine v_aload_n E dX7_layOrder_51 rfl ?_
                    refine v_get E dX7_layOrder_52 (ci := 7) rfl iwX7 0 rfl 0 rfl fl_X7_7 rfl ?_
                    refine v_iconst E dX7_layOrder_55 (v := 0) (by decide) ?_
                    refine v_iald E dX7_layOrder_56 1 rfl 0 (show (0 : Int32) = nI 0 by decide) (by omega) rfl ?_
                    refine v_icmp_ge E 99 dX7_layOrder_57 (by decide) (fun c_57 => ?_) (fun c_57 => ?_)
                    · refine v_mask [true, true, true, true, true, true, false] rfl ?_
                      exact K49
                    · exact absurd (leN (a := N) (b := N) h0 rfl (by omega) (by omega)) c_57
                  | succ n2 ih =>
                    intro j cn hi  K49
                    refine v_iload E dX7_layOrder_49 rfl ?_
                    refine v_aload_n E dX7_layOrder_51 rfl ?_
                    refine v_get E dX7_layOrder_52 (ci := 7) rfl iwX7 0 rfl 0 rfl fl_X7_7 rfl ?_
                    refine v_iconst E dX7_layOrder_55 (v := 0) (by decide) ?_
                    refine v_iald E dX7_layOrder_56 1 rfl 0 (show (0 : Int32) = nI 0 by decide) (by omega) rfl ?_
                    refine v_icmp_ge E 99 dX7_layOrder_57 (by decide) (fun c_57 => ?_) (fun c_57 => ?_)
                    · exact absurd c_57 (nleN (a := N) (b := j) h0 rfl (by omega) (by omega))
                    · refine v_iload E dX7_layOrder_60 rfl ?_
                      refine v_if_eq E 90 dX7_layOrder_62 (by decide) (fun c_62 => ?_) (fun c_62 => ?_)
                      · refine v_iconst E dX7_layOrder_90 (v := 0) (by decide) ?_
                        refine v_istore E dX7_layOrder_91 rfl rfl ?_
                        refine v_iinc E dX7_layOrder_93 (v := nI (j + 1)) rfl (inc1 _) rfl rfl ?_
                        refine v_goto E 49 dX7_layOrder_96 (by decide) ?_
                        have hs : s_X7_layOrder_49 g lf u_ j cn = 0 := by simp only [s_X7_layOrder_49, if_pos c_62]
                        rw [foldN_s (s_X7_layOrder_49 g lf u_) n2 j cn, hs] at K49
                        exact ih (j + 1) 0 (by omega) K49
                      · refine v_iload_n E dX7_layOrder_65 rfl ?_
                        refine v_iload E dX7_layOrder_66 rfl ?_
                        refine v_ishr E dX7_layOrder_68 ?_
                        refine v_iconst E dX7_layOrder_69 (v := 1) (by decide) ?_
                        refine v_iand E dX7_layOrder_70 ?_
                        refine v_iconst E dX7_layOrder_71 (v := 1) (by decide) ?_
                        refine v_icmp_ne E 86 dX7_layOrder_72 (by decide) (fun c_72 => ?_) (fun c_72 => ?_)
                        · refine v_iconst E dX7_layOrder_86 (v := 1) (by decide) ?_
                          refine v_goto E 91 dX7_layOrder_87 (by decide) ?_
                          refine v_istore E dX7_layOrder_91 rfl rfl ?_
                          refine v_iinc E dX7_layOrder_93 (v := nI (j + 1)) rfl (inc1 _) rfl rfl ?_
                          refine v_goto E 49 dX7_layOrder_96 (by decide) ?_
                          have hs : s_X7_layOrder_49 g lf u_ j cn = 1 := by simp only [s_X7_layOrder_49, if_neg c_62, if_neg c_72]
                          rw [foldN_s (s_X7_layOrder_49 g lf u_) n2 j cn, hs] at K49
                          exact ih (j + 1) 1 (by omega) K49
                        · refine v_aload_n E dX7_layOrder_75 rfl ?_
                          refine v_iload E dX7_layOrder_76 rfl ?_
                          refine v_iload E dX7_layOrder_78 rfl ?_
                          refine v_cV_i E dX7_layOrder_80 (c_X7_waits D q g (nI u_) (nI j) u_ j rfl rfl (by omega) (by omega)) cs_X7_112 rfl rfl rfl (Nat.le_of_ble_eq_true rfl) 0 rfl rfl [0, 1] rfl rfl ⟨Nat.le_of_ble_eq_true rfl, Nat.le_of_ble_eq_true rfl⟩ ?_
                          refine v_if_ne E 90 dX7_layOrder_83 (by decide) (fun c_83 => ?_) (fun c_83 => ?_)
                          · refine v_iconst E dX7_layOrder_90 (v := 0) (by decide) ?_
                            refine v_istore E dX7_layOrder_91 rfl rfl ?_
                            refine v_iinc E dX7_layOrder_93 (v := nI (j + 1)) rfl (inc1 _) rfl rfl ?_
                            refine v_goto E 49 dX7_layOrder_96 (by decide) ?_
                            have hs : s_X7_layOrder_49 g lf u_ j cn = 0 := by simp only [s_X7_layOrder_49, if_neg c_62, if_pos c_72, if_neg c_83]
                            rw [foldN_s (s_X7_layOrder_49 g lf u_) n2 j cn, hs] at K49
                            exact ih (j + 1) 0 (by omega) K49
                          · refine v_iconst E dX7_layOrder_86 (v := 1) (by decide) ?_
                            refine v_goto E 91 dX7_layOrder_87 (by decide) ?_
                            refine v_istore E dX7_layOrder_91 rfl rfl ?_
                            refine v_iinc E dX7_layOrder_93 (v := nI (j + 1)) rfl (inc1 _) rfl rfl ?_
                            refine v_goto E 49 dX7_layOrder_96 (by decide) ?_
                            have hs : s_X7_layOrder_49 g lf u_ j cn = 1 := by simp only [s_X7_layOrder_49, if_neg c_62, if_pos c_72, if_pos c_83]
                            rw [foldN_s (s_X7_layOrder_49 g lf u_) n2 j cn, hs] at K49
                            exact ih (j + 1) 1 (by omega) K49
                refine L49 N 0 1 (by omega)  ?_
                refine v_iload E dX7_layOrder_99 rfl ?_
                refine v_if_eq E 109 dX7_layOrder_101 (by decide) (fun c_101 => ?_) (fun c_101 => ?_)
                · refine v_iload_n E dX7_layOrder_109 rfl ?_
                  refine v_istore_n E dX7_layOrder_110 rfl rfl ?_
                  refine v_iinc E dX7_layOrder_111 (v := nI u_ - 1) rfl (dec2 _) rfl rfl ?_
                  refine v_goto E 24 dX7_layOrder_114 (by decide) ?_
                  have hs : s_X7_layOrder_24 g N lf u_ nx = nx := by simp only [s_X7_layOrder_24, if_pos c_36, if_pos c_101]
                  rw [foldD_s (s_X7_layOrder_24 g N lf) u_ nx, hs] at K24
                  refine v_mask [true, true, true, true, true, false, true] rfl ?_
                  exact ih nx (by omega) K24
                · refine v_iload E dX7_layOrder_104 rfl ?_
                  refine v_goto E 110 dX7_layOrder_106 (by decide) ?_
                  refine v_istore_n E dX7_layOrder_110 rfl rfl ?_
                  refine v_iinc E dX7_layOrder_111 (v := nI u_ - 1) rfl (dec2 _) rfl rfl ?_
                  refine v_goto E 24 dX7_layOrder_114 (by decide) ?_
                  have hs : s_X7_layOrder_24 g N lf u_ nx = (nI u_) := by simp only [s_X7_layOrder_24, if_pos c_36, if_neg c_101]
                  rw [foldD_s (s_X7_layOrder_24 g N lf) u_ nx, hs] at K24
                  refine v_mask [true, true, true, true, true, false, true] rfl ?_
                  exact ih (nI u_) (by omega) K24
        rw [show (g 0) - 1 = nI N - 1 by rw [h0]]
        refine L24 N  (-10) (by omega)  ?_
        refine v_aload_n E dX7_layOrder_117 rfl ?_
        refine v_get E dX7_layOrder_118 (ci := 7) rfl iwX7 0 rfl 5 rfl fl_X7_26 rfl ?_
        refine v_iload_n E dX7_layOrder_121 rfl ?_
        refine v_iload_n E dX7_layOrder_122 rfl ?_
        refine v_iast E dX7_layOrder_123 3 rfl k0 rfl (by omega) rfl ?_
        refine v_wd (wd2 := [(q 0, .inr (7, [.ref (q 1), .ref (q 2), .ref (q 3), .ref (q 4), .ref (q 5), .ref (q 6), .ref (q 7), .ref (q 8), .ref (q 9), .ref (q 10)])), (q 1, aI D 703 g), (q 4, aZ D 40 (w_X7_rebuilt_2 g ch N)), (q 6, aI D 20 (upd od1 k0 (foldD (s_X7_layOrder_24 g N lf) N (-10))))]) rfl ?_
        refine v_iinc E dX7_layOrder_124 (v := nI (k0 + 1)) rfl (inc1 _) rfl rfl ?_
        refine v_iload_n E dX7_layOrder_127 rfl ?_
        refine v_iconst E dX7_layOrder_128 (v := 1) (by decide) ?_
        refine v_iload_n E dX7_layOrder_129 rfl ?_
        refine v_ishl E dX7_layOrder_130 ?_
        refine v_iconst E dX7_layOrder_131 (v := -1) (by decide) ?_
        refine v_ixor E dX7_layOrder_132 ?_
        refine v_iand E dX7_layOrder_133 ?_
        refine v_istore_n E dX7_layOrder_134 rfl rfl ?_
        refine v_goto E 7 dX7_layOrder_135 (by decide) ?_
        have hs : s_X7_layOrder_7 g N (lf, k0, od1) = (lf &&& ((1 <<< ((foldD (s_X7_layOrder_24 g N lf) N (-10)) &&& 31)) ^^^ (-1)), (k0 + 1), upd od1 k0 (foldD (s_X7_layOrder_24 g N lf) N (-10))) := by rfl
        rw [whN_s (show e_X7_layOrder_7 (lf, k0, od1) = false from decide_eq_false c_8), hs] at K7 hT7
        refine v_mask [true, true, true, false, true, true, true] rfl ?_
        exact ih (lf &&& ((1 <<< ((foldD (s_X7_layOrder_24 g N lf) N (-10)) &&& 31)) ^^^ (-1))) (k0 + 1) (upd od1 k0 (foldD (s_X7_layOrder_24 g N lf) N (-10))) (by omega) hT7 K7
  refine L7 20 (r_X7_rebuilt g ch N) 0 od rfl hWo ?_
  refine v_iload_n E dX7_layOrder_138 rfl ?_
  exact v_iret E F dX7_layOrder_139 rfl rfl () rfl rfl (Nat.le_of_ble_eq_true rfl) (Nat.le_of_ble_eq_true rfl)

def k_layOrder (g ch od : Nat → Int32) (N : Nat) : Nat := (whN e_X7_layOrder_7 (s_X7_layOrder_7 g N) 20 ((r_X7_rebuilt g ch N), 0, od)).2.1
theorem whN_inv {σ : Type} {e : σ → Bool} {f : σ → σ} {P : Nat → σ → Prop} (h : ∀ n a, e a = false → P (n + 1) a → P n (f a)) (hw : ∀ n a, P (n + 1) a → P n a) : ∀ (n : Nat) (a : σ), P n a → P 0 (whN e f n a)
  | 0, _, ha => ha
  | n + 1, a, ha => by
    by_cases q : e a = true
    · rw [whN_e q]
      have : ∀ m, P m a → P 0 a := fun m => by induction m with
        | zero => exact id
        | succ m ih => exact fun z => ih (hw m a z)
      exact this _ ha
    · have q2 : e a = false := by cases hh : e a with
        | true => exact absurd hh q
        | false => rfl
      rw [whN_s q2]
      exact whN_inv h hw n (f a) (h n a q2 ha)
theorem k_layOrder_le (g ch od : Nat → Int32) (N : Nat) : k_layOrder g ch od N ≤ 20 := by
  have := whN_inv (e := e_X7_layOrder_7) (f := s_X7_layOrder_7 g N) (P := fun n z => z.2.1 + n ≤ 20) (fun n z _ hz => by
    obtain ⟨a, b, c⟩ := z
    show b + 1 + n ≤ 20
    have : b + (n + 1) ≤ 20 := hz
    omega) (fun n z hz => by
    have : z.2.1 + (n + 1) ≤ 20 := hz
    show z.2.1 + n ≤ 20
    omega) 20 ((r_X7_rebuilt g ch N), 0, od) (by show 0 + 20 ≤ 20; omega)
  exact this
def r_X7_rebuildOrder (g : Nat → Int32) (ch : Nat → Int32) (od : Nat → Int32) (ix : Int32) (N : Nat) : Int32 := if ix = (-1) then (r_X7_layOrder g ch od N) else if (r_X7_in ix 0 ((r_X7_layOrder g ch od N) - 1)) = 0 then (-10) else (w_X7_layOrder_3 g ch od N) ix.toNatClampNeg
def w_X7_rebuildOrder_2 (g : Nat → Int32) (ch : Nat → Int32) (N : Nat) : Nat → Int32 := (w_X7_layOrder_2 g ch N)
def w_X7_rebuildOrder_3 (g : Nat → Int32) (ch : Nat → Int32) (od : Nat → Int32) (N : Nat) : Nat → Int32 := (w_X7_layOrder_3 g ch od N)
set_option maxRecDepth 20000 in
/-- X7_rebuildOrder -/
theorem c_X7_rebuildOrder (D : va_G) (q : Nat → Nat) (g : Nat → Int32) (ch : Nat → Int32) (od : Nat → Int32) (ix : Int32) (N : Nat) (h0 : g 0 = nI N) (hN : N ≤ 20) (hWs : ∀ ch : Nat → Int32, T_X7_spread_2 g ch N) (hWo : T_X7_layOrder_7 g ch od N) (l : Launch) : Ct l yX7_rebuildOrder cX7_rebuildOrder 3 (some .int) (rmM 6 139 0 0) D [.ref (q 0), .int ix] [(q 0, .inr (7, [.ref (q 1), .ref (q 2), .ref (q 3), .ref (q 4), .ref (q 5), .ref (q 6), .ref (q 7), .ref (q 8), .ref (q 9), .ref (q 10)])), (q 1, aI D 703 g), (q 4, aZ D 40 ch), (q 6, aI D 20 od)] (QI1 D (r_X7_rebuildOrder g ch od ix N) [(q 0, .inr (7, [.ref (q 1), .ref (q 2), .ref (q 3), .ref (q 4), .ref (q 5), .ref (q 6), .ref (q 7), .ref (q 8), .ref (q 9), .ref (q 10)])), (q 1, aI D 703 g), (q 4, aZ D 40 (w_X7_rebuildOrder_2 g ch N)), (q 6, aI D 20 (w_X7_rebuildOrder_3 g ch od N))]) := by
  refine Ct.ofV 1 (lv0 := [some (.ref (q 0)), some (.int ix), none]) (by decide) rfl rfl (fun Z E F => ?_)
  refine v_aload_n E dX7_rebuildOrder_0 rfl ?_
  refine v_cV_iU E dX7_rebuildOrder_1 (c_X7_layOrder D q g ch od N h0 hN hWs hWo) cs_X7_115 rfl rfl rfl (Nat.le_of_ble_eq_true rfl) 0 rfl rfl [0, 1, 2, 3] rfl rfl ⟨Nat.le_of_ble_eq_true rfl, Nat.le_of_ble_eq_true rfl⟩ [q 0, q 1, q 4, q 6] rfl rfl ?_
  refine v_wd (wd2 := [(q 0, .inr (7, [.ref (q 1), .ref (q 2), .ref (q 3), .ref (q 4), .ref (q 5), .ref (q 6), .ref (q 7), .ref (q 8), .ref (q 9), .ref (q 10)])), (q 1, aI D 703 g), (q 4, aZ D 40 (w_X7_layOrder_2 g ch N)), (q 6, aI D 20 (w_X7_layOrder_3 g ch od N))]) rfl ?_
  refine v_istore_n E dX7_rebuildOrder_4 rfl rfl ?_
  refine v_iload_n E dX7_rebuildOrder_5 rfl ?_
  refine v_iconst E dX7_rebuildOrder_6 (v := -1) (by decide) ?_
  refine v_icmp_ne E 14 dX7_rebuildOrder_7 (by decide) (fun c_7 => ?_) (fun c_7 => ?_)
  · refine v_iload_n E dX7_rebuildOrder_14 rfl ?_
    refine v_iconst E dX7_rebuildOrder_15 (v := 0) (by decide) ?_
    refine v_iload_n E dX7_rebuildOrder_16 rfl ?_
    refine v_iconst E dX7_rebuildOrder_17 (v := 1) (by decide) ?_
    refine v_isub E dX7_rebuildOrder_18 ?_
    refine v_cS_i E dX7_rebuildOrder_19 (c_X7_in D ix 0 ((r_X7_layOrder g ch od N) - 1)) cs_X7_41 rfl rfl rfl (Nat.le_of_ble_eq_true rfl) [] rfl rfl ⟨Nat.le_of_ble_eq_true rfl, Nat.le_of_ble_eq_true rfl⟩ ?_
    refine v_if_eq E 34 dX7_rebuildOrder_22 (by decide) (fun c_22 => ?_) (fun c_22 => ?_)
    · refine v_bipush E dX7_rebuildOrder_34 (v := -10) (by decide) ?_
      exact v_iret E F dX7_rebuildOrder_36 rfl rfl () (by simp only [r_X7_rebuildOrder, if_neg c_7, if_pos c_22]) (by simp only [w_X7_rebuildOrder_2, w_X7_rebuildOrder_3, if_neg c_7, if_pos c_22] <;> rfl) (Nat.le_of_ble_eq_true rfl) (Nat.le_of_ble_eq_true rfl)
    · have hk20 := k_layOrder_le g ch od N
      obtain ⟨hx1, hx2⟩ := in_use (F := (k_layOrder g ch od N)) (v := ix) (by omega) c_22
      refine v_aload_n E dX7_rebuildOrder_25 rfl ?_
      refine v_get E dX7_rebuildOrder_26 (ci := 7) rfl iwX7 0 rfl 5 rfl fl_X7_26 rfl ?_
      refine v_iload_n E dX7_rebuildOrder_29 rfl ?_
      refine v_iald E dX7_rebuildOrder_30 3 rfl ix.toNatClampNeg hx1 (by omega) rfl ?_
      refine v_goto E 36 dX7_rebuildOrder_31 (by decide) ?_
      exact v_iret E F dX7_rebuildOrder_36 rfl rfl () (by simp only [r_X7_rebuildOrder, if_neg c_7, if_neg c_22]) (by simp only [w_X7_rebuildOrder_2, w_X7_rebuildOrder_3, if_neg c_7, if_neg c_22] <;> rfl) (Nat.le_of_ble_eq_true rfl) (Nat.le_of_ble_eq_true rfl)
  · refine v_iload_n E dX7_rebuildOrder_10 rfl ?_
    refine v_goto E 36 dX7_rebuildOrder_11 (by decide) ?_
    exact v_iret E F dX7_rebuildOrder_36 rfl rfl () (by simp only [r_X7_rebuildOrder, if_pos c_7]) (by simp only [w_X7_rebuildOrder_2, w_X7_rebuildOrder_3, if_pos c_7] <;> rfl) (Nat.le_of_ble_eq_true rfl) (Nat.le_of_ble_eq_true rfl)

def s_X7_rebuildTime_28 (g : Nat → Int32) (ch : Nat → Int32) (od : Nat → Int32) (N : Nat) (i : Nat) (rd1 : Nat → Int32) (j : Nat) (bg : Int32) : Int32 := if (r_X7_waits g ((w_X7_layOrder_3 g ch od N i).toNatClampNeg) ((w_X7_layOrder_3 g ch od N j).toNatClampNeg)) = 0 then bg else if (rd1 ((w_X7_layOrder_3 g ch od N j).toNatClampNeg)) ≤ bg then bg else rd1 ((w_X7_layOrder_3 g ch od N j).toNatClampNeg)
def s_X7_rebuildTime_9 (g : Nat → Int32) (ch : Nat → Int32) (od : Nat → Int32) (N : Nat) (i : Nat) (z_ : Int32 × (Nat → Int32)) : Int32 × (Nat → Int32) := match z_ with
  | (tm, rd1) => if ((upd rd1 ((w_X7_layOrder_3 g ch od N i).toNatClampNeg) ((foldN (s_X7_rebuildTime_28 g ch od N i rd1) i 0 0) + (r_X7_weightOf g ((w_X7_layOrder_3 g ch od N i).toNatClampNeg)))) ((w_X7_layOrder_3 g ch od N i).toNatClampNeg)) ≤ tm then (tm, upd rd1 ((w_X7_layOrder_3 g ch od N i).toNatClampNeg) ((foldN (s_X7_rebuildTime_28 g ch od N i rd1) i 0 0) + (r_X7_weightOf g ((w_X7_layOrder_3 g ch od N i).toNatClampNeg)))) else ((upd rd1 ((w_X7_layOrder_3 g ch od N i).toNatClampNeg) ((foldN (s_X7_rebuildTime_28 g ch od N i rd1) i 0 0) + (r_X7_weightOf g ((w_X7_layOrder_3 g ch od N i).toNatClampNeg)))) ((w_X7_layOrder_3 g ch od N i).toNatClampNeg), upd rd1 ((w_X7_layOrder_3 g ch od N i).toNatClampNeg) ((foldN (s_X7_rebuildTime_28 g ch od N i rd1) i 0 0) + (r_X7_weightOf g ((w_X7_layOrder_3 g ch od N i).toNatClampNeg))))
def r_X7_rebuildTime (g : Nat → Int32) (ch : Nat → Int32) (od : Nat → Int32) (rd : Nat → Int32) (N : Nat) : Int32 := (foldN (s_X7_rebuildTime_9 g ch od N) (k_layOrder g ch od N) 0 (0, rd)).1
def w_X7_rebuildTime_2 (g : Nat → Int32) (ch : Nat → Int32) (N : Nat) : Nat → Int32 := (w_X7_layOrder_2 g ch N)
def w_X7_rebuildTime_3 (g : Nat → Int32) (ch : Nat → Int32) (od : Nat → Int32) (N : Nat) : Nat → Int32 := (w_X7_layOrder_3 g ch od N)
def w_X7_rebuildTime_4 (g : Nat → Int32) (ch : Nat → Int32) (od : Nat → Int32) (rd : Nat → Int32) (N : Nat) : Nat → Int32 := (foldN (s_X7_rebuildTime_9 g ch od N) (k_layOrder g ch od N) 0 (0, rd)).2
set_option maxRecDepth 20000 in
/-- X7_rebuildTime -/
theorem c_X7_rebuildTime (D : va_G) (q : Nat → Nat) (g : Nat → Int32) (ch : Nat → Int32) (od : Nat → Int32) (rd : Nat → Int32) (N : Nat) (h0 : g 0 = nI N) (hN : N ≤ 20) (hWs : ∀ ch : Nat → Int32, T_X7_spread_2 g ch N) (hWo : T_X7_layOrder_7 g ch od N) (hOd : ∀ k, k < k_layOrder g ch od N → w_X7_layOrder_3 g ch od N k = nI (w_X7_layOrder_3 g ch od N k).toNatClampNeg ∧ (w_X7_layOrder_3 g ch od N k).toNatClampNeg < 20) (l : Launch) : Ct l yX7_rebuildTime cX7_rebuildTime 8 (some .int) (rmM 6 139 0 0) D [.ref (q 0)] [(q 0, .inr (7, [.ref (q 1), .ref (q 2), .ref (q 3), .ref (q 4), .ref (q 5), .ref (q 6), .ref (q 7), .ref (q 8), .ref (q 9), .ref (q 10)])), (q 1, aI D 703 g), (q 4, aZ D 40 ch), (q 6, aI D 20 od), (q 7, aI D 20 rd)] (QI1 D (r_X7_rebuildTime g ch od rd N) [(q 0, .inr (7, [.ref (q 1), .ref (q 2), .ref (q 3), .ref (q 4), .ref (q 5), .ref (q 6), .ref (q 7), .ref (q 8), .ref (q 9), .ref (q 10)])), (q 1, aI D 703 g), (q 4, aZ D 40 (w_X7_rebuildTime_2 g ch N)), (q 6, aI D 20 (w_X7_rebuildTime_3 g ch od N)), (q 7, aI D 20 (w_X7_rebuildTime_4 g ch od rd N))]) := by
  refine Ct.ofV 7 (lv0 := [some (.ref (q 0)), none, none, none, none, none, none, none]) (by decide) rfl rfl (fun Z E F => ?_)
  refine v_aload_n E dX7_rebuildTime_0 rfl ?_
  refine v_cV_iU E dX7_rebuildTime_1 (c_X7_layOrder D q g ch od N h0 hN hWs hWo) cs_X7_115 rfl rfl rfl (Nat.le_of_ble_eq_true rfl) 0 rfl rfl [0, 1, 2, 3] rfl rfl ⟨Nat.le_of_ble_eq_true rfl, Nat.le_of_ble_eq_true rfl⟩ [q 0, q 1, q 4, q 6] rfl rfl ?_
  refine v_wd (wd2 := [(q 0, .inr (7, [.ref (q 1), .ref (q 2), .ref (q 3), .ref (q 4), .ref (q 5), .ref (q 6), .ref (q 7), .ref (q 8), .ref (q 9), .ref (q 10)])), (q 1, aI D 703 g), (q 4, aZ D 40 (w_X7_layOrder_2 g ch N)), (q 6, aI D 20 (w_X7_layOrder_3 g ch od N)), (q 7, aI D 20 rd)]) rfl ?_
  have hk20 := k_layOrder_le g ch od N
  refine v_istore_n E dX7_rebuildTime_4 rfl rfl ?_
  refine v_iconst E dX7_rebuildTime_5 (v := 0) (by decide) ?_
  refine v_istore_n E dX7_rebuildTime_6 rfl rfl ?_
  refine v_iconst E dX7_rebuildTime_7 (v := 0) (by decide) ?_
  refine v_istore_n E dX7_rebuildTime_8 rfl rfl ?_
  have L9 : ∀ (n1 i : Nat) (tm : Int32) (rd1 : Nat → Int32), i + n1 = (k_layOrder g ch od N) → V Z D 0 0 [(q 0, .inr (7, [.ref (q 1), .ref (q 2), .ref (q 3), .ref (q 4), .ref (q 5), .ref (q 6), .ref (q 7), .ref (q 8), .ref (q 9), .ref (q 10)])), (q 1, aI D 703 g), (q 4, aZ D 40 (w_X7_layOrder_2 g ch N)), (q 6, aI D 20 (w_X7_layOrder_3 g ch od N)), (q 7, aI D 20 ((foldN (s_X7_rebuildTime_9 g ch od N) n1 i (tm, rd1)).2))] [some (.ref (q 0)), some (.int (r_X7_layOrder g ch od N)), some (.int ((foldN (s_X7_rebuildTime_9 g ch od N) n1 i (tm, rd1)).1)), some (.int (nI (k_layOrder g ch od N))), none, none, none, none] [] 131 → V Z D 0 0 [(q 0, .inr (7, [.ref (q 1), .ref (q 2), .ref (q 3), .ref (q 4), .ref (q 5), .ref (q 6), .ref (q 7), .ref (q 8), .ref (q 9), .ref (q 10)])), (q 1, aI D 703 g), (q 4, aZ D 40 (w_X7_layOrder_2 g ch N)), (q 6, aI D 20 (w_X7_layOrder_3 g ch od N)), (q 7, aI D 20 rd1)] [some (.ref (q 0)), some (.int (r_X7_layOrder g ch od N)), some (.int tm), some (.int (nI i)), none, none, none, none] [] 9 := by
    intro n1
    induction n1 with
    | zero =>
      intro i tm rd1 hi  K9
      have hiN : i = (k_layOrder g ch od N) := by omega
      rw [hiN]
      refine v_iload_n E dX7_rebuildTime_9 rfl ?_
      refine v_iload_n E dX7_rebuildTime_10 rfl ?_
      refine v_icmp_ge E 131 dX7_rebuildTime_11 (by decide) (fun c_11 => ?_) (fun c_11 => ?_)
      · exact K9
      · exact absurd (leN (a := (k_layOrder g ch od N)) (b := (k_layOrder g ch od N)) rfl rfl (by omega) (by omega)) c_11
    | succ n1 ih =>
      intro i tm rd1 hi  K9
      refine v_iload_n E dX7_rebuildTime_9 rfl ?_
      refine v_iload_n E dX7_rebuildTime_10 rfl ?_
      refine v_icmp_ge E 131 dX7_rebuildTime_11 (by decide) (fun c_11 => ?_) (fun c_11 => ?_)
      · exact absurd c_11 (nleN (a := (k_layOrder g ch od N)) (b := i) rfl rfl (by omega) (by omega))
      · refine v_aload_n E dX7_rebuildTime_14 rfl ?_
        refine v_get E dX7_rebuildTime_15 (ci := 7) rfl iwX7 0 rfl 5 rfl fl_X7_26 rfl ?_
        refine v_iload_n E dX7_rebuildTime_18 rfl ?_
        refine v_iald E dX7_rebuildTime_19 3 rfl i rfl (by omega) rfl ?_
        have hoi := (hOd i (by omega)).2
        refine v_istore E dX7_rebuildTime_20 rfl rfl ?_
        refine v_iconst E dX7_rebuildTime_22 (v := 0) (by decide) ?_
        refine v_istore E dX7_rebuildTime_23 rfl rfl ?_
        refine v_iconst E dX7_rebuildTime_25 (v := 0) (by decide) ?_
        refine v_istore E dX7_rebuildTime_26 rfl rfl ?_
        have L28 : ∀ (n2 j : Nat) (bg : Int32), j + n2 = i → V Z D 0 0 [(q 0, .inr (7, [.ref (q 1), .ref (q 2), .ref (q 3), .ref (q 4), .ref (q 5), .ref (q 6), .ref (q 7), .ref (q 8), .ref (q 9), .ref (q 10)])), (q 1, aI D 703 g), (q 4, aZ D 40 (w_X7_layOrder_2 g ch N)), (q 6, aI D 20 (w_X7_layOrder_3 g ch od N)), (q 7, aI D 20 rd1)] [some (.ref (q 0)), some (.int (r_X7_layOrder g ch od N)), some (.int tm), some (.int (nI i)), some (.int ((w_X7_layOrder_3 g ch od N) i)), some (.int (foldN (s_X7_rebuildTime_28 g ch od N i rd1) n2 j bg)), none, none] [] 86 → V Z D 0 0 [(q 0, .inr (7, [.ref (q 1), .ref (q 2), .ref (q 3), .ref (q 4), .ref (q 5), .ref (q 6), .ref (q 7), .ref (q 8), .ref (q 9), .ref (q 10)])), (q 1, aI D 703 g), (q 4, aZ D 40 (w_X7_layOrder_2 g ch N)), (q 6, aI D 20 (w_X7_layOrder_3 g ch od N)), (q 7, aI D 20 rd1)] [some (.ref (q 0)), some (.int (r_X7_layOrder g ch od N)), some (.int tm), some (.int (nI i)), some (.int ((w_X7_layOrder_3 g ch od N) i)), some (.int bg), some (.int (nI j)), none] [] 28 := by
          intro n2
          induction n2 with
          | zero =>
            intro j bg hi  K28
            have hiN : j = i := by omega
            rw [hiN]
            refine v_iload E dX7_rebuildTime_28 rfl ?_
            refine v_iload_n E dX7_rebuildTime_30 rfl ?_
            refine v_icmp_ge E 86 dX7_rebuildTime_31 (by decide) (fun c_31 => ?_) (fun c_31 => ?_)
            · refine v_mask [true, true, true, true, true, true, false, true] rfl ?_
              exact K28
            · exact absurd (leN (a := i) (b := i) rfl rfl (by omega) (by omega)) c_31
          | succ n2 ih =>
            intro j bg hi  K28
            refine v_iload E dX7_rebuildTime_28 rfl ?_
            refine v_iload_n E dX7_rebuildTime_30 rfl ?_
            refine v_icmp_ge E 86 dX7_rebuildTime_31 (by decide) (fun c_31 => ?_) (fun c_31 => ?_)
            · exact absurd c_31 (nleN (a := i) (b := j) rfl rfl (by omega) (by omega))
            · refine v_aload_n E dX7_rebuildTime_34 rfl ?_
              refine v_get E dX7_rebuildTime_35 (ci := 7) rfl iwX7 0 rfl 5 rfl fl_X7_26 rfl ?_
              refine v_iload E dX7_rebuildTime_38 rfl ?_
              refine v_iald E dX7_rebuildTime_40 3 rfl j rfl (by omega) rfl ?_
              have hoj := (hOd j (by omega)).2
              refine v_istore E dX7_rebuildTime_41 rfl rfl ?_
              refine v_aload_n E dX7_rebuildTime_43 rfl ?_
              refine v_iload E dX7_rebuildTime_44 rfl ?_
              refine v_iload E dX7_rebuildTime_46 rfl ?_
              refine v_cV_i E dX7_rebuildTime_48 (c_X7_waits D q g ((w_X7_layOrder_3 g ch od N) i) ((w_X7_layOrder_3 g ch od N) j) ((w_X7_layOrder_3 g ch od N i).toNatClampNeg) ((w_X7_layOrder_3 g ch od N j).toNatClampNeg) (hOd i (by omega)).1 (hOd j (by omega)).1 (by omega) (by omega)) cs_X7_112 rfl rfl rfl (Nat.le_of_ble_eq_true rfl) 0 rfl rfl [0, 1] rfl rfl ⟨Nat.le_of_ble_eq_true rfl, Nat.le_of_ble_eq_true rfl⟩ ?_
              refine v_if_eq E 76 dX7_rebuildTime_51 (by decide) (fun c_51 => ?_) (fun c_51 => ?_)
              · refine v_iload E dX7_rebuildTime_76 rfl ?_
                refine v_istore E dX7_rebuildTime_78 rfl rfl ?_
                refine v_iinc E dX7_rebuildTime_80 (v := nI (j + 1)) rfl (inc1 _) rfl rfl ?_
                refine v_goto E 28 dX7_rebuildTime_83 (by decide) ?_
                have hs : s_X7_rebuildTime_28 g ch od N i rd1 j bg = bg := by simp only [s_X7_rebuildTime_28, if_pos c_51]
                rw [foldN_s (s_X7_rebuildTime_28 g ch od N i rd1) n2 j bg, hs] at K28
                refine v_mask [true, true, true, true, true, true, true, false] rfl ?_
                exact ih (j + 1) bg (by omega) K28
              · refine v_aload_n E dX7_rebuildTime_54 rfl ?_
                refine v_get E dX7_rebuildTime_55 (ci := 7) rfl iwX7 0 rfl 6 rfl fl_X7_29 rfl ?_
                refine v_iload E dX7_rebuildTime_58 rfl ?_
                refine v_iald E dX7_rebuildTime_60 4 rfl ((w_X7_layOrder_3 g ch od N j).toNatClampNeg) (hOd j (by omega)).1 (by omega) rfl ?_
                refine v_iload E dX7_rebuildTime_61 rfl ?_
                refine v_icmp_le E 76 dX7_rebuildTime_63 (by decide) (fun c_63 => ?_) (fun c_63 => ?_)
                · refine v_iload E dX7_rebuildTime_76 rfl ?_
                  refine v_istore E dX7_rebuildTime_78 rfl rfl ?_
                  refine v_iinc E dX7_rebuildTime_80 (v := nI (j + 1)) rfl (inc1 _) rfl rfl ?_
                  refine v_goto E 28 dX7_rebuildTime_83 (by decide) ?_
                  have hs : s_X7_rebuildTime_28 g ch od N i rd1 j bg = bg := by simp only [s_X7_rebuildTime_28, if_neg c_51, if_pos c_63]
                  rw [foldN_s (s_X7_rebuildTime_28 g ch od N i rd1) n2 j bg, hs] at K28
                  refine v_mask [true, true, true, true, true, true, true, false] rfl ?_
                  exact ih (j + 1) bg (by omega) K28
                · refine v_aload_n E dX7_rebuildTime_66 rfl ?_
                  refine v_get E dX7_rebuildTime_67 (ci := 7) rfl iwX7 0 rfl 6 rfl fl_X7_29 rfl ?_
                  refine v_iload E dX7_rebuildTime_70 rfl ?_
                  refine v_iald E dX7_rebuildTime_72 4 rfl ((w_X7_layOrder_3 g ch od N j).toNatClampNeg) (hOd j (by omega)).1 (by omega) rfl ?_
                  refine v_goto E 78 dX7_rebuildTime_73 (by decide) ?_
                  refine v_istore E dX7_rebuildTime_78 rfl rfl ?_
                  refine v_iinc E dX7_rebuildTime_80 (v := nI (j + 1)) rfl (inc1 _) rfl rfl ?_
                  refine v_goto E 28 dX7_rebuildTime_83 (by decide) ?_
                  have hs : s_X7_rebuildTime_28 g ch od N i rd1 j bg = (rd1 ((w_X7_layOrder_3 g ch od N j).toNatClampNeg)) := by simp only [s_X7_rebuildTime_28, if_neg c_51, if_neg c_63]
                  rw [foldN_s (s_X7_rebuildTime_28 g ch od N i rd1) n2 j bg, hs] at K28
                  refine v_mask [true, true, true, true, true, true, true, false] rfl ?_
                  exact ih (j + 1) (rd1 ((w_X7_layOrder_3 g ch od N j).toNatClampNeg)) (by omega) K28
        refine L28 i 0 0 (by omega)  ?_
        refine v_aload_n E dX7_rebuildTime_86 rfl ?_
        refine v_get E dX7_rebuildTime_87 (ci := 7) rfl iwX7 0 rfl 6 rfl fl_X7_29 rfl ?_
        refine v_iload E dX7_rebuildTime_90 rfl ?_
        refine v_iload E dX7_rebuildTime_92 rfl ?_
        refine v_aload_n E dX7_rebuildTime_94 rfl ?_
        refine v_iload E dX7_rebuildTime_95 rfl ?_
        refine v_cV_i E dX7_rebuildTime_97 (c_X7_weightOf D q g ((w_X7_layOrder_3 g ch od N) i) ((w_X7_layOrder_3 g ch od N i).toNatClampNeg) (hOd i (by omega)).1 (by omega)) cs_X7_106 rfl rfl rfl (Nat.le_of_ble_eq_true rfl) 0 rfl rfl [0, 1] rfl rfl ⟨Nat.le_of_ble_eq_true rfl, Nat.le_of_ble_eq_true rfl⟩ ?_
        refine v_iadd E dX7_rebuildTime_100 ?_
        refine v_iast E dX7_rebuildTime_101 4 rfl ((w_X7_layOrder_3 g ch od N i).toNatClampNeg) (hOd i (by omega)).1 (by omega) rfl ?_
        refine v_wd (wd2 := [(q 0, .inr (7, [.ref (q 1), .ref (q 2), .ref (q 3), .ref (q 4), .ref (q 5), .ref (q 6), .ref (q 7), .ref (q 8), .ref (q 9), .ref (q 10)])), (q 1, aI D 703 g), (q 4, aZ D 40 (w_X7_layOrder_2 g ch N)), (q 6, aI D 20 (w_X7_layOrder_3 g ch od N)), (q 7, aI D 20 (upd rd1 ((w_X7_layOrder_3 g ch od N i).toNatClampNeg) ((foldN (s_X7_rebuildTime_28 g ch od N i rd1) i 0 0) + (r_X7_weightOf g ((w_X7_layOrder_3 g ch od N i).toNatClampNeg)))))]) rfl ?_
        refine v_aload_n E dX7_rebuildTime_102 rfl ?_
        refine v_get E dX7_rebuildTime_103 (ci := 7) rfl iwX7 0 rfl 6 rfl fl_X7_29 rfl ?_
        refine v_iload E dX7_rebuildTime_106 rfl ?_
        refine v_iald E dX7_rebuildTime_108 4 rfl ((w_X7_layOrder_3 g ch od N i).toNatClampNeg) (hOd i (by omega)).1 (by omega) rfl ?_
        refine v_iload_n E dX7_rebuildTime_109 rfl ?_
        refine v_icmp_le E 123 dX7_rebuildTime_110 (by decide) (fun c_110 => ?_) (fun c_110 => ?_)
        · refine v_iload_n E dX7_rebuildTime_123 rfl ?_
          refine v_istore_n E dX7_rebuildTime_124 rfl rfl ?_
          refine v_iinc E dX7_rebuildTime_125 (v := nI (i + 1)) rfl (inc1 _) rfl rfl ?_
          refine v_goto E 9 dX7_rebuildTime_128 (by decide) ?_
          have hs : s_X7_rebuildTime_9 g ch od N i (tm, rd1) = (tm, upd rd1 ((w_X7_layOrder_3 g ch od N i).toNatClampNeg) ((foldN (s_X7_rebuildTime_28 g ch od N i rd1) i 0 0) + (r_X7_weightOf g ((w_X7_layOrder_3 g ch od N i).toNatClampNeg)))) := by simp only [s_X7_rebuildTime_9, if_pos c_110]
          rw [foldN_s (s_X7_rebuildTime_9 g ch od N) n1 i (tm, rd1), hs] at K9
          refine v_mask [true, true, true, true, false, false, true, true] rfl ?_
          exact ih (i + 1) tm (upd rd1 ((w_X7_layOrder_3 g ch od N i).toNatClampNeg) ((foldN (s_X7_rebuildTime_28 g ch od N i rd1) i 0 0) + (r_X7_weightOf g ((w_X7_layOrder_3 g ch od N i).toNatClampNeg)))) (by omega) K9
        · refine v_aload_n E dX7_rebuildTime_113 rfl ?_
          refine v_get E dX7_rebuildTime_114 (ci := 7) rfl iwX7 0 rfl 6 rfl fl_X7_29 rfl ?_
          refine v_iload E dX7_rebuildTime_117 rfl ?_
          refine v_iald E dX7_rebuildTime_119 4 rfl ((w_X7_layOrder_3 g ch od N i).toNatClampNeg) (hOd i (by omega)).1 (by omega) rfl ?_
          refine v_goto E 124 dX7_rebuildTime_120 (by decide) ?_
          refine v_istore_n E dX7_rebuildTime_124 rfl rfl ?_
          refine v_iinc E dX7_rebuildTime_125 (v := nI (i + 1)) rfl (inc1 _) rfl rfl ?_
          refine v_goto E 9 dX7_rebuildTime_128 (by decide) ?_
          have hs : s_X7_rebuildTime_9 g ch od N i (tm, rd1) = ((upd rd1 ((w_X7_layOrder_3 g ch od N i).toNatClampNeg) ((foldN (s_X7_rebuildTime_28 g ch od N i rd1) i 0 0) + (r_X7_weightOf g ((w_X7_layOrder_3 g ch od N i).toNatClampNeg)))) ((w_X7_layOrder_3 g ch od N i).toNatClampNeg), upd rd1 ((w_X7_layOrder_3 g ch od N i).toNatClampNeg) ((foldN (s_X7_rebuildTime_28 g ch od N i rd1) i 0 0) + (r_X7_weightOf g ((w_X7_layOrder_3 g ch od N i).toNatClampNeg)))) := by simp only [s_X7_rebuildTime_9, if_neg c_110]
          rw [foldN_s (s_X7_rebuildTime_9 g ch od N) n1 i (tm, rd1), hs] at K9
          refine v_mask [true, true, true, true, false, false, true, true] rfl ?_
          exact ih (i + 1) ((upd rd1 ((w_X7_layOrder_3 g ch od N i).toNatClampNeg) ((foldN (s_X7_rebuildTime_28 g ch od N i rd1) i 0 0) + (r_X7_weightOf g ((w_X7_layOrder_3 g ch od N i).toNatClampNeg)))) ((w_X7_layOrder_3 g ch od N i).toNatClampNeg)) (upd rd1 ((w_X7_layOrder_3 g ch od N i).toNatClampNeg) ((foldN (s_X7_rebuildTime_28 g ch od N i rd1) i 0 0) + (r_X7_weightOf g ((w_X7_layOrder_3 g ch od N i).toNatClampNeg)))) (by omega) K9
  refine L9 (k_layOrder g ch od N) 0 0 rd (by omega)  ?_
  refine v_iload_n E dX7_rebuildTime_131 rfl ?_
  exact v_iret E F dX7_rebuildTime_132 rfl rfl () rfl rfl (Nat.le_of_ble_eq_true rfl) (Nat.le_of_ble_eq_true rfl)

