theorem hdiv2 {x : Int32} {a : Nat} (h : x = nI a) (ha : a < 2 ^ 31) : x / 2 = nI (a / 2) := by rw [h]; exact pk_div (d := 2) ha (by decide) (by decide)
def r_X7_follows (g : Nat → Int32) (a : Int32) (b : Int32) (ka : Nat) (kb : Nat) : Int32 := if (a - a / 2 * 2) = 0 then (if (b - b / 2 * 2) = 0 then (if (a / 2) = (b / 2) then 0 else if (r_X7_linkOf g (kb / 2) (ka / 2)) = 0 then 1 else 0) else if (a / 2) = (b / 2) then 1 else if (r_X7_linkOf g (kb / 2) (ka / 2)) = 1 then 1 else 0) else if (b - b / 2 * 2) = 0 then (if (a / 2) = (b / 2) then 0 else if (r_X7_linkOf g (kb / 2) (ka / 2)) = 2 then 1 else 0) else 0
set_option maxRecDepth 20000 in
/-- X7_follows -/
theorem c_X7_follows (D : va_G) (q : Nat → Nat) (g : Nat → Int32) (a : Int32) (b : Int32) (ka : Nat) (kb : Nat) (ha : a = nI ka) (hb : b = nI kb) (hka : ka < 40) (hkb : kb < 40) (l : Launch) : Ct l yX7_follows cX7_follows 8 (some .boolean) (rmM 1 22 0 0) D [.ref (q 0), .int a, .int b] [(q 0, .inr (7, [.ref (q 1), .ref (q 2), .ref (q 3), .ref (q 4), .ref (q 5), .ref (q 6), .ref (q 7), .ref (q 8), .ref (q 9), .ref (q 10)])), (q 1, aI D 703 g)] (QI1 D (r_X7_follows g a b ka kb) [(q 0, .inr (7, [.ref (q 1), .ref (q 2), .ref (q 3), .ref (q 4), .ref (q 5), .ref (q 6), .ref (q 7), .ref (q 8), .ref (q 9), .ref (q 10)])), (q 1, aI D 703 g)]) := by
  refine Ct.ofV 5 (lv0 := [some (.ref (q 0)), some (.int a), some (.int b), none, none, none, none, none]) (by decide) rfl rfl (fun Z E F => ?_)
  refine v_iload_n E dX7_follows_0 rfl ?_
  refine v_iconst E dX7_follows_1 (v := 2) (by decide) ?_
  refine v_idiv E dX7_follows_2 (by decide) ?_
  refine v_istore_n E dX7_follows_3 rfl rfl ?_
  refine v_iload_n E dX7_follows_4 rfl ?_
  refine v_iconst E dX7_follows_5 (v := 2) (by decide) ?_
  refine v_idiv E dX7_follows_6 (by decide) ?_
  refine v_istore E dX7_follows_7 rfl rfl ?_
  refine v_iload_n E dX7_follows_9 rfl ?_
  refine v_iconst E dX7_follows_10 (v := 2) (by decide) ?_
  refine v_irem E dX7_follows_11 (by decide) ?_
  refine v_if_ne E 19 dX7_follows_12 (by decide) (fun c_12 => ?_) (fun c_12 => ?_)
  · refine v_iconst E dX7_follows_19 (v := 0) (by decide) ?_
    refine v_istore E dX7_follows_20 rfl rfl ?_
    refine v_iload_n E dX7_follows_22 rfl ?_
    refine v_iconst E dX7_follows_23 (v := 2) (by decide) ?_
    refine v_irem E dX7_follows_24 (by decide) ?_
    refine v_if_ne E 32 dX7_follows_25 (by decide) (fun c_25 => ?_) (fun c_25 => ?_)
    · refine v_iconst E dX7_follows_32 (v := 0) (by decide) ?_
      refine v_istore E dX7_follows_33 rfl rfl ?_
      refine v_iload_n E dX7_follows_35 rfl ?_
      refine v_iload E dX7_follows_36 rfl ?_
      refine v_icmp_ne E 57 dX7_follows_38 (by decide) (fun c_38 => ?_) (fun c_38 => ?_)
      · refine v_aload_n E dX7_follows_57 rfl ?_
        refine v_iload E dX7_follows_58 rfl ?_
        refine v_iload_n E dX7_follows_60 rfl ?_
        refine v_cV_i E dX7_follows_61 (c_X7_linkOf D q g (b / 2) (a / 2) (kb / 2) (ka / 2) (hdiv2 hb (by omega)) (hdiv2 ha (by omega)) (by omega) (by omega)) cs_X7_53 rfl rfl rfl (Nat.le_of_ble_eq_true rfl) 0 rfl rfl [0, 1] rfl rfl ⟨Nat.le_of_ble_eq_true rfl, Nat.le_of_ble_eq_true rfl⟩ ?_
        refine v_istore E dX7_follows_64 rfl rfl ?_
        refine v_iload E dX7_follows_66 rfl ?_
        refine v_if_eq E 92 dX7_follows_68 (by decide) (fun c_68 => ?_) (fun c_68 => ?_)
        · refine v_iload E dX7_follows_92 rfl ?_
          refine v_if_eq E 107 dX7_follows_94 (by decide) (fun c_94 => ?_) (fun c_94 => ?_)
          · refine v_iconst E dX7_follows_107 (v := 0) (by decide) ?_
            exact v_iret E F dX7_follows_108 rfl rfl () (by simp only [r_X7_follows, if_neg c_12, if_neg c_25, if_neg c_38]) rfl (Nat.le_of_ble_eq_true rfl) (Nat.le_of_ble_eq_true rfl)
          · exact absurd c_94 (by decide)
        · exact absurd c_68 (by decide)
      · refine v_iload E dX7_follows_41 rfl ?_
        refine v_if_eq E 55 dX7_follows_43 (by decide) (fun c_43 => ?_) (fun c_43 => ?_)
        · refine v_iconst E dX7_follows_55 (v := 0) (by decide) ?_
          exact v_iret E F dX7_follows_56 rfl rfl () (by simp only [r_X7_follows, if_neg c_12, if_neg c_25, if_pos c_38]) rfl (Nat.le_of_ble_eq_true rfl) (Nat.le_of_ble_eq_true rfl)
        · exact absurd c_43 (by decide)
    · refine v_iconst E dX7_follows_28 (v := 1) (by decide) ?_
      refine v_goto E 33 dX7_follows_29 (by decide) ?_
      refine v_istore E dX7_follows_33 rfl rfl ?_
      refine v_iload_n E dX7_follows_35 rfl ?_
      refine v_iload E dX7_follows_36 rfl ?_
      refine v_icmp_ne E 57 dX7_follows_38 (by decide) (fun c_38 => ?_) (fun c_38 => ?_)
      · refine v_aload_n E dX7_follows_57 rfl ?_
        refine v_iload E dX7_follows_58 rfl ?_
        refine v_iload_n E dX7_follows_60 rfl ?_
        refine v_cV_i E dX7_follows_61 (c_X7_linkOf D q g (b / 2) (a / 2) (kb / 2) (ka / 2) (hdiv2 hb (by omega)) (hdiv2 ha (by omega)) (by omega) (by omega)) cs_X7_53 rfl rfl rfl (Nat.le_of_ble_eq_true rfl) 0 rfl rfl [0, 1] rfl rfl ⟨Nat.le_of_ble_eq_true rfl, Nat.le_of_ble_eq_true rfl⟩ ?_
        refine v_istore E dX7_follows_64 rfl rfl ?_
        refine v_iload E dX7_follows_66 rfl ?_
        refine v_if_eq E 92 dX7_follows_68 (by decide) (fun c_68 => ?_) (fun c_68 => ?_)
        · refine v_iload E dX7_follows_92 rfl ?_
          refine v_if_eq E 107 dX7_follows_94 (by decide) (fun c_94 => ?_) (fun c_94 => ?_)
          · exact absurd c_94 (by decide)
          · refine v_iload E dX7_follows_97 rfl ?_
            refine v_iconst E dX7_follows_99 (v := 2) (by decide) ?_
            refine v_icmp_ne E 107 dX7_follows_100 (by decide) (fun c_100 => ?_) (fun c_100 => ?_)
            · refine v_iconst E dX7_follows_107 (v := 0) (by decide) ?_
              exact v_iret E F dX7_follows_108 rfl rfl () (by simp only [r_X7_follows, if_neg c_12, if_pos c_25, if_neg c_38, if_neg c_100]) rfl (Nat.le_of_ble_eq_true rfl) (Nat.le_of_ble_eq_true rfl)
            · refine v_iconst E dX7_follows_103 (v := 1) (by decide) ?_
              refine v_goto E 108 dX7_follows_104 (by decide) ?_
              exact v_iret E F dX7_follows_108 rfl rfl () (by simp only [r_X7_follows, if_neg c_12, if_pos c_25, if_neg c_38, if_pos c_100]) rfl (Nat.le_of_ble_eq_true rfl) (Nat.le_of_ble_eq_true rfl)
        · exact absurd c_68 (by decide)
      · refine v_iload E dX7_follows_41 rfl ?_
        refine v_if_eq E 55 dX7_follows_43 (by decide) (fun c_43 => ?_) (fun c_43 => ?_)
        · refine v_iconst E dX7_follows_55 (v := 0) (by decide) ?_
          exact v_iret E F dX7_follows_56 rfl rfl () (by simp only [r_X7_follows, if_neg c_12, if_pos c_25, if_pos c_38]) rfl (Nat.le_of_ble_eq_true rfl) (Nat.le_of_ble_eq_true rfl)
        · exact absurd c_43 (by decide)
  · refine v_iconst E dX7_follows_15 (v := 1) (by decide) ?_
    refine v_goto E 20 dX7_follows_16 (by decide) ?_
    refine v_istore E dX7_follows_20 rfl rfl ?_
    refine v_iload_n E dX7_follows_22 rfl ?_
    refine v_iconst E dX7_follows_23 (v := 2) (by decide) ?_
    refine v_irem E dX7_follows_24 (by decide) ?_
    refine v_if_ne E 32 dX7_follows_25 (by decide) (fun c_25 => ?_) (fun c_25 => ?_)
    · refine v_iconst E dX7_follows_32 (v := 0) (by decide) ?_
      refine v_istore E dX7_follows_33 rfl rfl ?_
      refine v_iload_n E dX7_follows_35 rfl ?_
      refine v_iload E dX7_follows_36 rfl ?_
      refine v_icmp_ne E 57 dX7_follows_38 (by decide) (fun c_38 => ?_) (fun c_38 => ?_)
      · refine v_aload_n E dX7_follows_57 rfl ?_
        refine v_iload E dX7_follows_58 rfl ?_
        refine v_iload_n E dX7_follows_60 rfl ?_
        refine v_cV_i E dX7_follows_61 (c_X7_linkOf D q g (b / 2) (a / 2) (kb / 2) (ka / 2) (hdiv2 hb (by omega)) (hdiv2 ha (by omega)) (by omega) (by omega)) cs_X7_53 rfl rfl rfl (Nat.le_of_ble_eq_true rfl) 0 rfl rfl [0, 1] rfl rfl ⟨Nat.le_of_ble_eq_true rfl, Nat.le_of_ble_eq_true rfl⟩ ?_
        refine v_istore E dX7_follows_64 rfl rfl ?_
        refine v_iload E dX7_follows_66 rfl ?_
        refine v_if_eq E 92 dX7_follows_68 (by decide) (fun c_68 => ?_) (fun c_68 => ?_)
        · exact absurd c_68 (by decide)
        · refine v_iload E dX7_follows_71 rfl ?_
          refine v_iload E dX7_follows_73 rfl ?_
          refine v_if_eq E 82 dX7_follows_75 (by decide) (fun c_75 => ?_) (fun c_75 => ?_)
          · refine v_iconst E dX7_follows_82 (v := 1) (by decide) ?_
            refine v_icmp_ne E 90 dX7_follows_83 (by decide) (fun c_83 => ?_) (fun c_83 => ?_)
            · refine v_iconst E dX7_follows_90 (v := 0) (by decide) ?_
              exact v_iret E F dX7_follows_91 rfl rfl () (by simp only [r_X7_follows, if_pos c_12, if_neg c_25, if_neg c_38, if_neg c_83]) rfl (Nat.le_of_ble_eq_true rfl) (Nat.le_of_ble_eq_true rfl)
            · refine v_iconst E dX7_follows_86 (v := 1) (by decide) ?_
              refine v_goto E 91 dX7_follows_87 (by decide) ?_
              exact v_iret E F dX7_follows_91 rfl rfl () (by simp only [r_X7_follows, if_pos c_12, if_neg c_25, if_neg c_38, if_pos c_83]) rfl (Nat.le_of_ble_eq_true rfl) (Nat.le_of_ble_eq_true rfl)
          · exact absurd c_75 (by decide)
      · refine v_iload E dX7_follows_41 rfl ?_
        refine v_if_eq E 55 dX7_follows_43 (by decide) (fun c_43 => ?_) (fun c_43 => ?_)
        · exact absurd c_43 (by decide)
        · refine v_iload E dX7_follows_46 rfl ?_
          refine v_if_ne E 55 dX7_follows_48 (by decide) (fun c_48 => ?_) (fun c_48 => ?_)
          · exact absurd c_48 (by decide)
          · refine v_iconst E dX7_follows_51 (v := 1) (by decide) ?_
            refine v_goto E 56 dX7_follows_52 (by decide) ?_
            exact v_iret E F dX7_follows_56 rfl rfl () (by simp only [r_X7_follows, if_pos c_12, if_neg c_25, if_pos c_38]) rfl (Nat.le_of_ble_eq_true rfl) (Nat.le_of_ble_eq_true rfl)
    · refine v_iconst E dX7_follows_28 (v := 1) (by decide) ?_
      refine v_goto E 33 dX7_follows_29 (by decide) ?_
      refine v_istore E dX7_follows_33 rfl rfl ?_
      refine v_iload_n E dX7_follows_35 rfl ?_
      refine v_iload E dX7_follows_36 rfl ?_
      refine v_icmp_ne E 57 dX7_follows_38 (by decide) (fun c_38 => ?_) (fun c_38 => ?_)
      · refine v_aload_n E dX7_follows_57 rfl ?_
        refine v_iload E dX7_follows_58 rfl ?_
        refine v_iload_n E dX7_follows_60 rfl ?_
        refine v_cV_i E dX7_follows_61 (c_X7_linkOf D q g (b / 2) (a / 2) (kb / 2) (ka / 2) (hdiv2 hb (by omega)) (hdiv2 ha (by omega)) (by omega) (by omega)) cs_X7_53 rfl rfl rfl (Nat.le_of_ble_eq_true rfl) 0 rfl rfl [0, 1] rfl rfl ⟨Nat.le_of_ble_eq_true rfl, Nat.le_of_ble_eq_true rfl⟩ ?_
        refine v_istore E dX7_follows_64 rfl rfl ?_
        refine v_iload E dX7_follows_66 rfl ?_
        refine v_if_eq E 92 dX7_follows_68 (by decide) (fun c_68 => ?_) (fun c_68 => ?_)
        · exact absurd c_68 (by decide)
        · refine v_iload E dX7_follows_71 rfl ?_
          refine v_iload E dX7_follows_73 rfl ?_
          refine v_if_eq E 82 dX7_follows_75 (by decide) (fun c_75 => ?_) (fun c_75 => ?_)
          · exact absurd c_75 (by decide)
          · refine v_iconst E dX7_follows_78 (v := 0) (by decide) ?_
            refine v_goto E 83 dX7_follows_79 (by decide) ?_
            refine v_icmp_ne E 90 dX7_follows_83 (by decide) (fun c_83 => ?_) (fun c_83 => ?_)
            · refine v_iconst E dX7_follows_90 (v := 0) (by decide) ?_
              exact v_iret E F dX7_follows_91 rfl rfl () (by simp only [r_X7_follows, if_pos c_12, if_pos c_25, if_neg c_38, if_neg c_83]) rfl (Nat.le_of_ble_eq_true rfl) (Nat.le_of_ble_eq_true rfl)
            · refine v_iconst E dX7_follows_86 (v := 1) (by decide) ?_
              refine v_goto E 91 dX7_follows_87 (by decide) ?_
              exact v_iret E F dX7_follows_91 rfl rfl () (by simp only [r_X7_follows, if_pos c_12, if_pos c_25, if_neg c_38, if_pos c_83]) rfl (Nat.le_of_ble_eq_true rfl) (Nat.le_of_ble_eq_true rfl)
      · refine v_iload E dX7_follows_41 rfl ?_
        refine v_if_eq E 55 dX7_follows_43 (by decide) (fun c_43 => ?_) (fun c_43 => ?_)
        · exact absurd c_43 (by decide)
        · refine v_iload E dX7_follows_46 rfl ?_
          refine v_if_ne E 55 dX7_follows_48 (by decide) (fun c_48 => ?_) (fun c_48 => ?_)
          · refine v_iconst E dX7_follows_55 (v := 0) (by decide) ?_
            exact v_iret E F dX7_follows_56 rfl rfl () (by simp only [r_X7_follows, if_pos c_12, if_pos c_25, if_pos c_38]) rfl (Nat.le_of_ble_eq_true rfl) (Nat.le_of_ble_eq_true rfl)
          · exact absurd c_48 (by decide)
theorem nz_X7_follows (g : Nat → Int32) (a : Int32) (b : Int32) (ka : Nat) (kb : Nat) : narrow .boolean (.int (r_X7_follows g a b ka kb)) = .int (r_X7_follows g a b ka kb) := by
  unfold r_X7_follows
  repeat' split
  all_goals first | rfl 

def s_X7_reachOf_32 (g : Nat → Int32) (wo : Int32) (i : Nat) (j : Nat) (z_ : Int32 × Int32) : Int32 × Int32 := match z_ with
  | (s2, m2) => if ((s2 >>> ((nI i) &&& 31)) &&& 1) = 1 then (if ((s2 >>> ((nI j) &&& 31)) &&& 1) = 0 then (if (r_X7_linkOf g i j) < 0 then (if m2 = 0 then (s2 ||| 0, 0) else (s2 ||| 0, 1)) else if (r_X7_linkOf g i j) = wo then (if m2 = 0 then (s2 ||| 0, 0) else (s2 ||| 0, 1)) else (s2 ||| (1 <<< ((nI j) &&& 31)), 1)) else if m2 = 0 then (s2 ||| 0, 0) else (s2 ||| 0, 1)) else if m2 = 0 then (s2 ||| 0, 0) else (s2 ||| 0, 1)
def s_X7_reachOf_18 (g : Nat → Int32) (wo : Int32) (N : Nat) (i : Nat) (z_ : Int32 × Int32) : Int32 × Int32 := match z_ with
  | (s1, m1) => ((foldN (s_X7_reachOf_32 g wo i) N 0 (s1, m1)).1, (foldN (s_X7_reachOf_32 g wo i) N 0 (s1, m1)).2)
def s_X7_reachOf_7 (g : Nat → Int32) (wo : Int32) (N : Nat) (z_ : Int32 × Int32) : Int32 × Int32 := match z_ with
  | (s0, m0) => ((foldN (s_X7_reachOf_18 g wo N) N 0 (s0, 0)).1, (foldN (s_X7_reachOf_18 g wo N) N 0 (s0, 0)).2)
def e_X7_reachOf_7  (z_ : Int32 × Int32) : Bool := match z_ with
  | (s0, m0) => decide (m0 = 0)
def T_X7_reachOf_7 (g : Nat → Int32) (t : Int32) (wo : Int32) (N : Nat) : Prop := e_X7_reachOf_7 (whN e_X7_reachOf_7 (s_X7_reachOf_7 g wo N) 21 (1 <<< (t &&& 31), 1)) = true
def r_X7_reachOf (g : Nat → Int32) (t : Int32) (wo : Int32) (N : Nat) : Int32 := (whN e_X7_reachOf_7 (s_X7_reachOf_7 g wo N) 21 (1 <<< (t &&& 31), 1)).1
set_option maxRecDepth 20000 in
/-- X7_reachOf -/
theorem c_X7_reachOf (D : va_G) (q : Nat → Nat) (g : Nat → Int32) (t : Int32) (wo : Int32) (N : Nat) (h0 : g 0 = nI N) (hN : N ≤ 20) (hW7 : T_X7_reachOf_7 g t wo N) (l : Launch) : Ct l yX7_reachOf cX7_reachOf 8 (some .int) (rmM 1 22 0 0) D [.ref (q 0), .int t, .int wo] [(q 0, .inr (7, [.ref (q 1), .ref (q 2), .ref (q 3), .ref (q 4), .ref (q 5), .ref (q 6), .ref (q 7), .ref (q 8), .ref (q 9), .ref (q 10)])), (q 1, aI D 703 g)] (QI1 D (r_X7_reachOf g t wo N) [(q 0, .inr (7, [.ref (q 1), .ref (q 2), .ref (q 3), .ref (q 4), .ref (q 5), .ref (q 6), .ref (q 7), .ref (q 8), .ref (q 9), .ref (q 10)])), (q 1, aI D 703 g)]) := by
  refine Ct.ofV 5 (lv0 := [some (.ref (q 0)), some (.int t), some (.int wo), none, none, none, none, none]) (by decide) rfl rfl (fun Z E F => ?_)
  refine v_iconst E dX7_reachOf_0 (v := 1) (by decide) ?_
  refine v_iload_n E dX7_reachOf_1 rfl ?_
  refine v_ishl E dX7_reachOf_2 ?_
  refine v_istore_n E dX7_reachOf_3 rfl rfl ?_
  refine v_iconst E dX7_reachOf_4 (v := 1) (by decide) ?_
  refine v_istore E dX7_reachOf_5 rfl rfl ?_
  have L7 : ∀ (n : Nat) (s0 : Int32) (m0 : Int32), e_X7_reachOf_7 (whN e_X7_reachOf_7 (s_X7_reachOf_7 g wo N) n (s0, m0)) = true → V Z D 0 0 [(q 0, .inr (7, [.ref (q 1), .ref (q 2), .ref (q 3), .ref (q 4), .ref (q 5), .ref (q 6), .ref (q 7), .ref (q 8), .ref (q 9), .ref (q 10)])), (q 1, aI D 703 g)] [some (.ref (q 0)), some (.int t), some (.int wo), some (.int ((whN e_X7_reachOf_7 (s_X7_reachOf_7 g wo N) n (s0, m0)).1)), some (.int ((whN e_X7_reachOf_7 (s_X7_reachOf_7 g wo N) n (s0, m0)).2)), none, none, none] [] 140 → V Z D 0 0 [(q 0, .inr (7, [.ref (q 1), .ref (q 2), .ref (q 3), .ref (q 4), .ref (q 5), .ref (q 6), .ref (q 7), .ref (q 8), .ref (q 9), .ref (q 10)])), (q 1, aI D 703 g)] [some (.ref (q 0)), some (.int t), some (.int wo), some (.int s0), some (.int m0), none, none, none] [] 7 := by
    intro n
    induction n with
    | zero =>
      intro s0 m0  hT7 K7
      refine v_iload E dX7_reachOf_7 rfl ?_
      refine v_if_eq E 140 dX7_reachOf_9 (by decide) (fun c_9 => ?_) (fun c_9 => ?_)
      · exact K7
      · exact absurd (of_decide_eq_true (p := m0 = 0) hT7) c_9
    | succ n ih =>
      intro s0 m0  hT7 K7
      refine v_iload E dX7_reachOf_7 rfl ?_
      refine v_if_eq E 140 dX7_reachOf_9 (by decide) (fun c_9 => ?_) (fun c_9 => ?_)
      · rw [whN_e (show e_X7_reachOf_7 (s0, m0) = true from decide_eq_true c_9)] at K7
        exact K7
      · refine v_iconst E dX7_reachOf_12 (v := 0) (by decide) ?_
        refine v_istore E dX7_reachOf_13 rfl rfl ?_
        refine v_iconst E dX7_reachOf_15 (v := 0) (by decide) ?_
        refine v_istore E dX7_reachOf_16 rfl rfl ?_
        have L18 : ∀ (n1 i : Nat) (s1 : Int32) (m1 : Int32), i + n1 = N → V Z D 0 0 [(q 0, .inr (7, [.ref (q 1), .ref (q 2), .ref (q 3), .ref (q 4), .ref (q 5), .ref (q 6), .ref (q 7), .ref (q 8), .ref (q 9), .ref (q 10)])), (q 1, aI D 703 g)] [some (.ref (q 0)), some (.int t), some (.int wo), some (.int ((foldN (s_X7_reachOf_18 g wo N) n1 i (s1, m1)).1)), some (.int ((foldN (s_X7_reachOf_18 g wo N) n1 i (s1, m1)).2)), some (.int (nI N)), none, none] [] 137 → V Z D 0 0 [(q 0, .inr (7, [.ref (q 1), .ref (q 2), .ref (q 3), .ref (q 4), .ref (q 5), .ref (q 6), .ref (q 7), .ref (q 8), .ref (q 9), .ref (q 10)])), (q 1, aI D 703 g)] [some (.ref (q 0)), some (.int t), some (.int wo), some (.int s1), some (.int m1), some (.int (nI i)), none, none] [] 18 := by
          intro n1
          induction n1 with
          | zero =>
            intro i s1 m1 hi  K18
            have hiN : i = N := by omega
            rw [hiN]
            refine v_iload E dX7_reachOf_18 rfl ?_
            refine v_aload_n E dX7_reachOf_20 rfl ?_
            refine v_get E dX7_reachOf_21 (ci := 7) rfl iwX7 0 rfl 0 rfl fl_X7_7 rfl ?_
            refine v_iconst E dX7_reachOf_24 (v := 0) (by decide) ?_
            refine v_iald E dX7_reachOf_25 1 rfl 0 (show (0 : Int32) = nI 0 by decide) (by omega) rfl ?_
            refine v_icmp_ge E 137 dX7_reachOf_26 (by decide) (fun c_26 => ?_) (fun c_26 => ?_)
            · exact K18
            · exact absurd (leN (a := N) (b := N) h0 rfl (by omega) (by omega)) c_26
          | succ n1 ih =>
            intro i s1 m1 hi  K18
            refine v_iload E dX7_reachOf_18 rfl ?_
            refine v_aload_n E dX7_reachOf_20 rfl ?_
            refine v_get E dX7_reachOf_21 (ci := 7) rfl iwX7 0 rfl 0 rfl fl_X7_7 rfl ?_
            refine v_iconst E dX7_reachOf_24 (v := 0) (by decide) ?_
            refine v_iald E dX7_reachOf_25 1 rfl 0 (show (0 : Int32) = nI 0 by decide) (by omega) rfl ?_
            refine v_icmp_ge E 137 dX7_reachOf_26 (by decide) (fun c_26 => ?_) (fun c_26 => ?_)
            · exact absurd c_26 (nleN (a := N) (b := i) h0 rfl (by omega) (by omega))
            · refine v_iconst E dX7_reachOf_29 (v := 0) (by decide) ?_
              refine v_istore E dX7_reachOf_30 rfl rfl ?_
              have L32 : ∀ (n2 j : Nat) (s2 : Int32) (m2 : Int32), j + n2 = N → V Z D 0 0 [(q 0, .inr (7, [.ref (q 1), .ref (q 2), .ref (q 3), .ref (q 4), .ref (q 5), .ref (q 6), .ref (q 7), .ref (q 8), .ref (q 9), .ref (q 10)])), (q 1, aI D 703 g)] [some (.ref (q 0)), some (.int t), some (.int wo), some (.int ((foldN (s_X7_reachOf_32 g wo i) n2 j (s2, m2)).1)), some (.int ((foldN (s_X7_reachOf_32 g wo i) n2 j (s2, m2)).2)), some (.int (nI i)), some (.int (nI N)), none] [] 131 → V Z D 0 0 [(q 0, .inr (7, [.ref (q 1), .ref (q 2), .ref (q 3), .ref (q 4), .ref (q 5), .ref (q 6), .ref (q 7), .ref (q 8), .ref (q 9), .ref (q 10)])), (q 1, aI D 703 g)] [some (.ref (q 0)), some (.int t), some (.int wo), some (.int s2), some (.int m2), some (.int (nI i)), some (.int (nI j)), none] [] 32 := by
                intro n2
                induction n2 with
                | zero =>
                  intro j s2 m2 hi  K32
                  have hiN : j = N := by omega
                  rw [hiN]
                  refine v_iload E dX7_reachOf_32 rfl ?_
                  refine v_aload_n E dX7_reachOf_34 rfl ?_
                  refine v_get E dX7_reachOf_35 (ci := 7) rfl iwX7 0 rfl 0 rfl fl_X7_7 rfl ?_
                  refine v_iconst E dX7_reachOf_38 (v := 0) (by decide) ?_
                  refine v_iald E dX7_reachOf_39 1 rfl 0 (show (0 : Int32) = nI 0 by decide) (by omega) rfl ?_
                  refine v_icmp_ge E 131 dX7_reachOf_40 (by decide) (fun c_40 => ?_) (fun c_40 => ?_)
                  · exact K32
                  · exact absurd (leN (a := N) (b := N) h0 rfl (by omega) (by omega)) c_40
                | succ n2 ih =>
                  intro j s2 m2 hi  K32
                  refine v_iload E dX7_reachOf_32 rfl ?_
                  refine v_aload_n E dX7_reachOf_34 rfl ?_
                  refine v_get E dX7_reachOf_35 (ci := 7) rfl iwX7 0 rfl 0 rfl fl_X7_7 rfl ?_
                  refine v_iconst E dX7_reachOf_38 (v := 0) (by decide) ?_
                  refine v_iald E dX7_reachOf_39 1 rfl 0 (show (0 : Int32) = nI 0 by decide) (by omega) rfl ?_
                  refine v_icmp_ge E 131 dX7_reachOf_40 (by decide) (fun c_40 => ?_) (fun c_40 => ?_)
                  · exact absurd c_40 (nleN (a := N) (b := j) h0 rfl (by omega) (by omega))
                  · refine v_iload_n E dX7_reachOf_43 rfl ?_
                    refine v_iload E dX7_reachOf_44 rfl ?_
                    refine v_ishr E dX7_reachOf_46 ?_
                    refine v_iconst E dX7_reachOf_47 (v := 1) (by decide) ?_
                    refine v_iand E dX7_reachOf_48 ?_
                    refine v_iconst E dX7_reachOf_49 (v := 1) (by decide) ?_
                    refine v_icmp_ne E 89 dX7_reachOf_50 (by decide) (fun c_50 => ?_) (fun c_50 => ?_)
                    · refine v_iconst E dX7_reachOf_89 (v := 0) (by decide) ?_
                      refine v_istore E dX7_reachOf_90 rfl rfl ?_
                      refine v_iload_n E dX7_reachOf_92 rfl ?_
                      refine v_iload E dX7_reachOf_93 rfl ?_
                      refine v_if_eq E 105 dX7_reachOf_95 (by decide) (fun c_95 => ?_) (fun c_95 => ?_)
                      · refine v_iconst E dX7_reachOf_105 (v := 0) (by decide) ?_
                        refine v_ior E dX7_reachOf_106 ?_
                        refine v_istore_n E dX7_reachOf_107 rfl rfl ?_
                        refine v_iload E dX7_reachOf_108 rfl ?_
                        refine v_if_ne E 118 dX7_reachOf_110 (by decide) (fun c_110 => ?_) (fun c_110 => ?_)
                        · refine v_iconst E dX7_reachOf_118 (v := 1) (by decide) ?_
                          refine v_goto E 123 dX7_reachOf_119 (by decide) ?_
                          refine v_istore E dX7_reachOf_123 rfl rfl ?_
                          refine v_iinc E dX7_reachOf_125 (v := nI (j + 1)) rfl (inc1 _) rfl rfl ?_
                          refine v_goto E 32 dX7_reachOf_128 (by decide) ?_
                          have hs : s_X7_reachOf_32 g wo i j (s2, m2) = (s2 ||| 0, 1) := by simp only [s_X7_reachOf_32, if_neg c_50, if_neg c_110]
                          rw [foldN_s (s_X7_reachOf_32 g wo i) n2 j (s2, m2), hs] at K32
                          refine v_mask [true, true, true, true, true, true, true, false] rfl ?_
                          exact ih (j + 1) (s2 ||| 0) 1 (by omega) K32
                        · refine v_iload E dX7_reachOf_113 rfl ?_
                          refine v_if_eq E 122 dX7_reachOf_115 (by decide) (fun c_115 => ?_) (fun c_115 => ?_)
                          · refine v_iconst E dX7_reachOf_122 (v := 0) (by decide) ?_
                            refine v_istore E dX7_reachOf_123 rfl rfl ?_
                            refine v_iinc E dX7_reachOf_125 (v := nI (j + 1)) rfl (inc1 _) rfl rfl ?_
                            refine v_goto E 32 dX7_reachOf_128 (by decide) ?_
                            have hs : s_X7_reachOf_32 g wo i j (s2, m2) = (s2 ||| 0, 0) := by simp only [s_X7_reachOf_32, if_neg c_50, if_pos c_110]
                            rw [foldN_s (s_X7_reachOf_32 g wo i) n2 j (s2, m2), hs] at K32
                            refine v_mask [true, true, true, true, true, true, true, false] rfl ?_
                            exact ih (j + 1) (s2 ||| 0) 0 (by omega) K32
                          · exact absurd c_115 (by decide)
                      · exact absurd c_95 (by decide)
                    · refine v_iload_n E dX7_reachOf_53 rfl ?_
                      refine v_iload E dX7_reachOf_54 rfl ?_
                      refine v_ishr E dX7_reachOf_56 ?_
                      refine v_iconst E dX7_reachOf_57 (v := 1) (by decide) ?_
                      refine v_iand E dX7_reachOf_58 ?_
                      refine v_if_ne E 89 dX7_reachOf_59 (by decide) (fun c_59 => ?_) (fun c_59 => ?_)
                      · refine v_iconst E dX7_reachOf_89 (v := 0) (by decide) ?_
                        refine v_istore E dX7_reachOf_90 rfl rfl ?_
                        refine v_iload_n E dX7_reachOf_92 rfl ?_
                        refine v_iload E dX7_reachOf_93 rfl ?_
                        refine v_if_eq E 105 dX7_reachOf_95 (by decide) (fun c_95 => ?_) (fun c_95 => ?_)
                        · refine v_iconst E dX7_reachOf_105 (v := 0) (by decide) ?_
                          refine v_ior E dX7_reachOf_106 ?_
                          refine v_istore_n E dX7_reachOf_107 rfl rfl ?_
                          refine v_iload E dX7_reachOf_108 rfl ?_
                          refine v_if_ne E 118 dX7_reachOf_110 (by decide) (fun c_110 => ?_) (fun c_110 => ?_)
                          · refine v_iconst E dX7_reachOf_118 (v := 1) (by decide) ?_
                            refine v_goto E 123 dX7_reachOf_119 (by decide) ?_
                            refine v_istore E dX7_reachOf_123 rfl rfl ?_
                            refine v_iinc E dX7_reachOf_125 (v := nI (j + 1)) rfl (inc1 _) rfl rfl ?_
                            refine v_goto E 32 dX7_reachOf_128 (by decide) ?_
                            have hs : s_X7_reachOf_32 g wo i j (s2, m2) = (s2 ||| 0, 1) := by simp only [s_X7_reachOf_32, if_pos c_50, if_neg c_59, if_neg c_110]
                            rw [foldN_s (s_X7_reachOf_32 g wo i) n2 j (s2, m2), hs] at K32
                            refine v_mask [true, true, true, true, true, true, true, false] rfl ?_
                            exact ih (j + 1) (s2 ||| 0) 1 (by omega) K32
                          · refine v_iload E dX7_reachOf_113 rfl ?_
                            refine v_if_eq E 122 dX7_reachOf_115 (by decide) (fun c_115 => ?_) (fun c_115 => ?_)
                            · refine v_iconst E dX7_reachOf_122 (v := 0) (by decide) ?_
                              refine v_istore E dX7_reachOf_123 rfl rfl ?_
                              refine v_iinc E dX7_reachOf_125 (v := nI (j + 1)) rfl (inc1 _) rfl rfl ?_
                              refine v_goto E 32 dX7_reachOf_128 (by decide) ?_
                              have hs : s_X7_reachOf_32 g wo i j (s2, m2) = (s2 ||| 0, 0) := by simp only [s_X7_reachOf_32, if_pos c_50, if_neg c_59, if_pos c_110]
                              rw [foldN_s (s_X7_reachOf_32 g wo i) n2 j (s2, m2), hs] at K32
                              refine v_mask [true, true, true, true, true, true, true, false] rfl ?_
                              exact ih (j + 1) (s2 ||| 0) 0 (by omega) K32
                            · exact absurd c_115 (by decide)
                        · exact absurd c_95 (by decide)
                      · refine v_aload_n E dX7_reachOf_62 rfl ?_
                        refine v_iload E dX7_reachOf_63 rfl ?_
                        refine v_iload E dX7_reachOf_65 rfl ?_
                        refine v_cV_i E dX7_reachOf_67 (c_X7_linkOf D q g (nI i) (nI j) i j rfl rfl (by omega) (by omega)) cs_X7_53 rfl rfl rfl (Nat.le_of_ble_eq_true rfl) 0 rfl rfl [0, 1] rfl rfl ⟨Nat.le_of_ble_eq_true rfl, Nat.le_of_ble_eq_true rfl⟩ ?_
                        refine v_if_lt E 89 dX7_reachOf_70 (by decide) (fun c_70 => ?_) (fun c_70 => ?_)
                        · refine v_iconst E dX7_reachOf_89 (v := 0) (by decide) ?_
                          refine v_istore E dX7_reachOf_90 rfl rfl ?_
                          refine v_iload_n E dX7_reachOf_92 rfl ?_
                          refine v_iload E dX7_reachOf_93 rfl ?_
                          refine v_if_eq E 105 dX7_reachOf_95 (by decide) (fun c_95 => ?_) (fun c_95 => ?_)
                          · refine v_iconst E dX7_reachOf_105 (v := 0) (by decide) ?_
                            refine v_ior E dX7_reachOf_106 ?_
                            refine v_istore_n E dX7_reachOf_107 rfl rfl ?_
                            refine v_iload E dX7_reachOf_108 rfl ?_
                            refine v_if_ne E 118 dX7_reachOf_110 (by decide) (fun c_110 => ?_) (fun c_110 => ?_)
                            · refine v_iconst E dX7_reachOf_118 (v := 1) (by decide) ?_
                              refine v_goto E 123 dX7_reachOf_119 (by decide) ?_
                              refine v_istore E dX7_reachOf_123 rfl rfl ?_
                              refine v_iinc E dX7_reachOf_125 (v := nI (j + 1)) rfl (inc1 _) rfl rfl ?_
                              refine v_goto E 32 dX7_reachOf_128 (by decide) ?_
                              have hs : s_X7_reachOf_32 g wo i j (s2, m2) = (s2 ||| 0, 1) := by simp only [s_X7_reachOf_32, if_pos c_50, if_pos c_59, if_pos c_70, if_neg c_110]
                              rw [foldN_s (s_X7_reachOf_32 g wo i) n2 j (s2, m2), hs] at K32
                              refine v_mask [true, true, true, true, true, true, true, false] rfl ?_
                              exact ih (j + 1) (s2 ||| 0) 1 (by omega) K32
                            · refine v_iload E dX7_reachOf_113 rfl ?_
                              refine v_if_eq E 122 dX7_reachOf_115 (by decide) (fun c_115 => ?_) (fun c_115 => ?_)
                              · refine v_iconst E dX7_reachOf_122 (v := 0) (by decide) ?_
                                refine v_istore E dX7_reachOf_123 rfl rfl ?_
                                refine v_iinc E dX7_reachOf_125 (v := nI (j + 1)) rfl (inc1 _) rfl rfl ?_
                                refine v_goto E 32 dX7_reachOf_128 (by decide) ?_
                                have hs : s_X7_reachOf_32 g wo i j (s2, m2) = (s2 ||| 0, 0) := by simp only [s_X7_reachOf_32, if_pos c_50, if_pos c_59, if_pos c_70, if_pos c_110]
                                rw [foldN_s (s_X7_reachOf_32 g wo i) n2 j (s2, m2), hs] at K32
                                refine v_mask [true, true, true, true, true, true, true, false] rfl ?_
                                exact ih (j + 1) (s2 ||| 0) 0 (by omega) K32
                              · exact absurd c_115 (by decide)
                          · exact absurd c_95 (by decide)
                        · refine v_aload_n E dX7_reachOf_73 rfl ?_
                          refine v_iload E dX7_reachOf_74 rfl ?_
                          refine v_iload E dX7_reachOf_76 rfl ?_
                          refine v_cV_i E dX7_reachOf_78 (c_X7_linkOf D q g (nI i) (nI j) i j rfl rfl (by omega) (by omega)) cs_X7_53 rfl rfl rfl (Nat.le_of_ble_eq_true rfl) 0 rfl rfl [0, 1] rfl rfl ⟨Nat.le_of_ble_eq_true rfl, Nat.le_of_ble_eq_true rfl⟩ ?_
                          refine v_iload_n E dX7_reachOf_81 rfl ?_
                          refine v_icmp_eq E 89 dX7_reachOf_82 (by decide) (fun c_82 => ?_) (fun c_82 => ?_)
                          · refine v_iconst E dX7_reachOf_89 (v := 0) (by decide) ?_
                            refine v_istore E dX7_reachOf_90 rfl rfl ?_
                            refine v_iload_n E dX7_reachOf_92 rfl ?_
                            refine v_iload E dX7_reachOf_93 rfl ?_
                            refine v_if_eq E 105 dX7_reachOf_95 (by decide) (fun c_95 => ?_) (fun c_95 => ?_)
                            · refine v_iconst E dX7_reachOf_105 (v := 0) (by decide) ?_
                              refine v_ior E dX7_reachOf_106 ?_
                              refine v_istore_n E dX7_reachOf_107 rfl rfl ?_
                              refine v_iload E dX7_reachOf_108 rfl ?_
                              refine v_if_ne E 118 dX7_reachOf_110 (by decide) (fun c_110 => ?_) (fun c_110 => ?_)
                              · refine v_iconst E dX7_reachOf_118 (v := 1) (by decide) ?_
                                refine v_goto E 123 dX7_reachOf_119 (by decide) ?_
                                refine v_istore E dX7_reachOf_123 rfl rfl ?_
                                refine v_iinc E dX7_reachOf_125 (v := nI (j + 1)) rfl (inc1 _) rfl rfl ?_
                                refine v_goto E 32 dX7_reachOf_128 (by decide) ?_
                                have hs : s_X7_reachOf_32 g wo i j (s2, m2) = (s2 ||| 0, 1) := by simp only [s_X7_reachOf_32, if_pos c_50, if_pos c_59, if_neg c_70, if_pos c_82, if_neg c_110]
                                rw [foldN_s (s_X7_reachOf_32 g wo i) n2 j (s2, m2), hs] at K32
                                refine v_mask [true, true, true, true, true, true, true, false] rfl ?_
                                exact ih (j + 1) (s2 ||| 0) 1 (by omega) K32
                              · refine v_iload E dX7_reachOf_113 rfl ?_
                                refine v_if_eq E 122 dX7_reachOf_115 (by decide) (fun c_115 => ?_) (fun c_115 => ?_)
                                · refine v_iconst E dX7_reachOf_122 (v := 0) (by decide) ?_
                                  refine v_istore E dX7_reachOf_123 rfl rfl ?_
                                  refine v_iinc E dX7_reachOf_125 (v := nI (j + 1)) rfl (inc1 _) rfl rfl ?_
                                  refine v_goto E 32 dX7_reachOf_128 (by decide) ?_
                                  have hs : s_X7_reachOf_32 g wo i j (s2, m2) = (s2 ||| 0, 0) := by simp only [s_X7_reachOf_32, if_pos c_50, if_pos c_59, if_neg c_70, if_pos c_82, if_pos c_110]
                                  rw [foldN_s (s_X7_reachOf_32 g wo i) n2 j (s2, m2), hs] at K32
                                  refine v_mask [true, true, true, true, true, true, true, false] rfl ?_
                                  exact ih (j + 1) (s2 ||| 0) 0 (by omega) K32
                                · exact absurd c_115 (by decide)
                            · exact absurd c_95 (by decide)
                          · refine v_iconst E dX7_reachOf_85 (v := 1) (by decide) ?_
                            refine v_goto E 90 dX7_reachOf_86 (by decide) ?_
                            refine v_istore E dX7_reachOf_90 rfl rfl ?_
                            refine v_iload_n E dX7_reachOf_92 rfl ?_
                            refine v_iload E dX7_reachOf_93 rfl ?_
                            refine v_if_eq E 105 dX7_reachOf_95 (by decide) (fun c_95 => ?_) (fun c_95 => ?_)
                            · exact absurd c_95 (by decide)
                            · refine v_iconst E dX7_reachOf_98 (v := 1) (by decide) ?_
                              refine v_iload E dX7_reachOf_99 rfl ?_
                              refine v_ishl E dX7_reachOf_101 ?_
                              refine v_goto E 106 dX7_reachOf_102 (by decide) ?_
                              refine v_ior E dX7_reachOf_106 ?_
                              refine v_istore_n E dX7_reachOf_107 rfl rfl ?_
                              refine v_iload E dX7_reachOf_108 rfl ?_
                              refine v_if_ne E 118 dX7_reachOf_110 (by decide) (fun c_110 => ?_) (fun c_110 => ?_)
                              · refine v_iconst E dX7_reachOf_118 (v := 1) (by decide) ?_
                                refine v_goto E 123 dX7_reachOf_119 (by decide) ?_
                                refine v_istore E dX7_reachOf_123 rfl rfl ?_
                                refine v_iinc E dX7_reachOf_125 (v := nI (j + 1)) rfl (inc1 _) rfl rfl ?_
                                refine v_goto E 32 dX7_reachOf_128 (by decide) ?_
                                have hs : s_X7_reachOf_32 g wo i j (s2, m2) = (s2 ||| (1 <<< ((nI j) &&& 31)), 1) := by simp only [s_X7_reachOf_32, if_pos c_50, if_pos c_59, if_neg c_70, if_neg c_82, if_neg c_110]
                                rw [foldN_s (s_X7_reachOf_32 g wo i) n2 j (s2, m2), hs] at K32
                                refine v_mask [true, true, true, true, true, true, true, false] rfl ?_
                                exact ih (j + 1) (s2 ||| (1 <<< ((nI j) &&& 31))) 1 (by omega) K32
                              · refine v_iload E dX7_reachOf_113 rfl ?_
                                refine v_if_eq E 122 dX7_reachOf_115 (by decide) (fun c_115 => ?_) (fun c_115 => ?_)
                                · exact absurd c_115 (by decide)
                                · refine v_iconst E dX7_reachOf_118 (v := 1) (by decide) ?_
                                  refine v_goto E 123 dX7_reachOf_119 (by decide) ?_
                                  refine v_istore E dX7_reachOf_123 rfl rfl ?_
                                  refine v_iinc E dX7_reachOf_125 (v := nI (j + 1)) rfl (inc1 _) rfl rfl ?_
                                  refine v_goto E 32 dX7_reachOf_128 (by decide) ?_
                                  have hs : s_X7_reachOf_32 g wo i j (s2, m2) = (s2 ||| (1 <<< ((nI j) &&& 31)), 1) := by simp only [s_X7_reachOf_32, if_pos c_50, if_pos c_59, if_neg c_70, if_neg c_82, if_pos c_110]
                                  rw [foldN_s (s_X7_reachOf_32 g wo i) n2 j (s2, m2), hs] at K32
                                  refine v_mask [true, true, true, true, true, true, true, false] rfl ?_
                                  exact ih (j + 1) (s2 ||| (1 <<< ((nI j) &&& 31))) 1 (by omega) K32
              refine L32 N 0 s1 m1 (by omega)  ?_
              refine v_iinc E dX7_reachOf_131 (v := nI (i + 1)) rfl (inc1 _) rfl rfl ?_
              refine v_goto E 18 dX7_reachOf_134 (by decide) ?_
              have hs : s_X7_reachOf_18 g wo N i (s1, m1) = ((foldN (s_X7_reachOf_32 g wo i) N 0 (s1, m1)).1, (foldN (s_X7_reachOf_32 g wo i) N 0 (s1, m1)).2) := by rfl
              rw [foldN_s (s_X7_reachOf_18 g wo N) n1 i (s1, m1), hs] at K18
              refine v_mask [true, true, true, true, true, true, false, true] rfl ?_
              exact ih (i + 1) ((foldN (s_X7_reachOf_32 g wo i) N 0 (s1, m1)).1) ((foldN (s_X7_reachOf_32 g wo i) N 0 (s1, m1)).2) (by omega) K18
        refine L18 N 0 s0 0 (by omega)  ?_
        refine v_goto E 7 dX7_reachOf_137 (by decide) ?_
        have hs : s_X7_reachOf_7 g wo N (s0, m0) = ((foldN (s_X7_reachOf_18 g wo N) N 0 (s0, 0)).1, (foldN (s_X7_reachOf_18 g wo N) N 0 (s0, 0)).2) := by rfl
        rw [whN_s (show e_X7_reachOf_7 (s0, m0) = false from decide_eq_false c_9), hs] at K7 hT7
        refine v_mask [true, true, true, true, true, false, true, true] rfl ?_
        exact ih ((foldN (s_X7_reachOf_18 g wo N) N 0 (s0, 0)).1) ((foldN (s_X7_reachOf_18 g wo N) N 0 (s0, 0)).2)  hT7 K7
  refine L7 21 (1 <<< (t &&& 31)) 1  hW7 ?_
  refine v_iload_n E dX7_reachOf_140 rfl ?_
  exact v_iret E F dX7_reachOf_141 rfl rfl () rfl rfl (Nat.le_of_ble_eq_true rfl) (Nat.le_of_ble_eq_true rfl)

def s_X7_spread_24 (g : Nat → Int32) (i : Nat) (j : Nat) (z_ : Int32 × (Nat → Int32)) : Int32 × (Nat → Int32) := match z_ with
  | (m2, ch2) => if (ch2 i) = 0 then (m2, ch2) else if (ch2 j) = 0 then (if (r_X7_follows g (nI i) (nI j) i j) = 0 then (m2, ch2) else (1, upd ch2 j (vp_nar .boolean 1))) else (m2, ch2)
def s_X7_spread_10 (g : Nat → Int32) (N : Nat) (i : Nat) (z_ : Int32 × (Nat → Int32)) : Int32 × (Nat → Int32) := match z_ with
  | (m1, ch1) => ((foldN (s_X7_spread_24 g i) (2 * N) 0 (m1, ch1)).1, (foldN (s_X7_spread_24 g i) (2 * N) 0 (m1, ch1)).2)
def s_X7_spread_2 (g : Nat → Int32) (N : Nat) (z_ : Int32 × (Nat → Int32)) : Int32 × (Nat → Int32) := match z_ with
  | (m0, ch0) => ((foldN (s_X7_spread_10 g N) (2 * N) 0 (0, ch0)).1, (foldN (s_X7_spread_10 g N) (2 * N) 0 (0, ch0)).2)
def e_X7_spread_2  (z_ : Int32 × (Nat → Int32)) : Bool := match z_ with
  | (m0, ch0) => decide (m0 = 0)
def T_X7_spread_2 (g : Nat → Int32) (ch : Nat → Int32) (N : Nat) : Prop := e_X7_spread_2 (whN e_X7_spread_2 (s_X7_spread_2 g N) 41 (1, ch)) = true
def w_X7_spread_2 (g : Nat → Int32) (ch : Nat → Int32) (N : Nat) : Nat → Int32 := (whN e_X7_spread_2 (s_X7_spread_2 g N) 41 (1, ch)).2
set_option maxRecDepth 20000 in
/-- X7_spread -/
theorem c_X7_spread (D : va_G) (q : Nat → Nat) (g : Nat → Int32) (ch : Nat → Int32) (N : Nat) (h0 : g 0 = nI N) (hN : N ≤ 20) (hW2 : T_X7_spread_2 g ch N) (l : Launch) : Ct l yX7_spread cX7_spread 4 none (rmM 2 49 0 0) D [.ref (q 0)] [(q 0, .inr (7, [.ref (q 1), .ref (q 2), .ref (q 3), .ref (q 4), .ref (q 5), .ref (q 6), .ref (q 7), .ref (q 8), .ref (q 9), .ref (q 10)])), (q 1, aI D 703 g), (q 4, aZ D 40 ch)] (QV1 D [(q 0, .inr (7, [.ref (q 1), .ref (q 2), .ref (q 3), .ref (q 4), .ref (q 5), .ref (q 6), .ref (q 7), .ref (q 8), .ref (q 9), .ref (q 10)])), (q 1, aI D 703 g), (q 4, aZ D 40 (w_X7_spread_2 g ch N))]) := by
  refine Ct.ofV 3 (lv0 := [some (.ref (q 0)), none, none, none]) (by decide) rfl rfl (fun Z E F => ?_)
  refine v_iconst E dX7_spread_0 (v := 1) (by decide) ?_
  refine v_istore_n E dX7_spread_1 rfl rfl ?_
  have L2 : ∀ (n : Nat) (m0 : Int32) (ch0 : Nat → Int32), e_X7_spread_2 (whN e_X7_spread_2 (s_X7_spread_2 g N) n (m0, ch0)) = true → V Z D 0 0 [(q 0, .inr (7, [.ref (q 1), .ref (q 2), .ref (q 3), .ref (q 4), .ref (q 5), .ref (q 6), .ref (q 7), .ref (q 8), .ref (q 9), .ref (q 10)])), (q 1, aI D 703 g), (q 4, aZ D 40 ((whN e_X7_spread_2 (s_X7_spread_2 g N) n (m0, ch0)).2))] [some (.ref (q 0)), some (.int ((whN e_X7_spread_2 (s_X7_spread_2 g N) n (m0, ch0)).1)), none, none] [] 87 → V Z D 0 0 [(q 0, .inr (7, [.ref (q 1), .ref (q 2), .ref (q 3), .ref (q 4), .ref (q 5), .ref (q 6), .ref (q 7), .ref (q 8), .ref (q 9), .ref (q 10)])), (q 1, aI D 703 g), (q 4, aZ D 40 ch0)] [some (.ref (q 0)), some (.int m0), none, none] [] 2 := by
    intro n
    induction n with
    | zero =>
      intro m0 ch0  hT2 K2
      refine v_iload_n E dX7_spread_2 rfl ?_
      refine v_if_eq E 87 dX7_spread_3 (by decide) (fun c_3 => ?_) (fun c_3 => ?_)
      · exact K2
      · exact absurd (of_decide_eq_true (p := m0 = 0) hT2) c_3
    | succ n ih =>
      intro m0 ch0  hT2 K2
      refine v_iload_n E dX7_spread_2 rfl ?_
      refine v_if_eq E 87 dX7_spread_3 (by decide) (fun c_3 => ?_) (fun c_3 => ?_)
      · rw [whN_e (show e_X7_spread_2 (m0, ch0) = true from decide_eq_true c_3)] at K2
        exact K2
      · refine v_iconst E dX7_spread_6 (v := 0) (by decide) ?_
        refine v_istore_n E dX7_spread_7 rfl rfl ?_
        refine v_iconst E dX7_spread_8 (v := 0) (by decide) ?_
        refine v_istore_n E dX7_spread_9 rfl rfl ?_
        have L10 : ∀ (n1 i : Nat) (m1 : Int32) (ch1 : Nat → Int32), i + n1 = (2 * N) → V Z D 0 0 [(q 0, .inr (7, [.ref (q 1), .ref (q 2), .ref (q 3), .ref (q 4), .ref (q 5), .ref (q 6), .ref (q 7), .ref (q 8), .ref (q 9), .ref (q 10)])), (q 1, aI D 703 g), (q 4, aZ D 40 ((foldN (s_X7_spread_10 g N) n1 i (m1, ch1)).2))] [some (.ref (q 0)), some (.int ((foldN (s_X7_spread_10 g N) n1 i (m1, ch1)).1)), some (.int (nI (2 * N))), none] [] 84 → V Z D 0 0 [(q 0, .inr (7, [.ref (q 1), .ref (q 2), .ref (q 3), .ref (q 4), .ref (q 5), .ref (q 6), .ref (q 7), .ref (q 8), .ref (q 9), .ref (q 10)])), (q 1, aI D 703 g), (q 4, aZ D 40 ch1)] [some (.ref (q 0)), some (.int m1), some (.int (nI i)), none] [] 10 := by
          intro n1
          induction n1 with
          | zero =>
            intro i m1 ch1 hi  K10
            have hiN : i = (2 * N) := by omega
            rw [hiN]
            refine v_iload_n E dX7_spread_10 rfl ?_
            refine v_iconst E dX7_spread_11 (v := 2) (by decide) ?_
            refine v_aload_n E dX7_spread_12 rfl ?_
            refine v_get E dX7_spread_13 (ci := 7) rfl iwX7 0 rfl 0 rfl fl_X7_7 rfl ?_
            refine v_iconst E dX7_spread_16 (v := 0) (by decide) ?_
            refine v_iald E dX7_spread_17 1 rfl 0 (show (0 : Int32) = nI 0 by decide) (by omega) rfl ?_
            refine v_imul E dX7_spread_18 ?_
            refine v_icmp_ge E 84 dX7_spread_19 (by decide) (fun c_19 => ?_) (fun c_19 => ?_)
            · exact K10
            · exact absurd (leN (a := (2 * N)) (b := (2 * N)) (hmul (show (2 : Int32) = nI 2 by decide) h0) rfl (by omega) (by omega)) c_19
          | succ n1 ih =>
            intro i m1 ch1 hi  K10
            refine v_iload_n E dX7_spread_10 rfl ?_
            refine v_iconst E dX7_spread_11 (v := 2) (by decide) ?_
            refine v_aload_n E dX7_spread_12 rfl ?_
            refine v_get E dX7_spread_13 (ci := 7) rfl iwX7 0 rfl 0 rfl fl_X7_7 rfl ?_
            refine v_iconst E dX7_spread_16 (v := 0) (by decide) ?_
            refine v_iald E dX7_spread_17 1 rfl 0 (show (0 : Int32) = nI 0 by decide) (by omega) rfl ?_
            refine v_imul E dX7_spread_18 ?_
            refine v_icmp_ge E 84 dX7_spread_19 (by decide) (fun c_19 => ?_) (fun c_19 => ?_)
            · exact absurd c_19 (nleN (a := (2 * N)) (b := i) (hmul (show (2 : Int32) = nI 2 by decide) h0) rfl (by omega) (by omega))
            · refine v_iconst E dX7_spread_22 (v := 0) (by decide) ?_
              refine v_istore_n E dX7_spread_23 rfl rfl ?_
              have L24 : ∀ (n2 j : Nat) (m2 : Int32) (ch2 : Nat → Int32), j + n2 = (2 * N) → V Z D 0 0 [(q 0, .inr (7, [.ref (q 1), .ref (q 2), .ref (q 3), .ref (q 4), .ref (q 5), .ref (q 6), .ref (q 7), .ref (q 8), .ref (q 9), .ref (q 10)])), (q 1, aI D 703 g), (q 4, aZ D 40 ((foldN (s_X7_spread_24 g i) n2 j (m2, ch2)).2))] [some (.ref (q 0)), some (.int ((foldN (s_X7_spread_24 g i) n2 j (m2, ch2)).1)), some (.int (nI i)), some (.int (nI (2 * N)))] [] 78 → V Z D 0 0 [(q 0, .inr (7, [.ref (q 1), .ref (q 2), .ref (q 3), .ref (q 4), .ref (q 5), .ref (q 6), .ref (q 7), .ref (q 8), .ref (q 9), .ref (q 10)])), (q 1, aI D 703 g), (q 4, aZ D 40 ch2)] [some (.ref (q 0)), some (.int m2), some (.int (nI i)), some (.int (nI j))] [] 24 := by
                intro n2
                induction n2 with
                | zero =>
                  intro j m2 ch2 hi  K24
                  have hiN : j = (2 * N) := by omega
                  rw [hiN]
                  refine v_iload_n E dX7_spread_24 rfl ?_
                  refine v_iconst E dX7_spread_25 (v := 2) (by decide) ?_
                  refine v_aload_n E dX7_spread_26 rfl ?_
                  refine v_get E dX7_spread_27 (ci := 7) rfl iwX7 0 rfl 0 rfl fl_X7_7 rfl ?_
                  refine v_iconst E dX7_spread_30 (v := 0) (by decide) ?_
                  refine v_iald E dX7_spread_31 1 rfl 0 (show (0 : Int32) = nI 0 by decide) (by omega) rfl ?_
                  refine v_imul E dX7_spread_32 ?_
                  refine v_icmp_ge E 78 dX7_spread_33 (by decide) (fun c_33 => ?_) (fun c_33 => ?_)
                  · exact K24
                  · exact absurd (leN (a := (2 * N)) (b := (2 * N)) (hmul (show (2 : Int32) = nI 2 by decide) h0) rfl (by omega) (by omega)) c_33
                | succ n2 ih =>
                  intro j m2 ch2 hi  K24
                  refine v_iload_n E dX7_spread_24 rfl ?_
                  refine v_iconst E dX7_spread_25 (v := 2) (by decide) ?_
                  refine v_aload_n E dX7_spread_26 rfl ?_
                  refine v_get E dX7_spread_27 (ci := 7) rfl iwX7 0 rfl 0 rfl fl_X7_7 rfl ?_
                  refine v_iconst E dX7_spread_30 (v := 0) (by decide) ?_
                  refine v_iald E dX7_spread_31 1 rfl 0 (show (0 : Int32) = nI 0 by decide) (by omega) rfl ?_
                  refine v_imul E dX7_spread_32 ?_
                  refine v_icmp_ge E 78 dX7_spread_33 (by decide) (fun c_33 => ?_) (fun c_33 => ?_)
                  · exact absurd c_33 (nleN (a := (2 * N)) (b := j) (hmul (show (2 : Int32) = nI 2 by decide) h0) rfl (by omega) (by omega))
                  · refine v_aload_n E dX7_spread_36 rfl ?_
                    refine v_get E dX7_spread_37 (ci := 7) rfl iwX7 0 rfl 3 rfl fl_X7_20 rfl ?_
                    refine v_iload_n E dX7_spread_40 rfl ?_
                    refine v_zald E dX7_spread_41 2 rfl i rfl (by omega) rfl ?_
                    refine v_if_eq E 72 dX7_spread_42 (by decide) (fun c_42 => ?_) (fun c_42 => ?_)
                    · refine v_iinc E dX7_spread_72 (v := nI (j + 1)) rfl (inc1 _) rfl rfl ?_
                      refine v_goto E 24 dX7_spread_75 (by decide) ?_
                      have hs : s_X7_spread_24 g i j (m2, ch2) = (m2, ch2) := by simp only [s_X7_spread_24, if_pos c_42]
                      rw [foldN_s (s_X7_spread_24 g i) n2 j (m2, ch2), hs] at K24
                      exact ih (j + 1) m2 ch2 (by omega) K24
                    · refine v_aload_n E dX7_spread_45 rfl ?_
                      refine v_get E dX7_spread_46 (ci := 7) rfl iwX7 0 rfl 3 rfl fl_X7_20 rfl ?_
                      refine v_iload_n E dX7_spread_49 rfl ?_
                      refine v_zald E dX7_spread_50 2 rfl j rfl (by omega) rfl ?_
                      refine v_if_ne E 72 dX7_spread_51 (by decide) (fun c_51 => ?_) (fun c_51 => ?_)
                      · refine v_iinc E dX7_spread_72 (v := nI (j + 1)) rfl (inc1 _) rfl rfl ?_
                        refine v_goto E 24 dX7_spread_75 (by decide) ?_
                        have hs : s_X7_spread_24 g i j (m2, ch2) = (m2, ch2) := by simp only [s_X7_spread_24, if_neg c_42, if_neg c_51]
                        rw [foldN_s (s_X7_spread_24 g i) n2 j (m2, ch2), hs] at K24
                        exact ih (j + 1) m2 ch2 (by omega) K24
                      · refine v_aload_n E dX7_spread_54 rfl ?_
                        refine v_iload_n E dX7_spread_55 rfl ?_
                        refine v_iload_n E dX7_spread_56 rfl ?_
                        refine v_cV_i E dX7_spread_57 (c_X7_follows D q g (nI i) (nI j) i j rfl rfl (by omega) (by omega)) cs_X7_80 rfl rfl rfl (Nat.le_of_ble_eq_true rfl) 0 rfl rfl [0, 1] rfl rfl ⟨Nat.le_of_ble_eq_true rfl, Nat.le_of_ble_eq_true rfl⟩ ?_
                        refine v_if_eq E 72 dX7_spread_60 (by decide) (fun c_60 => ?_) (fun c_60 => ?_)
                        · refine v_iinc E dX7_spread_72 (v := nI (j + 1)) rfl (inc1 _) rfl rfl ?_
                          refine v_goto E 24 dX7_spread_75 (by decide) ?_
                          have hs : s_X7_spread_24 g i j (m2, ch2) = (m2, ch2) := by simp only [s_X7_spread_24, if_neg c_42, if_pos c_51, if_pos c_60]
                          rw [foldN_s (s_X7_spread_24 g i) n2 j (m2, ch2), hs] at K24
                          exact ih (j + 1) m2 ch2 (by omega) K24
                        · refine v_aload_n E dX7_spread_63 rfl ?_
                          refine v_get E dX7_spread_64 (ci := 7) rfl iwX7 0 rfl 3 rfl fl_X7_20 rfl ?_
                          refine v_iload_n E dX7_spread_67 rfl ?_
                          refine v_iconst E dX7_spread_68 (v := 1) (by decide) ?_
                          refine v_zast E dX7_spread_69 2 rfl j rfl (by omega) rfl ?_
                          refine v_wd (wd2 := [(q 0, .inr (7, [.ref (q 1), .ref (q 2), .ref (q 3), .ref (q 4), .ref (q 5), .ref (q 6), .ref (q 7), .ref (q 8), .ref (q 9), .ref (q 10)])), (q 1, aI D 703 g), (q 4, aZ D 40 (upd ch2 j (vp_nar .boolean 1)))]) rfl ?_
                          refine v_iconst E dX7_spread_70 (v := 1) (by decide) ?_
                          refine v_istore_n E dX7_spread_71 rfl rfl ?_
                          refine v_iinc E dX7_spread_72 (v := nI (j + 1)) rfl (inc1 _) rfl rfl ?_
                          refine v_goto E 24 dX7_spread_75 (by decide) ?_
                          have hs : s_X7_spread_24 g i j (m2, ch2) = (1, upd ch2 j (vp_nar .boolean 1)) := by simp only [s_X7_spread_24, if_neg c_42, if_pos c_51, if_neg c_60]
                          rw [foldN_s (s_X7_spread_24 g i) n2 j (m2, ch2), hs] at K24
                          exact ih (j + 1) 1 (upd ch2 j (vp_nar .boolean 1)) (by omega) K24
              refine L24 (2 * N) 0 m1 ch1 (by omega)  ?_
              refine v_iinc E dX7_spread_78 (v := nI (i + 1)) rfl (inc1 _) rfl rfl ?_
              refine v_goto E 10 dX7_spread_81 (by decide) ?_
              have hs : s_X7_spread_10 g N i (m1, ch1) = ((foldN (s_X7_spread_24 g i) (2 * N) 0 (m1, ch1)).1, (foldN (s_X7_spread_24 g i) (2 * N) 0 (m1, ch1)).2) := by rfl
              rw [foldN_s (s_X7_spread_10 g N) n1 i (m1, ch1), hs] at K10
              refine v_mask [true, true, true, false] rfl ?_
              exact ih (i + 1) ((foldN (s_X7_spread_24 g i) (2 * N) 0 (m1, ch1)).1) ((foldN (s_X7_spread_24 g i) (2 * N) 0 (m1, ch1)).2) (by omega) K10
        refine L10 (2 * N) 0 0 ch0 (by omega)  ?_
        refine v_goto E 2 dX7_spread_84 (by decide) ?_
        have hs : s_X7_spread_2 g N (m0, ch0) = ((foldN (s_X7_spread_10 g N) (2 * N) 0 (0, ch0)).1, (foldN (s_X7_spread_10 g N) (2 * N) 0 (0, ch0)).2) := by rfl
        rw [whN_s (show e_X7_spread_2 (m0, ch0) = false from decide_eq_false c_3), hs] at K2 hT2
        refine v_mask [true, true, false, true] rfl ?_
        exact ih ((foldN (s_X7_spread_10 g N) (2 * N) 0 (0, ch0)).1) ((foldN (s_X7_spread_10 g N) (2 * N) 0 (0, ch0)).2)  hT2 K2
  refine L2 41 1 ch  hW2 ?_
  exact v_vret E F dX7_spread_87 rfl () trivial rfl (Nat.le_of_ble_eq_true rfl) (Nat.le_of_ble_eq_true rfl)

def s_X7_layChanged_2 (g : Nat → Int32) (i : Nat) (ch1 : Nat → Int32) : Nat → Int32 := if (g (663 + i)) = 1 then upd ch1 i (vp_nar .boolean 1) else upd ch1 i (vp_nar .boolean 0)
def w_X7_layChanged_2 (g : Nat → Int32) (ch : Nat → Int32) (N : Nat) : Nat → Int32 := (w_X7_spread_2 g (foldN (s_X7_layChanged_2 g) 40 0 ch) N)
set_option maxRecDepth 20000 in
/-- X7_layChanged -/
theorem c_X7_layChanged (D : va_G) (q : Nat → Nat) (g : Nat → Int32) (ch : Nat → Int32) (N : Nat) (h0 : g 0 = nI N) (hN : N ≤ 20) (hWs : ∀ ch : Nat → Int32, T_X7_spread_2 g ch N) (l : Launch) : Ct l yX7_layChanged cX7_layChanged 2 none (rmM 3 72 0 0) D [.ref (q 0)] [(q 0, .inr (7, [.ref (q 1), .ref (q 2), .ref (q 3), .ref (q 4), .ref (q 5), .ref (q 6), .ref (q 7), .ref (q 8), .ref (q 9), .ref (q 10)])), (q 1, aI D 703 g), (q 4, aZ D 40 ch)] (QV1 D [(q 0, .inr (7, [.ref (q 1), .ref (q 2), .ref (q 3), .ref (q 4), .ref (q 5), .ref (q 6), .ref (q 7), .ref (q 8), .ref (q 9), .ref (q 10)])), (q 1, aI D 703 g), (q 4, aZ D 40 (w_X7_layChanged_2 g ch N))]) := by
  refine Ct.ofV 1 (lv0 := [some (.ref (q 0)), none]) (by decide) rfl rfl (fun Z E F => ?_)
  refine v_iconst E dX7_layChanged_0 (v := 0) (by decide) ?_
  refine v_istore_n E dX7_layChanged_1 rfl rfl ?_
  have L2 : ∀ (n i : Nat) (ch1 : Nat → Int32), i + n = 40 → V Z D 0 0 [(q 0, .inr (7, [.ref (q 1), .ref (q 2), .ref (q 3), .ref (q 4), .ref (q 5), .ref (q 6), .ref (q 7), .ref (q 8), .ref (q 9), .ref (q 10)])), (q 1, aI D 703 g), (q 4, aZ D 40 (foldN (s_X7_layChanged_2 g) n i ch1))] [some (.ref (q 0)), some (.int (nI 40))] [] 39 → V Z D 0 0 [(q 0, .inr (7, [.ref (q 1), .ref (q 2), .ref (q 3), .ref (q 4), .ref (q 5), .ref (q 6), .ref (q 7), .ref (q 8), .ref (q 9), .ref (q 10)])), (q 1, aI D 703 g), (q 4, aZ D 40 ch1)] [some (.ref (q 0)), some (.int (nI i))] [] 2 := by
    intro n
    induction n with
    | zero =>
      intro i ch1 hi  K2
      have hiN : i = 40 := by omega
      rw [hiN]
      refine v_iload_n E dX7_layChanged_2 rfl ?_
      refine v_bipush E dX7_layChanged_3 (v := 40) (by decide) ?_
      refine v_icmp_ge E 39 dX7_layChanged_5 (by decide) (fun c_5 => ?_) (fun c_5 => ?_)
      · exact K2
      · exact absurd (leN (a := 40) (b := 40) (show (40 : Int32) = nI 40 by decide) rfl (by omega) (by omega)) c_5
    | succ n ih =>
      intro i ch1 hi  K2
      refine v_iload_n E dX7_layChanged_2 rfl ?_
      refine v_bipush E dX7_layChanged_3 (v := 40) (by decide) ?_
      refine v_icmp_ge E 39 dX7_layChanged_5 (by decide) (fun c_5 => ?_) (fun c_5 => ?_)
      · exact absurd c_5 (nleN (a := 40) (b := i) (show (40 : Int32) = nI 40 by decide) rfl (by omega) (by omega))
      · refine v_aload_n E dX7_layChanged_8 rfl ?_
        refine v_get E dX7_layChanged_9 (ci := 7) rfl iwX7 0 rfl 3 rfl fl_X7_20 rfl ?_
        refine v_iload_n E dX7_layChanged_12 rfl ?_
        refine v_aload_n E dX7_layChanged_13 rfl ?_
        refine v_get E dX7_layChanged_14 (ci := 7) rfl iwX7 0 rfl 0 rfl fl_X7_7 rfl ?_
        refine v_sipush E dX7_layChanged_17 (v := 663) (by decide) ?_
        refine v_iload_n E dX7_layChanged_20 rfl ?_
        refine v_iadd E dX7_layChanged_21 ?_
        refine v_iald E dX7_layChanged_22 1 rfl (663 + i) (hadd (show (663 : Int32) = nI 663 by decide) rfl) (by omega) rfl ?_
        refine v_iconst E dX7_layChanged_23 (v := 1) (by decide) ?_
        refine v_icmp_ne E 31 dX7_layChanged_24 (by decide) (fun c_24 => ?_) (fun c_24 => ?_)
        · refine v_iconst E dX7_layChanged_31 (v := 0) (by decide) ?_
          refine v_zast E dX7_layChanged_32 2 rfl i rfl (by omega) rfl ?_
          refine v_wd (wd2 := [(q 0, .inr (7, [.ref (q 1), .ref (q 2), .ref (q 3), .ref (q 4), .ref (q 5), .ref (q 6), .ref (q 7), .ref (q 8), .ref (q 9), .ref (q 10)])), (q 1, aI D 703 g), (q 4, aZ D 40 (upd ch1 i (vp_nar .boolean 0)))]) rfl ?_
          refine v_iinc E dX7_layChanged_33 (v := nI (i + 1)) rfl (inc1 _) rfl rfl ?_
          refine v_goto E 2 dX7_layChanged_36 (by decide) ?_
          have hs : s_X7_layChanged_2 g i ch1 = (upd ch1 i (vp_nar .boolean 0)) := by simp only [s_X7_layChanged_2, if_neg c_24]
          rw [foldN_s (s_X7_layChanged_2 g) n i ch1, hs] at K2
          exact ih (i + 1) (upd ch1 i (vp_nar .boolean 0)) (by omega) K2
        · refine v_iconst E dX7_layChanged_27 (v := 1) (by decide) ?_
          refine v_goto E 32 dX7_layChanged_28 (by decide) ?_
          refine v_zast E dX7_layChanged_32 2 rfl i rfl (by omega) rfl ?_
          refine v_wd (wd2 := [(q 0, .inr (7, [.ref (q 1), .ref (q 2), .ref (q 3), .ref (q 4), .ref (q 5), .ref (q 6), .ref (q 7), .ref (q 8), .ref (q 9), .ref (q 10)])), (q 1, aI D 703 g), (q 4, aZ D 40 (upd ch1 i (vp_nar .boolean 1)))]) rfl ?_
          refine v_iinc E dX7_layChanged_33 (v := nI (i + 1)) rfl (inc1 _) rfl rfl ?_
          refine v_goto E 2 dX7_layChanged_36 (by decide) ?_
          have hs : s_X7_layChanged_2 g i ch1 = (upd ch1 i (vp_nar .boolean 1)) := by simp only [s_X7_layChanged_2, if_pos c_24]
          rw [foldN_s (s_X7_layChanged_2 g) n i ch1, hs] at K2
          exact ih (i + 1) (upd ch1 i (vp_nar .boolean 1)) (by omega) K2
  refine L2 40 0 ch (by omega)  ?_
  refine v_aload_n E dX7_layChanged_39 rfl ?_
  refine v_cV_vU E dX7_layChanged_40 (c_X7_spread D q g (foldN (s_X7_layChanged_2 g) 40 0 ch) N h0 hN (hWs _)) cs_X7_84 rfl rfl rfl (Nat.le_of_ble_eq_true rfl) 0 rfl rfl [0, 1, 2] rfl rfl ⟨Nat.le_of_ble_eq_true rfl, Nat.le_of_ble_eq_true rfl⟩ [q 0, q 1, q 4] rfl rfl ?_
  refine v_wd (wd2 := [(q 0, .inr (7, [.ref (q 1), .ref (q 2), .ref (q 3), .ref (q 4), .ref (q 5), .ref (q 6), .ref (q 7), .ref (q 8), .ref (q 9), .ref (q 10)])), (q 1, aI D 703 g), (q 4, aZ D 40 (w_X7_spread_2 g (foldN (s_X7_layChanged_2 g) 40 0 ch) N))]) rfl ?_
  exact v_vret E F dX7_layChanged_43 rfl () trivial rfl (Nat.le_of_ble_eq_true rfl) (Nat.le_of_ble_eq_true rfl)

def s_X7_setOf_4 (ch : Nat → Int32) (kp : Nat) (i : Nat) (m1 : Int32) : Int32 := if (ch ((2 * i) + kp)) = 0 then m1 ||| 0 else m1 ||| (1 <<< ((nI i) &&& 31))
def r_X7_setOf (ch : Nat → Int32) (kp : Nat) (N : Nat) : Int32 := (foldN (s_X7_setOf_4 ch kp) N 0 0)
set_option maxRecDepth 20000 in
/-- X7_setOf -/
theorem c_X7_setOf (D : va_G) (q : Nat → Nat) (g : Nat → Int32) (ch : Nat → Int32) (p : Int32) (kp : Nat) (N : Nat) (hp : p = nI kp) (h0 : g 0 = nI N) (hN : N ≤ 20) (hkp : kp < 2) (l : Launch) : Ct l yX7_setOf cX7_setOf 4 (some .int) (rmM 0 0 0 0) D [.ref (q 0), .int p] [(q 0, .inr (7, [.ref (q 1), .ref (q 2), .ref (q 3), .ref (q 4), .ref (q 5), .ref (q 6), .ref (q 7), .ref (q 8), .ref (q 9), .ref (q 10)])), (q 1, aI D 703 g), (q 4, aZ D 40 ch)] (QI1 D (r_X7_setOf ch kp N) [(q 0, .inr (7, [.ref (q 1), .ref (q 2), .ref (q 3), .ref (q 4), .ref (q 5), .ref (q 6), .ref (q 7), .ref (q 8), .ref (q 9), .ref (q 10)])), (q 1, aI D 703 g), (q 4, aZ D 40 ch)]) := by
  refine Ct.ofV 2 (lv0 := [some (.ref (q 0)), some (.int p), none, none]) (by decide) rfl rfl (fun Z E F => ?_)
  refine v_iconst E dX7_setOf_0 (v := 0) (by decide) ?_
  refine v_istore_n E dX7_setOf_1 rfl rfl ?_
  refine v_iconst E dX7_setOf_2 (v := 0) (by decide) ?_
  refine v_istore_n E dX7_setOf_3 rfl rfl ?_
  have L4 : ∀ (n i : Nat) (m1 : Int32), i + n = N → V Z D 0 0 [(q 0, .inr (7, [.ref (q 1), .ref (q 2), .ref (q 3), .ref (q 4), .ref (q 5), .ref (q 6), .ref (q 7), .ref (q 8), .ref (q 9), .ref (q 10)])), (q 1, aI D 703 g), (q 4, aZ D 40 ch)] [some (.ref (q 0)), some (.int p), some (.int (foldN (s_X7_setOf_4 ch kp) n i m1)), some (.int (nI N))] [] 43 → V Z D 0 0 [(q 0, .inr (7, [.ref (q 1), .ref (q 2), .ref (q 3), .ref (q 4), .ref (q 5), .ref (q 6), .ref (q 7), .ref (q 8), .ref (q 9), .ref (q 10)])), (q 1, aI D 703 g), (q 4, aZ D 40 ch)] [some (.ref (q 0)), some (.int p), some (.int m1), some (.int (nI i))] [] 4 := by
    intro n
    induction n with
    | zero =>
      intro i m1 hi  K4
      have hiN : i = N := by omega
      rw [hiN]
      refine v_iload_n E dX7_setOf_4 rfl ?_
      refine v_aload_n E dX7_setOf_5 rfl ?_
      refine v_get E dX7_setOf_6 (ci := 7) rfl iwX7 0 rfl 0 rfl fl_X7_7 rfl ?_
      refine v_iconst E dX7_setOf_9 (v := 0) (by decide) ?_
      refine v_iald E dX7_setOf_10 1 rfl 0 (show (0 : Int32) = nI 0 by decide) (by omega) rfl ?_
      refine v_icmp_ge E 43 dX7_setOf_11 (by decide) (fun c_11 => ?_) (fun c_11 => ?_)
      · exact K4
      · exact absurd (leN (a := N) (b := N) h0 rfl (by omega) (by omega)) c_11
    | succ n ih =>
      intro i m1 hi  K4
      refine v_iload_n E dX7_setOf_4 rfl ?_
      refine v_aload_n E dX7_setOf_5 rfl ?_
      refine v_get E dX7_setOf_6 (ci := 7) rfl iwX7 0 rfl 0 rfl fl_X7_7 rfl ?_
      refine v_iconst E dX7_setOf_9 (v := 0) (by decide) ?_
      refine v_iald E dX7_setOf_10 1 rfl 0 (show (0 : Int32) = nI 0 by decide) (by omega) rfl ?_
      refine v_icmp_ge E 43 dX7_setOf_11 (by decide) (fun c_11 => ?_) (fun c_11 => ?_)
      · exact absurd c_11 (nleN (a := N) (b := i) h0 rfl (by omega) (by omega))
      · refine v_iload_n E dX7_setOf_14 rfl ?_
        refine v_aload_n E dX7_setOf_15 rfl ?_
        refine v_get E dX7_setOf_16 (ci := 7) rfl iwX7 0 rfl 3 rfl fl_X7_20 rfl ?_
        refine v_iconst E dX7_setOf_19 (v := 2) (by decide) ?_
        refine v_iload_n E dX7_setOf_20 rfl ?_
        refine v_imul E dX7_setOf_21 ?_
        refine v_iload_n E dX7_setOf_22 rfl ?_
        refine v_iadd E dX7_setOf_23 ?_
        refine v_zald E dX7_setOf_24 2 rfl ((2 * i) + kp) (hadd (hmul (show (2 : Int32) = nI 2 by decide) rfl) hp) (by omega) rfl ?_
        refine v_if_eq E 34 dX7_setOf_25 (by decide) (fun c_25 => ?_) (fun c_25 => ?_)
        · refine v_iconst E dX7_setOf_34 (v := 0) (by decide) ?_
          refine v_ior E dX7_setOf_35 ?_
          refine v_istore_n E dX7_setOf_36 rfl rfl ?_
          refine v_iinc E dX7_setOf_37 (v := nI (i + 1)) rfl (inc1 _) rfl rfl ?_
          refine v_goto E 4 dX7_setOf_40 (by decide) ?_
          have hs : s_X7_setOf_4 ch kp i m1 = (m1 ||| 0) := by simp only [s_X7_setOf_4, if_pos c_25]
          rw [foldN_s (s_X7_setOf_4 ch kp) n i m1, hs] at K4
          exact ih (i + 1) (m1 ||| 0) (by omega) K4
        · refine v_iconst E dX7_setOf_28 (v := 1) (by decide) ?_
          refine v_iload_n E dX7_setOf_29 rfl ?_
          refine v_ishl E dX7_setOf_30 ?_
          refine v_goto E 35 dX7_setOf_31 (by decide) ?_
          refine v_ior E dX7_setOf_35 ?_
          refine v_istore_n E dX7_setOf_36 rfl rfl ?_
          refine v_iinc E dX7_setOf_37 (v := nI (i + 1)) rfl (inc1 _) rfl rfl ?_
          refine v_goto E 4 dX7_setOf_40 (by decide) ?_
          have hs : s_X7_setOf_4 ch kp i m1 = (m1 ||| (1 <<< ((nI i) &&& 31))) := by simp only [s_X7_setOf_4, if_neg c_25]
          rw [foldN_s (s_X7_setOf_4 ch kp) n i m1, hs] at K4
          exact ih (i + 1) (m1 ||| (1 <<< ((nI i) &&& 31))) (by omega) K4
  refine L4 N 0 0 (by omega)  ?_
  refine v_iload_n E dX7_setOf_43 rfl ?_
  exact v_iret E F dX7_setOf_44 rfl rfl () rfl rfl (Nat.le_of_ble_eq_true rfl) (Nat.le_of_ble_eq_true rfl)

def r_X7_changed (g : Nat → Int32) (ch : Nat → Int32) (p : Int32) (N : Nat) : Int32 := if (r_X7_isPart p) = 0 then (-3) else (r_X7_setOf (w_X7_layChanged_2 g ch N) p.toNatClampNeg N)
def w_X7_changed_2 (g : Nat → Int32) (ch : Nat → Int32) (p : Int32) (N : Nat) : Nat → Int32 := if (r_X7_isPart p) = 0 then ch else (w_X7_layChanged_2 g ch N)
set_option maxRecDepth 20000 in
/-- X7_changed -/
theorem c_X7_changed (D : va_G) (q : Nat → Nat) (g : Nat → Int32) (ch : Nat → Int32) (p : Int32) (N : Nat) (h0 : g 0 = nI N) (hN : N ≤ 20) (hWs : ∀ ch : Nat → Int32, T_X7_spread_2 g ch N) (l : Launch) : Ct l yX7_changed cX7_changed 2 (some .int) (rmM 4 93 0 0) D [.ref (q 0), .int p] [(q 0, .inr (7, [.ref (q 1), .ref (q 2), .ref (q 3), .ref (q 4), .ref (q 5), .ref (q 6), .ref (q 7), .ref (q 8), .ref (q 9), .ref (q 10)])), (q 1, aI D 703 g), (q 4, aZ D 40 ch)] (QI1 D (r_X7_changed g ch p N) [(q 0, .inr (7, [.ref (q 1), .ref (q 2), .ref (q 3), .ref (q 4), .ref (q 5), .ref (q 6), .ref (q 7), .ref (q 8), .ref (q 9), .ref (q 10)])), (q 1, aI D 703 g), (q 4, aZ D 40 (w_X7_changed_2 g ch p N))]) := by
  refine Ct.ofV 0 (lv0 := [some (.ref (q 0)), some (.int p)]) (by decide) rfl rfl (fun Z E F => ?_)
  refine v_iload_n E dX7_changed_0 rfl ?_
  refine v_cS_i E dX7_changed_1 (c_X7_isPart D p) cs_X7_87 rfl rfl rfl (Nat.le_of_ble_eq_true rfl) [] rfl rfl ⟨Nat.le_of_ble_eq_true rfl, Nat.le_of_ble_eq_true rfl⟩ ?_
  refine v_if_ne E 10 dX7_changed_4 (by decide) (fun c_4 => ?_) (fun c_4 => ?_)
  · obtain ⟨hp1, hp2⟩ := in_useK (v := p) (hi := 1) (M := 1) (by decide) c_4
    refine v_aload_n E dX7_changed_10 rfl ?_
    refine v_cV_vU E dX7_changed_11 (c_X7_layChanged D q g ch N h0 hN hWs) cs_X7_90 rfl rfl rfl (Nat.le_of_ble_eq_true rfl) 0 rfl rfl [0, 1, 2] rfl rfl ⟨Nat.le_of_ble_eq_true rfl, Nat.le_of_ble_eq_true rfl⟩ [q 0, q 1, q 4] rfl rfl ?_
    refine v_wd (wd2 := [(q 0, .inr (7, [.ref (q 1), .ref (q 2), .ref (q 3), .ref (q 4), .ref (q 5), .ref (q 6), .ref (q 7), .ref (q 8), .ref (q 9), .ref (q 10)])), (q 1, aI D 703 g), (q 4, aZ D 40 (w_X7_layChanged_2 g ch N))]) rfl ?_
    refine v_aload_n E dX7_changed_14 rfl ?_
    refine v_iload_n E dX7_changed_15 rfl ?_
    refine v_cV_i E dX7_changed_16 (c_X7_setOf D q g (w_X7_layChanged_2 g ch N) p p.toNatClampNeg N hp1 h0 hN (by omega)) cs_X7_93 rfl rfl rfl (Nat.le_of_ble_eq_true rfl) 0 rfl rfl [0, 1, 2] rfl rfl ⟨Nat.le_of_ble_eq_true rfl, Nat.le_of_ble_eq_true rfl⟩ ?_
    exact v_iret E F dX7_changed_19 rfl rfl () (by simp only [r_X7_changed, if_neg c_4]) (by simp only [w_X7_changed_2, if_neg c_4] <;> rfl) (Nat.le_of_ble_eq_true rfl) (Nat.le_of_ble_eq_true rfl)
  · refine v_bipush E dX7_changed_7 (v := -3) (by decide) ?_
    exact v_iret E F dX7_changed_9 rfl rfl () (by simp only [r_X7_changed, if_pos c_4]) (by simp only [w_X7_changed_2, if_pos c_4] <;> rfl) (Nat.le_of_ble_eq_true rfl) (Nat.le_of_ble_eq_true rfl)

def r_X7_rebuilt (g : Nat → Int32) (ch : Nat → Int32) (N : Nat) : Int32 := (r_X7_setOf (w_X7_layChanged_2 g ch N) 1 N)
def w_X7_rebuilt_2 (g : Nat → Int32) (ch : Nat → Int32) (N : Nat) : Nat → Int32 := (w_X7_layChanged_2 g ch N)
set_option maxRecDepth 20000 in
/-- X7_rebuilt -/
theorem c_X7_rebuilt (D : va_G) (q : Nat → Nat) (g : Nat → Int32) (ch : Nat → Int32) (N : Nat) (h0 : g 0 = nI N) (hN : N ≤ 20) (hWs : ∀ ch : Nat → Int32, T_X7_spread_2 g ch N) (l : Launch) : Ct l yX7_rebuilt cX7_rebuilt 1 (some .int) (rmM 4 93 0 0) D [.ref (q 0)] [(q 0, .inr (7, [.ref (q 1), .ref (q 2), .ref (q 3), .ref (q 4), .ref (q 5), .ref (q 6), .ref (q 7), .ref (q 8), .ref (q 9), .ref (q 10)])), (q 1, aI D 703 g), (q 4, aZ D 40 ch)] (QI1 D (r_X7_rebuilt g ch N) [(q 0, .inr (7, [.ref (q 1), .ref (q 2), .ref (q 3), .ref (q 4), .ref (q 5), .ref (q 6), .ref (q 7), .ref (q 8), .ref (q 9), .ref (q 10)])), (q 1, aI D 703 g), (q 4, aZ D 40 (w_X7_rebuilt_2 g ch N))]) := by
  refine Ct.ofV 0 (lv0 := [some (.ref (q 0))]) (by decide) rfl rfl (fun Z E F => ?_)
  refine v_aload_n E dX7_rebuilt_0 rfl ?_
  refine v_cV_vU E dX7_rebuilt_1 (c_X7_layChanged D q g ch N h0 hN hWs) cs_X7_90 rfl rfl rfl (Nat.le_of_ble_eq_true rfl) 0 rfl rfl [0, 1, 2] rfl rfl ⟨Nat.le_of_ble_eq_true rfl, Nat.le_of_ble_eq_true rfl⟩ [q 0, q 1, q 4] rfl rfl ?_
  refine v_wd (wd2 := [(q 0, .inr (7, [.ref (q 1), .ref (q 2), .ref (q 3), .ref (q 4), .ref (q 5), .ref (q 6), .ref (q 7), .ref (q 8), .ref (q 9), .ref (q 10)])), (q 1, aI D 703 g), (q 4, aZ D 40 (w_X7_layChanged_2 g ch N))]) rfl ?_
  refine v_aload_n E dX7_rebuilt_4 rfl ?_
  refine v_iconst E dX7_rebuilt_5 (v := 1) (by decide) ?_
  refine v_cV_i E dX7_rebuilt_6 (c_X7_setOf D q g (w_X7_layChanged_2 g ch N) 1 1 N (show (1 : Int32) = nI 1 by decide) h0 hN (by omega)) cs_X7_93 rfl rfl rfl (Nat.le_of_ble_eq_true rfl) 0 rfl rfl [0, 1, 2] rfl rfl ⟨Nat.le_of_ble_eq_true rfl, Nat.le_of_ble_eq_true rfl⟩ ?_
  exact v_iret E F dX7_rebuilt_9 rfl rfl () rfl rfl (Nat.le_of_ble_eq_true rfl) (Nat.le_of_ble_eq_true rfl)

def s_X7_affectedTests_9 (g : Nat → Int32) (ch : Nat → Int32) (N : Nat) (i : Nat) (m1 : Int32) : Int32 := if (r_X7_kindOf g i) = 2 then (if ((r_X7_reachOf g (nI i) 2 N) &&& (r_X7_rebuilt g ch N)) = 0 then m1 ||| 0 else m1 ||| (1 <<< ((nI i) &&& 31))) else m1 ||| 0
def r_X7_affectedTests (g : Nat → Int32) (ch : Nat → Int32) (N : Nat) : Int32 := (foldN (s_X7_affectedTests_9 g ch N) N 0 0)
def w_X7_affectedTests_2 (g : Nat → Int32) (ch : Nat → Int32) (N : Nat) : Nat → Int32 := (w_X7_rebuilt_2 g ch N)
set_option maxRecDepth 20000 in
/-- X7_affectedTests -/
theorem c_X7_affectedTests (D : va_G) (q : Nat → Nat) (g : Nat → Int32) (ch : Nat → Int32) (N : Nat) (h0 : g 0 = nI N) (hN : N ≤ 20) (hWs : ∀ ch : Nat → Int32, T_X7_spread_2 g ch N) (hWr : ∀ t wo : Int32, T_X7_reachOf_7 g t wo N) (l : Launch) : Ct l yX7_affectedTests cX7_affectedTests 4 (some .int) (rmM 5 113 0 0) D [.ref (q 0)] [(q 0, .inr (7, [.ref (q 1), .ref (q 2), .ref (q 3), .ref (q 4), .ref (q 5), .ref (q 6), .ref (q 7), .ref (q 8), .ref (q 9), .ref (q 10)])), (q 1, aI D 703 g), (q 4, aZ D 40 ch)] (QI1 D (r_X7_affectedTests g ch N) [(q 0, .inr (7, [.ref (q 1), .ref (q 2), .ref (q 3), .ref (q 4), .ref (q 5), .ref (q 6), .ref (q 7), .ref (q 8), .ref (q 9), .ref (q 10)])), (q 1, aI D 703 g), (q 4, aZ D 40 (w_X7_affectedTests_2 g ch N))]) := by
  refine Ct.ofV 3 (lv0 := [some (.ref (q 0)), none, none, none]) (by decide) rfl rfl (fun Z E F => ?_)
  refine v_aload_n E dX7_affectedTests_0 rfl ?_
  refine v_cV_iU E dX7_affectedTests_1 (c_X7_rebuilt D q g ch N h0 hN hWs) cs_X7_96 rfl rfl rfl (Nat.le_of_ble_eq_true rfl) 0 rfl rfl [0, 1, 2] rfl rfl ⟨Nat.le_of_ble_eq_true rfl, Nat.le_of_ble_eq_true rfl⟩ [q 0, q 1, q 4] rfl rfl ?_
  refine v_wd (wd2 := [(q 0, .inr (7, [.ref (q 1), .ref (q 2), .ref (q 3), .ref (q 4), .ref (q 5), .ref (q 6), .ref (q 7), .ref (q 8), .ref (q 9), .ref (q 10)])), (q 1, aI D 703 g), (q 4, aZ D 40 (w_X7_rebuilt_2 g ch N))]) rfl ?_
  refine v_istore_n E dX7_affectedTests_4 rfl rfl ?_
  refine v_iconst E dX7_affectedTests_5 (v := 0) (by decide) ?_
  refine v_istore_n E dX7_affectedTests_6 rfl rfl ?_
  refine v_iconst E dX7_affectedTests_7 (v := 0) (by decide) ?_
  refine v_istore_n E dX7_affectedTests_8 rfl rfl ?_
  have L9 : ∀ (n i : Nat) (m1 : Int32), i + n = N → V Z D 0 0 [(q 0, .inr (7, [.ref (q 1), .ref (q 2), .ref (q 3), .ref (q 4), .ref (q 5), .ref (q 6), .ref (q 7), .ref (q 8), .ref (q 9), .ref (q 10)])), (q 1, aI D 703 g), (q 4, aZ D 40 (w_X7_rebuilt_2 g ch N))] [some (.ref (q 0)), some (.int (r_X7_rebuilt g ch N)), some (.int (foldN (s_X7_affectedTests_9 g ch N) n i m1)), some (.int (nI N))] [] 55 → V Z D 0 0 [(q 0, .inr (7, [.ref (q 1), .ref (q 2), .ref (q 3), .ref (q 4), .ref (q 5), .ref (q 6), .ref (q 7), .ref (q 8), .ref (q 9), .ref (q 10)])), (q 1, aI D 703 g), (q 4, aZ D 40 (w_X7_rebuilt_2 g ch N))] [some (.ref (q 0)), some (.int (r_X7_rebuilt g ch N)), some (.int m1), some (.int (nI i))] [] 9 := by
    intro n
    induction n with
    | zero =>
      intro i m1 hi  K9
      have hiN : i = N := by omega
      rw [hiN]
      refine v_iload_n E dX7_affectedTests_9 rfl ?_
      refine v_aload_n E dX7_affectedTests_10 rfl ?_
      refine v_get E dX7_affectedTests_11 (ci := 7) rfl iwX7 0 rfl 0 rfl fl_X7_7 rfl ?_
      refine v_iconst E dX7_affectedTests_14 (v := 0) (by decide) ?_
      refine v_iald E dX7_affectedTests_15 1 rfl 0 (show (0 : Int32) = nI 0 by decide) (by omega) rfl ?_
      refine v_icmp_ge E 55 dX7_affectedTests_16 (by decide) (fun c_16 => ?_) (fun c_16 => ?_)
      · exact K9
      · exact absurd (leN (a := N) (b := N) h0 rfl (by omega) (by omega)) c_16
    | succ n ih =>
      intro i m1 hi  K9
      refine v_iload_n E dX7_affectedTests_9 rfl ?_
      refine v_aload_n E dX7_affectedTests_10 rfl ?_
      refine v_get E dX7_affectedTests_11 (ci := 7) rfl iwX7 0 rfl 0 rfl fl_X7_7 rfl ?_
      refine v_iconst E dX7_affectedTests_14 (v := 0) (by decide) ?_
      refine v_iald E dX7_affectedTests_15 1 rfl 0 (show (0 : Int32) = nI 0 by decide) (by omega) rfl ?_
      refine v_icmp_ge E 55 dX7_affectedTests_16 (by decide) (fun c_16 => ?_) (fun c_16 => ?_)
      · exact absurd c_16 (nleN (a := N) (b := i) h0 rfl (by omega) (by omega))
      · refine v_iload_n E dX7_affectedTests_19 rfl ?_
        refine v_aload_n E dX7_affectedTests_20 rfl ?_
        refine v_iload_n E dX7_affectedTests_21 rfl ?_
        refine v_cV_i E dX7_affectedTests_22 (c_X7_kindOf D q g (nI i) i rfl (by omega)) cs_X7_45 rfl rfl rfl (Nat.le_of_ble_eq_true rfl) 0 rfl rfl [0, 1] rfl rfl ⟨Nat.le_of_ble_eq_true rfl, Nat.le_of_ble_eq_true rfl⟩ ?_
        refine v_iconst E dX7_affectedTests_25 (v := 2) (by decide) ?_
        refine v_icmp_ne E 46 dX7_affectedTests_26 (by decide) (fun c_26 => ?_) (fun c_26 => ?_)
        · refine v_iconst E dX7_affectedTests_46 (v := 0) (by decide) ?_
          refine v_ior E dX7_affectedTests_47 ?_
          refine v_istore_n E dX7_affectedTests_48 rfl rfl ?_
          refine v_iinc E dX7_affectedTests_49 (v := nI (i + 1)) rfl (inc1 _) rfl rfl ?_
          refine v_goto E 9 dX7_affectedTests_52 (by decide) ?_
          have hs : s_X7_affectedTests_9 g ch N i m1 = (m1 ||| 0) := by simp only [s_X7_affectedTests_9, if_neg c_26]
          rw [foldN_s (s_X7_affectedTests_9 g ch N) n i m1, hs] at K9
          exact ih (i + 1) (m1 ||| 0) (by omega) K9
        · refine v_aload_n E dX7_affectedTests_29 rfl ?_
          refine v_iload_n E dX7_affectedTests_30 rfl ?_
          refine v_iconst E dX7_affectedTests_31 (v := 2) (by decide) ?_
          refine v_cV_i E dX7_affectedTests_32 (c_X7_reachOf D q g (nI i) 2 N h0 hN (hWr _ _)) cs_X7_61 rfl rfl rfl (Nat.le_of_ble_eq_true rfl) 0 rfl rfl [0, 1] rfl rfl ⟨Nat.le_of_ble_eq_true rfl, Nat.le_of_ble_eq_true rfl⟩ ?_
          refine v_iload_n E dX7_affectedTests_35 rfl ?_
          refine v_iand E dX7_affectedTests_36 ?_
          refine v_if_eq E 46 dX7_affectedTests_37 (by decide) (fun c_37 => ?_) (fun c_37 => ?_)
          · refine v_iconst E dX7_affectedTests_46 (v := 0) (by decide) ?_
            refine v_ior E dX7_affectedTests_47 ?_
            refine v_istore_n E dX7_affectedTests_48 rfl rfl ?_
            refine v_iinc E dX7_affectedTests_49 (v := nI (i + 1)) rfl (inc1 _) rfl rfl ?_
            refine v_goto E 9 dX7_affectedTests_52 (by decide) ?_
            have hs : s_X7_affectedTests_9 g ch N i m1 = (m1 ||| 0) := by simp only [s_X7_affectedTests_9, if_pos c_26, if_pos c_37]
            rw [foldN_s (s_X7_affectedTests_9 g ch N) n i m1, hs] at K9
            exact ih (i + 1) (m1 ||| 0) (by omega) K9
          · refine v_iconst E dX7_affectedTests_40 (v := 1) (by decide) ?_
            refine v_iload_n E dX7_affectedTests_41 rfl ?_
            refine v_ishl E dX7_affectedTests_42 ?_
            refine v_goto E 47 dX7_affectedTests_43 (by decide) ?_
            refine v_ior E dX7_affectedTests_47 ?_
            refine v_istore_n E dX7_affectedTests_48 rfl rfl ?_
            refine v_iinc E dX7_affectedTests_49 (v := nI (i + 1)) rfl (inc1 _) rfl rfl ?_
            refine v_goto E 9 dX7_affectedTests_52 (by decide) ?_
            have hs : s_X7_affectedTests_9 g ch N i m1 = (m1 ||| (1 <<< ((nI i) &&& 31))) := by simp only [s_X7_affectedTests_9, if_pos c_26, if_neg c_37]
            rw [foldN_s (s_X7_affectedTests_9 g ch N) n i m1, hs] at K9
            exact ih (i + 1) (m1 ||| (1 <<< ((nI i) &&& 31))) (by omega) K9
  refine L9 N 0 0 (by omega)  ?_
  refine v_iload_n E dX7_affectedTests_55 rfl ?_
  exact v_iret E F dX7_affectedTests_56 rfl rfl () rfl rfl (Nat.le_of_ble_eq_true rfl) (Nat.le_of_ble_eq_true rfl)

def s_X7_impactOf_2 (pr : Int32) (i : Nat) (ch1 : Nat → Int32) : Nat → Int32 := if (nI i) = pr then upd ch1 i (vp_nar .boolean 1) else upd ch1 i (vp_nar .boolean 0)
def s_X7_impactOf_38 (g : Nat → Int32) (ch : Nat → Int32) (pr : Int32) (N : Nat) (i : Nat) (m1 : Int32) : Int32 := if ((w_X7_spread_2 g (foldN (s_X7_impactOf_2 pr) 40 0 ch) N) ((2 * i) + 1)) = 0 then m1 + 0 else m1 + (r_X7_weightOf g i)
def r_X7_impactOf (g : Nat → Int32) (ch : Nat → Int32) (pr : Int32) (N : Nat) : Int32 := (foldN (s_X7_impactOf_38 g ch pr N) N 0 0)
def w_X7_impactOf_2 (g : Nat → Int32) (ch : Nat → Int32) (pr : Int32) (N : Nat) : Nat → Int32 := (w_X7_spread_2 g (foldN (s_X7_impactOf_2 pr) 40 0 ch) N)
set_option maxRecDepth 20000 in
/-- X7_impactOf -/
theorem c_X7_impactOf (D : va_G) (q : Nat → Nat) (g : Nat → Int32) (ch : Nat → Int32) (pr : Int32) (N : Nat) (h0 : g 0 = nI N) (hN : N ≤ 20) (hWs : ∀ ch : Nat → Int32, T_X7_spread_2 g ch N) (l : Launch) : Ct l yX7_impactOf cX7_impactOf 4 (some .int) (rmM 3 72 0 0) D [.ref (q 0), .int pr] [(q 0, .inr (7, [.ref (q 1), .ref (q 2), .ref (q 3), .ref (q 4), .ref (q 5), .ref (q 6), .ref (q 7), .ref (q 8), .ref (q 9), .ref (q 10)])), (q 1, aI D 703 g), (q 4, aZ D 40 ch)] (QI1 D (r_X7_impactOf g ch pr N) [(q 0, .inr (7, [.ref (q 1), .ref (q 2), .ref (q 3), .ref (q 4), .ref (q 5), .ref (q 6), .ref (q 7), .ref (q 8), .ref (q 9), .ref (q 10)])), (q 1, aI D 703 g), (q 4, aZ D 40 (w_X7_impactOf_2 g ch pr N))]) := by
  refine Ct.ofV 2 (lv0 := [some (.ref (q 0)), some (.int pr), none, none]) (by decide) rfl rfl (fun Z E F => ?_)
  refine v_iconst E dX7_impactOf_0 (v := 0) (by decide) ?_
  refine v_istore_n E dX7_impactOf_1 rfl rfl ?_
  have L2 : ∀ (n i : Nat) (ch1 : Nat → Int32), i + n = 40 → V Z D 0 0 [(q 0, .inr (7, [.ref (q 1), .ref (q 2), .ref (q 3), .ref (q 4), .ref (q 5), .ref (q 6), .ref (q 7), .ref (q 8), .ref (q 9), .ref (q 10)])), (q 1, aI D 703 g), (q 4, aZ D 40 (foldN (s_X7_impactOf_2 pr) n i ch1))] [some (.ref (q 0)), some (.int pr), some (.int (nI 40)), none] [] 30 → V Z D 0 0 [(q 0, .inr (7, [.ref (q 1), .ref (q 2), .ref (q 3), .ref (q 4), .ref (q 5), .ref (q 6), .ref (q 7), .ref (q 8), .ref (q 9), .ref (q 10)])), (q 1, aI D 703 g), (q 4, aZ D 40 ch1)] [some (.ref (q 0)), some (.int pr), some (.int (nI i)), none] [] 2 := by
    intro n
    induction n with
    | zero =>
      intro i ch1 hi  K2
      have hiN : i = 40 := by omega
      rw [hiN]
      refine v_iload_n E dX7_impactOf_2 rfl ?_
      refine v_bipush E dX7_impactOf_3 (v := 40) (by decide) ?_
      refine v_icmp_ge E 30 dX7_impactOf_5 (by decide) (fun c_5 => ?_) (fun c_5 => ?_)
      · exact K2
      · exact absurd (leN (a := 40) (b := 40) (show (40 : Int32) = nI 40 by decide) rfl (by omega) (by omega)) c_5
    | succ n ih =>
      intro i ch1 hi  K2
      refine v_iload_n E dX7_impactOf_2 rfl ?_
      refine v_bipush E dX7_impactOf_3 (v := 40) (by decide) ?_
      refine v_icmp_ge E 30 dX7_impactOf_5 (by decide) (fun c_5 => ?_) (fun c_5 => ?_)
      · exact absurd c_5 (nleN (a := 40) (b := i) (show (40 : Int32) = nI 40 by decide) rfl (by omega) (by omega))
      · refine v_aload_n E dX7_impactOf_8 rfl ?_
        refine v_get E dX7_impactOf_9 (ci := 7) rfl iwX7 0 rfl 3 rfl fl_X7_20 rfl ?_
        refine v_iload_n E dX7_impactOf_12 rfl ?_
        refine v_iload_n E dX7_impactOf_13 rfl ?_
        refine v_iload_n E dX7_impactOf_14 rfl ?_
        refine v_icmp_ne E 22 dX7_impactOf_15 (by decide) (fun c_15 => ?_) (fun c_15 => ?_)
        · refine v_iconst E dX7_impactOf_22 (v := 0) (by decide) ?_
          refine v_zast E dX7_impactOf_23 2 rfl i rfl (by omega) rfl ?_
          refine v_wd (wd2 := [(q 0, .inr (7, [.ref (q 1), .ref (q 2), .ref (q 3), .ref (q 4), .ref (q 5), .ref (q 6), .ref (q 7), .ref (q 8), .ref (q 9), .ref (q 10)])), (q 1, aI D 703 g), (q 4, aZ D 40 (upd ch1 i (vp_nar .boolean 0)))]) rfl ?_
          refine v_iinc E dX7_impactOf_24 (v := nI (i + 1)) rfl (inc1 _) rfl rfl ?_
          refine v_goto E 2 dX7_impactOf_27 (by decide) ?_
          have hs : s_X7_impactOf_2 pr i ch1 = (upd ch1 i (vp_nar .boolean 0)) := by simp only [s_X7_impactOf_2, if_neg c_15]
          rw [foldN_s (s_X7_impactOf_2 pr) n i ch1, hs] at K2
          exact ih (i + 1) (upd ch1 i (vp_nar .boolean 0)) (by omega) K2
        · refine v_iconst E dX7_impactOf_18 (v := 1) (by decide) ?_
          refine v_goto E 23 dX7_impactOf_19 (by decide) ?_
          refine v_zast E dX7_impactOf_23 2 rfl i rfl (by omega) rfl ?_
          refine v_wd (wd2 := [(q 0, .inr (7, [.ref (q 1), .ref (q 2), .ref (q 3), .ref (q 4), .ref (q 5), .ref (q 6), .ref (q 7), .ref (q 8), .ref (q 9), .ref (q 10)])), (q 1, aI D 703 g), (q 4, aZ D 40 (upd ch1 i (vp_nar .boolean 1)))]) rfl ?_
          refine v_iinc E dX7_impactOf_24 (v := nI (i + 1)) rfl (inc1 _) rfl rfl ?_
          refine v_goto E 2 dX7_impactOf_27 (by decide) ?_
          have hs : s_X7_impactOf_2 pr i ch1 = (upd ch1 i (vp_nar .boolean 1)) := by simp only [s_X7_impactOf_2, if_pos c_15]
          rw [foldN_s (s_X7_impactOf_2 pr) n i ch1, hs] at K2
          exact ih (i + 1) (upd ch1 i (vp_nar .boolean 1)) (by omega) K2
  refine L2 40 0 ch (by omega)  ?_
  refine v_aload_n E dX7_impactOf_30 rfl ?_
  refine v_cV_vU E dX7_impactOf_31 (c_X7_spread D q g (foldN (s_X7_impactOf_2 pr) 40 0 ch) N h0 hN (hWs _)) cs_X7_84 rfl rfl rfl (Nat.le_of_ble_eq_true rfl) 0 rfl rfl [0, 1, 2] rfl rfl ⟨Nat.le_of_ble_eq_true rfl, Nat.le_of_ble_eq_true rfl⟩ [q 0, q 1, q 4] rfl rfl ?_
  refine v_wd (wd2 := [(q 0, .inr (7, [.ref (q 1), .ref (q 2), .ref (q 3), .ref (q 4), .ref (q 5), .ref (q 6), .ref (q 7), .ref (q 8), .ref (q 9), .ref (q 10)])), (q 1, aI D 703 g), (q 4, aZ D 40 (w_X7_spread_2 g (foldN (s_X7_impactOf_2 pr) 40 0 ch) N))]) rfl ?_
  refine v_iconst E dX7_impactOf_34 (v := 0) (by decide) ?_
  refine v_istore_n E dX7_impactOf_35 rfl rfl ?_
  refine v_iconst E dX7_impactOf_36 (v := 0) (by decide) ?_
  refine v_istore_n E dX7_impactOf_37 rfl rfl ?_
  have L38 : ∀ (n i : Nat) (m1 : Int32), i + n = N → V Z D 0 0 [(q 0, .inr (7, [.ref (q 1), .ref (q 2), .ref (q 3), .ref (q 4), .ref (q 5), .ref (q 6), .ref (q 7), .ref (q 8), .ref (q 9), .ref (q 10)])), (q 1, aI D 703 g), (q 4, aZ D 40 (w_X7_spread_2 g (foldN (s_X7_impactOf_2 pr) 40 0 ch) N))] [some (.ref (q 0)), some (.int pr), some (.int (foldN (s_X7_impactOf_38 g ch pr N) n i m1)), some (.int (nI N))] [] 79 → V Z D 0 0 [(q 0, .inr (7, [.ref (q 1), .ref (q 2), .ref (q 3), .ref (q 4), .ref (q 5), .ref (q 6), .ref (q 7), .ref (q 8), .ref (q 9), .ref (q 10)])), (q 1, aI D 703 g), (q 4, aZ D 40 (w_X7_spread_2 g (foldN (s_X7_impactOf_2 pr) 40 0 ch) N))] [some (.ref (q 0)), some (.int pr), some (.int m1), some (.int (nI i))] [] 38 := by
    intro n
    induction n with
    | zero =>
      intro i m1 hi  K38
      have hiN : i = N := by omega
      rw [hiN]
      refine v_iload_n E dX7_impactOf_38 rfl ?_
      refine v_aload_n E dX7_impactOf_39 rfl ?_
      refine v_get E dX7_impactOf_40 (ci := 7) rfl iwX7 0 rfl 0 rfl fl_X7_7 rfl ?_
      refine v_iconst E dX7_impactOf_43 (v := 0) (by decide) ?_
      refine v_iald E dX7_impactOf_44 1 rfl 0 (show (0 : Int32) = nI 0 by decide) (by omega) rfl ?_
      refine v_icmp_ge E 79 dX7_impactOf_45 (by decide) (fun c_45 => ?_) (fun c_45 => ?_)
      · exact K38
      · exact absurd (leN (a := N) (b := N) h0 rfl (by omega) (by omega)) c_45
    | succ n ih =>
      intro i m1 hi  K38
      refine v_iload_n E dX7_impactOf_38 rfl ?_
      refine v_aload_n E dX7_impactOf_39 rfl ?_
      refine v_get E dX7_impactOf_40 (ci := 7) rfl iwX7 0 rfl 0 rfl fl_X7_7 rfl ?_
      refine v_iconst E dX7_impactOf_43 (v := 0) (by decide) ?_
      refine v_iald E dX7_impactOf_44 1 rfl 0 (show (0 : Int32) = nI 0 by decide) (by omega) rfl ?_
      refine v_icmp_ge E 79 dX7_impactOf_45 (by decide) (fun c_45 => ?_) (fun c_45 => ?_)
      · exact absurd c_45 (nleN (a := N) (b := i) h0 rfl (by omega) (by omega))
      · refine v_iload_n E dX7_impactOf_48 rfl ?_
        refine v_aload_n E dX7_impactOf_49 rfl ?_
        refine v_get E dX7_impactOf_50 (ci := 7) rfl iwX7 0 rfl 3 rfl fl_X7_20 rfl ?_
        refine v_iconst E dX7_impactOf_53 (v := 2) (by decide) ?_
        refine v_iload_n E dX7_impactOf_54 rfl ?_
        refine v_imul E dX7_impactOf_55 ?_
        refine v_iconst E dX7_impactOf_56 (v := 1) (by decide) ?_
        refine v_iadd E dX7_impactOf_57 ?_
        refine v_zald E dX7_impactOf_58 2 rfl ((2 * i) + 1) (hadd (hmul (show (2 : Int32) = nI 2 by decide) rfl) (show (1 : Int32) = nI 1 by decide)) (by omega) rfl ?_
        refine v_if_eq E 70 dX7_impactOf_59 (by decide) (fun c_59 => ?_) (fun c_59 => ?_)
        · refine v_iconst E dX7_impactOf_70 (v := 0) (by decide) ?_
          refine v_iadd E dX7_impactOf_71 ?_
          refine v_istore_n E dX7_impactOf_72 rfl rfl ?_
          refine v_iinc E dX7_impactOf_73 (v := nI (i + 1)) rfl (inc1 _) rfl rfl ?_
          refine v_goto E 38 dX7_impactOf_76 (by decide) ?_
          have hs : s_X7_impactOf_38 g ch pr N i m1 = (m1 + 0) := by simp only [s_X7_impactOf_38, if_pos c_59]
          rw [foldN_s (s_X7_impactOf_38 g ch pr N) n i m1, hs] at K38
          exact ih (i + 1) (m1 + 0) (by omega) K38
        · refine v_aload_n E dX7_impactOf_62 rfl ?_
          refine v_iload_n E dX7_impactOf_63 rfl ?_
          refine v_cV_i E dX7_impactOf_64 (c_X7_weightOf D q g (nI i) i rfl (by omega)) cs_X7_106 rfl rfl rfl (Nat.le_of_ble_eq_true rfl) 0 rfl rfl [0, 1] rfl rfl ⟨Nat.le_of_ble_eq_true rfl, Nat.le_of_ble_eq_true rfl⟩ ?_
          refine v_goto E 71 dX7_impactOf_67 (by decide) ?_
          refine v_iadd E dX7_impactOf_71 ?_
          refine v_istore_n E dX7_impactOf_72 rfl rfl ?_
          refine v_iinc E dX7_impactOf_73 (v := nI (i + 1)) rfl (inc1 _) rfl rfl ?_
          refine v_goto E 38 dX7_impactOf_76 (by decide) ?_
          have hs : s_X7_impactOf_38 g ch pr N i m1 = (m1 + (r_X7_weightOf g i)) := by simp only [s_X7_impactOf_38, if_neg c_59]
          rw [foldN_s (s_X7_impactOf_38 g ch pr N) n i m1, hs] at K38
          exact ih (i + 1) (m1 + (r_X7_weightOf g i)) (by omega) K38
  refine L38 N 0 0 (by omega)  ?_
  refine v_iload_n E dX7_impactOf_79 rfl ?_
  exact v_iret E F dX7_impactOf_80 rfl rfl () rfl rfl (Nat.le_of_ble_eq_true rfl) (Nat.le_of_ble_eq_true rfl)

def r_X7_impact (g : Nat → Int32) (ch : Nat → Int32) (t : Int32) (p : Int32) (N : Nat) : Int32 := if (r_X7_isTarget g t) = 0 then (-1) else if (r_X7_isPart p) = 0 then (-3) else (r_X7_impactOf g ch ((2 * t) + p) N)
def w_X7_impact_2 (g : Nat → Int32) (ch : Nat → Int32) (t : Int32) (p : Int32) (N : Nat) : Nat → Int32 := if (r_X7_isTarget g t) = 0 then ch else if (r_X7_isPart p) = 0 then ch else (w_X7_impactOf_2 g ch ((2 * t) + p) N)
set_option maxRecDepth 20000 in
/-- X7_impact -/
theorem c_X7_impact (D : va_G) (q : Nat → Nat) (g : Nat → Int32) (ch : Nat → Int32) (t : Int32) (p : Int32) (N : Nat) (h0 : g 0 = nI N) (hN : N ≤ 20) (hWs : ∀ ch : Nat → Int32, T_X7_spread_2 g ch N) (l : Launch) : Ct l yX7_impact cX7_impact 3 (some .int) (rmM 4 95 0 0) D [.ref (q 0), .int t, .int p] [(q 0, .inr (7, [.ref (q 1), .ref (q 2), .ref (q 3), .ref (q 4), .ref (q 5), .ref (q 6), .ref (q 7), .ref (q 8), .ref (q 9), .ref (q 10)])), (q 1, aI D 703 g), (q 4, aZ D 40 ch)] (QI1 D (r_X7_impact g ch t p N) [(q 0, .inr (7, [.ref (q 1), .ref (q 2), .ref (q 3), .ref (q 4), .ref (q 5), .ref (q 6), .ref (q 7), .ref (q 8), .ref (q 9), .ref (q 10)])), (q 1, aI D 703 g), (q 4, aZ D 40 (w_X7_impact_2 g ch t p N))]) := by
  refine Ct.ofV 0 (lv0 := [some (.ref (q 0)), some (.int t), some (.int p)]) (by decide) rfl rfl (fun Z E F => ?_)
  refine v_aload_n E dX7_impact_0 rfl ?_
  refine v_iload_n E dX7_impact_1 rfl ?_
  refine v_cV_i E dX7_impact_2 (c_X7_isTarget D q g t) cs_X7_57 rfl rfl rfl (Nat.le_of_ble_eq_true rfl) 0 rfl rfl [0, 1] rfl rfl ⟨Nat.le_of_ble_eq_true rfl, Nat.le_of_ble_eq_true rfl⟩ ?_
  refine v_if_ne E 10 dX7_impact_5 (by decide) (fun c_5 => ?_) (fun c_5 => ?_)
  · refine v_iload_n E dX7_impact_10 rfl ?_
    refine v_cS_i E dX7_impact_11 (c_X7_isPart D p) cs_X7_87 rfl rfl rfl (Nat.le_of_ble_eq_true rfl) [] rfl rfl ⟨Nat.le_of_ble_eq_true rfl, Nat.le_of_ble_eq_true rfl⟩ ?_
    refine v_if_eq E 29 dX7_impact_14 (by decide) (fun c_14 => ?_) (fun c_14 => ?_)
    · refine v_bipush E dX7_impact_29 (v := -3) (by decide) ?_
      exact v_iret E F dX7_impact_31 rfl rfl () (by simp only [r_X7_impact, if_neg c_5, if_pos c_14]) (by simp only [w_X7_impact_2, if_neg c_5, if_pos c_14] <;> rfl) (Nat.le_of_ble_eq_true rfl) (Nat.le_of_ble_eq_true rfl)
    · refine v_aload_n E dX7_impact_17 rfl ?_
      refine v_iconst E dX7_impact_18 (v := 2) (by decide) ?_
      refine v_iload_n E dX7_impact_19 rfl ?_
      refine v_imul E dX7_impact_20 ?_
      refine v_iload_n E dX7_impact_21 rfl ?_
      refine v_iadd E dX7_impact_22 ?_
      refine v_cV_iU E dX7_impact_23 (c_X7_impactOf D q g ch ((2 * t) + p) N h0 hN hWs) cs_X7_109 rfl rfl rfl (Nat.le_of_ble_eq_true rfl) 0 rfl rfl [0, 1, 2] rfl rfl ⟨Nat.le_of_ble_eq_true rfl, Nat.le_of_ble_eq_true rfl⟩ [q 0, q 1, q 4] rfl rfl ?_
      refine v_wd (wd2 := [(q 0, .inr (7, [.ref (q 1), .ref (q 2), .ref (q 3), .ref (q 4), .ref (q 5), .ref (q 6), .ref (q 7), .ref (q 8), .ref (q 9), .ref (q 10)])), (q 1, aI D 703 g), (q 4, aZ D 40 (w_X7_impactOf_2 g ch ((2 * t) + p) N))]) rfl ?_
      refine v_goto E 31 dX7_impact_26 (by decide) ?_
      exact v_iret E F dX7_impact_31 rfl rfl () (by simp only [r_X7_impact, if_neg c_5, if_neg c_14]) (by simp only [w_X7_impact_2, if_neg c_5, if_neg c_14] <;> rfl) (Nat.le_of_ble_eq_true rfl) (Nat.le_of_ble_eq_true rfl)
  · refine v_iconst E dX7_impact_8 (v := -1) (by decide) ?_
    exact v_iret E F dX7_impact_9 rfl rfl () (by simp only [r_X7_impact, if_pos c_5]) (by simp only [w_X7_impact_2, if_pos c_5] <;> rfl) (Nat.le_of_ble_eq_true rfl) (Nat.le_of_ble_eq_true rfl)

def s_X7_mostCritical_18 (g : Nat → Int32) (p : Int32) (N : Nat) (i : Nat) (z_ : Int32 × Int32 × (Nat → Int32)) : Int32 × Int32 × (Nat → Int32) := match z_ with
  | (b1, m1, ch1) => if b1 < 0 then (nI i, (r_X7_impactOf g ch1 ((2 * (nI i)) + p) N), (w_X7_impactOf_2 g ch1 ((2 * (nI i)) + p) N)) else if (r_X7_impactOf g ch1 ((2 * (nI i)) + p) N) ≤ m1 then (b1, m1, (w_X7_impactOf_2 g ch1 ((2 * (nI i)) + p) N)) else (nI i, (r_X7_impactOf g ch1 ((2 * (nI i)) + p) N), (w_X7_impactOf_2 g ch1 ((2 * (nI i)) + p) N))
def r_X7_mostCritical (g : Nat → Int32) (ch : Nat → Int32) (p : Int32) (N : Nat) : Int32 := if (r_X7_isPart p) = 0 then (-3) else (foldN (s_X7_mostCritical_18 g p N) N 0 ((-10), 0, ch)).1
def w_X7_mostCritical_2 (g : Nat → Int32) (ch : Nat → Int32) (p : Int32) (N : Nat) : Nat → Int32 := if (r_X7_isPart p) = 0 then ch else (foldN (s_X7_mostCritical_18 g p N) N 0 ((-10), 0, ch)).2.2
set_option maxRecDepth 20000 in
/-- X7_mostCritical -/
theorem c_X7_mostCritical (D : va_G) (q : Nat → Nat) (g : Nat → Int32) (ch : Nat → Int32) (p : Int32) (N : Nat) (h0 : g 0 = nI N) (hN : N ≤ 20) (hWs : ∀ ch : Nat → Int32, T_X7_spread_2 g ch N) (l : Launch) : Ct l yX7_mostCritical cX7_mostCritical 6 (some .int) (rmM 4 95 0 0) D [.ref (q 0), .int p] [(q 0, .inr (7, [.ref (q 1), .ref (q 2), .ref (q 3), .ref (q 4), .ref (q 5), .ref (q 6), .ref (q 7), .ref (q 8), .ref (q 9), .ref (q 10)])), (q 1, aI D 703 g), (q 4, aZ D 40 ch)] (QI1 D (r_X7_mostCritical g ch p N) [(q 0, .inr (7, [.ref (q 1), .ref (q 2), .ref (q 3), .ref (q 4), .ref (q 5), .ref (q 6), .ref (q 7), .ref (q 8), .ref (q 9), .ref (q 10)])), (q 1, aI D 703 g), (q 4, aZ D 40 (w_X7_mostCritical_2 g ch p N))]) := by
  refine Ct.ofV 4 (lv0 := [some (.ref (q 0)), some (.int p), none, none, none, none]) (by decide) rfl rfl (fun Z E F => ?_)
  refine v_iload_n E dX7_mostCritical_0 rfl ?_
  refine v_cS_i E dX7_mostCritical_1 (c_X7_isPart D p) cs_X7_87 rfl rfl rfl (Nat.le_of_ble_eq_true rfl) [] rfl rfl ⟨Nat.le_of_ble_eq_true rfl, Nat.le_of_ble_eq_true rfl⟩ ?_
  refine v_if_ne E 10 dX7_mostCritical_4 (by decide) (fun c_4 => ?_) (fun c_4 => ?_)
  · refine v_bipush E dX7_mostCritical_10 (v := -10) (by decide) ?_
    refine v_istore_n E dX7_mostCritical_12 rfl rfl ?_
    refine v_iconst E dX7_mostCritical_13 (v := 0) (by decide) ?_
    refine v_istore_n E dX7_mostCritical_14 rfl rfl ?_
    refine v_iconst E dX7_mostCritical_15 (v := 0) (by decide) ?_
    refine v_istore E dX7_mostCritical_16 rfl rfl ?_
    have L18 : ∀ (n i : Nat) (b1 : Int32) (m1 : Int32) (ch1 : Nat → Int32), i + n = N → V Z D 0 0 [(q 0, .inr (7, [.ref (q 1), .ref (q 2), .ref (q 3), .ref (q 4), .ref (q 5), .ref (q 6), .ref (q 7), .ref (q 8), .ref (q 9), .ref (q 10)])), (q 1, aI D 703 g), (q 4, aZ D 40 ((foldN (s_X7_mostCritical_18 g p N) n i (b1, m1, ch1)).2.2))] [some (.ref (q 0)), some (.int p), some (.int ((foldN (s_X7_mostCritical_18 g p N) n i (b1, m1, ch1)).1)), some (.int ((foldN (s_X7_mostCritical_18 g p N) n i (b1, m1, ch1)).2.1)), some (.int (nI N)), none] [] 63 → V Z D 0 0 [(q 0, .inr (7, [.ref (q 1), .ref (q 2), .ref (q 3), .ref (q 4), .ref (q 5), .ref (q 6), .ref (q 7), .ref (q 8), .ref (q 9), .ref (q 10)])), (q 1, aI D 703 g), (q 4, aZ D 40 ch1)] [some (.ref (q 0)), some (.int p), some (.int b1), some (.int m1), some (.int (nI i)), none] [] 18 := by
      intro n
      induction n with
      | zero =>
        intro i b1 m1 ch1 hi  K18
        have hiN : i = N := by omega
        rw [hiN]
        refine v_iload E dX7_mostCritical_18 rfl ?_
        refine v_aload_n E dX7_mostCritical_20 rfl ?_
        refine v_get E dX7_mostCritical_21 (ci := 7) rfl iwX7 0 rfl 0 rfl fl_X7_7 rfl ?_
        refine v_iconst E dX7_mostCritical_24 (v := 0) (by decide) ?_
        refine v_iald E dX7_mostCritical_25 1 rfl 0 (show (0 : Int32) = nI 0 by decide) (by omega) rfl ?_
        refine v_icmp_ge E 63 dX7_mostCritical_26 (by decide) (fun c_26 => ?_) (fun c_26 => ?_)
        · exact K18
        · exact absurd (leN (a := N) (b := N) h0 rfl (by omega) (by omega)) c_26
      | succ n ih =>
        intro i b1 m1 ch1 hi  K18
        refine v_iload E dX7_mostCritical_18 rfl ?_
        refine v_aload_n E dX7_mostCritical_20 rfl ?_
        refine v_get E dX7_mostCritical_21 (ci := 7) rfl iwX7 0 rfl 0 rfl fl_X7_7 rfl ?_
        refine v_iconst E dX7_mostCritical_24 (v := 0) (by decide) ?_
        refine v_iald E dX7_mostCritical_25 1 rfl 0 (show (0 : Int32) = nI 0 by decide) (by omega) rfl ?_
        refine v_icmp_ge E 63 dX7_mostCritical_26 (by decide) (fun c_26 => ?_) (fun c_26 => ?_)
        · exact absurd c_26 (nleN (a := N) (b := i) h0 rfl (by omega) (by omega))
        · refine v_aload_n E dX7_mostCritical_29 rfl ?_
          refine v_iconst E dX7_mostCritical_30 (v := 2) (by decide) ?_
          refine v_iload E dX7_mostCritical_31 rfl ?_
          refine v_imul E dX7_mostCritical_33 ?_
          refine v_iload_n E dX7_mostCritical_34 rfl ?_
          refine v_iadd E dX7_mostCritical_35 ?_
          refine v_cV_iU E dX7_mostCritical_36 (c_X7_impactOf D q g ch1 ((2 * (nI i)) + p) N h0 hN hWs) cs_X7_109 rfl rfl rfl (Nat.le_of_ble_eq_true rfl) 0 rfl rfl [0, 1, 2] rfl rfl ⟨Nat.le_of_ble_eq_true rfl, Nat.le_of_ble_eq_true rfl⟩ [q 0, q 1, q 4] rfl rfl ?_
          refine v_wd (wd2 := [(q 0, .inr (7, [.ref (q 1), .ref (q 2), .ref (q 3), .ref (q 4), .ref (q 5), .ref (q 6), .ref (q 7), .ref (q 8), .ref (q 9), .ref (q 10)])), (q 1, aI D 703 g), (q 4, aZ D 40 (w_X7_impactOf_2 g ch1 ((2 * (nI i)) + p) N))]) rfl ?_
          refine v_istore E dX7_mostCritical_39 rfl rfl ?_
          refine v_iload_n E dX7_mostCritical_41 rfl ?_
          refine v_if_lt E 51 dX7_mostCritical_42 (by decide) (fun c_42 => ?_) (fun c_42 => ?_)
          · refine v_iload E dX7_mostCritical_51 rfl ?_
            refine v_istore_n E dX7_mostCritical_53 rfl rfl ?_
            refine v_iload E dX7_mostCritical_54 rfl ?_
            refine v_istore_n E dX7_mostCritical_56 rfl rfl ?_
            refine v_iinc E dX7_mostCritical_57 (v := nI (i + 1)) rfl (inc1 _) rfl rfl ?_
            refine v_goto E 18 dX7_mostCritical_60 (by decide) ?_
            have hs : s_X7_mostCritical_18 g p N i (b1, m1, ch1) = (nI i, (r_X7_impactOf g ch1 ((2 * (nI i)) + p) N), (w_X7_impactOf_2 g ch1 ((2 * (nI i)) + p) N)) := by simp only [s_X7_mostCritical_18, if_pos c_42]
            rw [foldN_s (s_X7_mostCritical_18 g p N) n i (b1, m1, ch1), hs] at K18
            refine v_mask [true, true, true, true, true, false] rfl ?_
            exact ih (i + 1) (nI i) (r_X7_impactOf g ch1 ((2 * (nI i)) + p) N) (w_X7_impactOf_2 g ch1 ((2 * (nI i)) + p) N) (by omega) K18
          · refine v_iload E dX7_mostCritical_45 rfl ?_
            refine v_iload_n E dX7_mostCritical_47 rfl ?_
            refine v_icmp_le E 57 dX7_mostCritical_48 (by decide) (fun c_48 => ?_) (fun c_48 => ?_)
            · refine v_iinc E dX7_mostCritical_57 (v := nI (i + 1)) rfl (inc1 _) rfl rfl ?_
              refine v_goto E 18 dX7_mostCritical_60 (by decide) ?_
              have hs : s_X7_mostCritical_18 g p N i (b1, m1, ch1) = (b1, m1, (w_X7_impactOf_2 g ch1 ((2 * (nI i)) + p) N)) := by simp only [s_X7_mostCritical_18, if_neg c_42, if_pos c_48]
              rw [foldN_s (s_X7_mostCritical_18 g p N) n i (b1, m1, ch1), hs] at K18
              refine v_mask [true, true, true, true, true, false] rfl ?_
              exact ih (i + 1) b1 m1 (w_X7_impactOf_2 g ch1 ((2 * (nI i)) + p) N) (by omega) K18
            · refine v_iload E dX7_mostCritical_51 rfl ?_
              refine v_istore_n E dX7_mostCritical_53 rfl rfl ?_
              refine v_iload E dX7_mostCritical_54 rfl ?_
              refine v_istore_n E dX7_mostCritical_56 rfl rfl ?_
              refine v_iinc E dX7_mostCritical_57 (v := nI (i + 1)) rfl (inc1 _) rfl rfl ?_
              refine v_goto E 18 dX7_mostCritical_60 (by decide) ?_
              have hs : s_X7_mostCritical_18 g p N i (b1, m1, ch1) = (nI i, (r_X7_impactOf g ch1 ((2 * (nI i)) + p) N), (w_X7_impactOf_2 g ch1 ((2 * (nI i)) + p) N)) := by simp only [s_X7_mostCritical_18, if_neg c_42, if_neg c_48]
              rw [foldN_s (s_X7_mostCritical_18 g p N) n i (b1, m1, ch1), hs] at K18
              refine v_mask [true, true, true, true, true, false] rfl ?_
              exact ih (i + 1) (nI i) (r_X7_impactOf g ch1 ((2 * (nI i)) + p) N) (w_X7_impactOf_2 g ch1 ((2 * (nI i)) + p) N) (by omega) K18
    refine L18 N 0 (-10) 0 ch (by omega)  ?_
    refine v_iload_n E dX7_mostCritical_63 rfl ?_
    exact v_iret E F dX7_mostCritical_64 rfl rfl () (by simp only [r_X7_mostCritical, if_neg c_4]) (by simp only [w_X7_mostCritical_2, if_neg c_4] <;> rfl) (Nat.le_of_ble_eq_true rfl) (Nat.le_of_ble_eq_true rfl)
  · refine v_bipush E dX7_mostCritical_7 (v := -3) (by decide) ?_
    exact v_iret E F dX7_mostCritical_9 rfl rfl () (by simp only [r_X7_mostCritical, if_pos c_4]) (by simp only [w_X7_mostCritical_2, if_pos c_4] <;> rfl) (Nat.le_of_ble_eq_true rfl) (Nat.le_of_ble_eq_true rfl)

def r_X7_waits (g : Nat → Int32) (ka : Nat) (kb : Nat) : Int32 := if (r_X7_linkOf g ka kb) < 0 then 0 else if (r_X7_linkOf g ka kb) = 3 then 0 else 1
set_option maxRecDepth 20000 in
/-- X7_waits -/
theorem c_X7_waits (D : va_G) (q : Nat → Nat) (g : Nat → Int32) (a : Int32) (b : Int32) (ka : Nat) (kb : Nat) (ha : a = nI ka) (hb : b = nI kb) (hka : ka < 20) (hkb : kb < 20) (l : Launch) : Ct l yX7_waits cX7_waits 3 (some .boolean) (rmM 1 22 0 0) D [.ref (q 0), .int a, .int b] [(q 0, .inr (7, [.ref (q 1), .ref (q 2), .ref (q 3), .ref (q 4), .ref (q 5), .ref (q 6), .ref (q 7), .ref (q 8), .ref (q 9), .ref (q 10)])), (q 1, aI D 703 g)] (QI1 D (r_X7_waits g ka kb) [(q 0, .inr (7, [.ref (q 1), .ref (q 2), .ref (q 3), .ref (q 4), .ref (q 5), .ref (q 6), .ref (q 7), .ref (q 8), .ref (q 9), .ref (q 10)])), (q 1, aI D 703 g)]) := by
  refine Ct.ofV 0 (lv0 := [some (.ref (q 0)), some (.int a), some (.int b)]) (by decide) rfl rfl (fun Z E F => ?_)
  refine v_aload_n E dX7_waits_0 rfl ?_
  refine v_iload_n E dX7_waits_1 rfl ?_
  refine v_iload_n E dX7_waits_2 rfl ?_
  refine v_cV_i E dX7_waits_3 (c_X7_linkOf D q g a b ka kb ha hb (by omega) (by omega)) cs_X7_53 rfl rfl rfl (Nat.le_of_ble_eq_true rfl) 0 rfl rfl [0, 1] rfl rfl ⟨Nat.le_of_ble_eq_true rfl, Nat.le_of_ble_eq_true rfl⟩ ?_
  refine v_if_lt E 23 dX7_waits_6 (by decide) (fun c_6 => ?_) (fun c_6 => ?_)
  · refine v_iconst E dX7_waits_23 (v := 0) (by decide) ?_
    exact v_iret E F dX7_waits_24 rfl rfl () (by simp only [r_X7_waits, if_pos c_6]) rfl (Nat.le_of_ble_eq_true rfl) (Nat.le_of_ble_eq_true rfl)
  · refine v_aload_n E dX7_waits_9 rfl ?_
    refine v_iload_n E dX7_waits_10 rfl ?_
    refine v_iload_n E dX7_waits_11 rfl ?_
    refine v_cV_i E dX7_waits_12 (c_X7_linkOf D q g a b ka kb ha hb (by omega) (by omega)) cs_X7_53 rfl rfl rfl (Nat.le_of_ble_eq_true rfl) 0 rfl rfl [0, 1] rfl rfl ⟨Nat.le_of_ble_eq_true rfl, Nat.le_of_ble_eq_true rfl⟩ ?_
    refine v_iconst E dX7_waits_15 (v := 3) (by decide) ?_
    refine v_icmp_eq E 23 dX7_waits_16 (by decide) (fun c_16 => ?_) (fun c_16 => ?_)
    · refine v_iconst E dX7_waits_23 (v := 0) (by decide) ?_
      exact v_iret E F dX7_waits_24 rfl rfl () (by simp only [r_X7_waits, if_neg c_6, if_pos c_16]) rfl (Nat.le_of_ble_eq_true rfl) (Nat.le_of_ble_eq_true rfl)
    · refine v_iconst E dX7_waits_19 (v := 1) (by decide) ?_
      refine v_goto E 24 dX7_waits_20 (by decide) ?_
      exact v_iret E F dX7_waits_24 rfl rfl () (by simp only [r_X7_waits, if_neg c_6, if_neg c_16]) rfl (Nat.le_of_ble_eq_true rfl) (Nat.le_of_ble_eq_true rfl)
theorem nz_X7_waits (g : Nat → Int32) (ka : Nat) (kb : Nat) : narrow .boolean (.int (r_X7_waits g ka kb)) = .int (r_X7_waits g ka kb) := by
  unfold r_X7_waits
  repeat' split
  all_goals first | rfl 

def r_X7_addDependency (g : Nat → Int32) (a : Int32) (b : Int32) (kd : Int32) (N : Nat) : Int32 := if (r_X7_isTarget g a) = 0 then (-1) else if (r_X7_isTarget g b) = 0 then (-1) else if a = b then (-4) else if (r_X7_in kd 0 3) = 0 then (-3) else if (r_X7_kindOf g b.toNatClampNeg) = 2 then (-5) else if kd = 2 then (if (r_X7_kindOf g b.toNatClampNeg) = 1 then (if kd = 3 then (if (r_X7_kindOf g a.toNatClampNeg) = 2 then (if (r_X7_linkOf g a.toNatClampNeg b.toNatClampNeg) < 0 then (if (((r_X7_reachOf g b (-10) N) >>> (a &&& 31)) &&& 1) = 1 then (-7) else if (g 1) = 60 then (-8) else (upd (upd g ((43 + (20 * a.toNatClampNeg)) + b.toNatClampNeg) (kd + 1)) 1 (((upd g ((43 + (20 * a.toNatClampNeg)) + b.toNatClampNeg) (kd + 1)) 1) + 1)) 1) else (-6)) else (-5)) else if (r_X7_linkOf g a.toNatClampNeg b.toNatClampNeg) < 0 then (if (((r_X7_reachOf g b (-10) N) >>> (a &&& 31)) &&& 1) = 1 then (-7) else if (g 1) = 60 then (-8) else (upd (upd g ((43 + (20 * a.toNatClampNeg)) + b.toNatClampNeg) (kd + 1)) 1 (((upd g ((43 + (20 * a.toNatClampNeg)) + b.toNatClampNeg) (kd + 1)) 1) + 1)) 1) else (-6)) else (-5)) else if kd = 3 then (if (r_X7_kindOf g a.toNatClampNeg) = 2 then (if (r_X7_linkOf g a.toNatClampNeg b.toNatClampNeg) < 0 then (if (((r_X7_reachOf g b (-10) N) >>> (a &&& 31)) &&& 1) = 1 then (-7) else if (g 1) = 60 then (-8) else (upd (upd g ((43 + (20 * a.toNatClampNeg)) + b.toNatClampNeg) (kd + 1)) 1 (((upd g ((43 + (20 * a.toNatClampNeg)) + b.toNatClampNeg) (kd + 1)) 1) + 1)) 1) else (-6)) else (-5)) else if (r_X7_linkOf g a.toNatClampNeg b.toNatClampNeg) < 0 then (if (((r_X7_reachOf g b (-10) N) >>> (a &&& 31)) &&& 1) = 1 then (-7) else if (g 1) = 60 then (-8) else (upd (upd g ((43 + (20 * a.toNatClampNeg)) + b.toNatClampNeg) (kd + 1)) 1 (((upd g ((43 + (20 * a.toNatClampNeg)) + b.toNatClampNeg) (kd + 1)) 1) + 1)) 1) else (-6)
def w_X7_addDependency_1 (g : Nat → Int32) (a : Int32) (b : Int32) (kd : Int32) (N : Nat) : Nat → Int32 := if (r_X7_isTarget g a) = 0 then g else if (r_X7_isTarget g b) = 0 then g else if a = b then g else if (r_X7_in kd 0 3) = 0 then g else if (r_X7_kindOf g b.toNatClampNeg) = 2 then g else if kd = 2 then (if (r_X7_kindOf g b.toNatClampNeg) = 1 then (if kd = 3 then (if (r_X7_kindOf g a.toNatClampNeg) = 2 then (if (r_X7_linkOf g a.toNatClampNeg b.toNatClampNeg) < 0 then (if (((r_X7_reachOf g b (-10) N) >>> (a &&& 31)) &&& 1) = 1 then g else if (g 1) = 60 then g else upd (upd g ((43 + (20 * a.toNatClampNeg)) + b.toNatClampNeg) (kd + 1)) 1 (((upd g ((43 + (20 * a.toNatClampNeg)) + b.toNatClampNeg) (kd + 1)) 1) + 1)) else g) else g) else if (r_X7_linkOf g a.toNatClampNeg b.toNatClampNeg) < 0 then (if (((r_X7_reachOf g b (-10) N) >>> (a &&& 31)) &&& 1) = 1 then g else if (g 1) = 60 then g else upd (upd g ((43 + (20 * a.toNatClampNeg)) + b.toNatClampNeg) (kd + 1)) 1 (((upd g ((43 + (20 * a.toNatClampNeg)) + b.toNatClampNeg) (kd + 1)) 1) + 1)) else g) else g) else if kd = 3 then (if (r_X7_kindOf g a.toNatClampNeg) = 2 then (if (r_X7_linkOf g a.toNatClampNeg b.toNatClampNeg) < 0 then (if (((r_X7_reachOf g b (-10) N) >>> (a &&& 31)) &&& 1) = 1 then g else if (g 1) = 60 then g else upd (upd g ((43 + (20 * a.toNatClampNeg)) + b.toNatClampNeg) (kd + 1)) 1 (((upd g ((43 + (20 * a.toNatClampNeg)) + b.toNatClampNeg) (kd + 1)) 1) + 1)) else g) else g) else if (r_X7_linkOf g a.toNatClampNeg b.toNatClampNeg) < 0 then (if (((r_X7_reachOf g b (-10) N) >>> (a &&& 31)) &&& 1) = 1 then g else if (g 1) = 60 then g else upd (upd g ((43 + (20 * a.toNatClampNeg)) + b.toNatClampNeg) (kd + 1)) 1 (((upd g ((43 + (20 * a.toNatClampNeg)) + b.toNatClampNeg) (kd + 1)) 1) + 1)) else g
set_option maxRecDepth 20000 in
/-- X7_addDependency -/
theorem c_X7_addDependency (D : va_G) (q : Nat → Nat) (g : Nat → Int32) (a : Int32) (b : Int32) (kd : Int32) (N : Nat) (h0 : g 0 = nI N) (hN : N ≤ 20) (hWr : ∀ t wo : Int32, T_X7_reachOf_7 g t wo N) (l : Launch) : Ct l yX7_addDependency cX7_addDependency 4 (some .int) (rmM 2 49 0 0) D [.ref (q 0), .int a, .int b, .int kd] [(q 0, .inr (7, [.ref (q 1), .ref (q 2), .ref (q 3), .ref (q 4), .ref (q 5), .ref (q 6), .ref (q 7), .ref (q 8), .ref (q 9), .ref (q 10)])), (q 1, aI D 703 g)] (QI1 D (r_X7_addDependency g a b kd N) [(q 0, .inr (7, [.ref (q 1), .ref (q 2), .ref (q 3), .ref (q 4), .ref (q 5), .ref (q 6), .ref (q 7), .ref (q 8), .ref (q 9), .ref (q 10)])), (q 1, aI D 703 (w_X7_addDependency_1 g a b kd N))]) := by
  refine Ct.ofV 0 (lv0 := [some (.ref (q 0)), some (.int a), some (.int b), some (.int kd)]) (by decide) rfl rfl (fun Z E F => ?_)
  refine v_aload_n E dX7_addDependency_0 rfl ?_
  refine v_iload_n E dX7_addDependency_1 rfl ?_
  refine v_cV_i E dX7_addDependency_2 (c_X7_isTarget D q g a) cs_X7_57 rfl rfl rfl (Nat.le_of_ble_eq_true rfl) 0 rfl rfl [0, 1] rfl rfl ⟨Nat.le_of_ble_eq_true rfl, Nat.le_of_ble_eq_true rfl⟩ ?_
  refine v_if_eq E 16 dX7_addDependency_5 (by decide) (fun c_5 => ?_) (fun c_5 => ?_)
  · refine v_iconst E dX7_addDependency_16 (v := -1) (by decide) ?_
    exact v_iret E F dX7_addDependency_17 rfl rfl () (by simp only [r_X7_addDependency, if_pos c_5]) (by simp only [w_X7_addDependency_1, if_pos c_5] <;> rfl) (Nat.le_of_ble_eq_true rfl) (Nat.le_of_ble_eq_true rfl)
  · refine v_aload_n E dX7_addDependency_8 rfl ?_
    refine v_iload_n E dX7_addDependency_9 rfl ?_
    refine v_cV_i E dX7_addDependency_10 (c_X7_isTarget D q g b) cs_X7_57 rfl rfl rfl (Nat.le_of_ble_eq_true rfl) 0 rfl rfl [0, 1] rfl rfl ⟨Nat.le_of_ble_eq_true rfl, Nat.le_of_ble_eq_true rfl⟩ ?_
    refine v_if_ne E 18 dX7_addDependency_13 (by decide) (fun c_13 => ?_) (fun c_13 => ?_)
    · obtain ⟨ha1, ha2⟩ := isT_use h0 hN c_5
      obtain ⟨hb1, hb2⟩ := isT_use h0 hN c_13
      refine v_iload_n E dX7_addDependency_18 rfl ?_
      refine v_iload_n E dX7_addDependency_19 rfl ?_
      refine v_icmp_ne E 26 dX7_addDependency_20 (by decide) (fun c_20 => ?_) (fun c_20 => ?_)
      · refine v_iload_n E dX7_addDependency_26 rfl ?_
        refine v_iconst E dX7_addDependency_27 (v := 0) (by decide) ?_
        refine v_iconst E dX7_addDependency_28 (v := 3) (by decide) ?_
        refine v_cS_i E dX7_addDependency_29 (c_X7_in D kd 0 3) cs_X7_41 rfl rfl rfl (Nat.le_of_ble_eq_true rfl) [] rfl rfl ⟨Nat.le_of_ble_eq_true rfl, Nat.le_of_ble_eq_true rfl⟩ ?_
        refine v_if_ne E 38 dX7_addDependency_32 (by decide) (fun c_32 => ?_) (fun c_32 => ?_)
        · refine v_aload_n E dX7_addDependency_38 rfl ?_
          refine v_iload_n E dX7_addDependency_39 rfl ?_
          refine v_cV_i E dX7_addDependency_40 (c_X7_kindOf D q g b b.toNatClampNeg hb1 (by omega)) cs_X7_45 rfl rfl rfl (Nat.le_of_ble_eq_true rfl) 0 rfl rfl [0, 1] rfl rfl ⟨Nat.le_of_ble_eq_true rfl, Nat.le_of_ble_eq_true rfl⟩ ?_
          refine v_iconst E dX7_addDependency_43 (v := 2) (by decide) ?_
          refine v_icmp_eq E 75 dX7_addDependency_44 (by decide) (fun c_44 => ?_) (fun c_44 => ?_)
          · refine v_bipush E dX7_addDependency_75 (v := -5) (by decide) ?_
            exact v_iret E F dX7_addDependency_77 rfl rfl () (by simp only [r_X7_addDependency, if_neg c_5, if_neg c_13, if_neg c_20, if_neg c_32, if_pos c_44]) (by simp only [w_X7_addDependency_1, if_neg c_5, if_neg c_13, if_neg c_20, if_neg c_32, if_pos c_44] <;> rfl) (Nat.le_of_ble_eq_true rfl) (Nat.le_of_ble_eq_true rfl)
          · refine v_iload_n E dX7_addDependency_47 rfl ?_
            refine v_iconst E dX7_addDependency_48 (v := 2) (by decide) ?_
            refine v_icmp_ne E 61 dX7_addDependency_49 (by decide) (fun c_49 => ?_) (fun c_49 => ?_)
            · refine v_iload_n E dX7_addDependency_61 rfl ?_
              refine v_iconst E dX7_addDependency_62 (v := 3) (by decide) ?_
              refine v_icmp_ne E 78 dX7_addDependency_63 (by decide) (fun c_63 => ?_) (fun c_63 => ?_)
              · refine v_aload_n E dX7_addDependency_78 rfl ?_
                refine v_iload_n E dX7_addDependency_79 rfl ?_
                refine v_iload_n E dX7_addDependency_80 rfl ?_
                refine v_cV_i E dX7_addDependency_81 (c_X7_linkOf D q g a b a.toNatClampNeg b.toNatClampNeg ha1 hb1 (by omega) (by omega)) cs_X7_53 rfl rfl rfl (Nat.le_of_ble_eq_true rfl) 0 rfl rfl [0, 1] rfl rfl ⟨Nat.le_of_ble_eq_true rfl, Nat.le_of_ble_eq_true rfl⟩ ?_
                refine v_if_lt E 90 dX7_addDependency_84 (by decide) (fun c_84 => ?_) (fun c_84 => ?_)
                · refine v_aload_n E dX7_addDependency_90 rfl ?_
                  refine v_iload_n E dX7_addDependency_91 rfl ?_
                  refine v_bipush E dX7_addDependency_92 (v := -10) (by decide) ?_
                  refine v_cV_i E dX7_addDependency_94 (c_X7_reachOf D q g b (-10) N h0 hN (hWr _ _)) cs_X7_61 rfl rfl rfl (Nat.le_of_ble_eq_true rfl) 0 rfl rfl [0, 1] rfl rfl ⟨Nat.le_of_ble_eq_true rfl, Nat.le_of_ble_eq_true rfl⟩ ?_
                  refine v_iload_n E dX7_addDependency_97 rfl ?_
                  refine v_ishr E dX7_addDependency_98 ?_
                  refine v_iconst E dX7_addDependency_99 (v := 1) (by decide) ?_
                  refine v_iand E dX7_addDependency_100 ?_
                  refine v_iconst E dX7_addDependency_101 (v := 1) (by decide) ?_
                  refine v_icmp_ne E 108 dX7_addDependency_102 (by decide) (fun c_102 => ?_) (fun c_102 => ?_)
                  · refine v_aload_n E dX7_addDependency_108 rfl ?_
                    refine v_get E dX7_addDependency_109 (ci := 7) rfl iwX7 0 rfl 0 rfl fl_X7_7 rfl ?_
                    refine v_iconst E dX7_addDependency_112 (v := 1) (by decide) ?_
                    refine v_iald E dX7_addDependency_113 1 rfl 1 (show (1 : Int32) = nI 1 by decide) (by omega) rfl ?_
                    refine v_bipush E dX7_addDependency_114 (v := 60) (by decide) ?_
                    refine v_icmp_ne E 122 dX7_addDependency_116 (by decide) (fun c_116 => ?_) (fun c_116 => ?_)
                    · refine v_aload_n E dX7_addDependency_122 rfl ?_
                      refine v_get E dX7_addDependency_123 (ci := 7) rfl iwX7 0 rfl 0 rfl fl_X7_7 rfl ?_
                      refine v_bipush E dX7_addDependency_126 (v := 43) (by decide) ?_
                      refine v_bipush E dX7_addDependency_128 (v := 20) (by decide) ?_
                      refine v_iload_n E dX7_addDependency_130 rfl ?_
                      refine v_imul E dX7_addDependency_131 ?_
                      refine v_iadd E dX7_addDependency_132 ?_
                      refine v_iload_n E dX7_addDependency_133 rfl ?_
                      refine v_iadd E dX7_addDependency_134 ?_
                      refine v_iload_n E dX7_addDependency_135 rfl ?_
                      refine v_iconst E dX7_addDependency_136 (v := 1) (by decide) ?_
                      refine v_iadd E dX7_addDependency_137 ?_
                      refine v_iast E dX7_addDependency_138 1 rfl ((43 + (20 * a.toNatClampNeg)) + b.toNatClampNeg) (hadd (hadd (show (43 : Int32) = nI 43 by decide) (hmul (show (20 : Int32) = nI 20 by decide) ha1)) hb1) (by omega) rfl ?_
                      refine v_wd (wd2 := [(q 0, .inr (7, [.ref (q 1), .ref (q 2), .ref (q 3), .ref (q 4), .ref (q 5), .ref (q 6), .ref (q 7), .ref (q 8), .ref (q 9), .ref (q 10)])), (q 1, aI D 703 (upd g ((43 + (20 * a.toNatClampNeg)) + b.toNatClampNeg) (kd + 1)))]) rfl ?_
                      refine v_aload_n E dX7_addDependency_139 rfl ?_
                      refine v_get E dX7_addDependency_140 (ci := 7) rfl iwX7 0 rfl 0 rfl fl_X7_7 rfl ?_
                      refine v_iconst E dX7_addDependency_143 (v := 1) (by decide) ?_
                      refine v_dup2 E dX7_addDependency_144 rfl rfl ?_
                      refine v_iald E dX7_addDependency_145 1 rfl 1 (show (1 : Int32) = nI 1 by decide) (by omega) rfl ?_
                      refine v_iconst E dX7_addDependency_146 (v := 1) (by decide) ?_
                      refine v_iadd E dX7_addDependency_147 ?_
                      refine v_iast E dX7_addDependency_148 1 rfl 1 (show (1 : Int32) = nI 1 by decide) (by omega) rfl ?_
                      refine v_wd (wd2 := [(q 0, .inr (7, [.ref (q 1), .ref (q 2), .ref (q 3), .ref (q 4), .ref (q 5), .ref (q 6), .ref (q 7), .ref (q 8), .ref (q 9), .ref (q 10)])), (q 1, aI D 703 (upd (upd g ((43 + (20 * a.toNatClampNeg)) + b.toNatClampNeg) (kd + 1)) 1 (((upd g ((43 + (20 * a.toNatClampNeg)) + b.toNatClampNeg) (kd + 1)) 1) + 1)))]) rfl ?_
                      refine v_aload_n E dX7_addDependency_149 rfl ?_
                      refine v_get E dX7_addDependency_150 (ci := 7) rfl iwX7 0 rfl 0 rfl fl_X7_7 rfl ?_
                      refine v_iconst E dX7_addDependency_153 (v := 1) (by decide) ?_
                      refine v_iald E dX7_addDependency_154 1 rfl 1 (show (1 : Int32) = nI 1 by decide) (by omega) rfl ?_
                      exact v_iret E F dX7_addDependency_155 rfl rfl () (by simp only [r_X7_addDependency, if_neg c_5, if_neg c_13, if_neg c_20, if_neg c_32, if_neg c_44, if_neg c_49, if_neg c_63, if_pos c_84, if_neg c_102, if_neg c_116]) (by simp only [w_X7_addDependency_1, if_neg c_5, if_neg c_13, if_neg c_20, if_neg c_32, if_neg c_44, if_neg c_49, if_neg c_63, if_pos c_84, if_neg c_102, if_neg c_116] <;> rfl) (Nat.le_of_ble_eq_true rfl) (Nat.le_of_ble_eq_true rfl)
                    · refine v_bipush E dX7_addDependency_119 (v := -8) (by decide) ?_
                      exact v_iret E F dX7_addDependency_121 rfl rfl () (by simp only [r_X7_addDependency, if_neg c_5, if_neg c_13, if_neg c_20, if_neg c_32, if_neg c_44, if_neg c_49, if_neg c_63, if_pos c_84, if_neg c_102, if_pos c_116]) (by simp only [w_X7_addDependency_1, if_neg c_5, if_neg c_13, if_neg c_20, if_neg c_32, if_neg c_44, if_neg c_49, if_neg c_63, if_pos c_84, if_neg c_102, if_pos c_116] <;> rfl) (Nat.le_of_ble_eq_true rfl) (Nat.le_of_ble_eq_true rfl)
                  · refine v_bipush E dX7_addDependency_105 (v := -7) (by decide) ?_
                    exact v_iret E F dX7_addDependency_107 rfl rfl () (by simp only [r_X7_addDependency, if_neg c_5, if_neg c_13, if_neg c_20, if_neg c_32, if_neg c_44, if_neg c_49, if_neg c_63, if_pos c_84, if_pos c_102]) (by simp only [w_X7_addDependency_1, if_neg c_5, if_neg c_13, if_neg c_20, if_neg c_32, if_neg c_44, if_neg c_49, if_neg c_63, if_pos c_84, if_pos c_102] <;> rfl) (Nat.le_of_ble_eq_true rfl) (Nat.le_of_ble_eq_true rfl)
                · refine v_bipush E dX7_addDependency_87 (v := -6) (by decide) ?_
                  exact v_iret E F dX7_addDependency_89 rfl rfl () (by simp only [r_X7_addDependency, if_neg c_5, if_neg c_13, if_neg c_20, if_neg c_32, if_neg c_44, if_neg c_49, if_neg c_63, if_neg c_84]) (by simp only [w_X7_addDependency_1, if_neg c_5, if_neg c_13, if_neg c_20, if_neg c_32, if_neg c_44, if_neg c_49, if_neg c_63, if_neg c_84] <;> rfl) (Nat.le_of_ble_eq_true rfl) (Nat.le_of_ble_eq_true rfl)
              · refine v_aload_n E dX7_addDependency_66 rfl ?_
                refine v_iload_n E dX7_addDependency_67 rfl ?_
                refine v_cV_i E dX7_addDependency_68 (c_X7_kindOf D q g a a.toNatClampNeg ha1 (by omega)) cs_X7_45 rfl rfl rfl (Nat.le_of_ble_eq_true rfl) 0 rfl rfl [0, 1] rfl rfl ⟨Nat.le_of_ble_eq_true rfl, Nat.le_of_ble_eq_true rfl⟩ ?_
                refine v_iconst E dX7_addDependency_71 (v := 2) (by decide) ?_
                refine v_icmp_eq E 78 dX7_addDependency_72 (by decide) (fun c_72 => ?_) (fun c_72 => ?_)
                · refine v_aload_n E dX7_addDependency_78 rfl ?_
                  refine v_iload_n E dX7_addDependency_79 rfl ?_
                  refine v_iload_n E dX7_addDependency_80 rfl ?_
                  refine v_cV_i E dX7_addDependency_81 (c_X7_linkOf D q g a b a.toNatClampNeg b.toNatClampNeg ha1 hb1 (by omega) (by omega)) cs_X7_53 rfl rfl rfl (Nat.le_of_ble_eq_true rfl) 0 rfl rfl [0, 1] rfl rfl ⟨Nat.le_of_ble_eq_true rfl, Nat.le_of_ble_eq_true rfl⟩ ?_
                  refine v_if_lt E 90 dX7_addDependency_84 (by decide) (fun c_84 => ?_) (fun c_84 => ?_)
                  · refine v_aload_n E dX7_addDependency_90 rfl ?_
                    refine v_iload_n E dX7_addDependency_91 rfl ?_
                    refine v_bipush E dX7_addDependency_92 (v := -10) (by decide) ?_
                    refine v_cV_i E dX7_addDependency_94 (c_X7_reachOf D q g b (-10) N h0 hN (hWr _ _)) cs_X7_61 rfl rfl rfl (Nat.le_of_ble_eq_true rfl) 0 rfl rfl [0, 1] rfl rfl ⟨Nat.le_of_ble_eq_true rfl, Nat.le_of_ble_eq_true rfl⟩ ?_
                    refine v_iload_n E dX7_addDependency_97 rfl ?_
                    refine v_ishr E dX7_addDependency_98 ?_
                    refine v_iconst E dX7_addDependency_99 (v := 1) (by decide) ?_
                    refine v_iand E dX7_addDependency_100 ?_
                    refine v_iconst E dX7_addDependency_101 (v := 1) (by decide) ?_
                    refine v_icmp_ne E 108 dX7_addDependency_102 (by decide) (fun c_102 => ?_) (fun c_102 => ?_)
                    · refine v_aload_n E dX7_addDependency_108 rfl ?_
                      refine v_get E dX7_addDependency_109 (ci := 7) rfl iwX7 0 rfl 0 rfl fl_X7_7 rfl ?_
                      refine v_iconst E dX7_addDependency_112 (v := 1) (by decide) ?_
                      refine v_iald E dX7_addDependency_113 1 rfl 1 (show (1 : Int32) = nI 1 by decide) (by omega) rfl ?_
                      refine v_bipush E dX7_addDependency_114 (v := 60) (by decide) ?_
                      refine v_icmp_ne E 122 dX7_addDependency_116 (by decide) (fun c_116 => ?_) (fun c_116 => ?_)
                      · refine v_aload_n E dX7_addDependency_122 rfl ?_
                        refine v_get E dX7_addDependency_123 (ci := 7) rfl iwX7 0 rfl 0 rfl fl_X7_7 rfl ?_
                        refine v_bipush E dX7_addDependency_126 (v := 43) (by decide) ?_
                        refine v_bipush E dX7_addDependency_128 (v := 20) (by decide) ?_
                        refine v_iload_n E dX7_addDependency_130 rfl ?_
                        refine v_imul E dX7_addDependency_131 ?_
                        refine v_iadd E dX7_addDependency_132 ?_
                        refine v_iload_n E dX7_addDependency_133 rfl ?_
                        refine v_iadd E dX7_addDependency_134 ?_
                        refine v_iload_n E dX7_addDependency_135 rfl ?_
                        refine v_iconst E dX7_addDependency_136 (v := 1) (by decide) ?_
                        refine v_iadd E dX7_addDependency_137 ?_
                        refine v_iast E dX7_addDependency_138 1 rfl ((43 + (20 * a.toNatClampNeg)) + b.toNatClampNeg) (hadd (hadd (show (43 : Int32) = nI 43 by decide) (hmul (show (20 : Int32) = nI 20 by decide) ha1)) hb1) (by omega) rfl ?_
                        refine v_wd (wd2 := [(q 0, .inr (7, [.ref (q 1), .ref (q 2), .ref (q 3), .ref (q 4), .ref (q 5), .ref (q 6), .ref (q 7), .ref (q 8), .ref (q 9), .ref (q 10)])), (q 1, aI D 703 (upd g ((43 + (20 * a.toNatClampNeg)) + b.toNatClampNeg) (kd + 1)))]) rfl ?_
                        refine v_aload_n E dX7_addDependency_139 rfl ?_
                        refine v_get E dX7_addDependency_140 (ci := 7) rfl iwX7 0 rfl 0 rfl fl_X7_7 rfl ?_
                        refine v_iconst E dX7_addDependency_143 (v := 1) (by decide) ?_
                        refine v_dup2 E dX7_addDependency_144 rfl rfl ?_
                        refine v_iald E dX7_addDependency_145 1 rfl 1 (show (1 : Int32) = nI 1 by decide) (by omega) rfl ?_
                        refine v_iconst E dX7_addDependency_146 (v := 1) (by decide) ?_
                        refine v_iadd E dX7_addDependency_147 ?_
                        refine v_iast E dX7_addDependency_148 1 rfl 1 (show (1 : Int32) = nI 1 by decide) (by omega) rfl ?_
                        refine v_wd (wd2 := [(q 0, .inr (7, [.ref (q 1), .ref (q 2), .ref (q 3), .ref (q 4), .ref (q 5), .ref (q 6), .ref (q 7), .ref (q 8), .ref (q 9), .ref (q 10)])), (q 1, aI D 703 (upd (upd g ((43 + (20 * a.toNatClampNeg)) + b.toNatClampNeg) (kd + 1)) 1 (((upd g ((43 + (20 * a.toNatClampNeg)) + b.toNatClampNeg) (kd + 1)) 1) + 1)))]) rfl ?_
                        refine v_aload_n E dX7_addDependency_149 rfl ?_
                        refine v_get E dX7_addDependency_150 (ci := 7) rfl iwX7 0 rfl 0 rfl fl_X7_7 rfl ?_
                        refine v_iconst E dX7_addDependency_153 (v := 1) (by decide) ?_
                        refine v_iald E dX7_addDependency_154 1 rfl 1 (show (1 : Int32) = nI 1 by decide) (by omega) rfl ?_
                        exact v_iret E F dX7_addDependency_155 rfl rfl () (by simp only [r_X7_addDependency, if_neg c_5, if_neg c_13, if_neg c_20, if_neg c_32, if_neg c_44, if_neg c_49, if_pos c_63, if_pos c_72, if_pos c_84, if_neg c_102, if_neg c_116]) (by simp only [w_X7_addDependency_1, if_neg c_5, if_neg c_13, if_neg c_20, if_neg c_32, if_neg c_44, if_neg c_49, if_pos c_63, if_pos c_72, if_pos c_84, if_neg c_102, if_neg c_116] <;> rfl) (Nat.le_of_ble_eq_true rfl) (Nat.le_of_ble_eq_true rfl)
                      · refine v_bipush E dX7_addDependency_119 (v := -8) (by decide) ?_
                        exact v_iret E F dX7_addDependency_121 rfl rfl () (by simp only [r_X7_addDependency, if_neg c_5, if_neg c_13, if_neg c_20, if_neg c_32, if_neg c_44, if_neg c_49, if_pos c_63, if_pos c_72, if_pos c_84, if_neg c_102, if_pos c_116]) (by simp only [w_X7_addDependency_1, if_neg c_5, if_neg c_13, if_neg c_20, if_neg c_32, if_neg c_44, if_neg c_49, if_pos c_63, if_pos c_72, if_pos c_84, if_neg c_102, if_pos c_116] <;> rfl) (Nat.le_of_ble_eq_true rfl) (Nat.le_of_ble_eq_true rfl)
                    · refine v_bipush E dX7_addDependency_105 (v := -7) (by decide) ?_
                      exact v_iret E F dX7_addDependency_107 rfl rfl () (by simp only [r_X7_addDependency, if_neg c_5, if_neg c_13, if_neg c_20, if_neg c_32, if_neg c_44, if_neg c_49, if_pos c_63, if_pos c_72, if_pos c_84, if_pos c_102]) (by simp only [w_X7_addDependency_1, if_neg c_5, if_neg c_13, if_neg c_20, if_neg c_32, if_neg c_44, if_neg c_49, if_pos c_63, if_pos c_72, if_pos c_84, if_pos c_102] <;> rfl) (Nat.le_of_ble_eq_true rfl) (Nat.le_of_ble_eq_true rfl)
                  · refine v_bipush E dX7_addDependency_87 (v := -6) (by decide) ?_
                    exact v_iret E F dX7_addDependency_89 rfl rfl () (by simp only [r_X7_addDependency, if_neg c_5, if_neg c_13, if_neg c_20, if_neg c_32, if_neg c_44, if_neg c_49, if_pos c_63, if_pos c_72, if_neg c_84]) (by simp only [w_X7_addDependency_1, if_neg c_5, if_neg c_13, if_neg c_20, if_neg c_32, if_neg c_44, if_neg c_49, if_pos c_63, if_pos c_72, if_neg c_84] <;> rfl) (Nat.le_of_ble_eq_true rfl) (Nat.le_of_ble_eq_true rfl)
                · refine v_bipush E dX7_addDependency_75 (v := -5) (by decide) ?_
                  exact v_iret E F dX7_addDependency_77 rfl rfl () (by simp only [r_X7_addDependency, if_neg c_5, if_neg c_13, if_neg c_20, if_neg c_32, if_neg c_44, if_neg c_49, if_pos c_63, if_neg c_72]) (by simp only [w_X7_addDependency_1, if_neg c_5, if_neg c_13, if_neg c_20, if_neg c_32, if_neg c_44, if_neg c_49, if_pos c_63, if_neg c_72] <;> rfl) (Nat.le_of_ble_eq_true rfl) (Nat.le_of_ble_eq_true rfl)
            · refine v_aload_n E dX7_addDependency_52 rfl ?_
              refine v_iload_n E dX7_addDependency_53 rfl ?_
              refine v_cV_i E dX7_addDependency_54 (c_X7_kindOf D q g b b.toNatClampNeg hb1 (by omega)) cs_X7_45 rfl rfl rfl (Nat.le_of_ble_eq_true rfl) 0 rfl rfl [0, 1] rfl rfl ⟨Nat.le_of_ble_eq_true rfl, Nat.le_of_ble_eq_true rfl⟩ ?_
              refine v_iconst E dX7_addDependency_57 (v := 1) (by decide) ?_
              refine v_icmp_ne E 75 dX7_addDependency_58 (by decide) (fun c_58 => ?_) (fun c_58 => ?_)
              · refine v_bipush E dX7_addDependency_75 (v := -5) (by decide) ?_
                exact v_iret E F dX7_addDependency_77 rfl rfl () (by simp only [r_X7_addDependency, if_neg c_5, if_neg c_13, if_neg c_20, if_neg c_32, if_neg c_44, if_pos c_49, if_neg c_58]) (by simp only [w_X7_addDependency_1, if_neg c_5, if_neg c_13, if_neg c_20, if_neg c_32, if_neg c_44, if_pos c_49, if_neg c_58] <;> rfl) (Nat.le_of_ble_eq_true rfl) (Nat.le_of_ble_eq_true rfl)
              · refine v_iload_n E dX7_addDependency_61 rfl ?_
                refine v_iconst E dX7_addDependency_62 (v := 3) (by decide) ?_
                refine v_icmp_ne E 78 dX7_addDependency_63 (by decide) (fun c_63 => ?_) (fun c_63 => ?_)
                · refine v_aload_n E dX7_addDependency_78 rfl ?_
                  refine v_iload_n E dX7_addDependency_79 rfl ?_
                  refine v_iload_n E dX7_addDependency_80 rfl ?_
                  refine v_cV_i E dX7_addDependency_81 (c_X7_linkOf D q g a b a.toNatClampNeg b.toNatClampNeg ha1 hb1 (by omega) (by omega)) cs_X7_53 rfl rfl rfl (Nat.le_of_ble_eq_true rfl) 0 rfl rfl [0, 1] rfl rfl ⟨Nat.le_of_ble_eq_true rfl, Nat.le_of_ble_eq_true rfl⟩ ?_
                  refine v_if_lt E 90 dX7_addDependency_84 (by decide) (fun c_84 => ?_) (fun c_84 => ?_)
                  · refine v_aload_n E dX7_addDependency_90 rfl ?_
                    refine v_iload_n E dX7_addDependency_91 rfl ?_
                    refine v_bipush E dX7_addDependency_92 (v := -10) (by decide) ?_
                    refine v_cV_i E dX7_addDependency_94 (c_X7_reachOf D q g b (-10) N h0 hN (hWr _ _)) cs_X7_61 rfl rfl rfl (Nat.le_of_ble_eq_true rfl) 0 rfl rfl [0, 1] rfl rfl ⟨Nat.le_of_ble_eq_true rfl, Nat.le_of_ble_eq_true rfl⟩ ?_
                    refine v_iload_n E dX7_addDependency_97 rfl ?_
                    refine v_ishr E dX7_addDependency_98 ?_
                    refine v_iconst E dX7_addDependency_99 (v := 1) (by decide) ?_
                    refine v_iand E dX7_addDependency_100 ?_
                    refine v_iconst E dX7_addDependency_101 (v := 1) (by decide) ?_
                    refine v_icmp_ne E 108 dX7_addDependency_102 (by decide) (fun c_102 => ?_) (fun c_102 => ?_)
                    · refine v_aload_n E dX7_addDependency_108 rfl ?_
                      refine v_get E dX7_addDependency_109 (ci := 7) rfl iwX7 0 rfl 0 rfl fl_X7_7 rfl ?_
                      refine v_iconst E dX7_addDependency_112 (v := 1) (by decide) ?_
                      refine v_iald E dX7_addDependency_113 1 rfl 1 (show (1 : Int32) = nI 1 by decide) (by omega) rfl ?_
                      refine v_bipush E dX7_addDependency_114 (v := 60) (by decide) ?_
                      refine v_icmp_ne E 122 dX7_addDependency_116 (by decide) (fun c_116 => ?_) (fun c_116 => ?_)
                      · refine v_aload_n E dX7_addDependency_122 rfl ?_
                        refine v_get E dX7_addDependency_123 (ci := 7) rfl iwX7 0 rfl 0 rfl fl_X7_7 rfl ?_
                        refine v_bipush E dX7_addDependency_126 (v := 43) (by decide) ?_
                        refine v_bipush E dX7_addDependency_128 (v := 20) (by decide) ?_
                        refine v_iload_n E dX7_addDependency_130 rfl ?_
                        refine v_imul E dX7_addDependency_131 ?_
                        refine v_iadd E dX7_addDependency_132 ?_
                        refine v_iload_n E dX7_addDependency_133 rfl ?_
                        refine v_iadd E dX7_addDependency_134 ?_
                        refine v_iload_n E dX7_addDependency_135 rfl ?_
                        refine v_iconst E dX7_addDependency_136 (v := 1) (by decide) ?_
                        refine v_iadd E dX7_addDependency_137 ?_
                        refine v_iast E dX7_addDependency_138 1 rfl ((43 + (20 * a.toNatClampNeg)) + b.toNatClampNeg) (hadd (hadd (show (43 : Int32) = nI 43 by decide) (hmul (show (20 : Int32) = nI 20 by decide) ha1)) hb1) (by omega) rfl ?_
                        refine v_wd (wd2 := [(q 0, .inr (7, [.ref (q 1), .ref (q 2), .ref (q 3), .ref (q 4), .ref (q 5), .ref (q 6), .ref (q 7), .ref (q 8), .ref (q 9), .ref (q 10)])), (q 1, aI D 703 (upd g ((43 + (20 * a.toNatClampNeg)) + b.toNatClampNeg) (kd + 1)))]) rfl ?_
                        refine v_aload_n E dX7_addDependency_139 rfl ?_
                        refine v_get E dX7_addDependency_140 (ci := 7) rfl iwX7 0 rfl 0 rfl fl_X7_7 rfl ?_
                        refine v_iconst E dX7_addDependency_143 (v := 1) (by decide) ?_
                        refine v_dup2 E dX7_addDependency_144 rfl rfl ?_
                        refine v_iald E dX7_addDependency_145 1 rfl 1 (show (1 : Int32) = nI 1 by decide) (by omega) rfl ?_
                        refine v_iconst E dX7_addDependency_146 (v := 1) (by decide) ?_
                        refine v_iadd E dX7_addDependency_147 ?_
                        refine v_iast E dX7_addDependency_148 1 rfl 1 (show (1 : Int32) = nI 1 by decide) (by omega) rfl ?_
                        refine v_wd (wd2 := [(q 0, .inr (7, [.ref (q 1), .ref (q 2), .ref (q 3), .ref (q 4), .ref (q 5), .ref (q 6), .ref (q 7), .ref (q 8), .ref (q 9), .ref (q 10)])), (q 1, aI D 703 (upd (upd g ((43 + (20 * a.toNatClampNeg)) + b.toNatClampNeg) (kd + 1)) 1 (((upd g ((43 + (20 * a.toNatClampNeg)) + b.toNatClampNeg) (kd + 1)) 1) + 1)))]) rfl ?_
                        refine v_aload_n E dX7_addDependency_149 rfl ?_
                        refine v_get E dX7_addDependency_150 (ci := 7) rfl iwX7 0 rfl 0 rfl fl_X7_7 rfl ?_
                        refine v_iconst E dX7_addDependency_153 (v := 1) (by decide) ?_
                        refine v_iald E dX7_addDependency_154 1 rfl 1 (show (1 : Int32) = nI 1 by decide) (by omega) rfl ?_
                        exact v_iret E F dX7_addDependency_155 rfl rfl () (by simp only [r_X7_addDependency, if_neg c_5, if_neg c_13, if_neg c_20, if_neg c_32, if_neg c_44, if_pos c_49, if_pos c_58, if_neg c_63, if_pos c_84, if_neg c_102, if_neg c_116]) (by simp only [w_X7_addDependency_1, if_neg c_5, if_neg c_13, if_neg c_20, if_neg c_32, if_neg c_44, if_pos c_49, if_pos c_58, if_neg c_63, if_pos c_84, if_neg c_102, if_neg c_116] <;> rfl) (Nat.le_of_ble_eq_true rfl) (Nat.le_of_ble_eq_true rfl)
                      · refine v_bipush E dX7_addDependency_119 (v := -8) (by decide) ?_
                        exact v_iret E F dX7_addDependency_121 rfl rfl () (by simp only [r_X7_addDependency, if_neg c_5, if_neg c_13, if_neg c_20, if_neg c_32, if_neg c_44, if_pos c_49, if_pos c_58, if_neg c_63, if_pos c_84, if_neg c_102, if_pos c_116]) (by simp only [w_X7_addDependency_1, if_neg c_5, if_neg c_13, if_neg c_20, if_neg c_32, if_neg c_44, if_pos c_49, if_pos c_58, if_neg c_63, if_pos c_84, if_neg c_102, if_pos c_116] <;> rfl) (Nat.le_of_ble_eq_true rfl) (Nat.le_of_ble_eq_true rfl)
                    · refine v_bipush E dX7_addDependency_105 (v := -7) (by decide) ?_
                      exact v_iret E F dX7_addDependency_107 rfl rfl () (by simp only [r_X7_addDependency, if_neg c_5, if_neg c_13, if_neg c_20, if_neg c_32, if_neg c_44, if_pos c_49, if_pos c_58, if_neg c_63, if_pos c_84, if_pos c_102]) (by simp only [w_X7_addDependency_1, if_neg c_5, if_neg c_13, if_neg c_20, if_neg c_32, if_neg c_44, if_pos c_49, if_pos c_58, if_neg c_63, if_pos c_84, if_pos c_102] <;> rfl) (Nat.le_of_ble_eq_true rfl) (Nat.le_of_ble_eq_true rfl)
                  · refine v_bipush E dX7_addDependency_87 (v := -6) (by decide) ?_
                    exact v_iret E F dX7_addDependency_89 rfl rfl () (by simp only [r_X7_addDependency, if_neg c_5, if_neg c_13, if_neg c_20, if_neg c_32, if_neg c_44, if_pos c_49, if_pos c_58, if_neg c_63, if_neg c_84]) (by simp only [w_X7_addDependency_1, if_neg c_5, if_neg c_13, if_neg c_20, if_neg c_32, if_neg c_44, if_pos c_49, if_pos c_58, if_neg c_63, if_neg c_84] <;> rfl) (Nat.le_of_ble_eq_true rfl) (Nat.le_of_ble_eq_true rfl)
                · refine v_aload_n E dX7_addDependency_66 rfl ?_
                  refine v_iload_n E dX7_addDependency_67 rfl ?_
                  refine v_cV_i E dX7_addDependency_68 (c_X7_kindOf D q g a a.toNatClampNeg ha1 (by omega)) cs_X7_45 rfl rfl rfl (Nat.le_of_ble_eq_true rfl) 0 rfl rfl [0, 1] rfl rfl ⟨Nat.le_of_ble_eq_true rfl, Nat.le_of_ble_eq_true rfl⟩ ?_
                  refine v_iconst E dX7_addDependency_71 (v := 2) (by decide) ?_
                  refine v_icmp_eq E 78 dX7_addDependency_72 (by decide) (fun c_72 => ?_) (fun c_72 => ?_)
                  · refine v_aload_n E dX7_addDependency_78 rfl ?_
                    refine v_iload_n E dX7_addDependency_79 rfl ?_
                    refine v_iload_n E dX7_addDependency_80 rfl ?_
                    refine v_cV_i E dX7_addDependency_81 (c_X7_linkOf D q g a b a.toNatClampNeg b.toNatClampNeg ha1 hb1 (by omega) (by omega)) cs_X7_53 rfl rfl rfl (Nat.le_of_ble_eq_true rfl) 0 rfl rfl [0, 1] rfl rfl ⟨Nat.le_of_ble_eq_true rfl, Nat.le_of_ble_eq_true rfl⟩ ?_
                    refine v_if_lt E 90 dX7_addDependency_84 (by decide) (fun c_84 => ?_) (fun c_84 => ?_)
                    · refine v_aload_n E dX7_addDependency_90 rfl ?_
                      refine v_iload_n E dX7_addDependency_91 rfl ?_
                      refine v_bipush E dX7_addDependency_92 (v := -10) (by decide) ?_
                      refine v_cV_i E dX7_addDependency_94 (c_X7_reachOf D q g b (-10) N h0 hN (hWr _ _)) cs_X7_61 rfl rfl rfl (Nat.le_of_ble_eq_true rfl) 0 rfl rfl [0, 1] rfl rfl ⟨Nat.le_of_ble_eq_true rfl, Nat.le_of_ble_eq_true rfl⟩ ?_
                      refine v_iload_n E dX7_addDependency_97 rfl ?_
                      refine v_ishr E dX7_addDependency_98 ?_
                      refine v_iconst E dX7_addDependency_99 (v := 1) (by decide) ?_
                      refine v_iand E dX7_addDependency_100 ?_
                      refine v_iconst E dX7_addDependency_101 (v := 1) (by decide) ?_
                      refine v_icmp_ne E 108 dX7_addDependency_102 (by decide) (fun c_102 => ?_) (fun c_102 => ?_)
                      · refine v_aload_n E dX7_addDependency_108 rfl ?_
                        refine v_get E dX7_addDependency_109 (ci := 7) rfl iwX7 0 rfl 0 rfl fl_X7_7 rfl ?_
                        refine v_iconst E dX7_addDependency_112 (v := 1) (by decide) ?_
                        refine v_iald E dX7_addDependency_113 1 rfl 1 (show (1 : Int32) = nI 1 by decide) (by omega) rfl ?_
                        refine v_bipush E dX7_addDependency_114 (v := 60) (by decide) ?_
                        refine v_icmp_ne E 122 dX7_addDependency_116 (by decide) (fun c_116 => ?_) (fun c_116 => ?_)
                        · refine v_aload_n E dX7_addDependency_122 rfl ?_
                          refine v_get E dX7_addDependency_123 (ci := 7) rfl iwX7 0 rfl 0 rfl fl_X7_7 rfl ?_
                          refine v_bipush E dX7_addDependency_126 (v := 43) (by decide) ?_
                          refine v_bipush E dX7_addDependency_128 (v := 20) (by decide) ?_
                          refine v_iload_n E dX7_addDependency_130 rfl ?_
                          refine v_imul E dX7_addDependency_131 ?_
                          refine v_iadd E dX7_addDependency_132 ?_
                          refine v_iload_n E dX7_addDependency_133 rfl ?_
                          refine v_iadd E dX7_addDependency_134 ?_
                          refine v_iload_n E dX7_addDependency_135 rfl ?_
                          refine v_iconst E dX7_addDependency_136 (v := 1) (by decide) ?_
                          refine v_iadd E dX7_addDependency_137 ?_
                          refine v_iast E dX7_addDependency_138 1 rfl ((43 + (20 * a.toNatClampNeg)) + b.toNatClampNeg) (hadd (hadd (show (43 : Int32) = nI 43 by decide) (hmul (show (20 : Int32) = nI 20 by decide) ha1)) hb1) (by omega) rfl ?_
                          refine v_wd (wd2 := [(q 0, .inr (7, [.ref (q 1), .ref (q 2), .ref (q 3), .ref (q 4), .ref (q 5), .ref (q 6), .ref (q 7), .ref (q 8), .ref (q 9), .ref (q 10)])), (q 1, aI D 703 (upd g ((43 + (20 * a.toNatClampNeg)) + b.toNatClampNeg) (kd + 1)))]) rfl ?_
                          refine v_aload_n E dX7_addDependency_139 rfl ?_
                          refine v_get E dX7_addDependency_140 (ci := 7) rfl iwX7 0 rfl 0 rfl fl_X7_7 rfl ?_
                          refine v_iconst E dX7_addDependency_143 (v := 1) (by decide) ?_
                          refine v_dup2 E dX7_addDependency_144 rfl rfl ?_
                          refine v_iald E dX7_addDependency_145 1 rfl 1 (show (1 : Int32) = nI 1 by decide) (by omega) rfl ?_
                          refine v_iconst E dX7_addDependency_146 (v := 1) (by decide) ?_
                          refine v_iadd E dX7_addDependency_147 ?_
                          refine v_iast E dX7_addDependency_148 1 rfl 1 (show (1 : Int32) = nI 1 by decide) (by omega) rfl ?_
                          refine v_wd (wd2 := [(q 0, .inr (7, [.ref (q 1), .ref (q 2), .ref (q 3), .ref (q 4), .ref (q 5), .ref (q 6), .ref (q 7), .ref (q 8), .ref (q 9), .ref (q 10)])), (q 1, aI D 703 (upd (upd g ((43 + (20 * a.toNatClampNeg)) + b.toNatClampNeg) (kd + 1)) 1 (((upd g ((43 + (20 * a.toNatClampNeg)) + b.toNatClampNeg) (kd + 1)) 1) + 1)))]) rfl ?_
                          refine v_aload_n E dX7_addDependency_149 rfl ?_
                          refine v_get E dX7_addDependency_150 (ci := 7) rfl iwX7 0 rfl 0 rfl fl_X7_7 rfl ?_
                          refine v_iconst E dX7_addDependency_153 (v := 1) (by decide) ?_
                          refine v_iald E dX7_addDependency_154 1 rfl 1 (show (1 : Int32) = nI 1 by decide) (by omega) rfl ?_
                          exact v_iret E F dX7_addDependency_155 rfl rfl () (by simp only [r_X7_addDependency, if_neg c_5, if_neg c_13, if_neg c_20, if_neg c_32, if_neg c_44, if_pos c_49, if_pos c_58, if_pos c_63, if_pos c_72, if_pos c_84, if_neg c_102, if_neg c_116]) (by simp only [w_X7_addDependency_1, if_neg c_5, if_neg c_13, if_neg c_20, if_neg c_32, if_neg c_44, if_pos c_49, if_pos c_58, if_pos c_63, if_pos c_72, if_pos c_84, if_neg c_102, if_neg c_116] <;> rfl) (Nat.le_of_ble_eq_true rfl) (Nat.le_of_ble_eq_true rfl)
                        · refine v_bipush E dX7_addDependency_119 (v := -8) (by decide) ?_
                          exact v_iret E F dX7_addDependency_121 rfl rfl () (by simp only [r_X7_addDependency, if_neg c_5, if_neg c_13, if_neg c_20, if_neg c_32, if_neg c_44, if_pos c_49, if_pos c_58, if_pos c_63, if_pos c_72, if_pos c_84, if_neg c_102, if_pos c_116]) (by simp only [w_X7_addDependency_1, if_neg c_5, if_neg c_13, if_neg c_20, if_neg c_32, if_neg c_44, if_pos c_49, if_pos c_58, if_pos c_63, if_pos c_72, if_pos c_84, if_neg c_102, if_pos c_116] <;> rfl) (Nat.le_of_ble_eq_true rfl) (Nat.le_of_ble_eq_true rfl)
                      · refine v_bipush E dX7_addDependency_105 (v := -7) (by decide) ?_
                        exact v_iret E F dX7_addDependency_107 rfl rfl () (by simp only [r_X7_addDependency, if_neg c_5, if_neg c_13, if_neg c_20, if_neg c_32, if_neg c_44, if_pos c_49, if_pos c_58, if_pos c_63, if_pos c_72, if_pos c_84, if_pos c_102]) (by simp only [w_X7_addDependency_1, if_neg c_5, if_neg c_13, if_neg c_20, if_neg c_32, if_neg c_44, if_pos c_49, if_pos c_58, if_pos c_63, if_pos c_72, if_pos c_84, if_pos c_102] <;> rfl) (Nat.le_of_ble_eq_true rfl) (Nat.le_of_ble_eq_true rfl)
                    · refine v_bipush E dX7_addDependency_87 (v := -6) (by decide) ?_
                      exact v_iret E F dX7_addDependency_89 rfl rfl () (by simp only [r_X7_addDependency, if_neg c_5, if_neg c_13, if_neg c_20, if_neg c_32, if_neg c_44, if_pos c_49, if_pos c_58, if_pos c_63, if_pos c_72, if_neg c_84]) (by simp only [w_X7_addDependency_1, if_neg c_5, if_neg c_13, if_neg c_20, if_neg c_32, if_neg c_44, if_pos c_49, if_pos c_58, if_pos c_63, if_pos c_72, if_neg c_84] <;> rfl) (Nat.le_of_ble_eq_true rfl) (Nat.le_of_ble_eq_true rfl)
                  · refine v_bipush E dX7_addDependency_75 (v := -5) (by decide) ?_
                    exact v_iret E F dX7_addDependency_77 rfl rfl () (by simp only [r_X7_addDependency, if_neg c_5, if_neg c_13, if_neg c_20, if_neg c_32, if_neg c_44, if_pos c_49, if_pos c_58, if_pos c_63, if_neg c_72]) (by simp only [w_X7_addDependency_1, if_neg c_5, if_neg c_13, if_neg c_20, if_neg c_32, if_neg c_44, if_pos c_49, if_pos c_58, if_pos c_63, if_neg c_72] <;> rfl) (Nat.le_of_ble_eq_true rfl) (Nat.le_of_ble_eq_true rfl)
        · refine v_bipush E dX7_addDependency_35 (v := -3) (by decide) ?_
          exact v_iret E F dX7_addDependency_37 rfl rfl () (by simp only [r_X7_addDependency, if_neg c_5, if_neg c_13, if_neg c_20, if_pos c_32]) (by simp only [w_X7_addDependency_1, if_neg c_5, if_neg c_13, if_neg c_20, if_pos c_32] <;> rfl) (Nat.le_of_ble_eq_true rfl) (Nat.le_of_ble_eq_true rfl)
      · refine v_bipush E dX7_addDependency_23 (v := -4) (by decide) ?_
        exact v_iret E F dX7_addDependency_25 rfl rfl () (by simp only [r_X7_addDependency, if_neg c_5, if_neg c_13, if_pos c_20]) (by simp only [w_X7_addDependency_1, if_neg c_5, if_neg c_13, if_pos c_20] <;> rfl) (Nat.le_of_ble_eq_true rfl) (Nat.le_of_ble_eq_true rfl)
    · refine v_iconst E dX7_addDependency_16 (v := -1) (by decide) ?_
      exact v_iret E F dX7_addDependency_17 rfl rfl () (by simp only [r_X7_addDependency, if_neg c_5, if_pos c_13]) (by simp only [w_X7_addDependency_1, if_neg c_5, if_pos c_13] <;> rfl) (Nat.le_of_ble_eq_true rfl) (Nat.le_of_ble_eq_true rfl)

def s_X7_save_14 (g : Nat → Int32) (s : Int32) (i : Nat) (sl1 : Nat → Int32) : Nat → Int32 := upd sl1 ((703 * s.toNatClampNeg) + i) (g i)
def r_X7_save (g : Nat → Int32) (s : Int32) : Int32 := if (r_X7_in s 0 1) = 0 then (-3) else g 0
def w_X7_save_2 (g : Nat → Int32) (sl : Nat → Int32) (s : Int32) : Nat → Int32 := if (r_X7_in s 0 1) = 0 then sl else (foldN (s_X7_save_14 g s) 703 0 sl)
def w_X7_save_3 (sv : Nat → Int32) (s : Int32) : Nat → Int32 := if (r_X7_in s 0 1) = 0 then sv else upd sv s.toNatClampNeg (vp_nar .boolean 1)
set_option maxRecDepth 20000 in
/-- X7_save -/
theorem c_X7_save (D : va_G) (q : Nat → Nat) (g : Nat → Int32) (sl : Nat → Int32) (sv : Nat → Int32) (s : Int32) (l : Launch) : Ct l yX7_save cX7_save 3 (some .int) (rmM 1 22 0 0) D [.ref (q 0), .int s] [(q 0, .inr (7, [.ref (q 1), .ref (q 2), .ref (q 3), .ref (q 4), .ref (q 5), .ref (q 6), .ref (q 7), .ref (q 8), .ref (q 9), .ref (q 10)])), (q 1, aI D 703 g), (q 2, aI D 1406 sl), (q 3, aZ D 2 sv)] (QI1 D (r_X7_save g s) [(q 0, .inr (7, [.ref (q 1), .ref (q 2), .ref (q 3), .ref (q 4), .ref (q 5), .ref (q 6), .ref (q 7), .ref (q 8), .ref (q 9), .ref (q 10)])), (q 1, aI D 703 g), (q 2, aI D 1406 (w_X7_save_2 g sl s)), (q 3, aZ D 2 (w_X7_save_3 sv s))]) := by
  refine Ct.ofV 1 (lv0 := [some (.ref (q 0)), some (.int s), none]) (by decide) rfl rfl (fun Z E F => ?_)
  refine v_iload_n E dX7_save_0 rfl ?_
  refine v_iconst E dX7_save_1 (v := 0) (by decide) ?_
  refine v_iconst E dX7_save_2 (v := 1) (by decide) ?_
  refine v_cS_i E dX7_save_3 (c_X7_in D s 0 1) cs_X7_41 rfl rfl rfl (Nat.le_of_ble_eq_true rfl) [] rfl rfl ⟨Nat.le_of_ble_eq_true rfl, Nat.le_of_ble_eq_true rfl⟩ ?_
  refine v_if_ne E 12 dX7_save_6 (by decide) (fun c_6 => ?_) (fun c_6 => ?_)
  · obtain ⟨hp1, hp2⟩ := in_useK (v := s) (hi := 1) (M := 1) (by decide) c_6
    refine v_iconst E dX7_save_12 (v := 0) (by decide) ?_
    refine v_istore_n E dX7_save_13 rfl rfl ?_
    have L14 : ∀ (n i : Nat) (sl1 : Nat → Int32), i + n = 703 → V Z D 0 0 [(q 0, .inr (7, [.ref (q 1), .ref (q 2), .ref (q 3), .ref (q 4), .ref (q 5), .ref (q 6), .ref (q 7), .ref (q 8), .ref (q 9), .ref (q 10)])), (q 1, aI D 703 g), (q 2, aI D 1406 (foldN (s_X7_save_14 g s) n i sl1)), (q 3, aZ D 2 sv)] [some (.ref (q 0)), some (.int s), some (.int (nI 703))] [] 45 → V Z D 0 0 [(q 0, .inr (7, [.ref (q 1), .ref (q 2), .ref (q 3), .ref (q 4), .ref (q 5), .ref (q 6), .ref (q 7), .ref (q 8), .ref (q 9), .ref (q 10)])), (q 1, aI D 703 g), (q 2, aI D 1406 sl1), (q 3, aZ D 2 sv)] [some (.ref (q 0)), some (.int s), some (.int (nI i))] [] 14 := by
      intro n
      induction n with
      | zero =>
        intro i sl1 hi  K14
        have hiN : i = 703 := by omega
        rw [hiN]
        refine v_iload_n E dX7_save_14 rfl ?_
        refine v_sipush E dX7_save_15 (v := 703) (by decide) ?_
        refine v_icmp_ge E 45 dX7_save_18 (by decide) (fun c_18 => ?_) (fun c_18 => ?_)
        · exact K14
        · exact absurd (leN (a := 703) (b := 703) (show (703 : Int32) = nI 703 by decide) rfl (by omega) (by omega)) c_18
      | succ n ih =>
        intro i sl1 hi  K14
        refine v_iload_n E dX7_save_14 rfl ?_
        refine v_sipush E dX7_save_15 (v := 703) (by decide) ?_
        refine v_icmp_ge E 45 dX7_save_18 (by decide) (fun c_18 => ?_) (fun c_18 => ?_)
        · exact absurd c_18 (nleN (a := 703) (b := i) (show (703 : Int32) = nI 703 by decide) rfl (by omega) (by omega))
        · refine v_aload_n E dX7_save_21 rfl ?_
          refine v_get E dX7_save_22 (ci := 7) rfl iwX7 0 rfl 1 rfl fl_X7_13 rfl ?_
          refine v_sipush E dX7_save_25 (v := 703) (by decide) ?_
          refine v_iload_n E dX7_save_28 rfl ?_
          refine v_imul E dX7_save_29 ?_
          refine v_iload_n E dX7_save_30 rfl ?_
          refine v_iadd E dX7_save_31 ?_
          refine v_aload_n E dX7_save_32 rfl ?_
          refine v_get E dX7_save_33 (ci := 7) rfl iwX7 0 rfl 0 rfl fl_X7_7 rfl ?_
          refine v_iload_n E dX7_save_36 rfl ?_
          refine v_iald E dX7_save_37 1 rfl i rfl (by omega) rfl ?_
          refine v_iast E dX7_save_38 2 rfl ((703 * s.toNatClampNeg) + i) (hadd (hmul (show (703 : Int32) = nI 703 by decide) hp1) rfl) (by omega) rfl ?_
          refine v_wd (wd2 := [(q 0, .inr (7, [.ref (q 1), .ref (q 2), .ref (q 3), .ref (q 4), .ref (q 5), .ref (q 6), .ref (q 7), .ref (q 8), .ref (q 9), .ref (q 10)])), (q 1, aI D 703 g), (q 2, aI D 1406 (upd sl1 ((703 * s.toNatClampNeg) + i) (g i))), (q 3, aZ D 2 sv)]) rfl ?_
          refine v_iinc E dX7_save_39 (v := nI (i + 1)) rfl (inc1 _) rfl rfl ?_
          refine v_goto E 14 dX7_save_42 (by decide) ?_
          have hs : s_X7_save_14 g s i sl1 = (upd sl1 ((703 * s.toNatClampNeg) + i) (g i)) := by rfl
          rw [foldN_s (s_X7_save_14 g s) n i sl1, hs] at K14
          exact ih (i + 1) (upd sl1 ((703 * s.toNatClampNeg) + i) (g i)) (by omega) K14
    refine L14 703 0 sl (by omega)  ?_
    refine v_aload_n E dX7_save_45 rfl ?_
    refine v_get E dX7_save_46 (ci := 7) rfl iwX7 0 rfl 2 rfl fl_X7_16 rfl ?_
    refine v_iload_n E dX7_save_49 rfl ?_
    refine v_iconst E dX7_save_50 (v := 1) (by decide) ?_
    refine v_zast E dX7_save_51 3 rfl s.toNatClampNeg hp1 (by omega) rfl ?_
    refine v_wd (wd2 := [(q 0, .inr (7, [.ref (q 1), .ref (q 2), .ref (q 3), .ref (q 4), .ref (q 5), .ref (q 6), .ref (q 7), .ref (q 8), .ref (q 9), .ref (q 10)])), (q 1, aI D 703 g), (q 2, aI D 1406 (foldN (s_X7_save_14 g s) 703 0 sl)), (q 3, aZ D 2 (upd sv s.toNatClampNeg (vp_nar .boolean 1)))]) rfl ?_
    refine v_aload_n E dX7_save_52 rfl ?_
    refine v_get E dX7_save_53 (ci := 7) rfl iwX7 0 rfl 0 rfl fl_X7_7 rfl ?_
    refine v_iconst E dX7_save_56 (v := 0) (by decide) ?_
    refine v_iald E dX7_save_57 1 rfl 0 (show (0 : Int32) = nI 0 by decide) (by omega) rfl ?_
    exact v_iret E F dX7_save_58 rfl rfl () (by simp only [r_X7_save, if_neg c_6]) (by simp only [w_X7_save_2, w_X7_save_3, if_neg c_6] <;> rfl) (Nat.le_of_ble_eq_true rfl) (Nat.le_of_ble_eq_true rfl)
  · refine v_bipush E dX7_save_9 (v := -3) (by decide) ?_
    exact v_iret E F dX7_save_11 rfl rfl () (by simp only [r_X7_save, if_pos c_6]) (by simp only [w_X7_save_2, w_X7_save_3, if_pos c_6] <;> rfl) (Nat.le_of_ble_eq_true rfl) (Nat.le_of_ble_eq_true rfl)

def s_X7_restore_26 (sl : Nat → Int32) (s : Int32) (i : Nat) (g1 : Nat → Int32) : Nat → Int32 := upd g1 i (sl ((703 * s.toNatClampNeg) + i))
def r_X7_restore (g : Nat → Int32) (sl : Nat → Int32) (sv : Nat → Int32) (s : Int32) : Int32 := if (r_X7_in s 0 1) = 0 then (-3) else if (sv s.toNatClampNeg) = 0 then (-11) else (foldN (s_X7_restore_26 sl s) 703 0 g) 0
def w_X7_restore_1 (g : Nat → Int32) (sl : Nat → Int32) (sv : Nat → Int32) (s : Int32) : Nat → Int32 := if (r_X7_in s 0 1) = 0 then g else if (sv s.toNatClampNeg) = 0 then g else (foldN (s_X7_restore_26 sl s) 703 0 g)
set_option maxRecDepth 20000 in
/-- X7_restore -/
theorem c_X7_restore (D : va_G) (q : Nat → Nat) (g : Nat → Int32) (sl : Nat → Int32) (sv : Nat → Int32) (s : Int32) (l : Launch) : Ct l yX7_restore cX7_restore 3 (some .int) (rmM 1 22 0 0) D [.ref (q 0), .int s] [(q 0, .inr (7, [.ref (q 1), .ref (q 2), .ref (q 3), .ref (q 4), .ref (q 5), .ref (q 6), .ref (q 7), .ref (q 8), .ref (q 9), .ref (q 10)])), (q 1, aI D 703 g), (q 2, aI D 1406 sl), (q 3, aZ D 2 sv)] (QI1 D (r_X7_restore g sl sv s) [(q 0, .inr (7, [.ref (q 1), .ref (q 2), .ref (q 3), .ref (q 4), .ref (q 5), .ref (q 6), .ref (q 7), .ref (q 8), .ref (q 9), .ref (q 10)])), (q 1, aI D 703 (w_X7_restore_1 g sl sv s)), (q 2, aI D 1406 sl), (q 3, aZ D 2 sv)]) := by
  refine Ct.ofV 1 (lv0 := [some (.ref (q 0)), some (.int s), none]) (by decide) rfl rfl (fun Z E F => ?_)
  refine v_iload_n E dX7_restore_0 rfl ?_
  refine v_iconst E dX7_restore_1 (v := 0) (by decide) ?_
  refine v_iconst E dX7_restore_2 (v := 1) (by decide) ?_
  refine v_cS_i E dX7_restore_3 (c_X7_in D s 0 1) cs_X7_41 rfl rfl rfl (Nat.le_of_ble_eq_true rfl) [] rfl rfl ⟨Nat.le_of_ble_eq_true rfl, Nat.le_of_ble_eq_true rfl⟩ ?_
  refine v_if_ne E 12 dX7_restore_6 (by decide) (fun c_6 => ?_) (fun c_6 => ?_)
  · obtain ⟨hp1, hp2⟩ := in_useK (v := s) (hi := 1) (M := 1) (by decide) c_6
    refine v_aload_n E dX7_restore_12 rfl ?_
    refine v_get E dX7_restore_13 (ci := 7) rfl iwX7 0 rfl 2 rfl fl_X7_16 rfl ?_
    refine v_iload_n E dX7_restore_16 rfl ?_
    refine v_zald E dX7_restore_17 3 rfl s.toNatClampNeg hp1 (by omega) rfl ?_
    refine v_if_ne E 24 dX7_restore_18 (by decide) (fun c_18 => ?_) (fun c_18 => ?_)
    · refine v_iconst E dX7_restore_24 (v := 0) (by decide) ?_
      refine v_istore_n E dX7_restore_25 rfl rfl ?_
      have L26 : ∀ (n i : Nat) (g1 : Nat → Int32), i + n = 703 → V Z D 0 0 [(q 0, .inr (7, [.ref (q 1), .ref (q 2), .ref (q 3), .ref (q 4), .ref (q 5), .ref (q 6), .ref (q 7), .ref (q 8), .ref (q 9), .ref (q 10)])), (q 1, aI D 703 (foldN (s_X7_restore_26 sl s) n i g1)), (q 2, aI D 1406 sl), (q 3, aZ D 2 sv)] [some (.ref (q 0)), some (.int s), some (.int (nI 703))] [] 57 → V Z D 0 0 [(q 0, .inr (7, [.ref (q 1), .ref (q 2), .ref (q 3), .ref (q 4), .ref (q 5), .ref (q 6), .ref (q 7), .ref (q 8), .ref (q 9), .ref (q 10)])), (q 1, aI D 703 g1), (q 2, aI D 1406 sl), (q 3, aZ D 2 sv)] [some (.ref (q 0)), some (.int s), some (.int (nI i))] [] 26 := by
        intro n
        induction n with
        | zero =>
          intro i g1 hi  K26
          have hiN : i = 703 := by omega
          rw [hiN]
          refine v_iload_n E dX7_restore_26 rfl ?_
          refine v_sipush E dX7_restore_27 (v := 703) (by decide) ?_
          refine v_icmp_ge E 57 dX7_restore_30 (by decide) (fun c_30 => ?_) (fun c_30 => ?_)
          · exact K26
          · exact absurd (leN (a := 703) (b := 703) (show (703 : Int32) = nI 703 by decide) rfl (by omega) (by omega)) c_30
        | succ n ih =>
          intro i g1 hi  K26
          refine v_iload_n E dX7_restore_26 rfl ?_
          refine v_sipush E dX7_restore_27 (v := 703) (by decide) ?_
          refine v_icmp_ge E 57 dX7_restore_30 (by decide) (fun c_30 => ?_) (fun c_30 => ?_)
          · exact absurd c_30 (nleN (a := 703) (b := i) (show (703 : Int32) = nI 703 by decide) rfl (by omega) (by omega))
          · refine v_aload_n E dX7_restore_33 rfl ?_
            refine v_get E dX7_restore_34 (ci := 7) rfl iwX7 0 rfl 0 rfl fl_X7_7 rfl ?_
            refine v_iload_n E dX7_restore_37 rfl ?_
            refine v_aload_n E dX7_restore_38 rfl ?_
            refine v_get E dX7_restore_39 (ci := 7) rfl iwX7 0 rfl 1 rfl fl_X7_13 rfl ?_
            refine v_sipush E dX7_restore_42 (v := 703) (by decide) ?_
            refine v_iload_n E dX7_restore_45 rfl ?_
            refine v_imul E dX7_restore_46 ?_
            refine v_iload_n E dX7_restore_47 rfl ?_
            refine v_iadd E dX7_restore_48 ?_
            refine v_iald E dX7_restore_49 2 rfl ((703 * s.toNatClampNeg) + i) (hadd (hmul (show (703 : Int32) = nI 703 by decide) hp1) rfl) (by omega) rfl ?_
            refine v_iast E dX7_restore_50 1 rfl i rfl (by omega) rfl ?_
            refine v_wd (wd2 := [(q 0, .inr (7, [.ref (q 1), .ref (q 2), .ref (q 3), .ref (q 4), .ref (q 5), .ref (q 6), .ref (q 7), .ref (q 8), .ref (q 9), .ref (q 10)])), (q 1, aI D 703 (upd g1 i (sl ((703 * s.toNatClampNeg) + i)))), (q 2, aI D 1406 sl), (q 3, aZ D 2 sv)]) rfl ?_
            refine v_iinc E dX7_restore_51 (v := nI (i + 1)) rfl (inc1 _) rfl rfl ?_
            refine v_goto E 26 dX7_restore_54 (by decide) ?_
            have hs : s_X7_restore_26 sl s i g1 = (upd g1 i (sl ((703 * s.toNatClampNeg) + i))) := by rfl
            rw [foldN_s (s_X7_restore_26 sl s) n i g1, hs] at K26
            exact ih (i + 1) (upd g1 i (sl ((703 * s.toNatClampNeg) + i))) (by omega) K26
      refine L26 703 0 g (by omega)  ?_
      refine v_aload_n E dX7_restore_57 rfl ?_
      refine v_get E dX7_restore_58 (ci := 7) rfl iwX7 0 rfl 0 rfl fl_X7_7 rfl ?_
      refine v_iconst E dX7_restore_61 (v := 0) (by decide) ?_
      refine v_iald E dX7_restore_62 1 rfl 0 (show (0 : Int32) = nI 0 by decide) (by omega) rfl ?_
      exact v_iret E F dX7_restore_63 rfl rfl () (by simp only [r_X7_restore, if_neg c_6, if_neg c_18]) (by simp only [w_X7_restore_1, if_neg c_6, if_neg c_18] <;> rfl) (Nat.le_of_ble_eq_true rfl) (Nat.le_of_ble_eq_true rfl)
    · refine v_bipush E dX7_restore_21 (v := -11) (by decide) ?_
      exact v_iret E F dX7_restore_23 rfl rfl () (by simp only [r_X7_restore, if_neg c_6, if_pos c_18]) (by simp only [w_X7_restore_1, if_neg c_6, if_pos c_18] <;> rfl) (Nat.le_of_ble_eq_true rfl) (Nat.le_of_ble_eq_true rfl)
  · refine v_bipush E dX7_restore_9 (v := -3) (by decide) ?_
    exact v_iret E F dX7_restore_11 rfl rfl () (by simp only [r_X7_restore, if_pos c_6]) (by simp only [w_X7_restore_1, if_pos c_6] <;> rfl) (Nat.le_of_ble_eq_true rfl) (Nat.le_of_ble_eq_true rfl)

