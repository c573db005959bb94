def okm (N : Nat) (m : Int32) : Prop := ∀ j, N ≤ j → bt m j = false
theorem okm_and {N : Nat} {m x : Int32} (h : okm N m) : okm N (m &&& x) := fun j hj => by rw [b_and, h j hj]; rfl
theorem nx_ok {i : Nat} (hi : i < 20) : ¬ nI i < 0 → nI i = nI (nI i).toNatClampNeg ∧ (nI i).toNatClampNeg < 20 := fun _ => by
  rw [nI_clamp (by omega)]
  exact ⟨rfl, hi⟩
def s_X7_layShards_7  (i : Nat) (ld1 : Nat → Int32) : Nat → Int32 := upd ld1 i 0
def s_X7_layShards_27  (i : Nat) (sh1 : Nat → Int32) : Nat → Int32 := upd sh1 i (-10)
def s_X7_layShards_57 (g : Nat → Int32) (lf : Int32) (i : Nat) (nx : Int32) : Int32 := if ((lf >>> ((nI i) &&& 31)) &&& 1) = 1 then (if nx < 0 then nI i else if (r_X7_weightOf g i) ≤ (r_X7_weightOf g nx.toNatClampNeg) then nx else nI i) else nx
def s_X7_layShards_127 (ld2 : Nat → Int32) (j : Nat) (tq : Nat) : Nat := if (ld2 tq) ≤ (ld2 j) then tq else j
def s_X7_layShards_47 (g : Nat → Int32) (S : Nat) (N : Nat) (z_ : Int32 × (Nat → Int32) × (Nat → Int32)) : Int32 × (Nat → Int32) × (Nat → Int32) := match z_ with
  | (lf, ld2, sh2) => (lf &&& ((1 <<< ((foldN (s_X7_layShards_57 g lf) N 0 (-10)) &&& 31)) ^^^ (-1)), upd ld2 (foldN (s_X7_layShards_127 ld2) (S - 1) 1 0) ((ld2 (foldN (s_X7_layShards_127 ld2) (S - 1) 1 0)) + (r_X7_weightOf g (((foldN (s_X7_layShards_57 g lf) N 0 (-10))).toNatClampNeg))), upd sh2 (((foldN (s_X7_layShards_57 g lf) N 0 (-10))).toNatClampNeg) (nI (foldN (s_X7_layShards_127 ld2) (S - 1) 1 0)))
def e_X7_layShards_47  (z_ : Int32 × (Nat → Int32) × (Nat → Int32)) : Bool := match z_ with
  | (lf, ld2, sh2) => decide (lf = 0)
def T_X7_layShards_47 (g : Nat → Int32) (ch : Nat → Int32) (ld : Nat → Int32) (sh : Nat → Int32) (S : Nat) (N : Nat) : Prop := e_X7_layShards_47 (whN e_X7_layShards_47 (s_X7_layShards_47 g S N) 20 ((r_X7_affectedTests g ch N), (foldN s_X7_layShards_7 4 0 ld), (foldN s_X7_layShards_27 20 0 sh))) = true
def w_X7_layShards_2 (g : Nat → Int32) (ch : Nat → Int32) (N : Nat) : Nat → Int32 := (w_X7_affectedTests_2 g ch N)
def w_X7_layShards_3 (g : Nat → Int32) (ch : Nat → Int32) (ld : Nat → Int32) (sh : Nat → Int32) (S : Nat) (N : Nat) : Nat → Int32 := (whN e_X7_layShards_47 (s_X7_layShards_47 g S N) 20 ((r_X7_affectedTests g ch N), (foldN s_X7_layShards_7 4 0 ld), (foldN s_X7_layShards_27 20 0 sh))).2.1
def w_X7_layShards_4 (g : Nat → Int32) (ch : Nat → Int32) (ld : Nat → Int32) (sh : Nat → Int32) (S : Nat) (N : Nat) : Nat → Int32 := (whN e_X7_layShards_47 (s_X7_layShards_47 g S N) 20 ((r_X7_affectedTests g ch N), (foldN s_X7_layShards_7 4 0 ld), (foldN s_X7_layShards_27 20 0 sh))).2.2
theorem nx_X7 (g : Nat → Int32) (lf : Int32) (N : Nat) (hN : N ≤ 20) (hlf : okm N lf) (h : ¬ lf = 0) : ¬ (foldN (s_X7_layShards_57 g lf) N 0 (-10)) < 0 ∧ (foldN (s_X7_layShards_57 g lf) N 0 (-10)) = nI (foldN (s_X7_layShards_57 g lf) N 0 (-10)).toNatClampNeg ∧ (foldN (s_X7_layShards_57 g lf) N 0 (-10)).toNatClampNeg < 20 := by
  have key := foldN_ind (f := s_X7_layShards_57 g lf) (M := N) (fun i nx => (nx = -10 ∧ ∀ j, j < i → bt lf j = false) ∨ (∃ k, k < i ∧ nx = nI k ∧ bt lf k = true)) (fun j nx hj hp => by
    unfold s_X7_layShards_57
    by_cases hb : bt lf j = true
    · rw [if_pos ((sh_1 (by omega)).mpr hb)]
      have hr : ∃ k, k < j + 1 ∧ nI j = nI k ∧ bt lf k = true := ⟨j, by omega, rfl, hb⟩
      repeat' split
      · exact Or.inr hr
      · rcases hp with ⟨e, _⟩ | ⟨k, a, b, c⟩
        · exact absurd (show nx < 0 by rw [e]; decide) (by assumption)
        · exact Or.inr ⟨k, by omega, b, c⟩
      · exact Or.inr hr
    · rw [if_neg (fun q => hb ((sh_1 (by omega)).mp q))]
      rcases hp with ⟨e, z⟩ | ⟨k, a, b, c⟩
      · refine Or.inl ⟨e, fun i hi => ?_⟩
        by_cases q : i = j
        · subst q
          simpa using hb
        · exact z i (by omega)
      · exact Or.inr ⟨k, by omega, b, c⟩) N 0 (-10) (by omega) (Or.inl ⟨rfl, fun j hj => by omega⟩)
  rw [Nat.zero_add] at key
  rcases key with ⟨_, z⟩ | ⟨k, a, b, c⟩
  · obtain ⟨j, hj, hb⟩ := bt_ne0 h
    rcases Nat.lt_or_ge j N with q | q
    · rw [z j q] at hb; cases hb
    · rw [hlf j q] at hb; cases hb
  · rw [b, nI_clamp (by omega)]
    exact ⟨nI_pos (by omega), rfl, by omega⟩
theorem tq_X7 (ld2 : Nat → Int32) (S : Nat) (hS4 : S ≤ 4) : (foldN (s_X7_layShards_127 ld2) (S - 1) 1 0) < 4 := by
  have key := foldN_ind (f := s_X7_layShards_127 ld2) (M := 4) (fun i tq => tq < 4) (fun j a hj ha => by
    unfold s_X7_layShards_127
    split <;> omega) (S - 1) 1 0 (by omega) (by omega)
  exact key
set_option maxRecDepth 20000 in
/-- X7_layShards -/
theorem c_X7_layShards (D : va_G) (q : Nat → Nat) (g : Nat → Int32) (ch : Nat → Int32) (ld : Nat → Int32) (sh : Nat → Int32) (sd : Int32) (S : Nat) (N : Nat) (hsd : sd = nI S) (hS1 : 1 ≤ S) (hS4 : S ≤ 4) (h0 : g 0 = nI N) (hN : N ≤ 20) (hWs : ∀ ch : Nat → Int32, T_X7_spread_2 g ch N) (hWr : ∀ t wo : Int32, T_X7_reachOf_7 g t wo N) (hOk : okm N (r_X7_affectedTests g ch N)) (hWh : T_X7_layShards_47 g ch ld sh S N) (l : Launch) : Ct l yX7_layShards cX7_layShards 6 none (rmM 6 136 0 0) D [.ref (q 0), .int sd] [(q 0, .inr (7, [.ref (q 1), .ref (q 2), .ref (q 3), .ref (q 4), .ref (q 5), .ref (q 6), .ref (q 7), .ref (q 8), .ref (q 9), .ref (q 10)])), (q 1, aI D 703 g), (q 4, aZ D 40 ch), (q 8, aI D 4 ld), (q 9, aI D 20 sh)] (QV1 D [(q 0, .inr (7, [.ref (q 1), .ref (q 2), .ref (q 3), .ref (q 4), .ref (q 5), .ref (q 6), .ref (q 7), .ref (q 8), .ref (q 9), .ref (q 10)])), (q 1, aI D 703 g), (q 4, aZ D 40 (w_X7_layShards_2 g ch N)), (q 8, aI D 4 (w_X7_layShards_3 g ch ld sh S N)), (q 9, aI D 20 (w_X7_layShards_4 g ch ld sh S N))]) := by
  refine Ct.ofV 4 (lv0 := [some (.ref (q 0)), some (.int sd), none, none, none, none]) (by decide) rfl rfl (fun Z E F => ?_)
  refine v_aload_n E dX7_layShards_0 rfl ?_
  refine v_cV_iU E dX7_layShards_1 (c_X7_affectedTests D q g ch N h0 hN hWs hWr) cs_X7_118 rfl rfl rfl (Nat.le_of_ble_eq_true rfl) 0 rfl rfl [0, 1, 2] rfl rfl ⟨Nat.le_of_ble_eq_true rfl, Nat.le_of_ble_eq_true rfl⟩ [q 0, q 1, q 4] rfl rfl ?_
  refine v_wd (wd2 := [(q 0, .inr (7, [.ref (q 1), .ref (q 2), .ref (q 3), .ref (q 4), .ref (q 5), .ref (q 6), .ref (q 7), .ref (q 8), .ref (q 9), .ref (q 10)])), (q 1, aI D 703 g), (q 4, aZ D 40 (w_X7_affectedTests_2 g ch N)), (q 8, aI D 4 ld), (q 9, aI D 20 sh)]) rfl ?_
  refine v_istore_n E dX7_layShards_4 rfl rfl ?_
  refine v_iconst E dX7_layShards_5 (v := 0) (by decide) ?_
  refine v_istore_n E dX7_layShards_6 rfl rfl ?_
  have L7 : ∀ (n i : Nat) (ld1 : Nat → Int32), i + n = 4 → V Z D 0 0 [(q 0, .inr (7, [.ref (q 1), .ref (q 2), .ref (q 3), .ref (q 4), .ref (q 5), .ref (q 6), .ref (q 7), .ref (q 8), .ref (q 9), .ref (q 10)])), (q 1, aI D 703 g), (q 4, aZ D 40 (w_X7_affectedTests_2 g ch N)), (q 8, aI D 4 (foldN s_X7_layShards_7 n i ld1)), (q 9, aI D 20 sh)] [some (.ref (q 0)), some (.int sd), some (.int (r_X7_affectedTests g ch N)), none, none, none] [] 25 → V Z D 0 0 [(q 0, .inr (7, [.ref (q 1), .ref (q 2), .ref (q 3), .ref (q 4), .ref (q 5), .ref (q 6), .ref (q 7), .ref (q 8), .ref (q 9), .ref (q 10)])), (q 1, aI D 703 g), (q 4, aZ D 40 (w_X7_affectedTests_2 g ch N)), (q 8, aI D 4 ld1), (q 9, aI D 20 sh)] [some (.ref (q 0)), some (.int sd), some (.int (r_X7_affectedTests g ch N)), some (.int (nI i)), none, none] [] 7 := by
    intro n
    induction n with
    | zero =>
      intro i ld1 hi  K7
      have hiN : i = 4 := by omega
      rw [hiN]
      refine v_iload_n E dX7_layShards_7 rfl ?_
      refine v_iconst E dX7_layShards_8 (v := 4) (by decide) ?_
      refine v_icmp_ge E 25 dX7_layShards_9 (by decide) (fun c_9 => ?_) (fun c_9 => ?_)
      · refine v_mask [true, true, true, false, true, true] rfl ?_
        exact K7
      · exact absurd (leN (a := 4) (b := 4) (show (4 : Int32) = nI 4 by decide) rfl (by omega) (by omega)) c_9
    | succ n ih =>
      intro i ld1 hi  K7
      refine v_iload_n E dX7_layShards_7 rfl ?_
      refine v_iconst E dX7_layShards_8 (v := 4) (by decide) ?_
      refine v_icmp_ge E 25 dX7_layShards_9 (by decide) (fun c_9 => ?_) (fun c_9 => ?_)
      · exact absurd c_9 (nleN (a := 4) (b := i) (show (4 : Int32) = nI 4 by decide) rfl (by omega) (by omega))
      · refine v_aload_n E dX7_layShards_12 rfl ?_
        refine v_get E dX7_layShards_13 (ci := 7) rfl iwX7 0 rfl 7 rfl fl_X7_32 rfl ?_
        refine v_iload_n E dX7_layShards_16 rfl ?_
        refine v_iconst E dX7_layShards_17 (v := 0) (by decide) ?_
        refine v_iast E dX7_layShards_18 3 rfl i rfl (by omega) rfl ?_
        refine v_wd (wd2 := [(q 0, .inr (7, [.ref (q 1), .ref (q 2), .ref (q 3), .ref (q 4), .ref (q 5), .ref (q 6), .ref (q 7), .ref (q 8), .ref (q 9), .ref (q 10)])), (q 1, aI D 703 g), (q 4, aZ D 40 (w_X7_affectedTests_2 g ch N)), (q 8, aI D 4 (upd ld1 i 0)), (q 9, aI D 20 sh)]) rfl ?_
        refine v_iinc E dX7_layShards_19 (v := nI (i + 1)) rfl (inc1 _) rfl rfl ?_
        refine v_goto E 7 dX7_layShards_22 (by decide) ?_
        have hs : s_X7_layShards_7 i ld1 = (upd ld1 i 0) := by rfl
        rw [foldN_s s_X7_layShards_7 n i ld1, hs] at K7
        exact ih (i + 1) (upd ld1 i 0) (by omega) K7
  refine L7 4 0 ld (by omega)  ?_
  refine v_iconst E dX7_layShards_25 (v := 0) (by decide) ?_
  refine v_istore_n E dX7_layShards_26 rfl rfl ?_
  have L27 : ∀ (n i : Nat) (sh1 : Nat → Int32), i + n = 20 → V Z D 0 0 [(q 0, .inr (7, [.ref (q 1), .ref (q 2), .ref (q 3), .ref (q 4), .ref (q 5), .ref (q 6), .ref (q 7), .ref (q 8), .ref (q 9), .ref (q 10)])), (q 1, aI D 703 g), (q 4, aZ D 40 (w_X7_affectedTests_2 g ch N)), (q 8, aI D 4 (foldN s_X7_layShards_7 4 0 ld)), (q 9, aI D 20 (foldN s_X7_layShards_27 n i sh1))] [some (.ref (q 0)), some (.int sd), some (.int (r_X7_affectedTests g ch N)), none, none, none] [] 47 → V Z D 0 0 [(q 0, .inr (7, [.ref (q 1), .ref (q 2), .ref (q 3), .ref (q 4), .ref (q 5), .ref (q 6), .ref (q 7), .ref (q 8), .ref (q 9), .ref (q 10)])), (q 1, aI D 703 g), (q 4, aZ D 40 (w_X7_affectedTests_2 g ch N)), (q 8, aI D 4 (foldN s_X7_layShards_7 4 0 ld)), (q 9, aI D 20 sh1)] [some (.ref (q 0)), some (.int sd), some (.int (r_X7_affectedTests g ch N)), some (.int (nI i)), none, none] [] 27 := by
    intro n
    induction n with
    | zero =>
      intro i sh1 hi  K27
      have hiN : i = 20 := by omega
      rw [hiN]
      refine v_iload_n E dX7_layShards_27 rfl ?_
      refine v_bipush E dX7_layShards_28 (v := 20) (by decide) ?_
      refine v_icmp_ge E 47 dX7_layShards_30 (by decide) (fun c_30 => ?_) (fun c_30 => ?_)
      · refine v_mask [true, true, true, false, true, true] rfl ?_
        exact K27
      · exact absurd (leN (a := 20) (b := 20) (show (20 : Int32) = nI 20 by decide) rfl (by omega) (by omega)) c_30
    | succ n ih =>
      intro i sh1 hi  K27
      refine v_iload_n E dX7_layShards_27 rfl ?_
      refine v_bipush E dX7_layShards_28 (v := 20) (by decide) ?_
      refine v_icmp_ge E 47 dX7_layShards_30 (by decide) (fun c_30 => ?_) (fun c_30 => ?_)
      · exact absurd c_30 (nleN (a := 20) (b := i) (show (20 : Int32) = nI 20 by decide) rfl (by omega) (by omega))
      · refine v_aload_n E dX7_layShards_33 rfl ?_
        refine v_get E dX7_layShards_34 (ci := 7) rfl iwX7 0 rfl 8 rfl fl_X7_35 rfl ?_
        refine v_iload_n E dX7_layShards_37 rfl ?_
        refine v_bipush E dX7_layShards_38 (v := -10) (by decide) ?_
        refine v_iast E dX7_layShards_40 4 rfl i rfl (by omega) rfl ?_
        refine v_wd (wd2 := [(q 0, .inr (7, [.ref (q 1), .ref (q 2), .ref (q 3), .ref (q 4), .ref (q 5), .ref (q 6), .ref (q 7), .ref (q 8), .ref (q 9), .ref (q 10)])), (q 1, aI D 703 g), (q 4, aZ D 40 (w_X7_affectedTests_2 g ch N)), (q 8, aI D 4 (foldN s_X7_layShards_7 4 0 ld)), (q 9, aI D 20 (upd sh1 i (-10)))]) rfl ?_
        refine v_iinc E dX7_layShards_41 (v := nI (i + 1)) rfl (inc1 _) rfl rfl ?_
        refine v_goto E 27 dX7_layShards_44 (by decide) ?_
        have hs : s_X7_layShards_27 i sh1 = (upd sh1 i (-10)) := by rfl
        rw [foldN_s s_X7_layShards_27 n i sh1, hs] at K27
        exact ih (i + 1) (upd sh1 i (-10)) (by omega) K27
  refine L27 20 0 sh (by omega)  ?_
  have L47 : ∀ (n : Nat) (lf : Int32) (ld2 : Nat → Int32) (sh2 : Nat → Int32), okm N lf → e_X7_layShards_47 (whN e_X7_layShards_47 (s_X7_layShards_47 g S N) n (lf, ld2, sh2)) = true → V Z D 0 0 [(q 0, .inr (7, [.ref (q 1), .ref (q 2), .ref (q 3), .ref (q 4), .ref (q 5), .ref (q 6), .ref (q 7), .ref (q 8), .ref (q 9), .ref (q 10)])), (q 1, aI D 703 g), (q 4, aZ D 40 (w_X7_affectedTests_2 g ch N)), (q 8, aI D 4 ((whN e_X7_layShards_47 (s_X7_layShards_47 g S N) n (lf, ld2, sh2)).2.1)), (q 9, aI D 20 ((whN e_X7_layShards_47 (s_X7_layShards_47 g S N) n (lf, ld2, sh2)).2.2))] [some (.ref (q 0)), some (.int sd), some (.int ((whN e_X7_layShards_47 (s_X7_layShards_47 g S N) n (lf, ld2, sh2)).1)), none, none, none] [] 199 → V Z D 0 0 [(q 0, .inr (7, [.ref (q 1), .ref (q 2), .ref (q 3), .ref (q 4), .ref (q 5), .ref (q 6), .ref (q 7), .ref (q 8), .ref (q 9), .ref (q 10)])), (q 1, aI D 703 g), (q 4, aZ D 40 (w_X7_affectedTests_2 g ch N)), (q 8, aI D 4 ld2), (q 9, aI D 20 sh2)] [some (.ref (q 0)), some (.int sd), some (.int lf), none, none, none] [] 47 := by
    intro n
    induction n with
    | zero =>
      intro lf ld2 sh2 hlf hT47 K47
      refine v_iload_n E dX7_layShards_47 rfl ?_
      refine v_if_eq E 199 dX7_layShards_48 (by decide) (fun c_48 => ?_) (fun c_48 => ?_)
      · exact K47
      · exact absurd (of_decide_eq_true (p := lf = 0) hT47) c_48
    | succ n ih =>
      intro lf ld2 sh2 hlf hT47 K47
      refine v_iload_n E dX7_layShards_47 rfl ?_
      refine v_if_eq E 199 dX7_layShards_48 (by decide) (fun c_48 => ?_) (fun c_48 => ?_)
      · rw [whN_e (show e_X7_layShards_47 (lf, ld2, sh2) = true from decide_eq_true c_48)] at K47
        exact K47
      · refine v_bipush E dX7_layShards_51 (v := -10) (by decide) ?_
        refine v_istore_n E dX7_layShards_53 rfl rfl ?_
        refine v_iconst E dX7_layShards_54 (v := 0) (by decide) ?_
        refine v_istore E dX7_layShards_55 rfl rfl ?_
        have L57 : ∀ (n1 i : Nat) (nx : Int32), i + n1 = N → (¬ nx < 0 → nx = nI nx.toNatClampNeg ∧ nx.toNatClampNeg < 20) → V Z D 0 0 [(q 0, .inr (7, [.ref (q 1), .ref (q 2), .ref (q 3), .ref (q 4), .ref (q 5), .ref (q 6), .ref (q 7), .ref (q 8), .ref (q 9), .ref (q 10)])), (q 1, aI D 703 g), (q 4, aZ D 40 (w_X7_affectedTests_2 g ch N)), (q 8, aI D 4 ld2), (q 9, aI D 20 sh2)] [some (.ref (q 0)), some (.int sd), some (.int lf), some (.int (foldN (s_X7_layShards_57 g lf) n1 i nx)), none, none] [] 121 → V Z D 0 0 [(q 0, .inr (7, [.ref (q 1), .ref (q 2), .ref (q 3), .ref (q 4), .ref (q 5), .ref (q 6), .ref (q 7), .ref (q 8), .ref (q 9), .ref (q 10)])), (q 1, aI D 703 g), (q 4, aZ D 40 (w_X7_affectedTests_2 g ch N)), (q 8, aI D 4 ld2), (q 9, aI D 20 sh2)] [some (.ref (q 0)), some (.int sd), some (.int lf), some (.int nx), some (.int (nI i)), none] [] 57 := by
          intro n1
          induction n1 with
          | zero =>
            intro i nx hi hnx K57
            have hiN : i = N := by omega
            rw [hiN]
            refine v_iload E dX7_layShards_57 rfl ?_
            refine v_aload_n E dX7_layShards_59 rfl ?_
            refine v_get E dX7_layShards_60 (ci := 7) rfl iwX7 0 rfl 0 rfl fl_X7_7 rfl ?_
            refine v_iconst E dX7_layShards_63 (v := 0) (by decide) ?_
            refine v_iald E dX7_layShards_64 1 rfl 0 (show (0 : Int32) = nI 0 by decide) (by omega) rfl ?_
            refine v_icmp_ge E 121 dX7_layShards_65 (by decide) (fun c_65 => ?_) (fun c_65 => ?_)
            · refine v_mask [true, true, true, true, false, true] rfl ?_
              exact K57
            · exact absurd (leN (a := N) (b := N) h0 rfl (by omega) (by omega)) c_65
          | succ n1 ih =>
            intro i nx hi hnx K57
            refine v_iload E dX7_layShards_57 rfl ?_
            refine v_aload_n E dX7_layShards_59 rfl ?_
            refine v_get E dX7_layShards_60 (ci := 7) rfl iwX7 0 rfl 0 rfl fl_X7_7 rfl ?_
            refine v_iconst E dX7_layShards_63 (v := 0) (by decide) ?_
            refine v_iald E dX7_layShards_64 1 rfl 0 (show (0 : Int32) = nI 0 by decide) (by omega) rfl ?_
            refine v_icmp_ge E 121 dX7_layShards_65 (by decide) (fun c_65 => ?_) (fun c_65 => ?_)
            · exact absurd c_65 (nleN (a := N) (b := i) h0 rfl (by omega) (by omega))
            · refine v_iload_n E dX7_layShards_68 rfl ?_
              refine v_iload E dX7_layShards_69 rfl ?_
              refine v_ishr E dX7_layShards_71 ?_
              refine v_iconst E dX7_layShards_72 (v := 1) (by decide) ?_
              refine v_iand E dX7_layShards_73 ?_
              refine v_iconst E dX7_layShards_74 (v := 1) (by decide) ?_
              refine v_icmp_ne E 82 dX7_layShards_75 (by decide) (fun c_75 => ?_) (fun c_75 => ?_)
              · refine v_iconst E dX7_layShards_82 (v := 0) (by decide) ?_
                refine v_istore E dX7_layShards_83 rfl rfl ?_
                refine v_iload E dX7_layShards_85 rfl ?_
                refine v_if_eq E 113 dX7_layShards_87 (by decide) (fun c_87 => ?_) (fun c_87 => ?_)
                · refine v_iload_n E dX7_layShards_113 rfl ?_
                  refine v_istore_n E dX7_layShards_114 rfl rfl ?_
                  refine v_iinc E dX7_layShards_115 (v := nI (i + 1)) rfl (inc1 _) rfl rfl ?_
                  refine v_goto E 57 dX7_layShards_118 (by decide) ?_
                  have hs : s_X7_layShards_57 g lf i nx = nx := by simp only [s_X7_layShards_57, if_neg c_75]
                  rw [foldN_s (s_X7_layShards_57 g lf) n1 i nx, hs] at K57
                  refine v_mask [true, true, true, true, true, false] rfl ?_
                  exact ih (i + 1) nx (by omega) hnx K57
                · exact absurd c_87 (by decide)
              · refine v_iconst E dX7_layShards_78 (v := 1) (by decide) ?_
                refine v_goto E 83 dX7_layShards_79 (by decide) ?_
                refine v_istore E dX7_layShards_83 rfl rfl ?_
                refine v_iload E dX7_layShards_85 rfl ?_
                refine v_if_eq E 113 dX7_layShards_87 (by decide) (fun c_87 => ?_) (fun c_87 => ?_)
                · exact absurd c_87 (by decide)
                · refine v_iload_n E dX7_layShards_90 rfl ?_
                  refine v_if_lt E 108 dX7_layShards_91 (by decide) (fun c_91 => ?_) (fun c_91 => ?_)
                  · refine v_iload E dX7_layShards_108 rfl ?_
                    refine v_goto E 114 dX7_layShards_110 (by decide) ?_
                    refine v_istore_n E dX7_layShards_114 rfl rfl ?_
                    refine v_iinc E dX7_layShards_115 (v := nI (i + 1)) rfl (inc1 _) rfl rfl ?_
                    refine v_goto E 57 dX7_layShards_118 (by decide) ?_
                    have hs : s_X7_layShards_57 g lf i nx = (nI i) := by simp only [s_X7_layShards_57, if_pos c_75, if_pos c_91]
                    rw [foldN_s (s_X7_layShards_57 g lf) n1 i nx, hs] at K57
                    refine v_mask [true, true, true, true, true, false] rfl ?_
                    exact ih (i + 1) (nI i) (by omega) (nx_ok (by omega)) K57
                  · obtain ⟨hx1, hx2⟩ := hnx c_91
                    refine v_aload_n E dX7_layShards_94 rfl ?_
                    refine v_iload E dX7_layShards_95 rfl ?_
                    refine v_cV_i E dX7_layShards_97 (c_X7_weightOf D q g (nI i) i rfl (by omega)) cs_X7_106 rfl rfl rfl (Nat.le_of_ble_eq_true rfl) 0 rfl rfl [0, 1] rfl rfl ⟨Nat.le_of_ble_eq_true rfl, Nat.le_of_ble_eq_true rfl⟩ ?_
                    refine v_aload_n E dX7_layShards_100 rfl ?_
                    refine v_iload_n E dX7_layShards_101 rfl ?_
                    refine v_cV_i E dX7_layShards_102 (c_X7_weightOf D q g nx nx.toNatClampNeg hx1 (by omega)) cs_X7_106 rfl rfl rfl (Nat.le_of_ble_eq_true rfl) 0 rfl rfl [0, 1] rfl rfl ⟨Nat.le_of_ble_eq_true rfl, Nat.le_of_ble_eq_true rfl⟩ ?_
                    refine v_icmp_le E 113 dX7_layShards_105 (by decide) (fun c_105 => ?_) (fun c_105 => ?_)
                    · refine v_iload_n E dX7_layShards_113 rfl ?_
                      refine v_istore_n E dX7_layShards_114 rfl rfl ?_
                      refine v_iinc E dX7_layShards_115 (v := nI (i + 1)) rfl (inc1 _) rfl rfl ?_
                      refine v_goto E 57 dX7_layShards_118 (by decide) ?_
                      have hs : s_X7_layShards_57 g lf i nx = nx := by simp only [s_X7_layShards_57, if_pos c_75, if_neg c_91, if_pos c_105]
                      rw [foldN_s (s_X7_layShards_57 g lf) n1 i nx, hs] at K57
                      refine v_mask [true, true, true, true, true, false] rfl ?_
                      exact ih (i + 1) nx (by omega) hnx K57
                    · refine v_iload E dX7_layShards_108 rfl ?_
                      refine v_goto E 114 dX7_layShards_110 (by decide) ?_
                      refine v_istore_n E dX7_layShards_114 rfl rfl ?_
                      refine v_iinc E dX7_layShards_115 (v := nI (i + 1)) rfl (inc1 _) rfl rfl ?_
                      refine v_goto E 57 dX7_layShards_118 (by decide) ?_
                      have hs : s_X7_layShards_57 g lf i nx = (nI i) := by simp only [s_X7_layShards_57, if_pos c_75, if_neg c_91, if_neg c_105]
                      rw [foldN_s (s_X7_layShards_57 g lf) n1 i nx, hs] at K57
                      refine v_mask [true, true, true, true, true, false] rfl ?_
                      exact ih (i + 1) (nI i) (by omega) (nx_ok (by omega)) K57
        refine L57 N 0 (-10) (by omega) (fun h => absurd (by decide) h) ?_
        refine v_iconst E dX7_layShards_121 (v := 0) (by decide) ?_
        refine v_istore E dX7_layShards_122 rfl rfl ?_
        refine v_iconst E dX7_layShards_124 (v := 1) (by decide) ?_
        refine v_istore E dX7_layShards_125 rfl rfl ?_
        have L127 : ∀ (n2 j : Nat) (tq : Nat), j + n2 = S → tq < 4 → V Z D 0 0 [(q 0, .inr (7, [.ref (q 1), .ref (q 2), .ref (q 3), .ref (q 4), .ref (q 5), .ref (q 6), .ref (q 7), .ref (q 8), .ref (q 9), .ref (q 10)])), (q 1, aI D 703 g), (q 4, aZ D 40 (w_X7_affectedTests_2 g ch N)), (q 8, aI D 4 ld2), (q 9, aI D 20 sh2)] [some (.ref (q 0)), some (.int sd), some (.int lf), some (.int (foldN (s_X7_layShards_57 g lf) N 0 (-10))), some (.int (nI (foldN (s_X7_layShards_127 ld2) n2 j tq))), none] [] 165 → V Z D 0 0 [(q 0, .inr (7, [.ref (q 1), .ref (q 2), .ref (q 3), .ref (q 4), .ref (q 5), .ref (q 6), .ref (q 7), .ref (q 8), .ref (q 9), .ref (q 10)])), (q 1, aI D 703 g), (q 4, aZ D 40 (w_X7_affectedTests_2 g ch N)), (q 8, aI D 4 ld2), (q 9, aI D 20 sh2)] [some (.ref (q 0)), some (.int sd), some (.int lf), some (.int (foldN (s_X7_layShards_57 g lf) N 0 (-10))), some (.int (nI tq)), some (.int (nI j))] [] 127 := by
          intro n2
          induction n2 with
          | zero =>
            intro j tq hi htq K127
            have hiN : j = S := by omega
            rw [hiN]
            refine v_iload E dX7_layShards_127 rfl ?_
            refine v_iload_n E dX7_layShards_129 rfl ?_
            refine v_icmp_ge E 165 dX7_layShards_130 (by decide) (fun c_130 => ?_) (fun c_130 => ?_)
            · refine v_mask [true, true, true, true, true, false] rfl ?_
              exact K127
            · exact absurd (leN (a := S) (b := S) hsd rfl (by omega) (by omega)) c_130
          | succ n2 ih =>
            intro j tq hi htq K127
            refine v_iload E dX7_layShards_127 rfl ?_
            refine v_iload_n E dX7_layShards_129 rfl ?_
            refine v_icmp_ge E 165 dX7_layShards_130 (by decide) (fun c_130 => ?_) (fun c_130 => ?_)
            · exact absurd c_130 (nleN (a := S) (b := j) hsd rfl (by omega) (by omega))
            · refine v_aload_n E dX7_layShards_133 rfl ?_
              refine v_get E dX7_layShards_134 (ci := 7) rfl iwX7 0 rfl 7 rfl fl_X7_32 rfl ?_
              refine v_iload E dX7_layShards_137 rfl ?_
              refine v_iald E dX7_layShards_139 3 rfl j rfl (by omega) rfl ?_
              refine v_aload_n E dX7_layShards_140 rfl ?_
              refine v_get E dX7_layShards_141 (ci := 7) rfl iwX7 0 rfl 7 rfl fl_X7_32 rfl ?_
              refine v_iload E dX7_layShards_144 rfl ?_
              refine v_iald E dX7_layShards_146 3 rfl tq rfl (by omega) rfl ?_
              refine v_icmp_ge E 155 dX7_layShards_147 (by decide) (fun c_147 => ?_) (fun c_147 => ?_)
              · refine v_iload E dX7_layShards_155 rfl ?_
                refine v_istore E dX7_layShards_157 rfl rfl ?_
                refine v_iinc E dX7_layShards_159 (v := nI (j + 1)) rfl (inc1 _) rfl rfl ?_
                refine v_goto E 127 dX7_layShards_162 (by decide) ?_
                have hs : s_X7_layShards_127 ld2 j tq = tq := by simp only [s_X7_layShards_127, if_pos c_147]
                rw [foldN_s (s_X7_layShards_127 ld2) n2 j tq, hs] at K127
                exact ih (j + 1) tq (by omega) (by omega) K127
              · refine v_iload E dX7_layShards_150 rfl ?_
                refine v_goto E 157 dX7_layShards_152 (by decide) ?_
                refine v_istore E dX7_layShards_157 rfl rfl ?_
                refine v_iinc E dX7_layShards_159 (v := nI (j + 1)) rfl (inc1 _) rfl rfl ?_
                refine v_goto E 127 dX7_layShards_162 (by decide) ?_
                have hs : s_X7_layShards_127 ld2 j tq = j := by simp only [s_X7_layShards_127, if_neg c_147]
                rw [foldN_s (s_X7_layShards_127 ld2) n2 j tq, hs] at K127
                exact ih (j + 1) j (by omega) (by omega) K127
        refine L127 (S - 1) 1 0 (by omega) (by omega) ?_
        obtain ⟨hz0, hz1, hz2⟩ := nx_X7 g lf N hN hlf c_48
        have htq4 := tq_X7 ld2 S hS4
        refine v_aload_n E dX7_layShards_165 rfl ?_
        refine v_get E dX7_layShards_166 (ci := 7) rfl iwX7 0 rfl 8 rfl fl_X7_35 rfl ?_
        refine v_iload_n E dX7_layShards_169 rfl ?_
        refine v_iload E dX7_layShards_170 rfl ?_
        refine v_iast E dX7_layShards_172 4 rfl (((foldN (s_X7_layShards_57 g lf) N 0 (-10))).toNatClampNeg) hz1 (by omega) rfl ?_
        refine v_wd (wd2 := [(q 0, .inr (7, [.ref (q 1), .ref (q 2), .ref (q 3), .ref (q 4), .ref (q 5), .ref (q 6), .ref (q 7), .ref (q 8), .ref (q 9), .ref (q 10)])), (q 1, aI D 703 g), (q 4, aZ D 40 (w_X7_affectedTests_2 g ch N)), (q 8, aI D 4 ld2), (q 9, aI D 20 (upd sh2 (((foldN (s_X7_layShards_57 g lf) N 0 (-10))).toNatClampNeg) (nI (foldN (s_X7_layShards_127 ld2) (S - 1) 1 0))))]) rfl ?_
        refine v_aload_n E dX7_layShards_173 rfl ?_
        refine v_get E dX7_layShards_174 (ci := 7) rfl iwX7 0 rfl 7 rfl fl_X7_32 rfl ?_
        refine v_iload E dX7_layShards_177 rfl ?_
        refine v_dup2 E dX7_layShards_179 rfl rfl ?_
        refine v_iald E dX7_layShards_180 3 rfl (foldN (s_X7_layShards_127 ld2) (S - 1) 1 0) rfl (by omega) rfl ?_
        refine v_aload_n E dX7_layShards_181 rfl ?_
        refine v_iload_n E dX7_layShards_182 rfl ?_
        refine v_cV_i E dX7_layShards_183 (c_X7_weightOf D q g (foldN (s_X7_layShards_57 g lf) N 0 (-10)) (((foldN (s_X7_layShards_57 g lf) N 0 (-10))).toNatClampNeg) hz1 (by omega)) cs_X7_106 rfl rfl rfl (Nat.le_of_ble_eq_true rfl) 0 rfl rfl [0, 1] rfl rfl ⟨Nat.le_of_ble_eq_true rfl, Nat.le_of_ble_eq_true rfl⟩ ?_
        refine v_iadd E dX7_layShards_186 ?_
        refine v_iast E dX7_layShards_187 3 rfl (foldN (s_X7_layShards_127 ld2) (S - 1) 1 0) rfl (by omega) rfl ?_
        refine v_wd (wd2 := [(q 0, .inr (7, [.ref (q 1), .ref (q 2), .ref (q 3), .ref (q 4), .ref (q 5), .ref (q 6), .ref (q 7), .ref (q 8), .ref (q 9), .ref (q 10)])), (q 1, aI D 703 g), (q 4, aZ D 40 (w_X7_affectedTests_2 g ch N)), (q 8, aI D 4 (upd ld2 (foldN (s_X7_layShards_127 ld2) (S - 1) 1 0) ((ld2 (foldN (s_X7_layShards_127 ld2) (S - 1) 1 0)) + (r_X7_weightOf g (((foldN (s_X7_layShards_57 g lf) N 0 (-10))).toNatClampNeg))))), (q 9, aI D 20 (upd sh2 (((foldN (s_X7_layShards_57 g lf) N 0 (-10))).toNatClampNeg) (nI (foldN (s_X7_layShards_127 ld2) (S - 1) 1 0))))]) rfl ?_
        refine v_iload_n E dX7_layShards_188 rfl ?_
        refine v_iconst E dX7_layShards_189 (v := 1) (by decide) ?_
        refine v_iload_n E dX7_layShards_190 rfl ?_
        refine v_ishl E dX7_layShards_191 ?_
        refine v_iconst E dX7_layShards_192 (v := -1) (by decide) ?_
        refine v_ixor E dX7_layShards_193 ?_
        refine v_iand E dX7_layShards_194 ?_
        refine v_istore_n E dX7_layShards_195 rfl rfl ?_
        refine v_goto E 47 dX7_layShards_196 (by decide) ?_
        have hs : s_X7_layShards_47 g S N (lf, ld2, sh2) = (lf &&& ((1 <<< ((foldN (s_X7_layShards_57 g lf) N 0 (-10)) &&& 31)) ^^^ (-1)), upd ld2 (foldN (s_X7_layShards_127 ld2) (S - 1) 1 0) ((ld2 (foldN (s_X7_layShards_127 ld2) (S - 1) 1 0)) + (r_X7_weightOf g (((foldN (s_X7_layShards_57 g lf) N 0 (-10))).toNatClampNeg))), upd sh2 (((foldN (s_X7_layShards_57 g lf) N 0 (-10))).toNatClampNeg) (nI (foldN (s_X7_layShards_127 ld2) (S - 1) 1 0))) := by rfl
        rw [whN_s (show e_X7_layShards_47 (lf, ld2, sh2) = false from decide_eq_false c_48), hs] at K47 hT47
        refine v_mask [true, true, true, false, false, true] rfl ?_
        exact ih (lf &&& ((1 <<< ((foldN (s_X7_layShards_57 g lf) N 0 (-10)) &&& 31)) ^^^ (-1))) (upd ld2 (foldN (s_X7_layShards_127 ld2) (S - 1) 1 0) ((ld2 (foldN (s_X7_layShards_127 ld2) (S - 1) 1 0)) + (r_X7_weightOf g (((foldN (s_X7_layShards_57 g lf) N 0 (-10))).toNatClampNeg)))) (upd sh2 (((foldN (s_X7_layShards_57 g lf) N 0 (-10))).toNatClampNeg) (nI (foldN (s_X7_layShards_127 ld2) (S - 1) 1 0))) (okm_and hlf) hT47 K47
  refine L47 20 (r_X7_affectedTests g ch N) (foldN s_X7_layShards_7 4 0 ld) (foldN s_X7_layShards_27 20 0 sh) hOk hWh ?_
  exact v_vret E F dX7_layShards_199 rfl () trivial rfl (Nat.le_of_ble_eq_true rfl) (Nat.le_of_ble_eq_true rfl)

theorem hrem {x y : Int32} {a d : Nat} (hx : x = nI a) (hy : y = nI d) (ha : a < 2 ^ 31) (h0 : 0 < d) (hd : d < 2 ^ 31) : x - x / y * y = nI (a % d) := by rw [hx, hy]; exact pk_rem ha h0 hd
theorem hdiv {x y : Int32} {a d : Nat} (hx : x = nI a) (hy : y = nI d) (ha : a < 2 ^ 31) (h0 : 0 < d) (hd : d < 2 ^ 31) : x / y = nI (a / d) := by rw [hx, hy]; exact pk_div ha h0 hd
theorem nzS {x : Int32} {d : Nat} (hx : x = nI d) (h0 : 1 ≤ d) (hd : d ≤ 4) : ¬ x = 0 := by rw [hx]; exact nI_ne0 h0 (by omega)
theorem sh_use {v : Int32} (h : ¬ r_X7_areShards v = 0) : v = nI v.toNatClampNeg ∧ 1 ≤ v.toNatClampNeg ∧ v.toNatClampNeg ≤ 4 := by
  unfold r_X7_areShards r_X7_in at h
  by_cases h1 : v < 1
  · rw [if_pos h1] at h; exact absurd rfl h
  rw [if_neg h1] at h
  by_cases h2 : 4 < v
  · rw [if_pos h2] at h; exact absurd rfl h
  have h3 : ¬ v < 0 := fun q => h1 (by
    rw [Int32.lt_iff_toInt_lt] at *
    have : (0 : Int32).toInt = 0 := by decide
    have : (1 : Int32).toInt = 1 := by decide
    omega)
  obtain ⟨j, hj, rfl⟩ := nI_of h3
  rw [nI_clamp hj]
  rw [Int32.lt_iff_toInt_lt, nI_toInt hj] at h1 h2
  have e1 : (1 : Int32).toInt = 1 := by decide
  have e4 : (4 : Int32).toInt = 4 := by decide
  rw [e1] at h1
  rw [e4] at h2
  exact ⟨rfl, by omega, by omega⟩
def r_X7_shardOf (g : Nat → Int32) (ch : Nat → Int32) (ld : Nat → Int32) (sh : Nat → Int32) (t : Int32) (sd : Int32) (N : Nat) : Int32 := if (r_X7_isTarget g t) = 0 then (-1) else if (r_X7_areShards sd) = 0 then (-3) else (w_X7_layShards_4 g ch ld sh sd.toNatClampNeg N) t.toNatClampNeg
def w_X7_shardOf_2 (g : Nat → Int32) (ch : Nat → Int32) (t : Int32) (sd : Int32) (N : Nat) : Nat → Int32 := if (r_X7_isTarget g t) = 0 then ch else if (r_X7_areShards sd) = 0 then ch else (w_X7_layShards_2 g ch N)
def w_X7_shardOf_3 (g : Nat → Int32) (ch : Nat → Int32) (ld : Nat → Int32) (sh : Nat → Int32) (t : Int32) (sd : Int32) (N : Nat) : Nat → Int32 := if (r_X7_isTarget g t) = 0 then ld else if (r_X7_areShards sd) = 0 then ld else (w_X7_layShards_3 g ch ld sh sd.toNatClampNeg N)
def w_X7_shardOf_4 (g : Nat → Int32) (ch : Nat → Int32) (ld : Nat → Int32) (sh : Nat → Int32) (t : Int32) (sd : Int32) (N : Nat) : Nat → Int32 := if (r_X7_isTarget g t) = 0 then sh else if (r_X7_areShards sd) = 0 then sh else (w_X7_layShards_4 g ch ld sh sd.toNatClampNeg N)
set_option maxRecDepth 20000 in
/-- X7_shardOf -/
theorem c_X7_shardOf (D : va_G) (q : Nat → Nat) (g : Nat → Int32) (ch : Nat → Int32) (ld : Nat → Int32) (sh : Nat → Int32) (t : Int32) (sd : Int32) (N : Nat) (h0 : g 0 = nI N) (hN : N ≤ 20) (hWs : ∀ ch : Nat → Int32, T_X7_spread_2 g ch N) (hWr : ∀ t wo : Int32, T_X7_reachOf_7 g t wo N) (hOk : okm N (r_X7_affectedTests g ch N)) (hWh : ∀ S, 1 ≤ S → S ≤ 4 → T_X7_layShards_47 g ch ld sh S N) (l : Launch) : Ct l yX7_shardOf cX7_shardOf 3 (some .int) (rmM 7 161 0 0) D [.ref (q 0), .int t, .int sd] [(q 0, .inr (7, [.ref (q 1), .ref (q 2), .ref (q 3), .ref (q 4), .ref (q 5), .ref (q 6), .ref (q 7), .ref (q 8), .ref (q 9), .ref (q 10)])), (q 1, aI D 703 g), (q 4, aZ D 40 ch), (q 8, aI D 4 ld), (q 9, aI D 20 sh)] (QI1 D (r_X7_shardOf g ch ld sh t sd N) [(q 0, .inr (7, [.ref (q 1), .ref (q 2), .ref (q 3), .ref (q 4), .ref (q 5), .ref (q 6), .ref (q 7), .ref (q 8), .ref (q 9), .ref (q 10)])), (q 1, aI D 703 g), (q 4, aZ D 40 (w_X7_shardOf_2 g ch t sd N)), (q 8, aI D 4 (w_X7_shardOf_3 g ch ld sh t sd N)), (q 9, aI D 20 (w_X7_shardOf_4 g ch ld sh t sd N))]) := by
  refine Ct.ofV 0 (lv0 := [some (.ref (q 0)), some (.int t), some (.int sd)]) (by decide) rfl rfl (fun Z E F => ?_)
  refine v_aload_n E dX7_shardOf_0 rfl ?_
  refine v_iload_n E dX7_shardOf_1 rfl ?_
  refine v_cV_i E dX7_shardOf_2 (c_X7_isTarget D q g t) cs_X7_57 rfl rfl rfl (Nat.le_of_ble_eq_true rfl) 0 rfl rfl [0, 1] rfl rfl ⟨Nat.le_of_ble_eq_true rfl, Nat.le_of_ble_eq_true rfl⟩ ?_
  refine v_if_ne E 10 dX7_shardOf_5 (by decide) (fun c_5 => ?_) (fun c_5 => ?_)
  · refine v_iload_n E dX7_shardOf_10 rfl ?_
    refine v_cS_i E dX7_shardOf_11 (c_X7_areShards D sd) cs_X7_121 rfl rfl rfl (Nat.le_of_ble_eq_true rfl) [] rfl rfl ⟨Nat.le_of_ble_eq_true rfl, Nat.le_of_ble_eq_true rfl⟩ ?_
    refine v_if_ne E 20 dX7_shardOf_14 (by decide) (fun c_14 => ?_) (fun c_14 => ?_)
    · obtain ⟨ht1, ht2⟩ := isT_use h0 hN c_5
      obtain ⟨hs1, hs2, hs3⟩ := sh_use c_14
      refine v_aload_n E dX7_shardOf_20 rfl ?_
      refine v_iload_n E dX7_shardOf_21 rfl ?_
      refine v_cV_vU E dX7_shardOf_22 (c_X7_layShards D q g ch ld sh sd sd.toNatClampNeg N hs1 hs2 hs3 h0 hN hWs hWr hOk (hWh _ hs2 hs3)) cs_X7_124 rfl rfl rfl (Nat.le_of_ble_eq_true rfl) 0 rfl rfl [0, 1, 2, 3, 4] rfl rfl ⟨Nat.le_of_ble_eq_true rfl, Nat.le_of_ble_eq_true rfl⟩ [q 0, q 1, q 4, q 8, q 9] rfl rfl ?_
      refine v_wd (wd2 := [(q 0, .inr (7, [.ref (q 1), .ref (q 2), .ref (q 3), .ref (q 4), .ref (q 5), .ref (q 6), .ref (q 7), .ref (q 8), .ref (q 9), .ref (q 10)])), (q 1, aI D 703 g), (q 4, aZ D 40 (w_X7_layShards_2 g ch N)), (q 8, aI D 4 (w_X7_layShards_3 g ch ld sh sd.toNatClampNeg N)), (q 9, aI D 20 (w_X7_layShards_4 g ch ld sh sd.toNatClampNeg N))]) rfl ?_
      refine v_aload_n E dX7_shardOf_25 rfl ?_
      refine v_get E dX7_shardOf_26 (ci := 7) rfl iwX7 0 rfl 8 rfl fl_X7_35 rfl ?_
      refine v_iload_n E dX7_shardOf_29 rfl ?_
      refine v_iald E dX7_shardOf_30 4 rfl t.toNatClampNeg ht1 (by omega) rfl ?_
      exact v_iret E F dX7_shardOf_31 rfl rfl () (by simp only [r_X7_shardOf, if_neg c_5, if_neg c_14]) (by simp only [w_X7_shardOf_2, w_X7_shardOf_3, w_X7_shardOf_4, if_neg c_5, if_neg c_14] <;> rfl) (Nat.le_of_ble_eq_true rfl) (Nat.le_of_ble_eq_true rfl)
    · refine v_bipush E dX7_shardOf_17 (v := -3) (by decide) ?_
      exact v_iret E F dX7_shardOf_19 rfl rfl () (by simp only [r_X7_shardOf, if_neg c_5, if_pos c_14]) (by simp only [w_X7_shardOf_2, w_X7_shardOf_3, w_X7_shardOf_4, if_neg c_5, if_pos c_14] <;> rfl) (Nat.le_of_ble_eq_true rfl) (Nat.le_of_ble_eq_true rfl)
  · refine v_iconst E dX7_shardOf_8 (v := -1) (by decide) ?_
    exact v_iret E F dX7_shardOf_9 rfl rfl () (by simp only [r_X7_shardOf, if_pos c_5]) (by simp only [w_X7_shardOf_2, w_X7_shardOf_3, w_X7_shardOf_4, if_pos c_5] <;> rfl) (Nat.le_of_ble_eq_true rfl) (Nat.le_of_ble_eq_true rfl)

def r_X7_shardLoad (g : Nat → Int32) (ch : Nat → Int32) (ld : Nat → Int32) (sh : Nat → Int32) (sd : Int32) (ow : Int32) (N : Nat) : Int32 := if (r_X7_areShards sd) = 0 then (-3) else if (r_X7_in ow 0 (sd - 1)) = 0 then (-3) else (w_X7_layShards_3 g ch ld sh sd.toNatClampNeg N) ow.toNatClampNeg
def w_X7_shardLoad_2 (g : Nat → Int32) (ch : Nat → Int32) (sd : Int32) (ow : Int32) (N : Nat) : Nat → Int32 := if (r_X7_areShards sd) = 0 then ch else if (r_X7_in ow 0 (sd - 1)) = 0 then ch else (w_X7_layShards_2 g ch N)
def w_X7_shardLoad_3 (g : Nat → Int32) (ch : Nat → Int32) (ld : Nat → Int32) (sh : Nat → Int32) (sd : Int32) (ow : Int32) (N : Nat) : Nat → Int32 := if (r_X7_areShards sd) = 0 then ld else if (r_X7_in ow 0 (sd - 1)) = 0 then ld else (w_X7_layShards_3 g ch ld sh sd.toNatClampNeg N)
def w_X7_shardLoad_4 (g : Nat → Int32) (ch : Nat → Int32) (ld : Nat → Int32) (sh : Nat → Int32) (sd : Int32) (ow : Int32) (N : Nat) : Nat → Int32 := if (r_X7_areShards sd) = 0 then sh else if (r_X7_in ow 0 (sd - 1)) = 0 then sh else (w_X7_layShards_4 g ch ld sh sd.toNatClampNeg N)
set_option maxRecDepth 20000 in
/-- X7_shardLoad -/
theorem c_X7_shardLoad (D : va_G) (q : Nat → Nat) (g : Nat → Int32) (ch : Nat → Int32) (ld : Nat → Int32) (sh : Nat → Int32) (sd : Int32) (ow : Int32) (N : Nat) (h0 : g 0 = nI N) (hN : N ≤ 20) (hWs : ∀ ch : Nat → Int32, T_X7_spread_2 g ch N) (hWr : ∀ t wo : Int32, T_X7_reachOf_7 g t wo N) (hOk : okm N (r_X7_affectedTests g ch N)) (hWh : ∀ S, 1 ≤ S → S ≤ 4 → T_X7_layShards_47 g ch ld sh S N) (l : Launch) : Ct l yX7_shardLoad cX7_shardLoad 3 (some .int) (rmM 7 161 0 0) D [.ref (q 0), .int sd, .int ow] [(q 0, .inr (7, [.ref (q 1), .ref (q 2), .ref (q 3), .ref (q 4), .ref (q 5), .ref (q 6), .ref (q 7), .ref (q 8), .ref (q 9), .ref (q 10)])), (q 1, aI D 703 g), (q 4, aZ D 40 ch), (q 8, aI D 4 ld), (q 9, aI D 20 sh)] (QI1 D (r_X7_shardLoad g ch ld sh sd ow N) [(q 0, .inr (7, [.ref (q 1), .ref (q 2), .ref (q 3), .ref (q 4), .ref (q 5), .ref (q 6), .ref (q 7), .ref (q 8), .ref (q 9), .ref (q 10)])), (q 1, aI D 703 g), (q 4, aZ D 40 (w_X7_shardLoad_2 g ch sd ow N)), (q 8, aI D 4 (w_X7_shardLoad_3 g ch ld sh sd ow N)), (q 9, aI D 20 (w_X7_shardLoad_4 g ch ld sh sd ow N))]) := by
  refine Ct.ofV 0 (lv0 := [some (.ref (q 0)), some (.int sd), some (.int ow)]) (by decide) rfl rfl (fun Z E F => ?_)
  refine v_iload_n E dX7_shardLoad_0 rfl ?_
  refine v_cS_i E dX7_shardLoad_1 (c_X7_areShards D sd) cs_X7_121 rfl rfl rfl (Nat.le_of_ble_eq_true rfl) [] rfl rfl ⟨Nat.le_of_ble_eq_true rfl, Nat.le_of_ble_eq_true rfl⟩ ?_
  refine v_if_eq E 18 dX7_shardLoad_4 (by decide) (fun c_4 => ?_) (fun c_4 => ?_)
  · refine v_bipush E dX7_shardLoad_18 (v := -3) (by decide) ?_
    exact v_iret E F dX7_shardLoad_20 rfl rfl () (by simp only [r_X7_shardLoad, if_pos c_4]) (by simp only [w_X7_shardLoad_2, w_X7_shardLoad_3, w_X7_shardLoad_4, if_pos c_4] <;> rfl) (Nat.le_of_ble_eq_true rfl) (Nat.le_of_ble_eq_true rfl)
  · refine v_iload_n E dX7_shardLoad_7 rfl ?_
    refine v_iconst E dX7_shardLoad_8 (v := 0) (by decide) ?_
    refine v_iload_n E dX7_shardLoad_9 rfl ?_
    refine v_iconst E dX7_shardLoad_10 (v := 1) (by decide) ?_
    refine v_isub E dX7_shardLoad_11 ?_
    refine v_cS_i E dX7_shardLoad_12 (c_X7_in D ow 0 (sd - 1)) cs_X7_41 rfl rfl rfl (Nat.le_of_ble_eq_true rfl) [] rfl rfl ⟨Nat.le_of_ble_eq_true rfl, Nat.le_of_ble_eq_true rfl⟩ ?_
    refine v_if_ne E 21 dX7_shardLoad_15 (by decide) (fun c_15 => ?_) (fun c_15 => ?_)
    · obtain ⟨hs1, hs2, hs3⟩ := sh_use c_4
      obtain ⟨ho1, ho2⟩ := in_use (F := sd.toNatClampNeg) (v := ow) (by omega) (hs1 ▸ c_15)
      refine v_aload_n E dX7_shardLoad_21 rfl ?_
      refine v_iload_n E dX7_shardLoad_22 rfl ?_
      refine v_cV_vU E dX7_shardLoad_23 (c_X7_layShards D q g ch ld sh sd sd.toNatClampNeg N hs1 hs2 hs3 h0 hN hWs hWr hOk (hWh _ hs2 hs3)) cs_X7_124 rfl rfl rfl (Nat.le_of_ble_eq_true rfl) 0 rfl rfl [0, 1, 2, 3, 4] rfl rfl ⟨Nat.le_of_ble_eq_true rfl, Nat.le_of_ble_eq_true rfl⟩ [q 0, q 1, q 4, q 8, q 9] rfl rfl ?_
      refine v_wd (wd2 := [(q 0, .inr (7, [.ref (q 1), .ref (q 2), .ref (q 3), .ref (q 4), .ref (q 5), .ref (q 6), .ref (q 7), .ref (q 8), .ref (q 9), .ref (q 10)])), (q 1, aI D 703 g), (q 4, aZ D 40 (w_X7_layShards_2 g ch N)), (q 8, aI D 4 (w_X7_layShards_3 g ch ld sh sd.toNatClampNeg N)), (q 9, aI D 20 (w_X7_layShards_4 g ch ld sh sd.toNatClampNeg N))]) rfl ?_
      refine v_aload_n E dX7_shardLoad_26 rfl ?_
      refine v_get E dX7_shardLoad_27 (ci := 7) rfl iwX7 0 rfl 7 rfl fl_X7_32 rfl ?_
      refine v_iload_n E dX7_shardLoad_30 rfl ?_
      refine v_iald E dX7_shardLoad_31 3 rfl ow.toNatClampNeg ho1 (by omega) rfl ?_
      exact v_iret E F dX7_shardLoad_32 rfl rfl () (by simp only [r_X7_shardLoad, if_neg c_4, if_neg c_15]) (by simp only [w_X7_shardLoad_2, w_X7_shardLoad_3, w_X7_shardLoad_4, if_neg c_4, if_neg c_15] <;> rfl) (Nat.le_of_ble_eq_true rfl) (Nat.le_of_ble_eq_true rfl)
    · refine v_bipush E dX7_shardLoad_18 (v := -3) (by decide) ?_
      exact v_iret E F dX7_shardLoad_20 rfl rfl () (by simp only [r_X7_shardLoad, if_neg c_4, if_pos c_15]) (by simp only [w_X7_shardLoad_2, w_X7_shardLoad_3, w_X7_shardLoad_4, if_neg c_4, if_pos c_15] <;> rfl) (Nat.le_of_ble_eq_true rfl) (Nat.le_of_ble_eq_true rfl)

def s_X7_greatestBy_3  (i : Nat) (ld1 : Nat → Int32) : Nat → Int32 := upd ld1 i 0
def s_X7_greatestBy_29 (wt : Nat → Int32) (S : Nat) (i : Nat) (z_ : Nat × (Nat → Int32)) : Nat × (Nat → Int32) := match z_ with
  | (lf, ld2) => ((lf / S), upd ld2 (lf % S) ((ld2 (lf % S)) + (wt i)))
def s_X7_greatestBy_72 (ld : Nat → Int32) (wt : Nat → Int32) (w : Nat) (mn : Nat) (S : Nat) (i : Nat) (mo : Int32) : Int32 := if (((foldN (s_X7_greatestBy_29 wt S) mn 0 (w, (foldN s_X7_greatestBy_3 4 0 ld))).2) i) ≤ mo then mo else ((foldN (s_X7_greatestBy_29 wt S) mn 0 (w, (foldN s_X7_greatestBy_3 4 0 ld))).2) i
def r_X7_greatestBy (ld : Nat → Int32) (wt : Nat → Int32) (w : Nat) (mn : Nat) (S : Nat) : Int32 := (foldN (s_X7_greatestBy_72 ld wt w mn S) S 0 0)
def w_X7_greatestBy_1 (ld : Nat → Int32) (wt : Nat → Int32) (w : Nat) (mn : Nat) (S : Nat) : Nat → Int32 := (foldN (s_X7_greatestBy_29 wt S) mn 0 (w, (foldN s_X7_greatestBy_3 4 0 ld))).2
set_option maxRecDepth 20000 in
/-- X7_greatestBy -/
theorem c_X7_greatestBy (D : va_G) (q : Nat → Nat) (ld : Nat → Int32) (wt : Nat → Int32) (wy : Int32) (my : Int32) (sd : Int32) (w : Nat) (mn : Nat) (S : Nat) (hwy : wy = nI w) (hmy : my = nI mn) (hsd : sd = nI S) (hS1 : 1 ≤ S) (hS4 : S ≤ 4) (hmn : mn ≤ 10) (hw : w < 2 ^ 31) (l : Launch) : Ct l yX7_greatestBy cX7_greatestBy 7 (some .int) (rmM 0 0 0 0) D [.ref (q 0), .int wy, .int my, .int sd] [(q 0, .inr (7, [.ref (q 1), .ref (q 2), .ref (q 3), .ref (q 4), .ref (q 5), .ref (q 6), .ref (q 7), .ref (q 8), .ref (q 9), .ref (q 10)])), (q 8, aI D 4 ld), (q 10, aI D 10 wt)] (QI1 D (r_X7_greatestBy ld wt w mn S) [(q 0, .inr (7, [.ref (q 1), .ref (q 2), .ref (q 3), .ref (q 4), .ref (q 5), .ref (q 6), .ref (q 7), .ref (q 8), .ref (q 9), .ref (q 10)])), (q 8, aI D 4 (w_X7_greatestBy_1 ld wt w mn S)), (q 10, aI D 10 wt)]) := by
  refine Ct.ofV 3 (lv0 := [some (.ref (q 0)), some (.int wy), some (.int my), some (.int sd), none, none, none]) (by decide) rfl rfl (fun Z E F => ?_)
  refine v_iconst E dX7_greatestBy_0 (v := 0) (by decide) ?_
  refine v_istore E dX7_greatestBy_1 rfl rfl ?_
  have L3 : ∀ (n i : Nat) (ld1 : Nat → Int32), i + n = 4 → V Z D 0 0 [(q 0, .inr (7, [.ref (q 1), .ref (q 2), .ref (q 3), .ref (q 4), .ref (q 5), .ref (q 6), .ref (q 7), .ref (q 8), .ref (q 9), .ref (q 10)])), (q 8, aI D 4 (foldN s_X7_greatestBy_3 n i ld1)), (q 10, aI D 10 wt)] [some (.ref (q 0)), some (.int wy), some (.int my), some (.int sd), none, none, none] [] 23 → V Z D 0 0 [(q 0, .inr (7, [.ref (q 1), .ref (q 2), .ref (q 3), .ref (q 4), .ref (q 5), .ref (q 6), .ref (q 7), .ref (q 8), .ref (q 9), .ref (q 10)])), (q 8, aI D 4 ld1), (q 10, aI D 10 wt)] [some (.ref (q 0)), some (.int wy), some (.int my), some (.int sd), some (.int (nI i)), none, none] [] 3 := by
    intro n
    induction n with
    | zero =>
      intro i ld1 hi  K3
      have hiN : i = 4 := by omega
      rw [hiN]
      refine v_iload E dX7_greatestBy_3 rfl ?_
      refine v_iconst E dX7_greatestBy_5 (v := 4) (by decide) ?_
      refine v_icmp_ge E 23 dX7_greatestBy_6 (by decide) (fun c_6 => ?_) (fun c_6 => ?_)
      · refine v_mask [true, true, true, true, false, true, true] rfl ?_
        exact K3
      · exact absurd (leN (a := 4) (b := 4) (show (4 : Int32) = nI 4 by decide) rfl (by omega) (by omega)) c_6
    | succ n ih =>
      intro i ld1 hi  K3
      refine v_iload E dX7_greatestBy_3 rfl ?_
      refine v_iconst E dX7_greatestBy_5 (v := 4) (by decide) ?_
      refine v_icmp_ge E 23 dX7_greatestBy_6 (by decide) (fun c_6 => ?_) (fun c_6 => ?_)
      · exact absurd c_6 (nleN (a := 4) (b := i) (show (4 : Int32) = nI 4 by decide) rfl (by omega) (by omega))
      · refine v_aload_n E dX7_greatestBy_9 rfl ?_
        refine v_get E dX7_greatestBy_10 (ci := 7) rfl iwX7 0 rfl 7 rfl fl_X7_32 rfl ?_
        refine v_iload E dX7_greatestBy_13 rfl ?_
        refine v_iconst E dX7_greatestBy_15 (v := 0) (by decide) ?_
        refine v_iast E dX7_greatestBy_16 1 rfl i rfl (by omega) rfl ?_
        refine v_wd (wd2 := [(q 0, .inr (7, [.ref (q 1), .ref (q 2), .ref (q 3), .ref (q 4), .ref (q 5), .ref (q 6), .ref (q 7), .ref (q 8), .ref (q 9), .ref (q 10)])), (q 8, aI D 4 (upd ld1 i 0)), (q 10, aI D 10 wt)]) rfl ?_
        refine v_iinc E dX7_greatestBy_17 (v := nI (i + 1)) rfl (inc1 _) rfl rfl ?_
        refine v_goto E 3 dX7_greatestBy_20 (by decide) ?_
        have hs : s_X7_greatestBy_3 i ld1 = (upd ld1 i 0) := by rfl
        rw [foldN_s s_X7_greatestBy_3 n i ld1, hs] at K3
        exact ih (i + 1) (upd ld1 i 0) (by omega) K3
  refine L3 4 0 ld (by omega)  ?_
  refine v_iload_n E dX7_greatestBy_23 rfl ?_
  refine v_top (y := nI w) hwy ?_
  refine v_istore E dX7_greatestBy_24 rfl rfl ?_
  refine v_iconst E dX7_greatestBy_26 (v := 0) (by decide) ?_
  refine v_istore E dX7_greatestBy_27 rfl rfl ?_
  have L29 : ∀ (n i : Nat) (lf : Nat) (ld2 : Nat → Int32), i + n = mn → lf < 2 ^ 31 → V Z D 0 0 [(q 0, .inr (7, [.ref (q 1), .ref (q 2), .ref (q 3), .ref (q 4), .ref (q 5), .ref (q 6), .ref (q 7), .ref (q 8), .ref (q 9), .ref (q 10)])), (q 8, aI D 4 ((foldN (s_X7_greatestBy_29 wt S) n i (lf, ld2)).2)), (q 10, aI D 10 wt)] [some (.ref (q 0)), some (.int wy), some (.int my), some (.int sd), some (.int (nI ((foldN (s_X7_greatestBy_29 wt S) n i (lf, ld2)).1))), none, none] [] 66 → V Z D 0 0 [(q 0, .inr (7, [.ref (q 1), .ref (q 2), .ref (q 3), .ref (q 4), .ref (q 5), .ref (q 6), .ref (q 7), .ref (q 8), .ref (q 9), .ref (q 10)])), (q 8, aI D 4 ld2), (q 10, aI D 10 wt)] [some (.ref (q 0)), some (.int wy), some (.int my), some (.int sd), some (.int (nI lf)), some (.int (nI i)), none] [] 29 := by
    intro n
    induction n with
    | zero =>
      intro i lf ld2 hi hlf K29
      have hiN : i = mn := by omega
      rw [hiN]
      refine v_iload E dX7_greatestBy_29 rfl ?_
      refine v_iload_n E dX7_greatestBy_31 rfl ?_
      refine v_icmp_ge E 66 dX7_greatestBy_32 (by decide) (fun c_32 => ?_) (fun c_32 => ?_)
      · refine v_mask [true, true, true, true, true, false, true] rfl ?_
        exact K29
      · exact absurd (leN (a := mn) (b := mn) hmy rfl (by omega) (by omega)) c_32
    | succ n ih =>
      intro i lf ld2 hi hlf K29
      refine v_iload E dX7_greatestBy_29 rfl ?_
      refine v_iload_n E dX7_greatestBy_31 rfl ?_
      refine v_icmp_ge E 66 dX7_greatestBy_32 (by decide) (fun c_32 => ?_) (fun c_32 => ?_)
      · exact absurd c_32 (nleN (a := mn) (b := i) hmy rfl (by omega) (by omega))
      · refine v_aload_n E dX7_greatestBy_35 rfl ?_
        refine v_get E dX7_greatestBy_36 (ci := 7) rfl iwX7 0 rfl 7 rfl fl_X7_32 rfl ?_
        refine v_iload E dX7_greatestBy_39 rfl ?_
        refine v_iload_n E dX7_greatestBy_41 rfl ?_
        refine v_irem E dX7_greatestBy_42 (nzS hsd hS1 hS4) ?_
        refine v_dup2 E dX7_greatestBy_43 rfl rfl ?_
        refine v_iald E dX7_greatestBy_44 1 rfl (lf % S) (hrem (a := lf) (d := S) rfl hsd hlf (by omega) (by omega)) (Nat.lt_of_lt_of_le (Nat.mod_lt _ hS1) hS4) rfl ?_
        refine v_aload_n E dX7_greatestBy_45 rfl ?_
        refine v_get E dX7_greatestBy_46 (ci := 7) rfl iwX7 0 rfl 9 rfl fl_X7_38 rfl ?_
        refine v_iload E dX7_greatestBy_49 rfl ?_
        refine v_iald E dX7_greatestBy_51 2 rfl i rfl (by omega) rfl ?_
        refine v_iadd E dX7_greatestBy_52 ?_
        refine v_iast E dX7_greatestBy_53 1 rfl (lf % S) (hrem (a := lf) (d := S) rfl hsd hlf (by omega) (by omega)) (Nat.lt_of_lt_of_le (Nat.mod_lt _ hS1) hS4) rfl ?_
        refine v_wd (wd2 := [(q 0, .inr (7, [.ref (q 1), .ref (q 2), .ref (q 3), .ref (q 4), .ref (q 5), .ref (q 6), .ref (q 7), .ref (q 8), .ref (q 9), .ref (q 10)])), (q 8, aI D 4 (upd ld2 (lf % S) ((ld2 (lf % S)) + (wt i)))), (q 10, aI D 10 wt)]) rfl ?_
        refine v_iload E dX7_greatestBy_54 rfl ?_
        refine v_iload_n E dX7_greatestBy_56 rfl ?_
        refine v_idiv E dX7_greatestBy_57 (nzS hsd hS1 hS4) ?_
        refine v_istore E dX7_greatestBy_58 rfl rfl ?_
        refine v_iinc E dX7_greatestBy_60 (v := nI (i + 1)) rfl (inc1 _) rfl rfl ?_
        refine v_goto E 29 dX7_greatestBy_63 (by decide) ?_
        rw [show (nI lf) / sd = nI (lf / S) from (hdiv (a := lf) (d := S) rfl hsd hlf (by omega) (by omega))]
        have hs : s_X7_greatestBy_29 wt S i (lf, ld2) = ((lf / S), upd ld2 (lf % S) ((ld2 (lf % S)) + (wt i))) := by rfl
        rw [foldN_s (s_X7_greatestBy_29 wt S) n i (lf, ld2), hs] at K29
        exact ih (i + 1) (lf / S) (upd ld2 (lf % S) ((ld2 (lf % S)) + (wt i))) (by omega) (Nat.lt_of_le_of_lt (Nat.div_le_self _ _) hlf) K29
  refine L29 mn 0 w (foldN s_X7_greatestBy_3 4 0 ld) (by omega) hw ?_
  refine v_iconst E dX7_greatestBy_66 (v := 0) (by decide) ?_
  refine v_istore E dX7_greatestBy_67 rfl rfl ?_
  refine v_iconst E dX7_greatestBy_69 (v := 0) (by decide) ?_
  refine v_istore E dX7_greatestBy_70 rfl rfl ?_
  have L72 : ∀ (n i : Nat) (mo : Int32), i + n = S → V Z D 0 0 [(q 0, .inr (7, [.ref (q 1), .ref (q 2), .ref (q 3), .ref (q 4), .ref (q 5), .ref (q 6), .ref (q 7), .ref (q 8), .ref (q 9), .ref (q 10)])), (q 8, aI D 4 ((foldN (s_X7_greatestBy_29 wt S) mn 0 (w, (foldN s_X7_greatestBy_3 4 0 ld))).2)), (q 10, aI D 10 wt)] [some (.ref (q 0)), some (.int wy), some (.int my), some (.int sd), some (.int (nI ((foldN (s_X7_greatestBy_29 wt S) mn 0 (w, (foldN s_X7_greatestBy_3 4 0 ld))).1))), some (.int (foldN (s_X7_greatestBy_72 ld wt w mn S) n i mo)), none] [] 110 → V Z D 0 0 [(q 0, .inr (7, [.ref (q 1), .ref (q 2), .ref (q 3), .ref (q 4), .ref (q 5), .ref (q 6), .ref (q 7), .ref (q 8), .ref (q 9), .ref (q 10)])), (q 8, aI D 4 ((foldN (s_X7_greatestBy_29 wt S) mn 0 (w, (foldN s_X7_greatestBy_3 4 0 ld))).2)), (q 10, aI D 10 wt)] [some (.ref (q 0)), some (.int wy), some (.int my), some (.int sd), some (.int (nI ((foldN (s_X7_greatestBy_29 wt S) mn 0 (w, (foldN s_X7_greatestBy_3 4 0 ld))).1))), some (.int mo), some (.int (nI i))] [] 72 := by
    intro n
    induction n with
    | zero =>
      intro i mo hi  K72
      have hiN : i = S := by omega
      rw [hiN]
      refine v_iload E dX7_greatestBy_72 rfl ?_
      refine v_iload_n E dX7_greatestBy_74 rfl ?_
      refine v_icmp_ge E 110 dX7_greatestBy_75 (by decide) (fun c_75 => ?_) (fun c_75 => ?_)
      · refine v_mask [true, true, true, true, true, true, false] rfl ?_
        exact K72
      · exact absurd (leN (a := S) (b := S) hsd rfl (by omega) (by omega)) c_75
    | succ n ih =>
      intro i mo hi  K72
      refine v_iload E dX7_greatestBy_72 rfl ?_
      refine v_iload_n E dX7_greatestBy_74 rfl ?_
      refine v_icmp_ge E 110 dX7_greatestBy_75 (by decide) (fun c_75 => ?_) (fun c_75 => ?_)
      · exact absurd c_75 (nleN (a := S) (b := i) hsd rfl (by omega) (by omega))
      · refine v_aload_n E dX7_greatestBy_78 rfl ?_
        refine v_get E dX7_greatestBy_79 (ci := 7) rfl iwX7 0 rfl 7 rfl fl_X7_32 rfl ?_
        refine v_iload E dX7_greatestBy_82 rfl ?_
        refine v_iald E dX7_greatestBy_84 1 rfl i rfl (by omega) rfl ?_
        refine v_iload E dX7_greatestBy_85 rfl ?_
        refine v_icmp_le E 100 dX7_greatestBy_87 (by decide) (fun c_87 => ?_) (fun c_87 => ?_)
        · refine v_iload E dX7_greatestBy_100 rfl ?_
          refine v_istore E dX7_greatestBy_102 rfl rfl ?_
          refine v_iinc E dX7_greatestBy_104 (v := nI (i + 1)) rfl (inc1 _) rfl rfl ?_
          refine v_goto E 72 dX7_greatestBy_107 (by decide) ?_
          have hs : s_X7_greatestBy_72 ld wt w mn S i mo = mo := by simp only [s_X7_greatestBy_72, if_pos c_87]
          rw [foldN_s (s_X7_greatestBy_72 ld wt w mn S) n i mo, hs] at K72
          exact ih (i + 1) mo (by omega) K72
        · refine v_aload_n E dX7_greatestBy_90 rfl ?_
          refine v_get E dX7_greatestBy_91 (ci := 7) rfl iwX7 0 rfl 7 rfl fl_X7_32 rfl ?_
          refine v_iload E dX7_greatestBy_94 rfl ?_
          refine v_iald E dX7_greatestBy_96 1 rfl i rfl (by omega) rfl ?_
          refine v_goto E 102 dX7_greatestBy_97 (by decide) ?_
          refine v_istore E dX7_greatestBy_102 rfl rfl ?_
          refine v_iinc E dX7_greatestBy_104 (v := nI (i + 1)) rfl (inc1 _) rfl rfl ?_
          refine v_goto E 72 dX7_greatestBy_107 (by decide) ?_
          have hs : s_X7_greatestBy_72 ld wt w mn S i mo = (((foldN (s_X7_greatestBy_29 wt S) mn 0 (w, (foldN s_X7_greatestBy_3 4 0 ld))).2) i) := by simp only [s_X7_greatestBy_72, if_neg c_87]
          rw [foldN_s (s_X7_greatestBy_72 ld wt w mn S) n i mo, hs] at K72
          exact ih (i + 1) (((foldN (s_X7_greatestBy_29 wt S) mn 0 (w, (foldN s_X7_greatestBy_3 4 0 ld))).2) i) (by omega) K72
  refine L72 S 0 0 (by omega)  ?_
  refine v_iload E dX7_greatestBy_110 rfl ?_
  exact v_iret E F dX7_greatestBy_112 rfl rfl () rfl rfl (Nat.le_of_ble_eq_true rfl) (Nat.le_of_ble_eq_true rfl)

def cntb (m : Int32) : Nat → Nat
  | 0 => 0
  | n + 1 => cntb m n + if bt m n = true then 1 else 0
theorem cntb_le (m : Int32) : ∀ {a b : Nat}, a ≤ b → cntb m a ≤ cntb m b := by
  intro a b h
  induction h with
  | refl => exact Nat.le_refl _
  | step _ ih => exact Nat.le_trans ih (Nat.le_add_right _ _)
theorem cntb_t {m : Int32} {i : Nat} (h : bt m i = true) : cntb m (i + 1) = cntb m i + 1 := by show _ + (if _ then 1 else 0) = _; rw [if_pos h]
theorem cntb_f {m : Int32} {i : Nat} (h : bt m i = false) : cntb m (i + 1) = cntb m i := by show _ + (if _ then 1 else 0) = _; rw [h]; simp
def s_X7_bestGreatestLoad_23 (g : Nat → Int32) (ch : Nat → Int32) (sd : Int32) (N : Nat) (i : Nat) (z_ : Nat × Nat × (Nat → Int32)) : Nat × Nat × (Nat → Int32) := match z_ with
  | (mn, wy, wt1) => if (((r_X7_affectedTests g ch N) >>> ((nI i) &&& 31)) &&& 1) = 1 then ((mn + 1), (wy * sd.toNatClampNeg), upd wt1 mn (r_X7_weightOf g i)) else (mn, wy, wt1)
def s_X7_bestGreatestLoad_83 (g : Nat → Int32) (ch : Nat → Int32) (wt : Nat → Int32) (sd : Int32) (N : Nat) (i : Nat) (z_ : Int32 × (Nat → Int32)) : Int32 × (Nat → Int32) := match z_ with
  | (be, ld1) => if be ≤ (r_X7_greatestBy ld1 ((foldN (s_X7_bestGreatestLoad_23 g ch sd N) N 0 (0, 1, wt)).2.2) i ((foldN (s_X7_bestGreatestLoad_23 g ch sd N) N 0 (0, 1, wt)).1) sd.toNatClampNeg) then (be, (w_X7_greatestBy_1 ld1 ((foldN (s_X7_bestGreatestLoad_23 g ch sd N) N 0 (0, 1, wt)).2.2) i ((foldN (s_X7_bestGreatestLoad_23 g ch sd N) N 0 (0, 1, wt)).1) sd.toNatClampNeg)) else ((r_X7_greatestBy ld1 ((foldN (s_X7_bestGreatestLoad_23 g ch sd N) N 0 (0, 1, wt)).2.2) i ((foldN (s_X7_bestGreatestLoad_23 g ch sd N) N 0 (0, 1, wt)).1) sd.toNatClampNeg), (w_X7_greatestBy_1 ld1 ((foldN (s_X7_bestGreatestLoad_23 g ch sd N) N 0 (0, 1, wt)).2.2) i ((foldN (s_X7_bestGreatestLoad_23 g ch sd N) N 0 (0, 1, wt)).1) sd.toNatClampNeg))
def r_X7_bestGreatestLoad (g : Nat → Int32) (ch : Nat → Int32) (ld : Nat → Int32) (wt : Nat → Int32) (sd : Int32) (N : Nat) : Int32 := if (r_X7_areShards sd) = 0 then (-3) else (foldN (s_X7_bestGreatestLoad_83 g ch wt sd N) (max 1 ((foldN (s_X7_bestGreatestLoad_23 g ch sd N) N 0 (0, 1, wt)).2.1 / sd.toNatClampNeg) - 1) 1 ((r_X7_greatestBy ld ((foldN (s_X7_bestGreatestLoad_23 g ch sd N) N 0 (0, 1, wt)).2.2) 0 ((foldN (s_X7_bestGreatestLoad_23 g ch sd N) N 0 (0, 1, wt)).1) sd.toNatClampNeg), (w_X7_greatestBy_1 ld ((foldN (s_X7_bestGreatestLoad_23 g ch sd N) N 0 (0, 1, wt)).2.2) 0 ((foldN (s_X7_bestGreatestLoad_23 g ch sd N) N 0 (0, 1, wt)).1) sd.toNatClampNeg))).1
def w_X7_bestGreatestLoad_2 (g : Nat → Int32) (ch : Nat → Int32) (sd : Int32) (N : Nat) : Nat → Int32 := if (r_X7_areShards sd) = 0 then ch else (w_X7_affectedTests_2 g ch N)
def w_X7_bestGreatestLoad_3 (g : Nat → Int32) (ch : Nat → Int32) (ld : Nat → Int32) (wt : Nat → Int32) (sd : Int32) (N : Nat) : Nat → Int32 := if (r_X7_areShards sd) = 0 then ld else (foldN (s_X7_bestGreatestLoad_83 g ch wt sd N) (max 1 ((foldN (s_X7_bestGreatestLoad_23 g ch sd N) N 0 (0, 1, wt)).2.1 / sd.toNatClampNeg) - 1) 1 ((r_X7_greatestBy ld ((foldN (s_X7_bestGreatestLoad_23 g ch sd N) N 0 (0, 1, wt)).2.2) 0 ((foldN (s_X7_bestGreatestLoad_23 g ch sd N) N 0 (0, 1, wt)).1) sd.toNatClampNeg), (w_X7_greatestBy_1 ld ((foldN (s_X7_bestGreatestLoad_23 g ch sd N) N 0 (0, 1, wt)).2.2) 0 ((foldN (s_X7_bestGreatestLoad_23 g ch sd N) N 0 (0, 1, wt)).1) sd.toNatClampNeg))).2
def w_X7_bestGreatestLoad_4 (g : Nat → Int32) (ch : Nat → Int32) (wt : Nat → Int32) (sd : Int32) (N : Nat) : Nat → Int32 := if (r_X7_areShards sd) = 0 then wt else (foldN (s_X7_bestGreatestLoad_23 g ch sd N) N 0 (0, 1, wt)).2.2
theorem mn_X7 (g ch wt : Nat → Int32) (sd : Int32) (N : Nat) (hN : N ≤ 20) (hs2 : 1 ≤ sd.toNatClampNeg) (hs3 : sd.toNatClampNeg ≤ 4) (hC : cntb (r_X7_affectedTests g ch N) N ≤ 10) : (foldN (s_X7_bestGreatestLoad_23 g ch sd N) N 0 (0, 1, wt)).1 ≤ 10 ∧ (foldN (s_X7_bestGreatestLoad_23 g ch sd N) N 0 (0, 1, wt)).2.1 = sd.toNatClampNeg ^ (foldN (s_X7_bestGreatestLoad_23 g ch sd N) N 0 (0, 1, wt)).1 ∧ (foldN (s_X7_bestGreatestLoad_23 g ch sd N) N 0 (0, 1, wt)).2.1 ≤ 1048576 := by
  have key := foldN_ind (f := s_X7_bestGreatestLoad_23 g ch sd N) (M := N) (fun i z => z.1 = cntb (r_X7_affectedTests g ch N) i ∧ z.2.1 = sd.toNatClampNeg ^ z.1) (fun j z hj hz => by
    obtain ⟨mn, wy, wt1⟩ := z
    obtain ⟨z1, z2⟩ := hz
    dsimp only at z1 z2
    simp only [s_X7_bestGreatestLoad_23]
    by_cases hb : bt (r_X7_affectedTests g ch N) j = true
    · rw [if_pos ((sh_1 (by omega)).mpr hb), cntb_t hb, z1, z2, z1]
      exact ⟨rfl, by rw [Nat.pow_succ]⟩
    · rw [if_neg (fun q => hb ((sh_1 (by omega)).mp q)), cntb_f (by simpa using hb)]
      exact ⟨z1, z2⟩) N 0 (0, 1, wt) (by omega) ⟨rfl, rfl⟩
  rw [Nat.zero_add] at key
  have h1 : (foldN (s_X7_bestGreatestLoad_23 g ch sd N) N 0 (0, 1, wt)).1 ≤ 10 := by rw [key.1]; exact hC
  refine ⟨h1, key.2, ?_⟩
  rw [key.2]
  exact Nat.le_trans (Nat.pow_le_pow_left hs3 _) (Nat.le_trans (Nat.pow_le_pow_right (by omega) h1) (by decide))
set_option maxRecDepth 20000 in
/-- X7_bestGreatestLoad -/
theorem c_X7_bestGreatestLoad (D : va_G) (q : Nat → Nat) (g : Nat → Int32) (ch : Nat → Int32) (ld : Nat → Int32) (wt : Nat → Int32) (sd : Int32) (N : Nat) (h0 : g 0 = nI N) (hN : N ≤ 20) (hWs : ∀ ch : Nat → Int32, T_X7_spread_2 g ch N) (hWr : ∀ t wo : Int32, T_X7_reachOf_7 g t wo N) (hC : cntb (r_X7_affectedTests g ch N) N ≤ 10) (l : Launch) : Ct l yX7_bestGreatestLoad cX7_bestGreatestLoad 8 (some .int) (rmM 6 136 0 0) D [.ref (q 0), .int sd] [(q 0, .inr (7, [.ref (q 1), .ref (q 2), .ref (q 3), .ref (q 4), .ref (q 5), .ref (q 6), .ref (q 7), .ref (q 8), .ref (q 9), .ref (q 10)])), (q 1, aI D 703 g), (q 4, aZ D 40 ch), (q 8, aI D 4 ld), (q 10, aI D 10 wt)] (QI1 D (r_X7_bestGreatestLoad g ch ld wt sd N) [(q 0, .inr (7, [.ref (q 1), .ref (q 2), .ref (q 3), .ref (q 4), .ref (q 5), .ref (q 6), .ref (q 7), .ref (q 8), .ref (q 9), .ref (q 10)])), (q 1, aI D 703 g), (q 4, aZ D 40 (w_X7_bestGreatestLoad_2 g ch sd N)), (q 8, aI D 4 (w_X7_bestGreatestLoad_3 g ch ld wt sd N)), (q 10, aI D 10 (w_X7_bestGreatestLoad_4 g ch wt sd N))]) := by
  refine Ct.ofV 6 (lv0 := [some (.ref (q 0)), some (.int sd), none, none, none, none, none, none]) (by decide) rfl rfl (fun Z E F => ?_)
  refine v_iload_n E dX7_bestGreatestLoad_0 rfl ?_
  refine v_cS_i E dX7_bestGreatestLoad_1 (c_X7_areShards D sd) cs_X7_121 rfl rfl rfl (Nat.le_of_ble_eq_true rfl) [] rfl rfl ⟨Nat.le_of_ble_eq_true rfl, Nat.le_of_ble_eq_true rfl⟩ ?_
  refine v_if_ne E 10 dX7_bestGreatestLoad_4 (by decide) (fun c_4 => ?_) (fun c_4 => ?_)
  · obtain ⟨hs1, hs2, hs3⟩ := sh_use c_4
    refine v_aload_n E dX7_bestGreatestLoad_10 rfl ?_
    refine v_cV_iU E dX7_bestGreatestLoad_11 (c_X7_affectedTests D q g ch N h0 hN hWs hWr) cs_X7_118 rfl rfl rfl (Nat.le_of_ble_eq_true rfl) 0 rfl rfl [0, 1, 2] rfl rfl ⟨Nat.le_of_ble_eq_true rfl, Nat.le_of_ble_eq_true rfl⟩ [q 0, q 1, q 4] rfl rfl ?_
    refine v_wd (wd2 := [(q 0, .inr (7, [.ref (q 1), .ref (q 2), .ref (q 3), .ref (q 4), .ref (q 5), .ref (q 6), .ref (q 7), .ref (q 8), .ref (q 9), .ref (q 10)])), (q 1, aI D 703 g), (q 4, aZ D 40 (w_X7_affectedTests_2 g ch N)), (q 8, aI D 4 ld), (q 10, aI D 10 wt)]) rfl ?_
    refine v_istore_n E dX7_bestGreatestLoad_14 rfl rfl ?_
    refine v_iconst E dX7_bestGreatestLoad_15 (v := 0) (by decide) ?_
    refine v_istore_n E dX7_bestGreatestLoad_16 rfl rfl ?_
    refine v_iconst E dX7_bestGreatestLoad_17 (v := 1) (by decide) ?_
    refine v_istore E dX7_bestGreatestLoad_18 rfl rfl ?_
    refine v_iconst E dX7_bestGreatestLoad_20 (v := 0) (by decide) ?_
    refine v_istore E dX7_bestGreatestLoad_21 rfl rfl ?_
    have L23 : ∀ (n i : Nat) (mn : Nat) (wy : Nat) (wt1 : Nat → Int32), i + n = N → mn = cntb (r_X7_affectedTests g ch N) i → wy = sd.toNatClampNeg ^ mn → V Z D 0 0 [(q 0, .inr (7, [.ref (q 1), .ref (q 2), .ref (q 3), .ref (q 4), .ref (q 5), .ref (q 6), .ref (q 7), .ref (q 8), .ref (q 9), .ref (q 10)])), (q 1, aI D 703 g), (q 4, aZ D 40 (w_X7_affectedTests_2 g ch N)), (q 8, aI D 4 ld), (q 10, aI D 10 ((foldN (s_X7_bestGreatestLoad_23 g ch sd N) n i (mn, wy, wt1)).2.2))] [some (.ref (q 0)), some (.int sd), some (.int (r_X7_affectedTests g ch N)), some (.int (nI ((foldN (s_X7_bestGreatestLoad_23 g ch sd N) n i (mn, wy, wt1)).1))), some (.int (nI ((foldN (s_X7_bestGreatestLoad_23 g ch sd N) n i (mn, wy, wt1)).2.1))), none, none, none] [] 71 → V Z D 0 0 [(q 0, .inr (7, [.ref (q 1), .ref (q 2), .ref (q 3), .ref (q 4), .ref (q 5), .ref (q 6), .ref (q 7), .ref (q 8), .ref (q 9), .ref (q 10)])), (q 1, aI D 703 g), (q 4, aZ D 40 (w_X7_affectedTests_2 g ch N)), (q 8, aI D 4 ld), (q 10, aI D 10 wt1)] [some (.ref (q 0)), some (.int sd), some (.int (r_X7_affectedTests g ch N)), some (.int (nI mn)), some (.int (nI wy)), some (.int (nI i)), none, none] [] 23 := by
      intro n
      induction n with
      | zero =>
        intro i mn wy wt1 hi hmn hwy K23
        have hiN : i = N := by omega
        rw [hiN]
        refine v_iload E dX7_bestGreatestLoad_23 rfl ?_
        refine v_aload_n E dX7_bestGreatestLoad_25 rfl ?_
        refine v_get E dX7_bestGreatestLoad_26 (ci := 7) rfl iwX7 0 rfl 0 rfl fl_X7_7 rfl ?_
        refine v_iconst E dX7_bestGreatestLoad_29 (v := 0) (by decide) ?_
        refine v_iald E dX7_bestGreatestLoad_30 1 rfl 0 (show (0 : Int32) = nI 0 by decide) (by omega) rfl ?_
        refine v_icmp_ge E 71 dX7_bestGreatestLoad_31 (by decide) (fun c_31 => ?_) (fun c_31 => ?_)
        · refine v_mask [true, true, true, true, true, false, true, true] rfl ?_
          exact K23
        · exact absurd (leN (a := N) (b := N) h0 rfl (by omega) (by omega)) c_31
      | succ n ih =>
        intro i mn wy wt1 hi hmn hwy K23
        refine v_iload E dX7_bestGreatestLoad_23 rfl ?_
        refine v_aload_n E dX7_bestGreatestLoad_25 rfl ?_
        refine v_get E dX7_bestGreatestLoad_26 (ci := 7) rfl iwX7 0 rfl 0 rfl fl_X7_7 rfl ?_
        refine v_iconst E dX7_bestGreatestLoad_29 (v := 0) (by decide) ?_
        refine v_iald E dX7_bestGreatestLoad_30 1 rfl 0 (show (0 : Int32) = nI 0 by decide) (by omega) rfl ?_
        refine v_icmp_ge E 71 dX7_bestGreatestLoad_31 (by decide) (fun c_31 => ?_) (fun c_31 => ?_)
        · exact absurd c_31 (nleN (a := N) (b := i) h0 rfl (by omega) (by omega))
        · refine v_iload_n E dX7_bestGreatestLoad_34 rfl ?_
          refine v_iload E dX7_bestGreatestLoad_35 rfl ?_
          refine v_ishr E dX7_bestGreatestLoad_37 ?_
          refine v_iconst E dX7_bestGreatestLoad_38 (v := 1) (by decide) ?_
          refine v_iand E dX7_bestGreatestLoad_39 ?_
          refine v_iconst E dX7_bestGreatestLoad_40 (v := 1) (by decide) ?_
          refine v_icmp_ne E 65 dX7_bestGreatestLoad_41 (by decide) (fun c_41 => ?_) (fun c_41 => ?_)
          · refine v_iinc E dX7_bestGreatestLoad_65 (v := nI (i + 1)) rfl (inc1 _) rfl rfl ?_
            refine v_goto E 23 dX7_bestGreatestLoad_68 (by decide) ?_
            have hs : s_X7_bestGreatestLoad_23 g ch sd N i (mn, wy, wt1) = (mn, wy, wt1) := by simp only [s_X7_bestGreatestLoad_23, if_neg c_41]
            rw [foldN_s (s_X7_bestGreatestLoad_23 g ch sd N) n i (mn, wy, wt1), hs] at K23
            exact ih (i + 1) mn wy wt1 (by omega) (by rw [cntb_f (show bt (r_X7_affectedTests g ch N) i = false by simpa using fun q => c_41 ((sh_1 (by omega)).mpr q))]; exact hmn) hwy K23
          · have hbi : bt (r_X7_affectedTests g ch N) i = true := (sh_1 (by omega)).mp c_41
            have hci := cntb_t hbi
            have hcj := cntb_le (r_X7_affectedTests g ch N) (show i + 1 ≤ N by omega)
            refine v_aload_n E dX7_bestGreatestLoad_44 rfl ?_
            refine v_get E dX7_bestGreatestLoad_45 (ci := 7) rfl iwX7 0 rfl 9 rfl fl_X7_38 rfl ?_
            refine v_iload_n E dX7_bestGreatestLoad_48 rfl ?_
            refine v_aload_n E dX7_bestGreatestLoad_49 rfl ?_
            refine v_iload E dX7_bestGreatestLoad_50 rfl ?_
            refine v_cV_i E dX7_bestGreatestLoad_52 (c_X7_weightOf D q g (nI i) i rfl (by omega)) cs_X7_106 rfl rfl rfl (Nat.le_of_ble_eq_true rfl) 0 rfl rfl [0, 1] rfl rfl ⟨Nat.le_of_ble_eq_true rfl, Nat.le_of_ble_eq_true rfl⟩ ?_
            refine v_iast E dX7_bestGreatestLoad_55 4 rfl mn rfl (by omega) rfl ?_
            refine v_wd (wd2 := [(q 0, .inr (7, [.ref (q 1), .ref (q 2), .ref (q 3), .ref (q 4), .ref (q 5), .ref (q 6), .ref (q 7), .ref (q 8), .ref (q 9), .ref (q 10)])), (q 1, aI D 703 g), (q 4, aZ D 40 (w_X7_affectedTests_2 g ch N)), (q 8, aI D 4 ld), (q 10, aI D 10 (upd wt1 mn (r_X7_weightOf g i)))]) rfl ?_
            refine v_iinc E dX7_bestGreatestLoad_56 (v := nI (mn + 1)) rfl (inc1 _) rfl rfl ?_
            refine v_iload E dX7_bestGreatestLoad_59 rfl ?_
            refine v_iload_n E dX7_bestGreatestLoad_61 rfl ?_
            refine v_imul E dX7_bestGreatestLoad_62 ?_
            refine v_istore E dX7_bestGreatestLoad_63 rfl rfl ?_
            refine v_iinc E dX7_bestGreatestLoad_65 (v := nI (i + 1)) rfl (inc1 _) rfl rfl ?_
            refine v_goto E 23 dX7_bestGreatestLoad_68 (by decide) ?_
            rw [show (nI wy) * sd = nI (wy * sd.toNatClampNeg) from (hmul rfl hs1)]
            have hs : s_X7_bestGreatestLoad_23 g ch sd N i (mn, wy, wt1) = ((mn + 1), (wy * sd.toNatClampNeg), upd wt1 mn (r_X7_weightOf g i)) := by simp only [s_X7_bestGreatestLoad_23, if_pos c_41]
            rw [foldN_s (s_X7_bestGreatestLoad_23 g ch sd N) n i (mn, wy, wt1), hs] at K23
            exact ih (i + 1) (mn + 1) (wy * sd.toNatClampNeg) (upd wt1 mn (r_X7_weightOf g i)) (by omega) (by omega) (by rw [hwy, Nat.pow_succ]) K23
    refine L23 N 0 0 1 wt (by omega) rfl rfl ?_
    obtain ⟨hm1, hm2, hm4⟩ := mn_X7 g ch wt sd N hN hs2 hs3 hC
    have hm5 : ((foldN (s_X7_bestGreatestLoad_23 g ch sd N) N 0 (0, 1, wt)).2.1 / sd.toNatClampNeg) ≤ 1048576 := Nat.le_trans (Nat.div_le_self _ _) hm4
    refine v_aload_n E dX7_bestGreatestLoad_71 rfl ?_
    refine v_iconst E dX7_bestGreatestLoad_72 (v := 0) (by decide) ?_
    refine v_iload_n E dX7_bestGreatestLoad_73 rfl ?_
    refine v_iload_n E dX7_bestGreatestLoad_74 rfl ?_
    refine v_cV_iU E dX7_bestGreatestLoad_75 (c_X7_greatestBy D q ld ((foldN (s_X7_bestGreatestLoad_23 g ch sd N) N 0 (0, 1, wt)).2.2) 0 (nI ((foldN (s_X7_bestGreatestLoad_23 g ch sd N) N 0 (0, 1, wt)).1)) sd 0 ((foldN (s_X7_bestGreatestLoad_23 g ch sd N) N 0 (0, 1, wt)).1) sd.toNatClampNeg (show (0 : Int32) = nI 0 by decide) rfl hs1 hs2 hs3 (by omega) (by omega)) cs_X7_127 rfl rfl rfl (Nat.le_of_ble_eq_true rfl) 0 rfl rfl [0, 3, 4] rfl rfl ⟨Nat.le_of_ble_eq_true rfl, Nat.le_of_ble_eq_true rfl⟩ [q 0, q 8, q 10] rfl rfl ?_
    refine v_wd (wd2 := [(q 0, .inr (7, [.ref (q 1), .ref (q 2), .ref (q 3), .ref (q 4), .ref (q 5), .ref (q 6), .ref (q 7), .ref (q 8), .ref (q 9), .ref (q 10)])), (q 1, aI D 703 g), (q 4, aZ D 40 (w_X7_affectedTests_2 g ch N)), (q 8, aI D 4 (w_X7_greatestBy_1 ld ((foldN (s_X7_bestGreatestLoad_23 g ch sd N) N 0 (0, 1, wt)).2.2) 0 ((foldN (s_X7_bestGreatestLoad_23 g ch sd N) N 0 (0, 1, wt)).1) sd.toNatClampNeg)), (q 10, aI D 10 ((foldN (s_X7_bestGreatestLoad_23 g ch sd N) N 0 (0, 1, wt)).2.2))]) rfl ?_
    refine v_istore E dX7_bestGreatestLoad_78 rfl rfl ?_
    refine v_iconst E dX7_bestGreatestLoad_80 (v := 1) (by decide) ?_
    refine v_istore E dX7_bestGreatestLoad_81 rfl rfl ?_
    have L83 : ∀ (n1 i : Nat) (be : Int32) (ld1 : Nat → Int32), i + n1 = (max 1 ((foldN (s_X7_bestGreatestLoad_23 g ch sd N) N 0 (0, 1, wt)).2.1 / sd.toNatClampNeg)) → 1 ≤ i → V Z D 0 0 [(q 0, .inr (7, [.ref (q 1), .ref (q 2), .ref (q 3), .ref (q 4), .ref (q 5), .ref (q 6), .ref (q 7), .ref (q 8), .ref (q 9), .ref (q 10)])), (q 1, aI D 703 g), (q 4, aZ D 40 (w_X7_affectedTests_2 g ch N)), (q 8, aI D 4 ((foldN (s_X7_bestGreatestLoad_83 g ch wt sd N) n1 i (be, ld1)).2)), (q 10, aI D 10 ((foldN (s_X7_bestGreatestLoad_23 g ch sd N) N 0 (0, 1, wt)).2.2))] [some (.ref (q 0)), some (.int sd), some (.int (r_X7_affectedTests g ch N)), some (.int (nI ((foldN (s_X7_bestGreatestLoad_23 g ch sd N) N 0 (0, 1, wt)).1))), some (.int (nI ((foldN (s_X7_bestGreatestLoad_23 g ch sd N) N 0 (0, 1, wt)).2.1))), some (.int ((foldN (s_X7_bestGreatestLoad_83 g ch wt sd N) n1 i (be, ld1)).1)), some (.int (nI (max 1 ((foldN (s_X7_bestGreatestLoad_23 g ch sd N) N 0 (0, 1, wt)).2.1 / sd.toNatClampNeg)))), none] [] 124 → V Z D 0 0 [(q 0, .inr (7, [.ref (q 1), .ref (q 2), .ref (q 3), .ref (q 4), .ref (q 5), .ref (q 6), .ref (q 7), .ref (q 8), .ref (q 9), .ref (q 10)])), (q 1, aI D 703 g), (q 4, aZ D 40 (w_X7_affectedTests_2 g ch N)), (q 8, aI D 4 ld1), (q 10, aI D 10 ((foldN (s_X7_bestGreatestLoad_23 g ch sd N) N 0 (0, 1, wt)).2.2))] [some (.ref (q 0)), some (.int sd), some (.int (r_X7_affectedTests g ch N)), some (.int (nI ((foldN (s_X7_bestGreatestLoad_23 g ch sd N) N 0 (0, 1, wt)).1))), some (.int (nI ((foldN (s_X7_bestGreatestLoad_23 g ch sd N) N 0 (0, 1, wt)).2.1))), some (.int be), some (.int (nI i)), none] [] 83 := by
      intro n1
      induction n1 with
      | zero =>
        intro i be ld1 hi h1i K83
        have hiN : i = (max 1 ((foldN (s_X7_bestGreatestLoad_23 g ch sd N) N 0 (0, 1, wt)).2.1 / sd.toNatClampNeg)) := by omega
        rw [hiN]
        refine v_iload E dX7_bestGreatestLoad_83 rfl ?_
        refine v_iload E dX7_bestGreatestLoad_85 rfl ?_
        refine v_iload_n E dX7_bestGreatestLoad_87 rfl ?_
        refine v_idiv E dX7_bestGreatestLoad_88 (nzS hs1 hs2 hs3) ?_
        refine v_icmp_ge E 124 dX7_bestGreatestLoad_89 (by decide) (fun c_89 => ?_) (fun c_89 => ?_)
        · exact K83
        · exact absurd (leN (a := ((foldN (s_X7_bestGreatestLoad_23 g ch sd N) N 0 (0, 1, wt)).2.1 / sd.toNatClampNeg)) (b := (max 1 ((foldN (s_X7_bestGreatestLoad_23 g ch sd N) N 0 (0, 1, wt)).2.1 / sd.toNatClampNeg))) (hdiv (a := (foldN (s_X7_bestGreatestLoad_23 g ch sd N) N 0 (0, 1, wt)).2.1) (d := sd.toNatClampNeg) rfl hs1 (by omega) (by omega) (by omega)) rfl (by omega) (by omega)) c_89
      | succ n1 ih =>
        intro i be ld1 hi h1i K83
        refine v_iload E dX7_bestGreatestLoad_83 rfl ?_
        refine v_iload E dX7_bestGreatestLoad_85 rfl ?_
        refine v_iload_n E dX7_bestGreatestLoad_87 rfl ?_
        refine v_idiv E dX7_bestGreatestLoad_88 (nzS hs1 hs2 hs3) ?_
        refine v_icmp_ge E 124 dX7_bestGreatestLoad_89 (by decide) (fun c_89 => ?_) (fun c_89 => ?_)
        · exact absurd c_89 (nleN (a := ((foldN (s_X7_bestGreatestLoad_23 g ch sd N) N 0 (0, 1, wt)).2.1 / sd.toNatClampNeg)) (b := i) (hdiv (a := (foldN (s_X7_bestGreatestLoad_23 g ch sd N) N 0 (0, 1, wt)).2.1) (d := sd.toNatClampNeg) rfl hs1 (by omega) (by omega) (by omega)) rfl (by omega) (by omega))
        · refine v_aload_n E dX7_bestGreatestLoad_92 rfl ?_
          refine v_iload E dX7_bestGreatestLoad_93 rfl ?_
          refine v_iload_n E dX7_bestGreatestLoad_95 rfl ?_
          refine v_iload_n E dX7_bestGreatestLoad_96 rfl ?_
          refine v_cV_iU E dX7_bestGreatestLoad_97 (c_X7_greatestBy D q ld1 ((foldN (s_X7_bestGreatestLoad_23 g ch sd N) N 0 (0, 1, wt)).2.2) (nI i) (nI ((foldN (s_X7_bestGreatestLoad_23 g ch sd N) N 0 (0, 1, wt)).1)) sd i ((foldN (s_X7_bestGreatestLoad_23 g ch sd N) N 0 (0, 1, wt)).1) sd.toNatClampNeg rfl rfl hs1 hs2 hs3 (by omega) (by omega)) cs_X7_127 rfl rfl rfl (Nat.le_of_ble_eq_true rfl) 0 rfl rfl [0, 3, 4] rfl rfl ⟨Nat.le_of_ble_eq_true rfl, Nat.le_of_ble_eq_true rfl⟩ [q 0, q 8, q 10] rfl rfl ?_
          refine v_wd (wd2 := [(q 0, .inr (7, [.ref (q 1), .ref (q 2), .ref (q 3), .ref (q 4), .ref (q 5), .ref (q 6), .ref (q 7), .ref (q 8), .ref (q 9), .ref (q 10)])), (q 1, aI D 703 g), (q 4, aZ D 40 (w_X7_affectedTests_2 g ch N)), (q 8, aI D 4 (w_X7_greatestBy_1 ld1 ((foldN (s_X7_bestGreatestLoad_23 g ch sd N) N 0 (0, 1, wt)).2.2) i ((foldN (s_X7_bestGreatestLoad_23 g ch sd N) N 0 (0, 1, wt)).1) sd.toNatClampNeg)), (q 10, aI D 10 ((foldN (s_X7_bestGreatestLoad_23 g ch sd N) N 0 (0, 1, wt)).2.2))]) rfl ?_
          refine v_istore E dX7_bestGreatestLoad_100 rfl rfl ?_
          refine v_iload E dX7_bestGreatestLoad_102 rfl ?_
          refine v_iload E dX7_bestGreatestLoad_104 rfl ?_
          refine v_icmp_ge E 114 dX7_bestGreatestLoad_106 (by decide) (fun c_106 => ?_) (fun c_106 => ?_)
          · refine v_iload E dX7_bestGreatestLoad_114 rfl ?_
            refine v_istore E dX7_bestGreatestLoad_116 rfl rfl ?_
            refine v_iinc E dX7_bestGreatestLoad_118 (v := nI (i + 1)) rfl (inc1 _) rfl rfl ?_
            refine v_goto E 83 dX7_bestGreatestLoad_121 (by decide) ?_
            have hs : s_X7_bestGreatestLoad_83 g ch wt sd N i (be, ld1) = (be, (w_X7_greatestBy_1 ld1 ((foldN (s_X7_bestGreatestLoad_23 g ch sd N) N 0 (0, 1, wt)).2.2) i ((foldN (s_X7_bestGreatestLoad_23 g ch sd N) N 0 (0, 1, wt)).1) sd.toNatClampNeg)) := by simp only [s_X7_bestGreatestLoad_83, if_pos c_106]
            rw [foldN_s (s_X7_bestGreatestLoad_83 g ch wt sd N) n1 i (be, ld1), hs] at K83
            refine v_mask [true, true, true, true, true, true, true, false] rfl ?_
            exact ih (i + 1) be (w_X7_greatestBy_1 ld1 ((foldN (s_X7_bestGreatestLoad_23 g ch sd N) N 0 (0, 1, wt)).2.2) i ((foldN (s_X7_bestGreatestLoad_23 g ch sd N) N 0 (0, 1, wt)).1) sd.toNatClampNeg) (by omega) (by omega) K83
          · refine v_iload E dX7_bestGreatestLoad_109 rfl ?_
            refine v_goto E 116 dX7_bestGreatestLoad_111 (by decide) ?_
            refine v_istore E dX7_bestGreatestLoad_116 rfl rfl ?_
            refine v_iinc E dX7_bestGreatestLoad_118 (v := nI (i + 1)) rfl (inc1 _) rfl rfl ?_
            refine v_goto E 83 dX7_bestGreatestLoad_121 (by decide) ?_
            have hs : s_X7_bestGreatestLoad_83 g ch wt sd N i (be, ld1) = ((r_X7_greatestBy ld1 ((foldN (s_X7_bestGreatestLoad_23 g ch sd N) N 0 (0, 1, wt)).2.2) i ((foldN (s_X7_bestGreatestLoad_23 g ch sd N) N 0 (0, 1, wt)).1) sd.toNatClampNeg), (w_X7_greatestBy_1 ld1 ((foldN (s_X7_bestGreatestLoad_23 g ch sd N) N 0 (0, 1, wt)).2.2) i ((foldN (s_X7_bestGreatestLoad_23 g ch sd N) N 0 (0, 1, wt)).1) sd.toNatClampNeg)) := by simp only [s_X7_bestGreatestLoad_83, if_neg c_106]
            rw [foldN_s (s_X7_bestGreatestLoad_83 g ch wt sd N) n1 i (be, ld1), hs] at K83
            refine v_mask [true, true, true, true, true, true, true, false] rfl ?_
            exact ih (i + 1) (r_X7_greatestBy ld1 ((foldN (s_X7_bestGreatestLoad_23 g ch sd N) N 0 (0, 1, wt)).2.2) i ((foldN (s_X7_bestGreatestLoad_23 g ch sd N) N 0 (0, 1, wt)).1) sd.toNatClampNeg) (w_X7_greatestBy_1 ld1 ((foldN (s_X7_bestGreatestLoad_23 g ch sd N) N 0 (0, 1, wt)).2.2) i ((foldN (s_X7_bestGreatestLoad_23 g ch sd N) N 0 (0, 1, wt)).1) sd.toNatClampNeg) (by omega) (by omega) K83
    refine L83 (max 1 ((foldN (s_X7_bestGreatestLoad_23 g ch sd N) N 0 (0, 1, wt)).2.1 / sd.toNatClampNeg) - 1) 1 (r_X7_greatestBy ld ((foldN (s_X7_bestGreatestLoad_23 g ch sd N) N 0 (0, 1, wt)).2.2) 0 ((foldN (s_X7_bestGreatestLoad_23 g ch sd N) N 0 (0, 1, wt)).1) sd.toNatClampNeg) (w_X7_greatestBy_1 ld ((foldN (s_X7_bestGreatestLoad_23 g ch sd N) N 0 (0, 1, wt)).2.2) 0 ((foldN (s_X7_bestGreatestLoad_23 g ch sd N) N 0 (0, 1, wt)).1) sd.toNatClampNeg) (by omega) (Nat.le_refl 1) ?_
    refine v_iload E dX7_bestGreatestLoad_124 rfl ?_
    exact v_iret E F dX7_bestGreatestLoad_126 rfl rfl () (by simp only [r_X7_bestGreatestLoad, if_neg c_4]) (by simp only [w_X7_bestGreatestLoad_2, w_X7_bestGreatestLoad_3, w_X7_bestGreatestLoad_4, if_neg c_4] <;> rfl) (Nat.le_of_ble_eq_true rfl) (Nat.le_of_ble_eq_true rfl)
  · refine v_bipush E dX7_bestGreatestLoad_7 (v := -3) (by decide) ?_
    exact v_iret E F dX7_bestGreatestLoad_9 rfl rfl () (by simp only [r_X7_bestGreatestLoad, if_pos c_4]) (by simp only [w_X7_bestGreatestLoad_2, w_X7_bestGreatestLoad_3, w_X7_bestGreatestLoad_4, if_pos c_4] <;> rfl) (Nat.le_of_ble_eq_true rfl) (Nat.le_of_ble_eq_true rfl)

