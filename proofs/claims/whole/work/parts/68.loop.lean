/-! the loop -/
theorem v_tableIn {Z : BX} {D : va_G} {kc ks : Nat} {wd : va_W} {lv : List (Option Value)} {st : List Value} {pc : Nat} {cc : ByteArray} {own : String} {rm : Room} {n0 : Nat} (E : EF Z D cc own rm n0) {dflt lo hi : Int} {offs : Array Int} {len : Nat} {x : Int32} {off : Int} (tgt : Nat) (d : decode cc pc = .ok (.tableswitch dflt lo hi offs, len)) (h1 : ¬ x.toInt < lo) (h2 : ¬ hi < x.toInt) (ho : offs[(x.toInt - lo).toNat]? = some off) (ht : (pc : Int) + off = (tgt : Int)) (k : V Z D kc ks wd lv st tgt) : V Z D kc ks wd lv (.int x :: st) pc := by
  obtain ⟨p, l, e, R, s, m, args, below, meth, c, A, nL, Q⟩ := Z
  obtain ⟨hx, hb, hml, rfl, rfl, hown, hts, hK, hA, hN, hlocks⟩ := E
  intro H locs ls hP hD hS hl
  exact lv_tableIn hx hb d h1 h2 ho ht (k H locs ls hP hD hS hl)
theorem v_tableOut {Z : BX} {D : va_G} {kc ks : Nat} {wd : va_W} {lv : List (Option Value)} {st : List Value} {pc : Nat} {cc : ByteArray} {own : String} {rm : Room} {n0 : Nat} (E : EF Z D cc own rm n0) {dflt lo hi : Int} {offs : Array Int} {len : Nat} {x : Int32} (tgt : Nat) (d : decode cc pc = .ok (.tableswitch dflt lo hi offs, len)) (h : x.toInt < lo ∨ hi < x.toInt) (ht : (pc : Int) + dflt = (tgt : Int)) (k : V Z D kc ks wd lv st tgt) : V Z D kc ks wd lv (.int x :: st) pc := by
  obtain ⟨p, l, e, R, s, m, args, below, meth, c, A, nL, Q⟩ := Z
  obtain ⟨hx, hb, hml, rfl, rfl, hown, hts, hK, hA, hN, hlocks⟩ := E
  intro H locs ls hP hD hS hl
  exact lv_tableOut hx hb d h ht (k H locs ls hP hD hS hl)
theorem and31 (x : Int32) : ∃ k, k < 32 ∧ x &&& 31 = nI k := ⟨nt x % 2 ^ 5, Nat.mod_lt _ (by decide), nI_nt (by rw [nt_and, show nt 31 = 2 ^ 5 - 1 by decide +kernel, Nat.and_two_pow_sub_one_eq_mod])⟩
theorem lp_step {Z : BX} {D : va_G} (E : EF Z D cL_law RL room_1 4) {b L : Nat} {xs : Nat → Int32} (SX : SXF Z b L xs) {B c i : Nat} (hi : i + 3 < L) (hc : c ≤ 520) (hB : B < 100000) (H : LPt Z D b (B + 1) (c + 1) i 856) : LPt Z D b B c i 26 := by
  intro N F x0 x1 sv q ct dp we ok us fc ft fn fh fe fo di r g sl zs ch stp od rd ld sh wt tl R K
  refine v_aload_n E dL_law_26 rfl ?_
  refine v_iload_n E dL_law_27 rfl ?_
  refine v_sld E SX dL_law_28 i rfl (by omega) ?_
  refine v_bipush E dL_law_29 (v := 31) (by decide) ?_
  refine v_iand E dL_law_31 ?_
  obtain ⟨k, hk, e⟩ := and31 (xs i)
  refine v_top e ?_
  rcases (show k = 0 ∨ k = 1 ∨ k = 2 ∨ k = 3 ∨ k = 4 ∨ k = 5 ∨ k = 6 ∨ k = 7 ∨ k = 8 ∨ k = 9 ∨ k = 10 ∨ k = 11 ∨ k = 12 ∨ k = 13 ∨ k = 14 ∨ k = 15 ∨ k = 16 ∨ k = 17 ∨ k = 18 ∨ k = 19 ∨ k = 20 ∨ k = 21 ∨ k = 22 ∨ k = 23 ∨ k = 24 ∨ k = 25 ∨ 26 ≤ k by omega) with h | h | h | h | h | h | h | h | h | h | h | h | h | h | h | h | h | h | h | h | h | h | h | h | h | h | h
  · subst h
    exact v_tableIn E 152 dL_law_32 (by decide) (by decide) (off := 120) (by decide) (by decide) (lp_addTarget E SX hi hc hB H N F x0 x1 sv q ct dp we ok us fc ft fn fh fe fo di r g sl zs ch stp od rd ld sh wt tl R K)
  · subst h
    exact v_tableIn E 185 dL_law_32 (by decide) (by decide) (off := 153) (by decide) (by decide) (lp_targetCount E SX hi hc hB H N F x0 x1 sv q ct dp we ok us fc ft fn fh fe fo di r g sl zs ch stp od rd ld sh wt tl R K)
  · subst h
    exact v_tableIn E 198 dL_law_32 (by decide) (by decide) (off := 166) (by decide) (by decide) (lp_addDependency E SX hi hc hB H N F x0 x1 sv q ct dp we ok us fc ft fn fh fe fo di r g sl zs ch stp od rd ld sh wt tl R K)
  · subst h
    exact v_tableIn E 241 dL_law_32 (by decide) (by decide) (off := 209) (by decide) (by decide) (lp_removeDependency E SX hi hc hB H N F x0 x1 sv q ct dp we ok us fc ft fn fh fe fo di r g sl zs ch stp od rd ld sh wt tl R K)
  · subst h
    exact v_tableIn E 274 dL_law_32 (by decide) (by decide) (off := 242) (by decide) (by decide) (lp_addFile E SX hi hc hB H N F x0 x1 sv q ct dp we ok us fc ft fn fh fe fo di r g sl zs ch stp od rd ld sh wt tl R K)
  · subst h
    exact v_tableIn E 333 dL_law_32 (by decide) (by decide) (off := 301) (by decide) (by decide) (lp_edit E SX hi hc hB H N F x0 x1 sv q ct dp we ok us fc ft fn fh fe fo di r g sl zs ch stp od rd ld sh wt tl R K)
  · subst h
    exact v_tableIn E 356 dL_law_32 (by decide) (by decide) (off := 324) (by decide) (by decide) (lp_rename E SX hi hc hB H N F x0 x1 sv q ct dp we ok us fc ft fn fh fe fo di r g sl zs ch stp od rd ld sh wt tl R K)
  · subst h
    exact v_tableIn E 389 dL_law_32 (by decide) (by decide) (off := 357) (by decide) (by decide) (lp_move E SX hi hc hB H N F x0 x1 sv q ct dp we ok us fc ft fn fh fe fo di r g sl zs ch stp od rd ld sh wt tl R K)
  · subst h
    exact v_tableIn E 422 dL_law_32 (by decide) (by decide) (off := 390) (by decide) (by decide) (lp_deleteFile E SX hi hc hB H N F x0 x1 sv q ct dp we ok us fc ft fn fh fe fo di r g sl zs ch stp od rd ld sh wt tl R K)
  · subst h
    exact v_tableIn E 445 dL_law_32 (by decide) (by decide) (off := 413) (by decide) (by decide) (lp_targetOf E SX hi hc hB H N F x0 x1 sv q ct dp we ok us fc ft fn fh fe fo di r g sl zs ch stp od rd ld sh wt tl R K)
  · subst h
    exact v_tableIn E 468 dL_law_32 (by decide) (by decide) (off := 436) (by decide) (by decide) (lp_nameOf E SX hi hc hB H N F x0 x1 sv q ct dp we ok us fc ft fn fh fe fo di r g sl zs ch stp od rd ld sh wt tl R K)
  · subst h
    exact v_tableIn E 491 dL_law_32 (by decide) (by decide) (off := 459) (by decide) (by decide) (lp_follow E SX hi hc hB H N F x0 x1 sv q ct dp we ok us fc ft fn fh fe fo di r g sl zs ch stp od rd ld sh wt tl R K)
  · subst h
    exact v_tableIn E 514 dL_law_32 (by decide) (by decide) (off := 482) (by decide) (by decide) (lp_clearChanges E SX hi hc hB H N F x0 x1 sv q ct dp we ok us fc ft fn fh fe fo di r g sl zs ch stp od rd ld sh wt tl R K)
  · subst h
    exact v_tableIn E 527 dL_law_32 (by decide) (by decide) (off := 495) (by decide) (by decide) (lp_directlyChanged E SX hi hc hB H N F x0 x1 sv q ct dp we ok us fc ft fn fh fe fo di r g sl zs ch stp od rd ld sh wt tl R K)
  · subst h
    exact v_tableIn E 550 dL_law_32 (by decide) (by decide) (off := 518) (by decide) (by decide) (lp_changed E SX hi hc hB H N F x0 x1 sv q ct dp we ok us fc ft fn fh fe fo di r g sl zs ch stp od rd ld sh wt tl R K)
  · subst h
    exact v_tableIn E 573 dL_law_32 (by decide) (by decide) (off := 541) (by decide) (by decide) (lp_affectedTests E SX hi hc hB H N F x0 x1 sv q ct dp we ok us fc ft fn fh fe fo di r g sl zs ch stp od rd ld sh wt tl R K)
  · subst h
    exact v_tableIn E 586 dL_law_32 (by decide) (by decide) (off := 554) (by decide) (by decide) (lp_chain E SX hi hc hB H N F x0 x1 sv q ct dp we ok us fc ft fn fh fe fo di r g sl zs ch stp od rd ld sh wt tl R K)
  · subst h
    exact v_tableIn E 629 dL_law_32 (by decide) (by decide) (off := 597) (by decide) (by decide) (lp_impact E SX hi hc hB H N F x0 x1 sv q ct dp we ok us fc ft fn fh fe fo di r g sl zs ch stp od rd ld sh wt tl R K)
  · subst h
    exact v_tableIn E 662 dL_law_32 (by decide) (by decide) (off := 630) (by decide) (by decide) (lp_mostCritical E SX hi hc hB H N F x0 x1 sv q ct dp we ok us fc ft fn fh fe fo di r g sl zs ch stp od rd ld sh wt tl R K)
  · subst h
    exact v_tableIn E 685 dL_law_32 (by decide) (by decide) (off := 653) (by decide) (by decide) (lp_rebuildOrder E SX hi hc hB H N F x0 x1 sv q ct dp we ok us fc ft fn fh fe fo di r g sl zs ch stp od rd ld sh wt tl R K)
  · subst h
    exact v_tableIn E 708 dL_law_32 (by decide) (by decide) (off := 676) (by decide) (by decide) (lp_rebuildTime E SX hi hc hB H N F x0 x1 sv q ct dp we ok us fc ft fn fh fe fo di r g sl zs ch stp od rd ld sh wt tl R K)
  · subst h
    exact v_tableIn E 721 dL_law_32 (by decide) (by decide) (off := 689) (by decide) (by decide) (lp_shardOf E SX hi hc hB H N F x0 x1 sv q ct dp we ok us fc ft fn fh fe fo di r g sl zs ch stp od rd ld sh wt tl R K)
  · subst h
    exact v_tableIn E 754 dL_law_32 (by decide) (by decide) (off := 722) (by decide) (by decide) (lp_shardLoad E SX hi hc hB H N F x0 x1 sv q ct dp we ok us fc ft fn fh fe fo di r g sl zs ch stp od rd ld sh wt tl R K)
  · subst h
    exact v_tableIn E 787 dL_law_32 (by decide) (by decide) (off := 755) (by decide) (by decide) (lp_bestGreatestLoad E SX hi hc hB H N F x0 x1 sv q ct dp we ok us fc ft fn fh fe fo di r g sl zs ch stp od rd ld sh wt tl R K)
  · subst h
    exact v_tableIn E 810 dL_law_32 (by decide) (by decide) (off := 778) (by decide) (by decide) (lp_save E SX hi hc hB H N F x0 x1 sv q ct dp we ok us fc ft fn fh fe fo di r g sl zs ch stp od rd ld sh wt tl R K)
  · subst h
    exact v_tableIn E 833 dL_law_32 (by decide) (by decide) (off := 801) (by decide) (by decide) (lp_restore E SX hi hc hB H N F x0 x1 sv q ct dp we ok us fc ft fn fh fe fo di r g sl zs ch stp od rd ld sh wt tl R K)
  · refine v_tableOut E 856 dL_law_32 (Or.inr (by rw [nI_toInt (by omega)]; omega)) (by decide) ?_
    refine v_widen (c1 := 100 + 15 * (c + 1)) (s1 := 3000 + 400 * (c + 1)) (by omega) (by omega) ?_
    exact H N F x0 x1 sv q ct dp we ok us fc ft fn fh fe fo di r g sl zs ch stp od rd ld sh wt tl (Rl_B R (Nat.le_succ B)) (KP_B K (Nat.le_succ B))
theorem lp_back {Z : BX} {D : va_G} (E : EF Z D cL_law RL room_1 4) {b B c i : Nat} (H : LPt Z D b B c (i + 4) 18) : LPt Z D b B c i 856 := by
  intro N F x0 x1 sv q ct dp we ok us fc ft fn fh fe fo di r g sl zs ch stp od rd ld sh wt tl R K
  refine v_iinc E dL_law_856 (v := nI (i + 4)) rfl (hadd rfl (show Int32.ofInt 4 = nI 4 by decide)) rfl rfl ?_
  refine v_goto E 18 dL_law_859 (by decide) ?_
  exact H N F x0 x1 sv q ct dp we ok us fc ft fn fh fe fo di r g sl zs ch stp od rd ld sh wt tl R K
theorem ltL4 {L i : Nat} (hL : L < 100000) (hi : i < 100000) (h : ¬ nI L - 4 < nI i) : i + 3 < L := by
  have t4 : (4 : Int32).toInt = 4 := by decide
  have tL : (nI L).toInt = (L : Int) := nI_toInt (by omega)
  have ti : (nI i).toInt = (i : Int) := nI_toInt (by omega)
  rw [Int32.lt_iff_toInt_lt, fb_subI (by omega) (by omega), tL, ti, t4] at h
  omega
theorem lp_loop {Z : BX} {D : va_G} (E : EF Z D cL_law RL room_1 4) {b L : Nat} {xs : Nat → Int32} (SX : SXF Z b L xs) (hL : L ≤ 2048) (hend : ∀ (kc ks : Nat) (wd : va_W) (lv : List (Option Value)), kc ≤ 600000 → ks ≤ 7302250 → V Z D kc ks wd lv [] 862) : ∀ n B c i : Nat, L ≤ i + 4 * n → c + n ≤ 520 → B + n ≤ 90000 → i ≤ 4 * c → LPt Z D b B c i 18 := by
  intro n
  induction n with
  | zero =>
    intro B c i h1 h2 h3 h4
    intro N F x0 x1 sv q ct dp we ok us fc ft fn fh fe fo di r g sl zs ch stp od rd ld sh wt tl R K
    refine v_iload_n E dL_law_18 rfl ?_
    refine v_aload_n E dL_law_19 rfl ?_
    refine v_slen E SX dL_law_20 ?_
    refine v_iconst E dL_law_21 (v := 4) (by decide) ?_
    refine v_isub E dL_law_22 ?_
    refine v_icmp_gt E 862 dL_law_23 (by decide) (fun _ => ?_) (fun cc => ?_)
    · exact hend _ _ _ _ (by omega) (by omega)
    · exact absurd (ltL4 (L := L) (i := i) (by omega) (by omega) cc) (by omega)
  | succ n ih =>
    intro B c i h1 h2 h3 h4
    intro N F x0 x1 sv q ct dp we ok us fc ft fn fh fe fo di r g sl zs ch stp od rd ld sh wt tl R K
    refine v_iload_n E dL_law_18 rfl ?_
    refine v_aload_n E dL_law_19 rfl ?_
    refine v_slen E SX dL_law_20 ?_
    refine v_iconst E dL_law_21 (v := 4) (by decide) ?_
    refine v_isub E dL_law_22 ?_
    refine v_icmp_gt E 862 dL_law_23 (by decide) (fun _ => ?_) (fun cc => ?_)
    · exact hend _ _ _ _ (by omega) (by omega)
    · exact lp_step E SX (ltL4 (L := L) (i := i) (by omega) (by omega) cc) (by omega) (by omega) (lp_back E (ih (B + 1) (c + 1) (i + 4) (by omega) (by omega) (by omega) (by omega))) N F x0 x1 sv q ct dp we ok us fc ft fn fh fe fo di r g sl zs ch stp od rd ld sh wt tl R K
