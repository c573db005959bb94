/-! ChangeImpact: the public methods that make objects -/
theorem isc_use {v : Int32} (h : ¬ r_X6_isShardCount v = 0) : v = nI v.toNatClampNeg ∧ 1 ≤ v.toNatClampNeg ∧ v.toNatClampNeg ≤ 4 := sh_use (v := v) h
theorem brkN_inv {σ : Type} {b : σ → Bool} {f : Nat → σ → σ} {P : Nat → σ → Prop} (h : ∀ i a, b a = false → P i a → P (i + 1) (f i a)) : ∀ (n i : Nat) (a : σ), P i a → ∃ j, j ≤ i + n ∧ P j (brkN b f n i a)
  | 0, i, a, ha => ⟨i, by omega, ha⟩
  | n + 1, i, a, ha => by
    cases hb : b a with
    | true => rw [brkN_t hb]; exact ⟨i, by omega, ha⟩
    | false =>
      rw [brkN_f hb]
      obtain ⟨j, h1, h2⟩ := brkN_inv h n (i + 1) (f i a) (h i a hb ha)
      exact ⟨j, by omega, h2⟩
theorem brkD_inv {σ : Type} {b : σ → Bool} {f : Nat → σ → σ} {P : Nat → σ → Prop} (h : ∀ n a, b a = false → P (n + 1) a → P n (f n a)) : ∀ (n : Nat) (a : σ), P n a → ∃ j, P j (brkD b f n a)
  | 0, a, ha => ⟨0, ha⟩
  | n + 1, a, ha => by
    cases hb : b a with
    | true => rw [brkD_t hb]; exact ⟨n + 1, ha⟩
    | false =>
      rw [brkD_f hb]
      exact brkD_inv h n (f n a) (h n a hb ha)
theorem brkD_X0 (us : Nat → Nat → Int32) (di : Int64) (go : Int32) (n : Nat) (a : Int32 × Nat × (Nat → Int32)) (h : a.2.1 + n ≤ 40) : (brkD b_X0_init_97 (s_X0_init_97 us di go) n a).2.1 ≤ 40 := by
  obtain ⟨j, hj⟩ := brkD_inv (b := b_X0_init_97) (f := s_X0_init_97 us di go) (P := fun u z => z.2.1 + u ≤ 40) (fun n z hb hz => by
    obtain ⟨nx, lk, pa⟩ := z
    have hz : lk + (n + 1) ≤ 40 := hz
    unfold s_X0_init_97
    dsimp only
    split
    · show lk + 1 + n ≤ 40; omega
    · show lk + 1 + n ≤ 40; omega) n a h
  omega
theorem w0_nat (us : Nat → Nat → Int32) (di : Int64) (go : Int32) : ∃ k, k ≤ 40 ∧ w_X0_init_0_1 us di go = nI k := by
  have hLA := la_X0 us di go
  unfold w_X0_init_0_1
  exact ⟨_, brkD_X0 us di go _ _ (by show 0 + (_ + 1) ≤ 40; omega), rfl⟩
def k_X0 (us : Nat → Nat → Int32) (di : Int64) (go : Int32) : Nat := (w_X0_init_0_1 us di go).toNatClampNeg
theorem k_X0_ok (us : Nat → Nat → Int32) (di : Int64) (go : Int32) : k_X0 us di go ≤ 40 ∧ w_X0_init_0_1 us di go = nI (k_X0 us di go) := by
  obtain ⟨k, h1, h2⟩ := w0_nat us di go
  have e : k_X0 us di go = k := by unfold k_X0; rw [h2, nI_clamp (by omega)]
  rw [e]
  exact ⟨h1, h2⟩
theorem spT_ok (m : Int32) : r_X6_smallestTarget m = -10 ∨ (r_X6_smallestTarget m = nI (r_X6_smallestTarget m).toNatClampNeg ∧ (r_X6_smallestTarget m).toNatClampNeg < 20) := by
  have key : ∀ n i : Nat, i + n = 20 → ∀ r, r = s_X6_smallestTarget_2 m n i → r = -10 ∨ ∃ k, k < 20 ∧ r = nI k := by
    intro n
    induction n with
    | zero => intro i hi r hr; exact Or.inl hr
    | succ n ih =>
      intro i hi r hr
      unfold s_X6_smallestTarget_2 at hr
      have h1 := ih (i + 1) (by omega) _ rfl
      have h2 : ∃ k, k < 20 ∧ nI i = nI k := ⟨i, by omega, rfl⟩
      repeat' split at hr
      all_goals subst hr
      all_goals first | exact h1 | exact Or.inr h2
  rcases key 20 0 rfl (r_X6_smallestTarget m) rfl with e | ⟨k, hk, e⟩
  · exact Or.inl e
  · right
    rw [e, nI_clamp (by omega)]
    exact ⟨rfl, hk⟩
def k_X2 (us : Nat → Nat → Int32) (rb : Int32) : Nat := (brkN b_X2_init_27 (s_X2_init_27 us) 20 0 (rb, 0, fun _ => 0)).2.1
theorem k_X2_ok (us : Nat → Nat → Int32) (rb : Int32) : k_X2 us rb ≤ 20 ∧ ∀ k, k < k_X2 us rb → w_X2_init_n0 us rb k = nI (w_X2_init_n0 us rb k).toNatClampNeg ∧ (w_X2_init_n0 us rb k).toNatClampNeg < 20 := by
  obtain ⟨j, hj, h1, h2⟩ := brkN_inv (b := b_X2_init_27) (f := s_X2_init_27 us) (P := fun i z => z.2.1 ≤ i ∧ ∀ k, k < z.2.1 → z.2.2 k = nI (z.2.2 k).toNatClampNeg ∧ (z.2.2 k).toNatClampNeg < 20) (fun i z hb hz => by
    obtain ⟨un, lk, od1⟩ := z
    obtain ⟨z1, z2⟩ := hz
    have z1 : lk ≤ i := z1
    have z2 : ∀ k, k < lk → od1 k = nI (od1 k).toNatClampNeg ∧ (od1 k).toNatClampNeg < 20 := z2
    unfold s_X2_init_27
    dsimp only
    have hok := spT_ok (un &&& ((r_X5_usersOfAny us un 7) ^^^ (-1)))
    generalize r_X6_smallestTarget (un &&& ((r_X5_usersOfAny us un 7) ^^^ (-1))) = sm at hok ⊢
    split
    · exact ⟨Nat.le_succ_of_le z1, z2⟩
    · rename_i hne
      have hok := hok.resolve_left hne
      refine ⟨Nat.succ_le_succ z1, fun k hk => ?_⟩
      have hk : k < lk + 1 := hk
      show upd od1 lk sm k = nI (upd od1 lk sm k).toNatClampNeg ∧ (upd od1 lk sm k).toNatClampNeg < 20
      by_cases e : k = lk
      · subst e
        rw [pk_us]
        exact hok
      · rw [pk_un e]
        exact z2 k (by omega)) 20 0 (rb, 0, fun _ => 0) ⟨Nat.le_refl 0, fun k hk => absurd hk (Nat.not_lt_zero k)⟩
  exact ⟨Nat.le_trans h1 (by omega), h2⟩
def k_X3 (ct : Int32) (we : Nat → Int32) (st : Int32) (S : Nat) : Nat := (brkN b_X3_init_31 (s_X3_init_31 ct we S) 10 0 (st, 0, fun _ => 0, fun _ => 0, fun _ => 0)).2.1
theorem k_X3_le (ct : Int32) (we : Nat → Int32) (st : Int32) (S : Nat) : k_X3 ct we st S ≤ 10 := by
  obtain ⟨j, hj, h1⟩ := brkN_inv (b := b_X3_init_31) (f := s_X3_init_31 ct we S) (P := fun i z => z.2.1 ≤ i) (fun i z hb hz => by
    obtain ⟨lf, ts, gv, wg, ld⟩ := z
    have hz : ts ≤ i := hz
    unfold s_X3_init_31
    dsimp only
    split
    · show ts ≤ i + 1; omega
    · show ts + 1 ≤ i + 1; omega) 10 0 (st, 0, fun _ => 0, fun _ => 0, fun _ => 0) (Nat.le_refl 0)
  exact Nat.le_trans h1 (by omega)
def r_X6_chain (ct : Int32) (us : Nat → Nat → Int32) (di : Int64) (t : Int32) (p : Int32) (ix : Int32) : Int32 := if (r_X5_has ct t) = 0 then (-1) else if (r_X6_inRange p 2) = 0 then (-3) else if ix = (-1) then (if (w_X0_init_0_1 us di (r_X6_pairOf t p)) ≤ 0 then (if (r_X6_inRange ix (w_X0_init_0_1 us di (r_X6_pairOf t p))) = 0 then (-10) else (w_X0_init_n0 us di (r_X6_pairOf t p)) ix.toNatClampNeg) else (w_X0_init_0_1 us di (r_X6_pairOf t p))) else if (r_X6_inRange ix (w_X0_init_0_1 us di (r_X6_pairOf t p))) = 0 then (-10) else (w_X0_init_n0 us di (r_X6_pairOf t p)) ix.toNatClampNeg
set_option maxRecDepth 20000 in
/-- X6_chain -/
theorem c_X6_chain (D : va_G) (x0 : Nat) (x1 : Nat) (q : Nat → Nat) (ct : Int32) (dp : Int32) (we : Nat → Int32) (ok : Nat → Int32) (us : Nat → Nat → Int32) (fc : Int32) (ft : Nat → Int32) (fn : Nat → Int32) (fh : Nat → Int32) (fe : Nat → Int32) (fo : Nat → Int32) (di : Int64) (t : Int32) (p : Int32) (ix : Int32) (l : Launch) : Ct l yX6_chain cX6_chain 5 (some .int) (rmM 4 96 3 82) D [.ref x0, .int t, .int p, .int ix] [(x0, .inr (6, [.ref (q 0), .ref x1])), (q 0, .inr (4, [.ref (q 1), .ref (q 9), .long di])), (q 1, .inr (5, [.int ct, .int dp, .ref (q 2), .ref (q 3), .ref (q 4)])), (q 2, aI D 20 we), (q 3, aI D 3 ok), (q 4, aG D 4 (gU q 5)), (q 5, aI D 20 (us 0)), (q 6, aI D 20 (us 1)), (q 7, aI D 20 (us 2)), (q 8, aI D 20 (us 3)), (q 9, .inr (1, [.int fc, .ref (q 10), .ref (q 11), .ref (q 12), .ref (q 13), .ref (q 14)])), (q 10, aI D 40 ft), (q 11, aI D 40 fn), (q 12, aZ D 40 fh), (q 13, aZ D 40 fe), (q 14, aI D 100 fo)] (QI1 D (r_X6_chain ct us di t p ix) [(x0, .inr (6, [.ref (q 0), .ref x1])), (q 0, .inr (4, [.ref (q 1), .ref (q 9), .long di])), (q 1, .inr (5, [.int ct, .int dp, .ref (q 2), .ref (q 3), .ref (q 4)])), (q 2, aI D 20 we), (q 3, aI D 3 ok), (q 4, aG D 4 (gU q 5)), (q 5, aI D 20 (us 0)), (q 6, aI D 20 (us 1)), (q 7, aI D 20 (us 2)), (q 8, aI D 20 (us 3)), (q 9, .inr (1, [.int fc, .ref (q 10), .ref (q 11), .ref (q 12), .ref (q 13), .ref (q 14)])), (q 10, aI D 40 ft), (q 11, aI D 40 fn), (q 12, aZ D 40 fh), (q 13, aZ D 40 fe), (q 14, aI D 100 fo)]) := by
  refine Ct.ofV 1 (lv0 := [some (.ref x0), some (.int t), some (.int p), some (.int ix), none]) (by decide) rfl rfl (fun Z E F => ?_)
  refine v_aload_n E dX6_chain_0 rfl ?_
  refine v_get E dX6_chain_1 (ci := 6) rfl iwX6 0 rfl 0 rfl fl_X6_12 rfl ?_
  refine v_get E dX6_chain_4 (ci := 4) rfl iwX4 1 rfl 0 rfl fl_X6_20 rfl ?_
  refine v_iload_n E dX6_chain_7 rfl ?_
  refine v_cV_i E dX6_chain_8 (c_X5_has D q ct dp we ok us t) cs_X6_42 rfl rfl rfl (Nat.le_of_ble_eq_true rfl) 2 rfl rfl [2, 3, 4, 5, 6, 7, 8, 9] rfl rfl ⟨Nat.le_of_ble_eq_true rfl, Nat.le_of_ble_eq_true rfl⟩ ?_
  refine v_if_ne E 16 dX6_chain_11 (by decide) (fun c_11 => ?_) (fun c_11 => ?_)
  · refine v_iload_n E dX6_chain_16 rfl ?_
    refine v_iconst E dX6_chain_17 (v := 2) (by decide) ?_
    refine v_cS_i E dX6_chain_18 (c_X6_inRange D p 2) cs_X6_24 rfl rfl rfl (Nat.le_of_ble_eq_true rfl) [] rfl rfl ⟨Nat.le_of_ble_eq_true rfl, Nat.le_of_ble_eq_true rfl⟩ ?_
    refine v_if_ne E 27 dX6_chain_21 (by decide) (fun c_21 => ?_) (fun c_21 => ?_)
    · refine v_new E dX6_chain_27 (ci := 0) rfl iwX0 tyX0 tyX0_ok cl_X6_133 ib_X0 tw_in_X0 [.null, .int 0] (fun j hj => by rcases (show j = 0 ∨ j = 1 by omega) with rfl | rfl <;> rfl) (Nat.le_of_ble_eq_true rfl) (Nat.le_of_ble_eq_true rfl) (fun qv27 => ?_)
      refine v_wd (wd2 := [(x0, .inr (6, [.ref (q 0), .ref x1])), (q 0, .inr (4, [.ref (q 1), .ref (q 9), .long di])), (q 1, .inr (5, [.int ct, .int dp, .ref (q 2), .ref (q 3), .ref (q 4)])), (q 2, aI D 20 we), (q 3, aI D 3 ok), (q 4, aG D 4 (gU q 5)), (q 5, aI D 20 (us 0)), (q 6, aI D 20 (us 1)), (q 7, aI D 20 (us 2)), (q 8, aI D 20 (us 3)), (q 9, .inr (1, [.int fc, .ref (q 10), .ref (q 11), .ref (q 12), .ref (q 13), .ref (q 14)])), (q 10, aI D 40 ft), (q 11, aI D 40 fn), (q 12, aZ D 40 fh), (q 13, aZ D 40 fe), (q 14, aI D 100 fo), (qv27, .inr (0, [.null, .int 0]))]) rfl ?_
      refine v_dup E dX6_chain_30 rfl ?_
      refine v_aload_n E dX6_chain_31 rfl ?_
      refine v_get E dX6_chain_32 (ci := 6) rfl iwX6 0 rfl 0 rfl fl_X6_12 rfl ?_
      refine v_get E dX6_chain_35 (ci := 4) rfl iwX4 1 rfl 0 rfl fl_X6_20 rfl ?_
      refine v_aload_n E dX6_chain_38 rfl ?_
      refine v_get E dX6_chain_39 (ci := 6) rfl iwX6 0 rfl 0 rfl fl_X6_12 rfl ?_
      refine v_get E dX6_chain_42 (ci := 4) rfl iwX4 1 rfl 2 rfl fl_X6_112 rfl ?_
      refine v_iload_n E dX6_chain_45 rfl ?_
      refine v_iload_n E dX6_chain_46 rfl ?_
      refine v_cS_i E dX6_chain_47 (c_X6_pairOf D t p) cs_X6_135 rfl rfl rfl (Nat.le_of_ble_eq_true rfl) [] rfl rfl ⟨Nat.le_of_ble_eq_true rfl, Nat.le_of_ble_eq_true rfl⟩ ?_
      refine v_cI_vG E dX6_chain_50 (c_X0_init D qv27 q ct dp we ok us di (r_X6_pairOf t p)) cs_X6_138 rfl rfl rfl (Nat.le_of_ble_eq_true rfl) [16, 2, 3, 4, 5, 6, 7, 8, 9] rfl rfl ⟨Nat.le_of_ble_eq_true rfl, Nat.le_of_ble_eq_true rfl⟩ (wr := [(x0, .inr (6, [.ref (q 0), .ref x1])), (q 0, .inr (4, [.ref (q 1), .ref (q 9), .long di])), (q 9, .inr (1, [.int fc, .ref (q 10), .ref (q 11), .ref (q 12), .ref (q 13), .ref (q 14)])), (q 10, aI D 40 ft), (q 11, aI D 40 fn), (q 12, aZ D 40 fh), (q 13, aZ D 40 fe), (q 14, aI D 100 fo)]) [0, 1, 10, 11, 12, 13, 14, 15] rfl rfl (by decide) (fun u50 hu50 => ?_)
      refine v_wd (wd2 := [(x0, .inr (6, [.ref (q 0), .ref x1])), (q 0, .inr (4, [.ref (q 1), .ref (q 9), .long di])), (q 9, .inr (1, [.int fc, .ref (q 10), .ref (q 11), .ref (q 12), .ref (q 13), .ref (q 14)])), (q 10, aI D 40 ft), (q 11, aI D 40 fn), (q 12, aZ D 40 fh), (q 13, aZ D 40 fe), (q 14, aI D 100 fo), (qv27, .inr (0, [.ref u50, .int (w_X0_init_0_1 us di (r_X6_pairOf t p))])), (q 1, .inr (5, [.int ct, .int dp, .ref (q 2), .ref (q 3), .ref (q 4)])), (q 2, aI D 20 we), (q 3, aI D 3 ok), (q 4, aG D 4 (gU q 5)), (q 5, aI D 20 (us 0)), (q 6, aI D 20 (us 1)), (q 7, aI D 20 (us 2)), (q 8, aI D 20 (us 3)), (u50, aI D 40 (w_X0_init_n0 us di (r_X6_pairOf t p)))]) rfl ?_
      obtain ⟨hk1, hk2⟩ := k_X0_ok us di (r_X6_pairOf t p)
      refine v_astore E dX6_chain_53 rfl rfl ?_
      refine v_iload_n E dX6_chain_55 rfl ?_
      refine v_iconst E dX6_chain_56 (v := -1) (by decide) ?_
      refine v_icmp_ne E 74 dX6_chain_57 (by decide) (fun c_57 => ?_) (fun c_57 => ?_)
      · refine v_iload_n E dX6_chain_74 rfl ?_
        refine v_aload E dX6_chain_75 rfl ?_
        refine v_get E dX6_chain_77 (ci := 0) rfl iwX0 8 rfl 1 rfl fl_X6_141 rfl ?_
        refine v_cS_i E dX6_chain_80 (c_X6_inRange D ix (w_X0_init_0_1 us di (r_X6_pairOf t p))) cs_X6_24 rfl rfl rfl (Nat.le_of_ble_eq_true rfl) [] rfl rfl ⟨Nat.le_of_ble_eq_true rfl, Nat.le_of_ble_eq_true rfl⟩ ?_
        refine v_if_eq E 96 dX6_chain_83 (by decide) (fun c_83 => ?_) (fun c_83 => ?_)
        · refine v_bipush E dX6_chain_96 (v := -10) (by decide) ?_
          refine v_sub [0, 1, 9, 10, 11, 12, 13, 14, 15, 16, 2, 3, 4, 5, 6, 7] rfl (wd' := [(x0, .inr (6, [.ref (q 0), .ref x1])), (q 0, .inr (4, [.ref (q 1), .ref (q 9), .long di])), (q 1, .inr (5, [.int ct, .int dp, .ref (q 2), .ref (q 3), .ref (q 4)])), (q 2, aI D 20 we), (q 3, aI D 3 ok), (q 4, aG D 4 (gU q 5)), (q 5, aI D 20 (us 0)), (q 6, aI D 20 (us 1)), (q 7, aI D 20 (us 2)), (q 8, aI D 20 (us 3)), (q 9, .inr (1, [.int fc, .ref (q 10), .ref (q 11), .ref (q 12), .ref (q 13), .ref (q 14)])), (q 10, aI D 40 ft), (q 11, aI D 40 fn), (q 12, aZ D 40 fh), (q 13, aZ D 40 fe), (q 14, aI D 100 fo)]) rfl ?_
          exact v_iret E F dX6_chain_98 rfl rfl () (by simp only [r_X6_chain, if_neg c_11, if_neg c_21, if_neg c_57, if_pos c_83]) rfl (Nat.le_of_ble_eq_true rfl) (Nat.le_of_ble_eq_true rfl)
        · obtain ⟨hx1, hx2⟩ := inR_use (F := k_X0 us di (r_X6_pairOf t p)) hk2 (by omega) c_83
          refine v_aload E dX6_chain_86 rfl ?_
          refine v_get E dX6_chain_88 (ci := 0) rfl iwX0 8 rfl 0 rfl fl_X6_144 rfl ?_
          refine v_iload_n E dX6_chain_91 rfl ?_
          refine v_iald E dX6_chain_92 17 rfl ix.toNatClampNeg hx1 (by omega) rfl ?_
          refine v_goto E 98 dX6_chain_93 (by decide) ?_
          refine v_sub [0, 1, 9, 10, 11, 12, 13, 14, 15, 16, 2, 3, 4, 5, 6, 7] rfl (wd' := [(x0, .inr (6, [.ref (q 0), .ref x1])), (q 0, .inr (4, [.ref (q 1), .ref (q 9), .long di])), (q 1, .inr (5, [.int ct, .int dp, .ref (q 2), .ref (q 3), .ref (q 4)])), (q 2, aI D 20 we), (q 3, aI D 3 ok), (q 4, aG D 4 (gU q 5)), (q 5, aI D 20 (us 0)), (q 6, aI D 20 (us 1)), (q 7, aI D 20 (us 2)), (q 8, aI D 20 (us 3)), (q 9, .inr (1, [.int fc, .ref (q 10), .ref (q 11), .ref (q 12), .ref (q 13), .ref (q 14)])), (q 10, aI D 40 ft), (q 11, aI D 40 fn), (q 12, aZ D 40 fh), (q 13, aZ D 40 fe), (q 14, aI D 100 fo)]) rfl ?_
          exact v_iret E F dX6_chain_98 rfl rfl () (by simp only [r_X6_chain, if_neg c_11, if_neg c_21, if_neg c_57, if_neg c_83]) rfl (Nat.le_of_ble_eq_true rfl) (Nat.le_of_ble_eq_true rfl)
      · refine v_aload E dX6_chain_60 rfl ?_
        refine v_get E dX6_chain_62 (ci := 0) rfl iwX0 8 rfl 1 rfl fl_X6_141 rfl ?_
        refine v_if_le E 74 dX6_chain_65 (by decide) (fun c_65 => ?_) (fun c_65 => ?_)
        · refine v_iload_n E dX6_chain_74 rfl ?_
          refine v_aload E dX6_chain_75 rfl ?_
          refine v_get E dX6_chain_77 (ci := 0) rfl iwX0 8 rfl 1 rfl fl_X6_141 rfl ?_
          refine v_cS_i E dX6_chain_80 (c_X6_inRange D ix (w_X0_init_0_1 us di (r_X6_pairOf t p))) cs_X6_24 rfl rfl rfl (Nat.le_of_ble_eq_true rfl) [] rfl rfl ⟨Nat.le_of_ble_eq_true rfl, Nat.le_of_ble_eq_true rfl⟩ ?_
          refine v_if_eq E 96 dX6_chain_83 (by decide) (fun c_83 => ?_) (fun c_83 => ?_)
          · refine v_bipush E dX6_chain_96 (v := -10) (by decide) ?_
            refine v_sub [0, 1, 9, 10, 11, 12, 13, 14, 15, 16, 2, 3, 4, 5, 6, 7] rfl (wd' := [(x0, .inr (6, [.ref (q 0), .ref x1])), (q 0, .inr (4, [.ref (q 1), .ref (q 9), .long di])), (q 1, .inr (5, [.int ct, .int dp, .ref (q 2), .ref (q 3), .ref (q 4)])), (q 2, aI D 20 we), (q 3, aI D 3 ok), (q 4, aG D 4 (gU q 5)), (q 5, aI D 20 (us 0)), (q 6, aI D 20 (us 1)), (q 7, aI D 20 (us 2)), (q 8, aI D 20 (us 3)), (q 9, .inr (1, [.int fc, .ref (q 10), .ref (q 11), .ref (q 12), .ref (q 13), .ref (q 14)])), (q 10, aI D 40 ft), (q 11, aI D 40 fn), (q 12, aZ D 40 fh), (q 13, aZ D 40 fe), (q 14, aI D 100 fo)]) rfl ?_
            exact v_iret E F dX6_chain_98 rfl rfl () (by simp only [r_X6_chain, if_neg c_11, if_neg c_21, if_pos c_57, if_pos c_65, if_pos c_83]) rfl (Nat.le_of_ble_eq_true rfl) (Nat.le_of_ble_eq_true rfl)
          · obtain ⟨hx1, hx2⟩ := inR_use (F := k_X0 us di (r_X6_pairOf t p)) hk2 (by omega) c_83
            refine v_aload E dX6_chain_86 rfl ?_
            refine v_get E dX6_chain_88 (ci := 0) rfl iwX0 8 rfl 0 rfl fl_X6_144 rfl ?_
            refine v_iload_n E dX6_chain_91 rfl ?_
            refine v_iald E dX6_chain_92 17 rfl ix.toNatClampNeg hx1 (by omega) rfl ?_
            refine v_goto E 98 dX6_chain_93 (by decide) ?_
            refine v_sub [0, 1, 9, 10, 11, 12, 13, 14, 15, 16, 2, 3, 4, 5, 6, 7] rfl (wd' := [(x0, .inr (6, [.ref (q 0), .ref x1])), (q 0, .inr (4, [.ref (q 1), .ref (q 9), .long di])), (q 1, .inr (5, [.int ct, .int dp, .ref (q 2), .ref (q 3), .ref (q 4)])), (q 2, aI D 20 we), (q 3, aI D 3 ok), (q 4, aG D 4 (gU q 5)), (q 5, aI D 20 (us 0)), (q 6, aI D 20 (us 1)), (q 7, aI D 20 (us 2)), (q 8, aI D 20 (us 3)), (q 9, .inr (1, [.int fc, .ref (q 10), .ref (q 11), .ref (q 12), .ref (q 13), .ref (q 14)])), (q 10, aI D 40 ft), (q 11, aI D 40 fn), (q 12, aZ D 40 fh), (q 13, aZ D 40 fe), (q 14, aI D 100 fo)]) rfl ?_
            exact v_iret E F dX6_chain_98 rfl rfl () (by simp only [r_X6_chain, if_neg c_11, if_neg c_21, if_pos c_57, if_pos c_65, if_neg c_83]) rfl (Nat.le_of_ble_eq_true rfl) (Nat.le_of_ble_eq_true rfl)
        · refine v_aload E dX6_chain_68 rfl ?_
          refine v_get E dX6_chain_70 (ci := 0) rfl iwX0 8 rfl 1 rfl fl_X6_141 rfl ?_
          refine v_sub [0, 1, 9, 10, 11, 12, 13, 14, 15, 16, 2, 3, 4, 5, 6, 7] rfl (wd' := [(x0, .inr (6, [.ref (q 0), .ref x1])), (q 0, .inr (4, [.ref (q 1), .ref (q 9), .long di])), (q 1, .inr (5, [.int ct, .int dp, .ref (q 2), .ref (q 3), .ref (q 4)])), (q 2, aI D 20 we), (q 3, aI D 3 ok), (q 4, aG D 4 (gU q 5)), (q 5, aI D 20 (us 0)), (q 6, aI D 20 (us 1)), (q 7, aI D 20 (us 2)), (q 8, aI D 20 (us 3)), (q 9, .inr (1, [.int fc, .ref (q 10), .ref (q 11), .ref (q 12), .ref (q 13), .ref (q 14)])), (q 10, aI D 40 ft), (q 11, aI D 40 fn), (q 12, aZ D 40 fh), (q 13, aZ D 40 fe), (q 14, aI D 100 fo)]) rfl ?_
          exact v_iret E F dX6_chain_73 rfl rfl () (by simp only [r_X6_chain, if_neg c_11, if_neg c_21, if_pos c_57, if_neg c_65]) rfl (Nat.le_of_ble_eq_true rfl) (Nat.le_of_ble_eq_true rfl)
    · refine v_bipush E dX6_chain_24 (v := -3) (by decide) ?_
      exact v_iret E F dX6_chain_26 rfl rfl () (by simp only [r_X6_chain, if_neg c_11, if_pos c_21]) rfl (Nat.le_of_ble_eq_true rfl) (Nat.le_of_ble_eq_true rfl)
  · refine v_iconst E dX6_chain_14 (v := -1) (by decide) ?_
    exact v_iret E F dX6_chain_15 rfl rfl () (by simp only [r_X6_chain, if_pos c_11]) rfl (Nat.le_of_ble_eq_true rfl) (Nat.le_of_ble_eq_true rfl)

def r_X6_rebuildOrder (us : Nat → Nat → Int32) (di : Int64) (ix : Int32) : Int32 := if ix = (-1) then (w_X2_init_0_3 us (r_X4_rebuilt us di)) else if (r_X6_inRange ix (w_X2_init_0_3 us (r_X4_rebuilt us di))) = 0 then (-10) else (w_X2_init_n0 us (r_X4_rebuilt us di)) ix.toNatClampNeg
set_option maxRecDepth 20000 in
/-- X6_rebuildOrder -/
theorem c_X6_rebuildOrder (D : va_G) (x0 : Nat) (x1 : Nat) (q : Nat → Nat) (ct : Int32) (dp : Int32) (we : Nat → Int32) (ok : Nat → Int32) (us : Nat → Nat → Int32) (fc : Int32) (ft : Nat → Int32) (fn : Nat → Int32) (fh : Nat → Int32) (fe : Nat → Int32) (fo : Nat → Int32) (di : Int64) (ix : Int32) (l : Launch) : Ct l yX6_rebuildOrder cX6_rebuildOrder 3 (some .int) (rmM 5 115 2 24) D [.ref x0, .int ix] [(x0, .inr (6, [.ref (q 0), .ref x1])), (q 0, .inr (4, [.ref (q 1), .ref (q 9), .long di])), (q 1, .inr (5, [.int ct, .int dp, .ref (q 2), .ref (q 3), .ref (q 4)])), (q 2, aI D 20 we), (q 3, aI D 3 ok), (q 4, aG D 4 (gU q 5)), (q 5, aI D 20 (us 0)), (q 6, aI D 20 (us 1)), (q 7, aI D 20 (us 2)), (q 8, aI D 20 (us 3)), (q 9, .inr (1, [.int fc, .ref (q 10), .ref (q 11), .ref (q 12), .ref (q 13), .ref (q 14)])), (q 10, aI D 40 ft), (q 11, aI D 40 fn), (q 12, aZ D 40 fh), (q 13, aZ D 40 fe), (q 14, aI D 100 fo)] (QI1 D (r_X6_rebuildOrder us di ix) [(x0, .inr (6, [.ref (q 0), .ref x1])), (q 0, .inr (4, [.ref (q 1), .ref (q 9), .long di])), (q 1, .inr (5, [.int ct, .int dp, .ref (q 2), .ref (q 3), .ref (q 4)])), (q 2, aI D 20 we), (q 3, aI D 3 ok), (q 4, aG D 4 (gU q 5)), (q 5, aI D 20 (us 0)), (q 6, aI D 20 (us 1)), (q 7, aI D 20 (us 2)), (q 8, aI D 20 (us 3)), (q 9, .inr (1, [.int fc, .ref (q 10), .ref (q 11), .ref (q 12), .ref (q 13), .ref (q 14)])), (q 10, aI D 40 ft), (q 11, aI D 40 fn), (q 12, aZ D 40 fh), (q 13, aZ D 40 fe), (q 14, aI D 100 fo)]) := by
  refine Ct.ofV 1 (lv0 := [some (.ref x0), some (.int ix), none]) (by decide) rfl rfl (fun Z E F => ?_)
  refine v_new E dX6_rebuildOrder_0 (ci := 2) rfl iwX2 tyX2 tyX2_ok cl_X6_150 ib_X2 tw_in_X2 [.null, .int 0, .null, .int 0] (fun j hj => by rcases (show j = 0 ∨ j = 1 ∨ j = 2 ∨ j = 3 by omega) with rfl | rfl | rfl | rfl <;> rfl) (Nat.le_of_ble_eq_true rfl) (Nat.le_of_ble_eq_true rfl) (fun qv0 => ?_)
  refine v_wd (wd2 := [(x0, .inr (6, [.ref (q 0), .ref x1])), (q 0, .inr (4, [.ref (q 1), .ref (q 9), .long di])), (q 1, .inr (5, [.int ct, .int dp, .ref (q 2), .ref (q 3), .ref (q 4)])), (q 2, aI D 20 we), (q 3, aI D 3 ok), (q 4, aG D 4 (gU q 5)), (q 5, aI D 20 (us 0)), (q 6, aI D 20 (us 1)), (q 7, aI D 20 (us 2)), (q 8, aI D 20 (us 3)), (q 9, .inr (1, [.int fc, .ref (q 10), .ref (q 11), .ref (q 12), .ref (q 13), .ref (q 14)])), (q 10, aI D 40 ft), (q 11, aI D 40 fn), (q 12, aZ D 40 fh), (q 13, aZ D 40 fe), (q 14, aI D 100 fo), (qv0, .inr (2, [.null, .int 0, .null, .int 0]))]) rfl ?_
  refine v_dup E dX6_rebuildOrder_3 rfl ?_
  refine v_aload_n E dX6_rebuildOrder_4 rfl ?_
  refine v_get E dX6_rebuildOrder_5 (ci := 6) rfl iwX6 0 rfl 0 rfl fl_X6_12 rfl ?_
  refine v_get E dX6_rebuildOrder_8 (ci := 4) rfl iwX4 1 rfl 0 rfl fl_X6_20 rfl ?_
  refine v_aload_n E dX6_rebuildOrder_11 rfl ?_
  refine v_get E dX6_rebuildOrder_12 (ci := 6) rfl iwX6 0 rfl 0 rfl fl_X6_12 rfl ?_
  refine v_cV_i E dX6_rebuildOrder_15 (c_X4_rebuilt D q ct dp we ok us fc ft fn fh fe fo di) cs_X6_152 rfl rfl rfl (Nat.le_of_ble_eq_true rfl) 1 rfl rfl [1, 2, 3, 4, 5, 6, 7, 8, 9, 10, 11, 12, 13, 14, 15] rfl rfl ⟨Nat.le_of_ble_eq_true rfl, Nat.le_of_ble_eq_true rfl⟩ ?_
  refine v_cI_vG E dX6_rebuildOrder_18 (c_X2_init D qv0 q ct dp we ok us (r_X4_rebuilt us di)) cs_X6_155 rfl rfl rfl (Nat.le_of_ble_eq_true rfl) [16, 2, 3, 4, 5, 6, 7, 8, 9] rfl rfl ⟨Nat.le_of_ble_eq_true rfl, Nat.le_of_ble_eq_true rfl⟩ (wr := [(x0, .inr (6, [.ref (q 0), .ref x1])), (q 0, .inr (4, [.ref (q 1), .ref (q 9), .long di])), (q 9, .inr (1, [.int fc, .ref (q 10), .ref (q 11), .ref (q 12), .ref (q 13), .ref (q 14)])), (q 10, aI D 40 ft), (q 11, aI D 40 fn), (q 12, aZ D 40 fh), (q 13, aZ D 40 fe), (q 14, aI D 100 fo)]) [0, 1, 10, 11, 12, 13, 14, 15] rfl rfl (by decide) (fun u18 hu18 => ?_)
  refine v_wd (wd2 := [(x0, .inr (6, [.ref (q 0), .ref x1])), (q 0, .inr (4, [.ref (q 1), .ref (q 9), .long di])), (q 9, .inr (1, [.int fc, .ref (q 10), .ref (q 11), .ref (q 12), .ref (q 13), .ref (q 14)])), (q 10, aI D 40 ft), (q 11, aI D 40 fn), (q 12, aZ D 40 fh), (q 13, aZ D 40 fe), (q 14, aI D 100 fo), (qv0, .inr (2, [.ref (q 1), .int (w_X2_init_0_1 (r_X4_rebuilt us di)), .ref u18, .int (w_X2_init_0_3 us (r_X4_rebuilt us di))])), (q 1, .inr (5, [.int ct, .int dp, .ref (q 2), .ref (q 3), .ref (q 4)])), (q 2, aI D 20 we), (q 3, aI D 3 ok), (q 4, aG D 4 (gU q 5)), (q 5, aI D 20 (us 0)), (q 6, aI D 20 (us 1)), (q 7, aI D 20 (us 2)), (q 8, aI D 20 (us 3)), (u18, aI D 20 (w_X2_init_n0 us (r_X4_rebuilt us di)))]) rfl ?_
  obtain ⟨hk1, hk2⟩ := k_X2_ok us (r_X4_rebuilt us di)
  refine v_astore_n E dX6_rebuildOrder_21 rfl rfl ?_
  refine v_iload_n E dX6_rebuildOrder_22 rfl ?_
  refine v_iconst E dX6_rebuildOrder_23 (v := -1) (by decide) ?_
  refine v_icmp_ne E 32 dX6_rebuildOrder_24 (by decide) (fun c_24 => ?_) (fun c_24 => ?_)
  · refine v_iload_n E dX6_rebuildOrder_32 rfl ?_
    refine v_aload_n E dX6_rebuildOrder_33 rfl ?_
    refine v_get E dX6_rebuildOrder_34 (ci := 2) rfl iwX2 8 rfl 3 rfl fl_X6_158 rfl ?_
    refine v_cS_i E dX6_rebuildOrder_37 (c_X6_inRange D ix (w_X2_init_0_3 us (r_X4_rebuilt us di))) cs_X6_24 rfl rfl rfl (Nat.le_of_ble_eq_true rfl) [] rfl rfl ⟨Nat.le_of_ble_eq_true rfl, Nat.le_of_ble_eq_true rfl⟩ ?_
    refine v_if_eq E 52 dX6_rebuildOrder_40 (by decide) (fun c_40 => ?_) (fun c_40 => ?_)
    · refine v_bipush E dX6_rebuildOrder_52 (v := -10) (by decide) ?_
      refine v_sub [0, 1, 9, 10, 11, 12, 13, 14, 15, 16, 2, 3, 4, 5, 6, 7] rfl (wd' := [(x0, .inr (6, [.ref (q 0), .ref x1])), (q 0, .inr (4, [.ref (q 1), .ref (q 9), .long di])), (q 1, .inr (5, [.int ct, .int dp, .ref (q 2), .ref (q 3), .ref (q 4)])), (q 2, aI D 20 we), (q 3, aI D 3 ok), (q 4, aG D 4 (gU q 5)), (q 5, aI D 20 (us 0)), (q 6, aI D 20 (us 1)), (q 7, aI D 20 (us 2)), (q 8, aI D 20 (us 3)), (q 9, .inr (1, [.int fc, .ref (q 10), .ref (q 11), .ref (q 12), .ref (q 13), .ref (q 14)])), (q 10, aI D 40 ft), (q 11, aI D 40 fn), (q 12, aZ D 40 fh), (q 13, aZ D 40 fe), (q 14, aI D 100 fo)]) rfl ?_
      exact v_iret E F dX6_rebuildOrder_54 rfl rfl () (by simp only [r_X6_rebuildOrder, if_neg c_24, if_pos c_40]) rfl (Nat.le_of_ble_eq_true rfl) (Nat.le_of_ble_eq_true rfl)
    · obtain ⟨hx1, hx2⟩ := inR_use (F := k_X2 us (r_X4_rebuilt us di)) rfl (by omega) c_40
      refine v_aload_n E dX6_rebuildOrder_43 rfl ?_
      refine v_get E dX6_rebuildOrder_44 (ci := 2) rfl iwX2 8 rfl 2 rfl fl_X6_159 rfl ?_
      refine v_iload_n E dX6_rebuildOrder_47 rfl ?_
      refine v_iald E dX6_rebuildOrder_48 17 rfl ix.toNatClampNeg hx1 (by omega) rfl ?_
      refine v_goto E 54 dX6_rebuildOrder_49 (by decide) ?_
      refine v_sub [0, 1, 9, 10, 11, 12, 13, 14, 15, 16, 2, 3, 4, 5, 6, 7] rfl (wd' := [(x0, .inr (6, [.ref (q 0), .ref x1])), (q 0, .inr (4, [.ref (q 1), .ref (q 9), .long di])), (q 1, .inr (5, [.int ct, .int dp, .ref (q 2), .ref (q 3), .ref (q 4)])), (q 2, aI D 20 we), (q 3, aI D 3 ok), (q 4, aG D 4 (gU q 5)), (q 5, aI D 20 (us 0)), (q 6, aI D 20 (us 1)), (q 7, aI D 20 (us 2)), (q 8, aI D 20 (us 3)), (q 9, .inr (1, [.int fc, .ref (q 10), .ref (q 11), .ref (q 12), .ref (q 13), .ref (q 14)])), (q 10, aI D 40 ft), (q 11, aI D 40 fn), (q 12, aZ D 40 fh), (q 13, aZ D 40 fe), (q 14, aI D 100 fo)]) rfl ?_
      exact v_iret E F dX6_rebuildOrder_54 rfl rfl () (by simp only [r_X6_rebuildOrder, if_neg c_24, if_neg c_40]) rfl (Nat.le_of_ble_eq_true rfl) (Nat.le_of_ble_eq_true rfl)
  · refine v_aload_n E dX6_rebuildOrder_27 rfl ?_
    refine v_get E dX6_rebuildOrder_28 (ci := 2) rfl iwX2 8 rfl 3 rfl fl_X6_158 rfl ?_
    refine v_sub [0, 1, 9, 10, 11, 12, 13, 14, 15, 16, 2, 3, 4, 5, 6, 7] rfl (wd' := [(x0, .inr (6, [.ref (q 0), .ref x1])), (q 0, .inr (4, [.ref (q 1), .ref (q 9), .long di])), (q 1, .inr (5, [.int ct, .int dp, .ref (q 2), .ref (q 3), .ref (q 4)])), (q 2, aI D 20 we), (q 3, aI D 3 ok), (q 4, aG D 4 (gU q 5)), (q 5, aI D 20 (us 0)), (q 6, aI D 20 (us 1)), (q 7, aI D 20 (us 2)), (q 8, aI D 20 (us 3)), (q 9, .inr (1, [.int fc, .ref (q 10), .ref (q 11), .ref (q 12), .ref (q 13), .ref (q 14)])), (q 10, aI D 40 ft), (q 11, aI D 40 fn), (q 12, aZ D 40 fh), (q 13, aZ D 40 fe), (q 14, aI D 100 fo)]) rfl ?_
    exact v_iret E F dX6_rebuildOrder_31 rfl rfl () (by simp only [r_X6_rebuildOrder, if_pos c_24]) rfl (Nat.le_of_ble_eq_true rfl) (Nat.le_of_ble_eq_true rfl)

def r_X6_rebuildTime (we : Nat → Int32) (us : Nat → Nat → Int32) (di : Int64) : Int32 := (r_X2_time (w_X2_init_0_1 (r_X4_rebuilt us di)) (w_X2_init_n0 us (r_X4_rebuilt us di)) we us (k_X2 us (r_X4_rebuilt us di)))
set_option maxRecDepth 20000 in
/-- X6_rebuildTime -/
theorem c_X6_rebuildTime (D : va_G) (x0 : Nat) (x1 : Nat) (q : Nat → Nat) (ct : Int32) (dp : Int32) (we : Nat → Int32) (ok : Nat → Int32) (us : Nat → Nat → Int32) (fc : Int32) (ft : Nat → Int32) (fn : Nat → Int32) (fh : Nat → Int32) (fe : Nat → Int32) (fo : Nat → Int32) (di : Int64) (l : Launch) : Ct l yX6_rebuildTime cX6_rebuildTime 1 (some .int) (rmM 5 115 3 44) D [.ref x0] [(x0, .inr (6, [.ref (q 0), .ref x1])), (q 0, .inr (4, [.ref (q 1), .ref (q 9), .long di])), (q 1, .inr (5, [.int ct, .int dp, .ref (q 2), .ref (q 3), .ref (q 4)])), (q 2, aI D 20 we), (q 3, aI D 3 ok), (q 4, aG D 4 (gU q 5)), (q 5, aI D 20 (us 0)), (q 6, aI D 20 (us 1)), (q 7, aI D 20 (us 2)), (q 8, aI D 20 (us 3)), (q 9, .inr (1, [.int fc, .ref (q 10), .ref (q 11), .ref (q 12), .ref (q 13), .ref (q 14)])), (q 10, aI D 40 ft), (q 11, aI D 40 fn), (q 12, aZ D 40 fh), (q 13, aZ D 40 fe), (q 14, aI D 100 fo)] (QI1 D (r_X6_rebuildTime we us di) [(x0, .inr (6, [.ref (q 0), .ref x1])), (q 0, .inr (4, [.ref (q 1), .ref (q 9), .long di])), (q 1, .inr (5, [.int ct, .int dp, .ref (q 2), .ref (q 3), .ref (q 4)])), (q 2, aI D 20 we), (q 3, aI D 3 ok), (q 4, aG D 4 (gU q 5)), (q 5, aI D 20 (us 0)), (q 6, aI D 20 (us 1)), (q 7, aI D 20 (us 2)), (q 8, aI D 20 (us 3)), (q 9, .inr (1, [.int fc, .ref (q 10), .ref (q 11), .ref (q 12), .ref (q 13), .ref (q 14)])), (q 10, aI D 40 ft), (q 11, aI D 40 fn), (q 12, aZ D 40 fh), (q 13, aZ D 40 fe), (q 14, aI D 100 fo)]) := by
  refine Ct.ofV 0 (lv0 := [some (.ref x0)]) (by decide) rfl rfl (fun Z E F => ?_)
  refine v_new E dX6_rebuildTime_0 (ci := 2) rfl iwX2 tyX2 tyX2_ok cl_X6_150 ib_X2 tw_in_X2 [.null, .int 0, .null, .int 0] (fun j hj => by rcases (show j = 0 ∨ j = 1 ∨ j = 2 ∨ j = 3 by omega) with rfl | rfl | rfl | rfl <;> rfl) (Nat.le_of_ble_eq_true rfl) (Nat.le_of_ble_eq_true rfl) (fun qv0 => ?_)
  refine v_wd (wd2 := [(x0, .inr (6, [.ref (q 0), .ref x1])), (q 0, .inr (4, [.ref (q 1), .ref (q 9), .long di])), (q 1, .inr (5, [.int ct, .int dp, .ref (q 2), .ref (q 3), .ref (q 4)])), (q 2, aI D 20 we), (q 3, aI D 3 ok), (q 4, aG D 4 (gU q 5)), (q 5, aI D 20 (us 0)), (q 6, aI D 20 (us 1)), (q 7, aI D 20 (us 2)), (q 8, aI D 20 (us 3)), (q 9, .inr (1, [.int fc, .ref (q 10), .ref (q 11), .ref (q 12), .ref (q 13), .ref (q 14)])), (q 10, aI D 40 ft), (q 11, aI D 40 fn), (q 12, aZ D 40 fh), (q 13, aZ D 40 fe), (q 14, aI D 100 fo), (qv0, .inr (2, [.null, .int 0, .null, .int 0]))]) rfl ?_
  refine v_dup E dX6_rebuildTime_3 rfl ?_
  refine v_aload_n E dX6_rebuildTime_4 rfl ?_
  refine v_get E dX6_rebuildTime_5 (ci := 6) rfl iwX6 0 rfl 0 rfl fl_X6_12 rfl ?_
  refine v_get E dX6_rebuildTime_8 (ci := 4) rfl iwX4 1 rfl 0 rfl fl_X6_20 rfl ?_
  refine v_aload_n E dX6_rebuildTime_11 rfl ?_
  refine v_get E dX6_rebuildTime_12 (ci := 6) rfl iwX6 0 rfl 0 rfl fl_X6_12 rfl ?_
  refine v_cV_i E dX6_rebuildTime_15 (c_X4_rebuilt D q ct dp we ok us fc ft fn fh fe fo di) cs_X6_152 rfl rfl rfl (Nat.le_of_ble_eq_true rfl) 1 rfl rfl [1, 2, 3, 4, 5, 6, 7, 8, 9, 10, 11, 12, 13, 14, 15] rfl rfl ⟨Nat.le_of_ble_eq_true rfl, Nat.le_of_ble_eq_true rfl⟩ ?_
  refine v_cI_vG E dX6_rebuildTime_18 (c_X2_init D qv0 q ct dp we ok us (r_X4_rebuilt us di)) cs_X6_155 rfl rfl rfl (Nat.le_of_ble_eq_true rfl) [16, 2, 3, 4, 5, 6, 7, 8, 9] rfl rfl ⟨Nat.le_of_ble_eq_true rfl, Nat.le_of_ble_eq_true rfl⟩ (wr := [(x0, .inr (6, [.ref (q 0), .ref x1])), (q 0, .inr (4, [.ref (q 1), .ref (q 9), .long di])), (q 9, .inr (1, [.int fc, .ref (q 10), .ref (q 11), .ref (q 12), .ref (q 13), .ref (q 14)])), (q 10, aI D 40 ft), (q 11, aI D 40 fn), (q 12, aZ D 40 fh), (q 13, aZ D 40 fe), (q 14, aI D 100 fo)]) [0, 1, 10, 11, 12, 13, 14, 15] rfl rfl (by decide) (fun u18 hu18 => ?_)
  refine v_wd (wd2 := [(x0, .inr (6, [.ref (q 0), .ref x1])), (q 0, .inr (4, [.ref (q 1), .ref (q 9), .long di])), (q 9, .inr (1, [.int fc, .ref (q 10), .ref (q 11), .ref (q 12), .ref (q 13), .ref (q 14)])), (q 10, aI D 40 ft), (q 11, aI D 40 fn), (q 12, aZ D 40 fh), (q 13, aZ D 40 fe), (q 14, aI D 100 fo), (qv0, .inr (2, [.ref (q 1), .int (w_X2_init_0_1 (r_X4_rebuilt us di)), .ref u18, .int (w_X2_init_0_3 us (r_X4_rebuilt us di))])), (q 1, .inr (5, [.int ct, .int dp, .ref (q 2), .ref (q 3), .ref (q 4)])), (q 2, aI D 20 we), (q 3, aI D 3 ok), (q 4, aG D 4 (gU q 5)), (q 5, aI D 20 (us 0)), (q 6, aI D 20 (us 1)), (q 7, aI D 20 (us 2)), (q 8, aI D 20 (us 3)), (u18, aI D 20 (w_X2_init_n0 us (r_X4_rebuilt us di)))]) rfl ?_
  obtain ⟨hk1, hk2⟩ := k_X2_ok us (r_X4_rebuilt us di)
  refine v_cV_i E dX6_rebuildTime_21 (c_X2_time D qv0 u18 (w_X2_init_0_1 (r_X4_rebuilt us di)) (w_X2_init_0_3 us (r_X4_rebuilt us di)) (w_X2_init_n0 us (r_X4_rebuilt us di)) q ct dp we ok us (k_X2 us (r_X4_rebuilt us di)) rfl hk1 hk2) cs_X6_162 rfl rfl rfl (Nat.le_of_ble_eq_true rfl) 8 rfl rfl [8, 17, 9, 10, 11, 12, 13, 14, 15, 16] rfl rfl ⟨Nat.le_of_ble_eq_true rfl, Nat.le_of_ble_eq_true rfl⟩ ?_
  refine v_sub [0, 1, 9, 10, 11, 12, 13, 14, 15, 16, 2, 3, 4, 5, 6, 7] rfl (wd' := [(x0, .inr (6, [.ref (q 0), .ref x1])), (q 0, .inr (4, [.ref (q 1), .ref (q 9), .long di])), (q 1, .inr (5, [.int ct, .int dp, .ref (q 2), .ref (q 3), .ref (q 4)])), (q 2, aI D 20 we), (q 3, aI D 3 ok), (q 4, aG D 4 (gU q 5)), (q 5, aI D 20 (us 0)), (q 6, aI D 20 (us 1)), (q 7, aI D 20 (us 2)), (q 8, aI D 20 (us 3)), (q 9, .inr (1, [.int fc, .ref (q 10), .ref (q 11), .ref (q 12), .ref (q 13), .ref (q 14)])), (q 10, aI D 40 ft), (q 11, aI D 40 fn), (q 12, aZ D 40 fh), (q 13, aZ D 40 fe), (q 14, aI D 100 fo)]) rfl ?_
  exact v_iret E F dX6_rebuildTime_24 rfl rfl () rfl rfl (Nat.le_of_ble_eq_true rfl) (Nat.le_of_ble_eq_true rfl)

def r_X6_shardOf (ct : Int32) (we : Nat → Int32) (ok : Nat → Int32) (us : Nat → Nat → Int32) (di : Int64) (t : Int32) (sd : Int32) : Int32 := if (r_X5_has ct t) = 0 then (-1) else if (r_X6_isShardCount sd) = 0 then (-3) else if (r_X6_contains (r_X4_testsToRun ok us di) t) = 0 then (-10) else (w_X3_init_n0 ct we (r_X4_testsToRun ok us di) sd.toNatClampNeg) t.toNatClampNeg
set_option maxRecDepth 20000 in
/-- X6_shardOf -/
theorem c_X6_shardOf (D : va_G) (x0 : Nat) (x1 : Nat) (q : Nat → Nat) (ct : Int32) (dp : Int32) (we : Nat → Int32) (ok : Nat → Int32) (us : Nat → Nat → Int32) (fc : Int32) (ft : Nat → Int32) (fn : Nat → Int32) (fh : Nat → Int32) (fe : Nat → Int32) (fo : Nat → Int32) (di : Int64) (t : Int32) (sd : Int32) (N : Nat) (hct : ct = nI N) (hN : N ≤ 20) (l : Launch) : Ct l yX6_shardOf cX6_shardOf 4 (some .int) (rmM 6 135 4 38) D [.ref x0, .int t, .int sd] [(x0, .inr (6, [.ref (q 0), .ref x1])), (q 0, .inr (4, [.ref (q 1), .ref (q 9), .long di])), (q 1, .inr (5, [.int ct, .int dp, .ref (q 2), .ref (q 3), .ref (q 4)])), (q 2, aI D 20 we), (q 3, aI D 3 ok), (q 4, aG D 4 (gU q 5)), (q 5, aI D 20 (us 0)), (q 6, aI D 20 (us 1)), (q 7, aI D 20 (us 2)), (q 8, aI D 20 (us 3)), (q 9, .inr (1, [.int fc, .ref (q 10), .ref (q 11), .ref (q 12), .ref (q 13), .ref (q 14)])), (q 10, aI D 40 ft), (q 11, aI D 40 fn), (q 12, aZ D 40 fh), (q 13, aZ D 40 fe), (q 14, aI D 100 fo)] (QI1 D (r_X6_shardOf ct we ok us di t sd) [(x0, .inr (6, [.ref (q 0), .ref x1])), (q 0, .inr (4, [.ref (q 1), .ref (q 9), .long di])), (q 1, .inr (5, [.int ct, .int dp, .ref (q 2), .ref (q 3), .ref (q 4)])), (q 2, aI D 20 we), (q 3, aI D 3 ok), (q 4, aG D 4 (gU q 5)), (q 5, aI D 20 (us 0)), (q 6, aI D 20 (us 1)), (q 7, aI D 20 (us 2)), (q 8, aI D 20 (us 3)), (q 9, .inr (1, [.int fc, .ref (q 10), .ref (q 11), .ref (q 12), .ref (q 13), .ref (q 14)])), (q 10, aI D 40 ft), (q 11, aI D 40 fn), (q 12, aZ D 40 fh), (q 13, aZ D 40 fe), (q 14, aI D 100 fo)]) := by
  refine Ct.ofV 1 (lv0 := [some (.ref x0), some (.int t), some (.int sd), none]) (by decide) rfl rfl (fun Z E F => ?_)
  refine v_aload_n E dX6_shardOf_0 rfl ?_
  refine v_get E dX6_shardOf_1 (ci := 6) rfl iwX6 0 rfl 0 rfl fl_X6_12 rfl ?_
  refine v_get E dX6_shardOf_4 (ci := 4) rfl iwX4 1 rfl 0 rfl fl_X6_20 rfl ?_
  refine v_iload_n E dX6_shardOf_7 rfl ?_
  refine v_cV_i E dX6_shardOf_8 (c_X5_has D q ct dp we ok us t) cs_X6_42 rfl rfl rfl (Nat.le_of_ble_eq_true rfl) 2 rfl rfl [2, 3, 4, 5, 6, 7, 8, 9] rfl rfl ⟨Nat.le_of_ble_eq_true rfl, Nat.le_of_ble_eq_true rfl⟩ ?_
  refine v_if_ne E 16 dX6_shardOf_11 (by decide) (fun c_11 => ?_) (fun c_11 => ?_)
  · refine v_iload_n E dX6_shardOf_16 rfl ?_
    refine v_cS_i E dX6_shardOf_17 (c_X6_isShardCount D sd) cs_X6_165 rfl rfl rfl (Nat.le_of_ble_eq_true rfl) [] rfl rfl ⟨Nat.le_of_ble_eq_true rfl, Nat.le_of_ble_eq_true rfl⟩ ?_
    refine v_if_ne E 26 dX6_shardOf_20 (by decide) (fun c_20 => ?_) (fun c_20 => ?_)
    · obtain ⟨ht1, ht2⟩ := inR_use hct (by omega) c_11
      obtain ⟨hs1, hs2, hs3⟩ := isc_use c_20
      refine v_aload_n E dX6_shardOf_26 rfl ?_
      refine v_get E dX6_shardOf_27 (ci := 6) rfl iwX6 0 rfl 0 rfl fl_X6_12 rfl ?_
      refine v_cV_i E dX6_shardOf_30 (c_X4_testsToRun D q ct dp we ok us fc ft fn fh fe fo di) cs_X6_130 rfl rfl rfl (Nat.le_of_ble_eq_true rfl) 1 rfl rfl [1, 2, 3, 4, 5, 6, 7, 8, 9, 10, 11, 12, 13, 14, 15] rfl rfl ⟨Nat.le_of_ble_eq_true rfl, Nat.le_of_ble_eq_true rfl⟩ ?_
      refine v_istore_n E dX6_shardOf_33 rfl rfl ?_
      refine v_iload_n E dX6_shardOf_34 rfl ?_
      refine v_iload_n E dX6_shardOf_35 rfl ?_
      refine v_cS_i E dX6_shardOf_36 (c_X6_contains D (r_X4_testsToRun ok us di) t) cs_X6_60 rfl rfl rfl (Nat.le_of_ble_eq_true rfl) [] rfl rfl ⟨Nat.le_of_ble_eq_true rfl, Nat.le_of_ble_eq_true rfl⟩ ?_
      refine v_if_eq E 66 dX6_shardOf_39 (by decide) (fun c_39 => ?_) (fun c_39 => ?_)
      · refine v_bipush E dX6_shardOf_66 (v := -10) (by decide) ?_
        exact v_iret E F dX6_shardOf_68 rfl rfl () (by simp only [r_X6_shardOf, if_neg c_11, if_neg c_20, if_pos c_39]) rfl (Nat.le_of_ble_eq_true rfl) (Nat.le_of_ble_eq_true rfl)
      · refine v_new E dX6_shardOf_42 (ci := 3) rfl iwX3 tyX3 tyX3_ok cl_X6_168 ib_X3 tw_in_X3 [.null, .null, .null, .int 0] (fun j hj => by rcases (show j = 0 ∨ j = 1 ∨ j = 2 ∨ j = 3 by omega) with rfl | rfl | rfl | rfl <;> rfl) (Nat.le_of_ble_eq_true rfl) (Nat.le_of_ble_eq_true rfl) (fun qv42 => ?_)
        refine v_wd (wd2 := [(x0, .inr (6, [.ref (q 0), .ref x1])), (q 0, .inr (4, [.ref (q 1), .ref (q 9), .long di])), (q 1, .inr (5, [.int ct, .int dp, .ref (q 2), .ref (q 3), .ref (q 4)])), (q 2, aI D 20 we), (q 3, aI D 3 ok), (q 4, aG D 4 (gU q 5)), (q 5, aI D 20 (us 0)), (q 6, aI D 20 (us 1)), (q 7, aI D 20 (us 2)), (q 8, aI D 20 (us 3)), (q 9, .inr (1, [.int fc, .ref (q 10), .ref (q 11), .ref (q 12), .ref (q 13), .ref (q 14)])), (q 10, aI D 40 ft), (q 11, aI D 40 fn), (q 12, aZ D 40 fh), (q 13, aZ D 40 fe), (q 14, aI D 100 fo), (qv42, .inr (3, [.null, .null, .null, .int 0]))]) rfl ?_
        refine v_dup E dX6_shardOf_45 rfl ?_
        refine v_aload_n E dX6_shardOf_46 rfl ?_
        refine v_get E dX6_shardOf_47 (ci := 6) rfl iwX6 0 rfl 0 rfl fl_X6_12 rfl ?_
        refine v_get E dX6_shardOf_50 (ci := 4) rfl iwX4 1 rfl 0 rfl fl_X6_20 rfl ?_
        refine v_iload_n E dX6_shardOf_53 rfl ?_
        refine v_iload_n E dX6_shardOf_54 rfl ?_
        refine v_cI_vG E dX6_shardOf_55 (c_X3_init D qv42 q ct dp we ok us (r_X4_testsToRun ok us di) sd sd.toNatClampNeg N hs1 hct hN hs2 hs3) cs_X6_170 rfl rfl rfl (Nat.le_of_ble_eq_true rfl) [16, 2, 3, 4, 5, 6, 7, 8, 9] rfl rfl ⟨Nat.le_of_ble_eq_true rfl, Nat.le_of_ble_eq_true rfl⟩ (wr := [(x0, .inr (6, [.ref (q 0), .ref x1])), (q 0, .inr (4, [.ref (q 1), .ref (q 9), .long di])), (q 9, .inr (1, [.int fc, .ref (q 10), .ref (q 11), .ref (q 12), .ref (q 13), .ref (q 14)])), (q 10, aI D 40 ft), (q 11, aI D 40 fn), (q 12, aZ D 40 fh), (q 13, aZ D 40 fe), (q 14, aI D 100 fo)]) [0, 1, 10, 11, 12, 13, 14, 15] rfl rfl (by decide) (fun u55 hu55 => ?_)
        refine v_wd (wd2 := [(x0, .inr (6, [.ref (q 0), .ref x1])), (q 0, .inr (4, [.ref (q 1), .ref (q 9), .long di])), (q 9, .inr (1, [.int fc, .ref (q 10), .ref (q 11), .ref (q 12), .ref (q 13), .ref (q 14)])), (q 10, aI D 40 ft), (q 11, aI D 40 fn), (q 12, aZ D 40 fh), (q 13, aZ D 40 fe), (q 14, aI D 100 fo), (qv42, .inr (3, [.ref u55.2.2, .ref u55.1, .ref u55.2.1, .int (w_X3_init_0_3 ct we (r_X4_testsToRun ok us di) sd.toNatClampNeg)])), (q 1, .inr (5, [.int ct, .int dp, .ref (q 2), .ref (q 3), .ref (q 4)])), (q 2, aI D 20 we), (q 3, aI D 3 ok), (q 4, aG D 4 (gU q 5)), (q 5, aI D 20 (us 0)), (q 6, aI D 20 (us 1)), (q 7, aI D 20 (us 2)), (q 8, aI D 20 (us 3)), (u55.1, aI D 20 (w_X3_init_n0 ct we (r_X4_testsToRun ok us di) sd.toNatClampNeg)), (u55.2.1, aI D 10 (w_X3_init_n1 ct we (r_X4_testsToRun ok us di) sd.toNatClampNeg)), (u55.2.2, aI D sd.toNatClampNeg (w_X3_init_n2 ct we (r_X4_testsToRun ok us di) sd.toNatClampNeg))]) rfl ?_
        refine v_get E dX6_shardOf_58 (ci := 3) rfl iwX3 8 rfl 1 rfl fl_X6_173 rfl ?_
        refine v_iload_n E dX6_shardOf_61 rfl ?_
        refine v_iald E dX6_shardOf_62 17 rfl t.toNatClampNeg ht1 (by omega) rfl ?_
        refine v_goto E 68 dX6_shardOf_63 (by decide) ?_
        refine v_sub [0, 1, 9, 10, 11, 12, 13, 14, 15, 16, 2, 3, 4, 5, 6, 7] rfl (wd' := [(x0, .inr (6, [.ref (q 0), .ref x1])), (q 0, .inr (4, [.ref (q 1), .ref (q 9), .long di])), (q 1, .inr (5, [.int ct, .int dp, .ref (q 2), .ref (q 3), .ref (q 4)])), (q 2, aI D 20 we), (q 3, aI D 3 ok), (q 4, aG D 4 (gU q 5)), (q 5, aI D 20 (us 0)), (q 6, aI D 20 (us 1)), (q 7, aI D 20 (us 2)), (q 8, aI D 20 (us 3)), (q 9, .inr (1, [.int fc, .ref (q 10), .ref (q 11), .ref (q 12), .ref (q 13), .ref (q 14)])), (q 10, aI D 40 ft), (q 11, aI D 40 fn), (q 12, aZ D 40 fh), (q 13, aZ D 40 fe), (q 14, aI D 100 fo)]) rfl ?_
        exact v_iret E F dX6_shardOf_68 rfl rfl () (by simp only [r_X6_shardOf, if_neg c_11, if_neg c_20, if_neg c_39]) rfl (Nat.le_of_ble_eq_true rfl) (Nat.le_of_ble_eq_true rfl)
    · refine v_bipush E dX6_shardOf_23 (v := -3) (by decide) ?_
      exact v_iret E F dX6_shardOf_25 rfl rfl () (by simp only [r_X6_shardOf, if_neg c_11, if_pos c_20]) rfl (Nat.le_of_ble_eq_true rfl) (Nat.le_of_ble_eq_true rfl)
  · refine v_iconst E dX6_shardOf_14 (v := -1) (by decide) ?_
    exact v_iret E F dX6_shardOf_15 rfl rfl () (by simp only [r_X6_shardOf, if_pos c_11]) rfl (Nat.le_of_ble_eq_true rfl) (Nat.le_of_ble_eq_true rfl)

def r_X6_shardLoad (ct : Int32) (we : Nat → Int32) (ok : Nat → Int32) (us : Nat → Nat → Int32) (di : Int64) (sd : Int32) (ow : Int32) : Int32 := if (r_X6_isShardCount sd) = 0 then (-3) else if (r_X6_inRange ow sd) = 0 then (-3) else (w_X3_init_n2 ct we (r_X4_testsToRun ok us di) sd.toNatClampNeg) ow.toNatClampNeg
set_option maxRecDepth 20000 in
/-- X6_shardLoad -/
theorem c_X6_shardLoad (D : va_G) (x0 : Nat) (x1 : Nat) (q : Nat → Nat) (ct : Int32) (dp : Int32) (we : Nat → Int32) (ok : Nat → Int32) (us : Nat → Nat → Int32) (fc : Int32) (ft : Nat → Int32) (fn : Nat → Int32) (fh : Nat → Int32) (fe : Nat → Int32) (fo : Nat → Int32) (di : Int64) (sd : Int32) (ow : Int32) (N : Nat) (hct : ct = nI N) (hN : N ≤ 20) (l : Launch) : Ct l yX6_shardLoad cX6_shardLoad 3 (some .int) (rmM 6 135 4 38) D [.ref x0, .int sd, .int ow] [(x0, .inr (6, [.ref (q 0), .ref x1])), (q 0, .inr (4, [.ref (q 1), .ref (q 9), .long di])), (q 1, .inr (5, [.int ct, .int dp, .ref (q 2), .ref (q 3), .ref (q 4)])), (q 2, aI D 20 we), (q 3, aI D 3 ok), (q 4, aG D 4 (gU q 5)), (q 5, aI D 20 (us 0)), (q 6, aI D 20 (us 1)), (q 7, aI D 20 (us 2)), (q 8, aI D 20 (us 3)), (q 9, .inr (1, [.int fc, .ref (q 10), .ref (q 11), .ref (q 12), .ref (q 13), .ref (q 14)])), (q 10, aI D 40 ft), (q 11, aI D 40 fn), (q 12, aZ D 40 fh), (q 13, aZ D 40 fe), (q 14, aI D 100 fo)] (QI1 D (r_X6_shardLoad ct we ok us di sd ow) [(x0, .inr (6, [.ref (q 0), .ref x1])), (q 0, .inr (4, [.ref (q 1), .ref (q 9), .long di])), (q 1, .inr (5, [.int ct, .int dp, .ref (q 2), .ref (q 3), .ref (q 4)])), (q 2, aI D 20 we), (q 3, aI D 3 ok), (q 4, aG D 4 (gU q 5)), (q 5, aI D 20 (us 0)), (q 6, aI D 20 (us 1)), (q 7, aI D 20 (us 2)), (q 8, aI D 20 (us 3)), (q 9, .inr (1, [.int fc, .ref (q 10), .ref (q 11), .ref (q 12), .ref (q 13), .ref (q 14)])), (q 10, aI D 40 ft), (q 11, aI D 40 fn), (q 12, aZ D 40 fh), (q 13, aZ D 40 fe), (q 14, aI D 100 fo)]) := by
  refine Ct.ofV 0 (lv0 := [some (.ref x0), some (.int sd), some (.int ow)]) (by decide) rfl rfl (fun Z E F => ?_)
  refine v_iload_n E dX6_shardLoad_0 rfl ?_
  refine v_cS_i E dX6_shardLoad_1 (c_X6_isShardCount D sd) cs_X6_165 rfl rfl rfl (Nat.le_of_ble_eq_true rfl) [] rfl rfl ⟨Nat.le_of_ble_eq_true rfl, Nat.le_of_ble_eq_true rfl⟩ ?_
  refine v_if_eq E 15 dX6_shardLoad_4 (by decide) (fun c_4 => ?_) (fun c_4 => ?_)
  · refine v_bipush E dX6_shardLoad_15 (v := -3) (by decide) ?_
    exact v_iret E F dX6_shardLoad_17 rfl rfl () (by simp only [r_X6_shardLoad, if_pos c_4]) rfl (Nat.le_of_ble_eq_true rfl) (Nat.le_of_ble_eq_true rfl)
  · refine v_iload_n E dX6_shardLoad_7 rfl ?_
    refine v_iload_n E dX6_shardLoad_8 rfl ?_
    refine v_cS_i E dX6_shardLoad_9 (c_X6_inRange D ow sd) cs_X6_24 rfl rfl rfl (Nat.le_of_ble_eq_true rfl) [] rfl rfl ⟨Nat.le_of_ble_eq_true rfl, Nat.le_of_ble_eq_true rfl⟩ ?_
    refine v_if_ne E 18 dX6_shardLoad_12 (by decide) (fun c_12 => ?_) (fun c_12 => ?_)
    · obtain ⟨hs1, hs2, hs3⟩ := isc_use c_4
      obtain ⟨how1, how2⟩ := inR_use hs1 (by omega) c_12
      refine v_new E dX6_shardLoad_18 (ci := 3) rfl iwX3 tyX3 tyX3_ok cl_X6_168 ib_X3 tw_in_X3 [.null, .null, .null, .int 0] (fun j hj => by rcases (show j = 0 ∨ j = 1 ∨ j = 2 ∨ j = 3 by omega) with rfl | rfl | rfl | rfl <;> rfl) (Nat.le_of_ble_eq_true rfl) (Nat.le_of_ble_eq_true rfl) (fun qv18 => ?_)
      refine v_wd (wd2 := [(x0, .inr (6, [.ref (q 0), .ref x1])), (q 0, .inr (4, [.ref (q 1), .ref (q 9), .long di])), (q 1, .inr (5, [.int ct, .int dp, .ref (q 2), .ref (q 3), .ref (q 4)])), (q 2, aI D 20 we), (q 3, aI D 3 ok), (q 4, aG D 4 (gU q 5)), (q 5, aI D 20 (us 0)), (q 6, aI D 20 (us 1)), (q 7, aI D 20 (us 2)), (q 8, aI D 20 (us 3)), (q 9, .inr (1, [.int fc, .ref (q 10), .ref (q 11), .ref (q 12), .ref (q 13), .ref (q 14)])), (q 10, aI D 40 ft), (q 11, aI D 40 fn), (q 12, aZ D 40 fh), (q 13, aZ D 40 fe), (q 14, aI D 100 fo), (qv18, .inr (3, [.null, .null, .null, .int 0]))]) rfl ?_
      refine v_dup E dX6_shardLoad_21 rfl ?_
      refine v_aload_n E dX6_shardLoad_22 rfl ?_
      refine v_get E dX6_shardLoad_23 (ci := 6) rfl iwX6 0 rfl 0 rfl fl_X6_12 rfl ?_
      refine v_get E dX6_shardLoad_26 (ci := 4) rfl iwX4 1 rfl 0 rfl fl_X6_20 rfl ?_
      refine v_aload_n E dX6_shardLoad_29 rfl ?_
      refine v_get E dX6_shardLoad_30 (ci := 6) rfl iwX6 0 rfl 0 rfl fl_X6_12 rfl ?_
      refine v_cV_i E dX6_shardLoad_33 (c_X4_testsToRun D q ct dp we ok us fc ft fn fh fe fo di) cs_X6_130 rfl rfl rfl (Nat.le_of_ble_eq_true rfl) 1 rfl rfl [1, 2, 3, 4, 5, 6, 7, 8, 9, 10, 11, 12, 13, 14, 15] rfl rfl ⟨Nat.le_of_ble_eq_true rfl, Nat.le_of_ble_eq_true rfl⟩ ?_
      refine v_iload_n E dX6_shardLoad_36 rfl ?_
      refine v_cI_vG E dX6_shardLoad_37 (c_X3_init D qv18 q ct dp we ok us (r_X4_testsToRun ok us di) sd sd.toNatClampNeg N hs1 hct hN hs2 hs3) cs_X6_170 rfl rfl rfl (Nat.le_of_ble_eq_true rfl) [16, 2, 3, 4, 5, 6, 7, 8, 9] rfl rfl ⟨Nat.le_of_ble_eq_true rfl, Nat.le_of_ble_eq_true rfl⟩ (wr := [(x0, .inr (6, [.ref (q 0), .ref x1])), (q 0, .inr (4, [.ref (q 1), .ref (q 9), .long di])), (q 9, .inr (1, [.int fc, .ref (q 10), .ref (q 11), .ref (q 12), .ref (q 13), .ref (q 14)])), (q 10, aI D 40 ft), (q 11, aI D 40 fn), (q 12, aZ D 40 fh), (q 13, aZ D 40 fe), (q 14, aI D 100 fo)]) [0, 1, 10, 11, 12, 13, 14, 15] rfl rfl (by decide) (fun u37 hu37 => ?_)
      refine v_wd (wd2 := [(x0, .inr (6, [.ref (q 0), .ref x1])), (q 0, .inr (4, [.ref (q 1), .ref (q 9), .long di])), (q 9, .inr (1, [.int fc, .ref (q 10), .ref (q 11), .ref (q 12), .ref (q 13), .ref (q 14)])), (q 10, aI D 40 ft), (q 11, aI D 40 fn), (q 12, aZ D 40 fh), (q 13, aZ D 40 fe), (q 14, aI D 100 fo), (qv18, .inr (3, [.ref u37.2.2, .ref u37.1, .ref u37.2.1, .int (w_X3_init_0_3 ct we (r_X4_testsToRun ok us di) sd.toNatClampNeg)])), (q 1, .inr (5, [.int ct, .int dp, .ref (q 2), .ref (q 3), .ref (q 4)])), (q 2, aI D 20 we), (q 3, aI D 3 ok), (q 4, aG D 4 (gU q 5)), (q 5, aI D 20 (us 0)), (q 6, aI D 20 (us 1)), (q 7, aI D 20 (us 2)), (q 8, aI D 20 (us 3)), (u37.1, aI D 20 (w_X3_init_n0 ct we (r_X4_testsToRun ok us di) sd.toNatClampNeg)), (u37.2.1, aI D 10 (w_X3_init_n1 ct we (r_X4_testsToRun ok us di) sd.toNatClampNeg)), (u37.2.2, aI D sd.toNatClampNeg (w_X3_init_n2 ct we (r_X4_testsToRun ok us di) sd.toNatClampNeg))]) rfl ?_
      refine v_get E dX6_shardLoad_40 (ci := 3) rfl iwX3 8 rfl 0 rfl fl_X6_176 rfl ?_
      refine v_iload_n E dX6_shardLoad_43 rfl ?_
      refine v_iald E dX6_shardLoad_44 19 rfl ow.toNatClampNeg how1 (by omega) (Nat.ble_eq_true_of_le (by omega)) ?_
      refine v_sub [0, 1, 9, 10, 11, 12, 13, 14, 15, 16, 2, 3, 4, 5, 6, 7] rfl (wd' := [(x0, .inr (6, [.ref (q 0), .ref x1])), (q 0, .inr (4, [.ref (q 1), .ref (q 9), .long di])), (q 1, .inr (5, [.int ct, .int dp, .ref (q 2), .ref (q 3), .ref (q 4)])), (q 2, aI D 20 we), (q 3, aI D 3 ok), (q 4, aG D 4 (gU q 5)), (q 5, aI D 20 (us 0)), (q 6, aI D 20 (us 1)), (q 7, aI D 20 (us 2)), (q 8, aI D 20 (us 3)), (q 9, .inr (1, [.int fc, .ref (q 10), .ref (q 11), .ref (q 12), .ref (q 13), .ref (q 14)])), (q 10, aI D 40 ft), (q 11, aI D 40 fn), (q 12, aZ D 40 fh), (q 13, aZ D 40 fe), (q 14, aI D 100 fo)]) rfl ?_
      exact v_iret E F dX6_shardLoad_45 rfl rfl () (by simp only [r_X6_shardLoad, if_neg c_4, if_neg c_12]) rfl (Nat.le_of_ble_eq_true rfl) (Nat.le_of_ble_eq_true rfl)
    · refine v_bipush E dX6_shardLoad_15 (v := -3) (by decide) ?_
      exact v_iret E F dX6_shardLoad_17 rfl rfl () (by simp only [r_X6_shardLoad, if_neg c_4, if_pos c_12]) rfl (Nat.le_of_ble_eq_true rfl) (Nat.le_of_ble_eq_true rfl)

def r_X6_bestGreatestLoad (ct : Int32) (we : Nat → Int32) (ok : Nat → Int32) (us : Nat → Nat → Int32) (di : Int64) (sd : Int32) : Int32 := if (r_X6_isShardCount sd) = 0 then (-3) else (r_X3_leastGreatestLoad sd.toNatClampNeg (w_X3_init_n2 ct we (r_X4_testsToRun ok us di) sd.toNatClampNeg) (w_X3_init_n1 ct we (r_X4_testsToRun ok us di) sd.toNatClampNeg) (k_X3 ct we (r_X4_testsToRun ok us di) sd.toNatClampNeg))
set_option maxRecDepth 20000 in
/-- X6_bestGreatestLoad -/
theorem c_X6_bestGreatestLoad (D : va_G) (x0 : Nat) (x1 : Nat) (q : Nat → Nat) (ct : Int32) (dp : Int32) (we : Nat → Int32) (ok : Nat → Int32) (us : Nat → Nat → Int32) (fc : Int32) (ft : Nat → Int32) (fn : Nat → Int32) (fh : Nat → Int32) (fe : Nat → Int32) (fo : Nat → Int32) (di : Int64) (sd : Int32) (N : Nat) (hct : ct = nI N) (hN : N ≤ 20) (l : Launch) : Ct l yX6_bestGreatestLoad cX6_bestGreatestLoad 2 (some .int) (rmM 16 407 5 42) D [.ref x0, .int sd] [(x0, .inr (6, [.ref (q 0), .ref x1])), (q 0, .inr (4, [.ref (q 1), .ref (q 9), .long di])), (q 1, .inr (5, [.int ct, .int dp, .ref (q 2), .ref (q 3), .ref (q 4)])), (q 2, aI D 20 we), (q 3, aI D 3 ok), (q 4, aG D 4 (gU q 5)), (q 5, aI D 20 (us 0)), (q 6, aI D 20 (us 1)), (q 7, aI D 20 (us 2)), (q 8, aI D 20 (us 3)), (q 9, .inr (1, [.int fc, .ref (q 10), .ref (q 11), .ref (q 12), .ref (q 13), .ref (q 14)])), (q 10, aI D 40 ft), (q 11, aI D 40 fn), (q 12, aZ D 40 fh), (q 13, aZ D 40 fe), (q 14, aI D 100 fo)] (QI1 D (r_X6_bestGreatestLoad ct we ok us di sd) [(x0, .inr (6, [.ref (q 0), .ref x1])), (q 0, .inr (4, [.ref (q 1), .ref (q 9), .long di])), (q 1, .inr (5, [.int ct, .int dp, .ref (q 2), .ref (q 3), .ref (q 4)])), (q 2, aI D 20 we), (q 3, aI D 3 ok), (q 4, aG D 4 (gU q 5)), (q 5, aI D 20 (us 0)), (q 6, aI D 20 (us 1)), (q 7, aI D 20 (us 2)), (q 8, aI D 20 (us 3)), (q 9, .inr (1, [.int fc, .ref (q 10), .ref (q 11), .ref (q 12), .ref (q 13), .ref (q 14)])), (q 10, aI D 40 ft), (q 11, aI D 40 fn), (q 12, aZ D 40 fh), (q 13, aZ D 40 fe), (q 14, aI D 100 fo)]) := by
  refine Ct.ofV 0 (lv0 := [some (.ref x0), some (.int sd)]) (by decide) rfl rfl (fun Z E F => ?_)
  refine v_iload_n E dX6_bestGreatestLoad_0 rfl ?_
  refine v_cS_i E dX6_bestGreatestLoad_1 (c_X6_isShardCount D sd) cs_X6_165 rfl rfl rfl (Nat.le_of_ble_eq_true rfl) [] rfl rfl ⟨Nat.le_of_ble_eq_true rfl, Nat.le_of_ble_eq_true rfl⟩ ?_
  refine v_if_ne E 10 dX6_bestGreatestLoad_4 (by decide) (fun c_4 => ?_) (fun c_4 => ?_)
  · obtain ⟨hs1, hs2, hs3⟩ := isc_use c_4
    refine v_new E dX6_bestGreatestLoad_10 (ci := 3) rfl iwX3 tyX3 tyX3_ok cl_X6_168 ib_X3 tw_in_X3 [.null, .null, .null, .int 0] (fun j hj => by rcases (show j = 0 ∨ j = 1 ∨ j = 2 ∨ j = 3 by omega) with rfl | rfl | rfl | rfl <;> rfl) (Nat.le_of_ble_eq_true rfl) (Nat.le_of_ble_eq_true rfl) (fun qv10 => ?_)
    refine v_wd (wd2 := [(x0, .inr (6, [.ref (q 0), .ref x1])), (q 0, .inr (4, [.ref (q 1), .ref (q 9), .long di])), (q 1, .inr (5, [.int ct, .int dp, .ref (q 2), .ref (q 3), .ref (q 4)])), (q 2, aI D 20 we), (q 3, aI D 3 ok), (q 4, aG D 4 (gU q 5)), (q 5, aI D 20 (us 0)), (q 6, aI D 20 (us 1)), (q 7, aI D 20 (us 2)), (q 8, aI D 20 (us 3)), (q 9, .inr (1, [.int fc, .ref (q 10), .ref (q 11), .ref (q 12), .ref (q 13), .ref (q 14)])), (q 10, aI D 40 ft), (q 11, aI D 40 fn), (q 12, aZ D 40 fh), (q 13, aZ D 40 fe), (q 14, aI D 100 fo), (qv10, .inr (3, [.null, .null, .null, .int 0]))]) rfl ?_
    refine v_dup E dX6_bestGreatestLoad_13 rfl ?_
    refine v_aload_n E dX6_bestGreatestLoad_14 rfl ?_
    refine v_get E dX6_bestGreatestLoad_15 (ci := 6) rfl iwX6 0 rfl 0 rfl fl_X6_12 rfl ?_
    refine v_get E dX6_bestGreatestLoad_18 (ci := 4) rfl iwX4 1 rfl 0 rfl fl_X6_20 rfl ?_
    refine v_aload_n E dX6_bestGreatestLoad_21 rfl ?_
    refine v_get E dX6_bestGreatestLoad_22 (ci := 6) rfl iwX6 0 rfl 0 rfl fl_X6_12 rfl ?_
    refine v_cV_i E dX6_bestGreatestLoad_25 (c_X4_testsToRun D q ct dp we ok us fc ft fn fh fe fo di) cs_X6_130 rfl rfl rfl (Nat.le_of_ble_eq_true rfl) 1 rfl rfl [1, 2, 3, 4, 5, 6, 7, 8, 9, 10, 11, 12, 13, 14, 15] rfl rfl ⟨Nat.le_of_ble_eq_true rfl, Nat.le_of_ble_eq_true rfl⟩ ?_
    refine v_iload_n E dX6_bestGreatestLoad_28 rfl ?_
    refine v_cI_vG E dX6_bestGreatestLoad_29 (c_X3_init D qv10 q ct dp we ok us (r_X4_testsToRun ok us di) sd sd.toNatClampNeg N hs1 hct hN hs2 hs3) cs_X6_170 rfl rfl rfl (Nat.le_of_ble_eq_true rfl) [16, 2, 3, 4, 5, 6, 7, 8, 9] rfl rfl ⟨Nat.le_of_ble_eq_true rfl, Nat.le_of_ble_eq_true rfl⟩ (wr := [(x0, .inr (6, [.ref (q 0), .ref x1])), (q 0, .inr (4, [.ref (q 1), .ref (q 9), .long di])), (q 9, .inr (1, [.int fc, .ref (q 10), .ref (q 11), .ref (q 12), .ref (q 13), .ref (q 14)])), (q 10, aI D 40 ft), (q 11, aI D 40 fn), (q 12, aZ D 40 fh), (q 13, aZ D 40 fe), (q 14, aI D 100 fo)]) [0, 1, 10, 11, 12, 13, 14, 15] rfl rfl (by decide) (fun u29 hu29 => ?_)
    refine v_wd (wd2 := [(x0, .inr (6, [.ref (q 0), .ref x1])), (q 0, .inr (4, [.ref (q 1), .ref (q 9), .long di])), (q 9, .inr (1, [.int fc, .ref (q 10), .ref (q 11), .ref (q 12), .ref (q 13), .ref (q 14)])), (q 10, aI D 40 ft), (q 11, aI D 40 fn), (q 12, aZ D 40 fh), (q 13, aZ D 40 fe), (q 14, aI D 100 fo), (qv10, .inr (3, [.ref u29.2.2, .ref u29.1, .ref u29.2.1, .int (w_X3_init_0_3 ct we (r_X4_testsToRun ok us di) sd.toNatClampNeg)])), (q 1, .inr (5, [.int ct, .int dp, .ref (q 2), .ref (q 3), .ref (q 4)])), (q 2, aI D 20 we), (q 3, aI D 3 ok), (q 4, aG D 4 (gU q 5)), (q 5, aI D 20 (us 0)), (q 6, aI D 20 (us 1)), (q 7, aI D 20 (us 2)), (q 8, aI D 20 (us 3)), (u29.1, aI D 20 (w_X3_init_n0 ct we (r_X4_testsToRun ok us di) sd.toNatClampNeg)), (u29.2.1, aI D 10 (w_X3_init_n1 ct we (r_X4_testsToRun ok us di) sd.toNatClampNeg)), (u29.2.2, aI D sd.toNatClampNeg (w_X3_init_n2 ct we (r_X4_testsToRun ok us di) sd.toNatClampNeg))]) rfl ?_
    refine v_cV_i E dX6_bestGreatestLoad_32 (c_X3_leastGreatestLoad D qv10 u29.2.2 u29.1 u29.2.1 (w_X3_init_0_3 ct we (r_X4_testsToRun ok us di) sd.toNatClampNeg) sd.toNatClampNeg (w_X3_init_n2 ct we (r_X4_testsToRun ok us di) sd.toNatClampNeg) (w_X3_init_n1 ct we (r_X4_testsToRun ok us di) sd.toNatClampNeg) (k_X3 ct we (r_X4_testsToRun ok us di) sd.toNatClampNeg) rfl (k_X3_le _ _ _ _) hs2 hs3) cs_X6_179 rfl rfl rfl (Nat.le_of_ble_eq_true rfl) 8 rfl rfl [8, 19, 18] rfl rfl ⟨Nat.le_of_ble_eq_true rfl, Nat.le_of_ble_eq_true rfl⟩ ?_
    refine v_sub [0, 1, 9, 10, 11, 12, 13, 14, 15, 16, 2, 3, 4, 5, 6, 7] rfl (wd' := [(x0, .inr (6, [.ref (q 0), .ref x1])), (q 0, .inr (4, [.ref (q 1), .ref (q 9), .long di])), (q 1, .inr (5, [.int ct, .int dp, .ref (q 2), .ref (q 3), .ref (q 4)])), (q 2, aI D 20 we), (q 3, aI D 3 ok), (q 4, aG D 4 (gU q 5)), (q 5, aI D 20 (us 0)), (q 6, aI D 20 (us 1)), (q 7, aI D 20 (us 2)), (q 8, aI D 20 (us 3)), (q 9, .inr (1, [.int fc, .ref (q 10), .ref (q 11), .ref (q 12), .ref (q 13), .ref (q 14)])), (q 10, aI D 40 ft), (q 11, aI D 40 fn), (q 12, aZ D 40 fh), (q 13, aZ D 40 fe), (q 14, aI D 100 fo)]) rfl ?_
    exact v_iret E F dX6_bestGreatestLoad_35 rfl rfl () (by simp only [r_X6_bestGreatestLoad, if_neg c_4]) rfl (Nat.le_of_ble_eq_true rfl) (Nat.le_of_ble_eq_true rfl)
  · refine v_bipush E dX6_bestGreatestLoad_7 (v := -3) (by decide) ?_
    exact v_iret E F dX6_bestGreatestLoad_9 rfl rfl () (by simp only [r_X6_bestGreatestLoad, if_pos c_4]) rfl (Nat.le_of_ble_eq_true rfl) (Nat.le_of_ble_eq_true rfl)

