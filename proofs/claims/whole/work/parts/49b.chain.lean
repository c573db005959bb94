/-! the class's chain -/
theorem lay_start {N : Nat} {us : Nat → Nat → Int32} {g : Nat → Int32} (h : LK N us g) {di : Int64} {go : Nat} (hgo : go < 2 * N) : ∃ la ly, whN (e_X0_init_30 di) (s_X0_init_30 us) 40 (0, vp_updL (fun _ => 0) 0 (r_X6_setOfPair (nI go))) = (la, ly) ∧ la ≤ 39 ∧ LY N g go la ly ∧ (∀ d, d < la → ∀ p, p < 2 * N → WK (RF N g) go d p → pb di p = false) ∧ (la = 39 ∨ ly la = 0 ∨ ¬ (ly la &&& di) = 0) := by
  have h1 := h.1
  refine layersN h 40 0 _ (by omega) (by omega) (fun d hd => ?_) (fun d hd => absurd hd (Nat.not_lt_zero _))
  rw [show d = 0 by omega, show vp_updL (fun _ => 0) 0 (r_X6_setOfPair (nI go)) 0 = r_X6_setOfPair (nI go) from if_pos rfl]
  refine ⟨okp_sop (by omega) hgo, fun p hp => ?_⟩
  rw [pb_sop (by omega) (by omega), decide_eq_true_iff]
  exact Iff.rfl
theorem pb_and (x y : Int64) (p : Nat) : pb (x &&& y) p = (pb x p && pb y p) := l_and x y (pos p)
theorem pb_fol {N : Nat} {us : Nat → Nat → Int32} {g : Nat → Int32} (h : LK N us g) {v q : Nat} (hv : v < 40) (hq : q < 40) : pb (r_X5_followersOf us (nI v) v) q = true ↔ FW g v q := by
  unfold pb
  rw [folX_bl h hv]
  constructor
  · rintro ⟨q', a, b, c⟩
    rw [pos_inj hq a b]
    exact c
  · intro c
    exact ⟨q, hq, rfl, c⟩
theorem cls_chain {N : Nat} {us : Nat → Nat → Int32} {g : Nat → Int32} {di : Int64} (h : LK N us g) (hd : RD N di g) {go : Nat} (hgo : go < 2 * N) (stp : Nat → Int32) {t p : Int32} (hg : 2 * t + p = nI go) (hc : pb (r_X5_reachOf us di) go = true) : ∃ D, D < 40 ∧ whN (e_X7_chain_52 g stp t p N) s_X7_chain_52 40 0 = nI D ∧ T_X7_chain_52 g stp t p N ∧ w_X0_init_0_1 us di (nI go) = nI (D + 1) ∧ ∀ k, k ≤ D → w_X0_init_n0 us di (nI go) k = cseq g stp t p N k := by
  have h1 := h.1
  obtain ⟨D, hD, hex, hmin⟩ := chain_D h hd hgo hc
  obtain ⟨hoff, hT⟩ := ref_off h hd hgo stp hg hD hex hmin 40 0 (by omega) (by omega)
  have hoff : whN (e_X7_chain_52 g stp t p N) s_X7_chain_52 40 0 = nI D := hoff
  obtain ⟨c0, cs, cv⟩ := cseq_ok h hd hgo stp hg hD hex hoff
  obtain ⟨la, ly, er, hla, hly, hno, hend⟩ := lay_start h (di := di) hgo
  have eD : la = D := by
    obtain ⟨x, hx, hb, hm⟩ := hex
    rcases Nat.lt_trichotomy la D with c | c | c
    · exfalso
      rcases hend with a | a | a
      · omega
      · obtain ⟨q, hq⟩ := WK_down hm.1 la (by omega)
        have hq2 : q < 2 * N := by
          cases la with
          | zero => rw [show q = go from hq]; exact hgo
          | succ la => obtain ⟨_, r, _⟩ := hq; exact r.1
        have := ((hly la (Nat.le_refl _)).2 q hq2).mpr hq
        rw [a] at this
        unfold pb at this
        rw [l_0] at this
        exact absurd this (by decide)
      · refine a ((okp_eq0 (okp_and (hly la (Nat.le_refl _)).1)).mpr (fun q hq => ?_))
        rw [pb_and]
        cases hv : pb (ly la) q with
        | false => rfl
        | true => rw [hmin la c q hq (((hly la (Nat.le_refl _)).2 q hq).mp hv)]; rfl
    · exact c
    · have := hno D c x hx hm.1
      rw [hb] at this
      exact absurd this (by decide)
  subst eD
  have n0 : r_X6_smallestPair (ly la &&& di) = cseq g stp t p N 0 := by
    rw [c0]
    refine IsF_eq (sp_isF _) (sm_isF0 g _ (nI la) N) (fun x => ?_)
    rw [pb_and, Bool.and_eq_true]
    constructor
    · rintro ⟨a, b, c⟩
      have hx := okp_lt hd.1 (by omega) a c
      have hw := ((hly la (Nat.le_refl _)).2 x hx).mp b
      refine ⟨hx, (hd.2.2 x a).mp c, (steps_iff h hgo stp hx (by omega)).mpr ⟨hw, fun d' hd' w => ?_⟩⟩
      have := hmin d' hd' x hx w
      rw [c] at this
      exact absurd this (by decide)
    · rintro ⟨a, b, c⟩
      exact ⟨by omega, ((hly la (Nat.le_refl _)).2 x a).mpr ((steps_iff h hgo stp a (by omega)).mp c).1, (hd.2.2 x (by omega)).mpr b⟩
  have ns : ∀ k v, k < la → v < 2 * N → cseq g stp t p N k = nI v → MN (RF N g) go (la - k) v → r_X6_smallestPair (r_X5_followersOf us (nI v) v &&& ly (la - (k + 1))) = cseq g stp t p N (k + 1) := fun k v hk hv e hm => by
    rw [cs k hk, e]
    rw [show la - k = la - (k + 1) + 1 by omega] at hm
    refine IsF_eq (sp_isF _) (sm_isF (g := g) _ (nI (la - (k + 1))) N (v := v) (by omega)) (fun x => ?_)
    rw [pb_and, Bool.and_eq_true]
    constructor
    · rintro ⟨a, b, c⟩
      have hx := okp_lt (hly (la - (k + 1)) (by omega)).1 (by omega) a c
      have hf := (pb_fol h (by omega) a).mp b
      exact ⟨hx, (fol_iff h (by omega) a).mpr hf, (steps_iff h hgo stp hx (by omega)).mpr (MN_of hm ⟨hv, hx, hf⟩ (((hly (la - (k + 1)) (by omega)).2 x hx).mp c))⟩
    · rintro ⟨a, b, c⟩
      have hf := (fol_iff h (by omega) (by omega)).mp b
      exact ⟨by omega, (pb_fol h (by omega) (by omega)).mpr hf, ((hly (la - (k + 1)) (by omega)).2 x a).mpr ((steps_iff h hgo stp a (by omega)).mp c).1⟩
  have loop : ∀ n k nx pa, n + k = la + 1 → (0 < n → nx = cseq g stp t p N k) → (∀ i, i < k → pa i = cseq g stp t p N i) → ∃ nx' pa', brkD b_X0_init_97 (s_X0_init_97 us di (nI go)) n (nx, k, pa) = (nx', la + 1, pa') ∧ ∀ i, i ≤ la → pa' i = cseq g stp t p N i := by
    intro n
    induction n with
    | zero =>
      intro k nx pa hk _ hp
      exact ⟨nx, pa, by rw [show la + 1 = k by omega]; rfl, fun i hi => hp i (by omega)⟩
    | succ n ih =>
      intro k nx pa hk hx hp
      have hx := hx (by omega)
      obtain ⟨v, hv, e, hm⟩ := cv k (by omega)
      have hb : b_X0_init_97 (nx, k, pa) = false := by
        show decide (nx = -10) = false
        rw [hx, e]
        exact decide_eq_false (nI_nm (by omega))
      rw [brkD_f hb]
      have es : s_X0_init_97 us di (nI go) n (nx, k, pa) = if nI n ≤ 0 then (-10, k + 1, upd pa k nx) else (r_X6_smallestPair (r_X5_followersOf us nx nx.toNatClampNeg &&& ly (n - 1)), k + 1, upd pa k nx) := by
        show (if nI n ≤ 0 then _ else ((r_X6_smallestPair (_ &&& (whN (e_X0_init_30 di) (s_X0_init_30 us) 40 (0, vp_updL (fun _ => 0) 0 (r_X6_setOfPair (nI go)))).2 (n - 1))), _, _)) = _
        rw [er]
      have hp2 : ∀ i, i < k + 1 → upd pa k nx i = cseq g stp t p N i := fun i hi => by
        by_cases c : i = k
        · rw [c, show upd pa k nx k = nx from if_pos rfl]
          exact hx
        · rw [show upd pa k nx i = pa i from if_neg c]
          exact hp i (by omega)
      rw [es]
      by_cases c : n = 0
      · subst c
        rw [if_pos (by decide)]
        exact ih (k + 1) (-10) (upd pa k nx) (by omega) (fun x => absurd x (Nat.lt_irrefl _)) hp2
      · rw [if_neg (fun x => by
          have := (nI_leI (a := n) (b := 0) (by omega) (by omega)).mp x
          omega)]
        refine ih (k + 1) _ (upd pa k nx) (by omega) (fun _ => ?_) hp2
        rw [hx, e, nI_clamp (by omega), show n - 1 = la - (k + 1) by omega]
        exact ns k v (by omega) hv e hm
  obtain ⟨nx', pa', eb, hpa⟩ := loop (la + 1) 0 (r_X6_smallestPair (ly la &&& di)) (fun _ => 0) (by omega) (fun _ => n0) (fun i hi => absurd hi (Nat.not_lt_zero _))
  refine ⟨la, hD, hoff, by unfold T_X7_chain_52; rw [hoff]; exact hT, ?_, fun k hk => ?_⟩
  · unfold w_X0_init_0_1
    rw [er]
    show nI (brkD _ _ (la + 1) (r_X6_smallestPair (ly la &&& di), 0, fun _ => 0)).2.1 = _
    rw [eb]
  · unfold w_X0_init_n0
    rw [er]
    show (brkD _ _ (la + 1) (r_X6_smallestPair (ly la &&& di), 0, fun _ => 0)).2.2 k = _
    rw [eb]
    exact hpa k hk
theorem cls_nochain {N : Nat} {us : Nat → Nat → Int32} {g : Nat → Int32} {di : Int64} (h : LK N us g) (hd : RD N di g) {go : Nat} (hgo : go < 2 * N) (hc : pb (r_X5_reachOf us di) go = false) : w_X0_init_0_1 us di (nI go) = nI 0 := by
  have h1 := h.1
  obtain ⟨la, ly, er, hla, hly, hno, hend⟩ := lay_start h (di := di) hgo
  have e0 : ly la &&& di = 0 := (okp_eq0 (okp_and (hly la (Nat.le_refl _)).1)).mpr (fun q hq => by
    rw [pb_and]
    cases hv : pb (ly la) q with
    | false => rfl
    | true =>
      cases hb : pb di q with
      | false => rfl
      | true =>
        have hw := ((hly la (Nat.le_refl _)).2 q hq).mp hv
        have : pb (r_X5_reachOf us di) go = true := ((clsReach h hd.1).2 go hgo).mpr (WK_Rch.mpr ⟨la, q, ⟨hq, hb⟩, hw⟩)
        rw [hc] at this
        exact absurd this (by decide))
  unfold w_X0_init_0_1
  rw [er]
  show nI (brkD _ _ (la + 1) (r_X6_smallestPair (ly la &&& di), 0, fun _ => 0)).2.1 = _
  rw [e0, IsF_none (sp_isF 0) (fun p hp x => by
    unfold pb at x
    rw [l_0] at x
    exact absurd x (by decide)), brkD_t (by rfl)]
theorem isT_iff {g : Nat → Int32} {N : Nat} (h0 : g 0 = nI N) (hN : N ≤ 20) (t : Int32) : ¬ r_X7_isTarget g t = 0 ↔ ∃ k, k < N ∧ t = nI k := by
  unfold r_X7_isTarget
  rw [h0]
  exact in7 (by omega)
theorem has_iff {N : Nat} (hN : N ≤ 20) (t : Int32) : ¬ r_X5_has (nI N) t = 0 ↔ ∃ k, k < N ∧ t = nI k := inR (by omega)
theorem has_eq {g : Nat → Int32} {N : Nat} (h0 : g 0 = nI N) (hN : N ≤ 20) (t : Int32) : r_X5_has (nI N) t = 0 ↔ r_X7_isTarget g t = 0 := iff0 ((has_iff hN t).trans (isT_iff h0 hN t).symm)
theorem part_iff (p : Int32) : ¬ r_X7_isPart p = 0 ↔ ∃ k, k < 2 ∧ p = nI k := by
  refine (in7K (v := p) (m := 1) (by decide)).trans ?_
  constructor
  · rintro ⟨k, a, b⟩; exact ⟨k, by omega, b⟩
  · rintro ⟨k, a, b⟩; exact ⟨k, by omega, b⟩
theorem part_eq (p : Int32) : r_X6_inRange p 2 = 0 ↔ r_X7_isPart p = 0 := iff0 ((inR (v := p) (n := 2) (by decide)).trans (part_iff p).symm)
theorem eq_chain {N : Nat} {us : Nat → Nat → Int32} {g : Nat → Int32} {di : Int64} (h : LK N us g) (hd : RD N di g) (h0 : g 0 = nI N) (ch stp : Nat → Int32) (t p ix : Int32) : r_X6_chain (nI N) us di t p ix = r_X7_chain g ch stp t p ix N ∧ (¬ (r_X7_isTarget g t) = 0 → ¬ (r_X7_isPart p) = 0 → ¬ ((w_X7_layChanged_2 g ch N) ((2 * t.toNatClampNeg) + p.toNatClampNeg)) = 0 → T_X7_chain_52 g stp t p N) := by
  have h1 := h.1
  unfold r_X6_chain r_X7_chain
  by_cases a : r_X7_isTarget g t = 0
  · rw [if_pos a, if_pos ((has_eq h0 h1 t).mpr a)]
    exact ⟨rfl, fun x => absurd a x⟩
  rw [if_neg a, if_neg (fun x => a ((has_eq h0 h1 t).mp x))]
  by_cases b : r_X7_isPart p = 0
  · rw [if_pos b, if_pos ((part_eq p).mpr b)]
    exact ⟨rfl, fun _ x => absurd b x⟩
  rw [if_neg b, if_neg (fun x => b ((part_eq p).mp x))]
  obtain ⟨kt, hkt, et⟩ := (isT_iff h0 h1 t).mp a
  obtain ⟨kp, hkp, ep⟩ := (part_iff p).mp b
  have ec1 : t.toNatClampNeg = kt := by rw [et]; exact nI_clamp (by omega)
  have ec2 : p.toNatClampNeg = kp := by rw [ep]; exact nI_clamp (by omega)
  have hg := pair_nat et ep
  have hgo : 2 * kt + kp < 2 * N := by omega
  have epo : r_X6_pairOf t p = nI (2 * kt + kp) := hg
  have hch := chg h hd ch hgo
  rw [ec1, ec2, epo]
  by_cases c : w_X7_layChanged_2 g ch N (2 * kt + kp) = 0
  · rw [if_pos c]
    have hb : pb (r_X5_reachOf us di) (2 * kt + kp) = false := by
      cases hv : pb (r_X5_reachOf us di) (2 * kt + kp) with
      | false => rfl
      | true => exact absurd c (hch.mpr hv)
    rw [cls_nochain h hd hgo hb]
    have e1 : r_X6_inRange ix (nI 0) = 0 := Classical.byContradiction fun x => by
      obtain ⟨k, hk, _⟩ := (inR (v := ix) (n := 0) (by decide)).mp x
      omega
    rw [e1, if_pos (show nI 0 ≤ 0 by decide), if_pos rfl]
    exact ⟨by split <;> rfl, fun _ _ x => absurd c x⟩
  · rw [if_neg c]
    obtain ⟨D, hD, hoff, hT, hlen, hel⟩ := cls_chain h hd hgo stp hg (hch.mp c)
    rw [hlen]
    refine ⟨?_, fun _ _ _ => hT⟩
    by_cases d : ix = -1
    · rw [if_pos d, if_pos d, if_neg (fun x => by
        have := (nI_leI (a := D + 1) (b := 0) (by omega) (by omega)).mp x
        omega), hoff, nI_1]
    · rw [if_neg d, if_neg d, hoff]
      have e1 := inR (v := ix) (n := D + 1) (by omega)
      have e2 := in7K (v := ix) (m := D) (by omega)
      by_cases f : r_X6_inRange ix (nI (D + 1)) = 0
      · rw [if_pos f, if_pos (Classical.byContradiction fun x => by
          obtain ⟨k, x1, x2⟩ := e2.mp x
          exact e1.mpr ⟨k, by omega, x2⟩ f)]
      · obtain ⟨k, x1, x2⟩ := e1.mp f
        rw [if_neg f, if_neg (e2.mpr ⟨k, by omega, x2⟩), x2, nI_clamp (by omega), hel k (by omega), ← hoff]
        rfl
