/-! the least greatest load: a search by the class, all ways by the reference -/
def grN (L : Nat → Nat) : Nat → Nat
  | 0 => 0
  | n + 1 => max (grN L n) (L n)
theorem grN_le {L : Nat → Nat} {b : Nat} : ∀ {n : Nat}, grN L n ≤ b ↔ ∀ s, s < n → L s ≤ b
  | 0 => ⟨fun _ s hs => absurd hs (Nat.not_lt_zero _), fun _ => Nat.zero_le _⟩
  | n + 1 => by
    show max (grN L n) (L n) ≤ b ↔ _
    rw [Nat.max_le, grN_le (n := n)]
    constructor
    · rintro ⟨h1, h2⟩ s hs
      rcases Nat.lt_or_ge s n with c | c
      · exact h1 s c
      · rw [show s = n by omega]
        exact h2
    · intro h
      exact ⟨fun s hs => h s (by omega), h n (by omega)⟩
theorem grN_ge {L : Nat → Nat} {n s : Nat} (hs : s < n) : L s ≤ grN L n := grN_le.mp (Nat.le_refl _) s hs
theorem grN_cong {L L' : Nat → Nat} {n : Nat} (h : ∀ s, s < n → L s = L' s) : grN L n = grN L' n :=
  Nat.le_antisymm (grN_le.mpr fun s hs => by rw [h s hs]; exact grN_ge hs) (grN_le.mpr fun s hs => by rw [← h s hs]; exact grN_ge hs)
def sw (a b s : Nat) : Nat := if s = a then b else if s = b then a else s
theorem sw_sw (a b s : Nat) : sw a b (sw a b s) = s := by
  unfold sw
  by_cases c : s = a
  · rw [if_pos c]
    by_cases d : b = a
    · rw [if_pos d]
      omega
    · rw [if_neg d, if_pos rfl, c]
  · rw [if_neg c]
    by_cases d : s = b
    · rw [if_pos d, if_pos rfl, d]
    · rw [if_neg d, if_neg c, if_neg d]
theorem sw_lt {a b s n : Nat} (ha : a < n) (hb : b < n) (hs : s < n) : sw a b s < n := by
  unfold sw
  split
  · exact hb
  · split
    · exact ha
    · exact hs
theorem grN_sw {L : Nat → Nat} {a b n : Nat} (ha : a < n) (hb : b < n) : grN (fun s => L (sw a b s)) n = grN L n :=
  Nat.le_antisymm (grN_le.mpr fun s hs => grN_ge (sw_lt ha hb hs)) (grN_le.mpr fun s hs => by
    have := grN_ge (L := fun s => L (sw a b s)) (sw_lt ha hb hs)
    simp only [sw_sw] at this
    exact this)
theorem gr_cls {S : Nat} {lo : Nat → Int32} {L : Nat → Nat} (h : ∀ s, s < S → lo s = nI (L s) ∧ L s < 2 ^ 31) : r_X3_greatest S lo = nI (grN L S) ∧ grN L S < 2 ^ 31 :=
  foldN_i (f := s_X3_greatest_4 lo) (n := S) (fun i (a : Int32) => a = nI (grN L i) ∧ grN L i < 2 ^ 31) (fun i a hi ih => by
    obtain ⟨e, hb⟩ := ih
    obtain ⟨e2, hb2⟩ := h i hi
    unfold s_X3_greatest_4
    rw [e, e2]
    show (if nI (grN L i) < nI (L i) then nI (L i) else nI (grN L i)) = nI (max (grN L i) (L i)) ∧ max (grN L i) (L i) < 2 ^ 31
    have := nI_ltI (a := grN L i) (b := L i) hb hb2
    by_cases c : grN L i < L i
    · rw [if_pos (this.mpr c), Nat.max_eq_right (by omega)]
      exact ⟨rfl, hb2⟩
    · rw [if_neg (fun x => c (this.mp x)), Nat.max_eq_left (by omega)]
      exact ⟨rfl, hb⟩) ⟨rfl, by show (0 : Nat) < 2 ^ 31; decide⟩
def cl (w φ L : Nat → Nat) (k n s : Nat) : Nat := L s + fb_sm (fun j => if φ (k + j) = s then w (k + j) else 0) n
theorem cl_0 (w φ L : Nat → Nat) (k s : Nat) : cl w φ L k 0 s = L s := rfl
theorem cl_s (w φ L : Nat → Nat) (k n s : Nat) : cl w φ L k (n + 1) s = cl w φ (fun s => if s = φ k then L s + w k else L s) (k + 1) n s := by
  unfold cl
  rw [show n + 1 = 1 + n by omega, fb_sm_split]
  rw [show fb_sm (fun j => if φ (k + j) = s then w (k + j) else 0) 1 = 0 + (if φ (k + 0) = s then w (k + 0) else 0) from rfl]
  rw [fb_sm_cong (f := fun j => if φ (k + (1 + j)) = s then w (k + (1 + j)) else 0) (g := fun j => if φ (k + 1 + j) = s then w (k + 1 + j) else 0) (fun j _ => by rw [show k + (1 + j) = k + 1 + j by omega])]
  rw [Nat.add_zero]
  dsimp only
  by_cases c : s = φ k
  · rw [if_pos c, if_pos c.symm]
    omega
  · rw [if_neg c, if_neg (fun e => c e.symm)]
    omega
theorem cl_cong {w φ φ' L : Nat → Nat} {k n s : Nat} (h : ∀ j, j < n → φ (k + j) = φ' (k + j)) : cl w φ L k n s = cl w φ' L k n s := by
  unfold cl
  congr 1
  exact fb_sm_cong (fun j hj => by rw [h j hj])
theorem cl_sw {w φ L : Nat → Nat} {a b k n : Nat} (hL : ∀ s, L (sw a b s) = L s) (s : Nat) : cl w (fun j => sw a b (φ j)) L k n s = cl w φ L k n (sw a b s) := by
  unfold cl
  rw [hL]
  congr 1
  refine fb_sm_cong (fun j _ => ?_)
  dsimp only
  by_cases c : φ (k + j) = sw a b s
  · rw [if_pos c, if_pos (by rw [c]; exact sw_sw a b s)]
  · rw [if_neg c, if_neg (fun e => c (by rw [← e]; exact (sw_sw a b _).symm))]
def IsM (w : Nat → Nat) (S k n : Nat) (L : Nat → Nat) (lim R : Nat) : Prop := R ≤ lim ∧ (∀ φ : Nat → Nat, (∀ j, φ j < S) → R ≤ grN (cl w φ L k n) S) ∧ (R = lim ∨ ∃ φ : Nat → Nat, (∀ j, φ j < S) ∧ R = grN (cl w φ L k n) S)
theorem stands {lo : Nat → Int32} {ks : Nat} : ∀ {n i : Nat}, ¬ s_X3_standsBefore_2 lo ks n i = 0 → ∃ s, i ≤ s ∧ s < i + n ∧ lo s = lo ks
  | 0, i, h => absurd rfl h
  | n + 1, i, h => by
    unfold s_X3_standsBefore_2 at h
    by_cases c : lo i = lo ks
    · exact ⟨i, Nat.le_refl _, by omega, c⟩
    · rw [if_neg c] at h
      obtain ⟨s, h1, h2, h3⟩ := stands h
      exact ⟨s, by omega, by omega, h3⟩
theorem imp_base {w : Nat → Nat} {S k : Nat} {lo : Nat → Int32} {L : Nat → Nat} {lim : Nat} (hS : 1 ≤ S) (h : ∀ s, s < S → lo s = nI (L s) ∧ L s < 2 ^ 31) (hl : lim < 2 ^ 31) : ∃ R, (if nI lim < r_X3_greatest S lo then nI lim else r_X3_greatest S lo) = nI R ∧ IsM w S k 0 L lim R := by
  obtain ⟨e, hb⟩ := gr_cls h
  rw [e]
  have := nI_ltI (a := lim) (b := grN L S) hl hb
  have hg : ∀ φ : Nat → Nat, grN (cl w φ L k 0) S = grN L S := fun φ => grN_cong (fun s _ => cl_0 w φ L k s)
  by_cases c : lim < grN L S
  · rw [if_pos (this.mpr c)]
    exact ⟨lim, rfl, Nat.le_refl _, fun φ _ => by rw [hg]; omega, .inl rfl⟩
  · rw [if_neg (fun x => c (this.mp x))]
    exact ⟨grN L S, rfl, by omega, fun φ _ => by rw [hg]; omega, .inr ⟨fun _ => 0, fun _ => hS, (hg _).symm⟩⟩
theorem improve_ok {wt : Nat → Int32} {w : Nat → Nat} {S km : Nat} (hS : 1 ≤ S) (hkm : km ≤ 10) (hw : ∀ i, i < km → wt i = nI (w i) ∧ w i ≤ 100) : ∀ (dd k : Nat) (L : Nat → Nat) (lim : Nat) (lo : Nat → Int32), k + dd = 10 → (∀ s, s < S → lo s = nI (L s) ∧ L s ≤ 100 * k) → lim < 2 ^ 31 → ∃ R, r_X3_improve wt S km dd k lo (nI lim) = nI R ∧ IsM w S k (km - k) L lim R
  | 0, k, L, lim, lo, hk, hlo, hl => by
    rw [show km - k = 0 by omega]
    exact imp_base hS (fun s hs => ⟨(hlo s hs).1, by have := (hlo s hs).2; omega⟩) hl
  | dd + 1, k, L, lim, lo, hk, hlo, hl => by
    have hlo2 : ∀ s, s < S → lo s = nI (L s) ∧ L s < 2 ^ 31 := fun s hs => ⟨(hlo s hs).1, by have := (hlo s hs).2; omega⟩
    unfold r_X3_improve
    have e1 := nI_leI (a := km) (b := k) (by omega) (by omega)
    by_cases c : km ≤ k
    · rw [if_pos (e1.mpr c), show km - k = 0 by omega]
      exact imp_base hS hlo2 hl
    rw [if_neg (fun x => c (e1.mp x)), if_pos (show nI k < 10 from (nI_ltI (a := k) (b := 10) (by omega) (by decide)).mpr (by omega))]
    obtain ⟨n, hn⟩ : ∃ n, km - k = n + 1 := ⟨km - k - 1, by omega⟩
    have en1 : km - (k + 1) = n := by omega
    rw [hn]
    obtain ⟨ew, hwk⟩ := hw k (by omega)
    have loop := foldN_i (f := s_X3_improve_28 lo wt k (r_X3_improve wt S km dd (k + 1))) (n := S) (fun i (be : Int32) => ∃ B, be = nI B ∧ B ≤ lim ∧ (∀ φ : Nat → Nat, (∀ j, φ j < S) → φ k < i → B ≤ grN (cl w φ L k (n + 1)) S) ∧ (B = lim ∨ ∃ φ : Nat → Nat, (∀ j, φ j < S) ∧ B = grN (cl w φ L k (n + 1)) S)) (by
      rintro i be hi ⟨B, rfl, b1, b2, b3⟩
      obtain ⟨el, hLi⟩ := hlo i hi
      have wide : ∀ φ : Nat → Nat, φ k < i + 1 → φ k < i ∨ φ k = i := fun φ h => by omega
      unfold s_X3_improve_28
      rw [el, ew, nI_add]
      have e2 := nI_leI (a := B) (b := L i + w k) (by omega) (by omega)
      by_cases c1 : B ≤ L i + w k
      · rw [if_pos (e2.mpr c1)]
        refine ⟨B, rfl, b1, fun φ hφ hk2 => ?_, b3⟩
        rcases wide φ hk2 with x | x
        · exact b2 φ hφ x
        · have := grN_ge (L := cl w φ L k (n + 1)) hi
          have e3 : cl w φ L k (n + 1) i = cl w φ (fun s => if s = φ k then L s + w k else L s) (k + 1) n i := cl_s w φ L k n i
          have e4 : L i + w k ≤ cl w φ (fun s => if s = φ k then L s + w k else L s) (k + 1) n i := by
            unfold cl
            dsimp only
            rw [if_pos x.symm]
            omega
          omega
      · rw [if_neg (fun x => c1 (e2.mp x))]
        by_cases c2 : r_X3_standsBefore lo i = 0
        · rw [if_pos c2]
          obtain ⟨R, r1, r2, r3, r4⟩ := improve_ok hS hkm hw dd (k + 1) (fun s => if s = i then L s + w k else L s) B (upd lo i (nI (L i + w k))) (by omega) (fun s hs => by
            unfold upd
            by_cases d : s = i
            · rw [if_pos d, if_pos d, d]
              exact ⟨rfl, by omega⟩
            · rw [if_neg d, if_neg d]
              have := hlo s hs
              exact ⟨this.1, by omega⟩) (by omega)
          rw [en1] at r3 r4
          have hcl : ∀ φ : Nat → Nat, φ k = i → grN (cl w φ L k (n + 1)) S = grN (cl w φ (fun s => if s = i then L s + w k else L s) (k + 1) n) S := fun φ e => grN_cong (fun s _ => by rw [cl_s, e])
          refine ⟨R, r1, by omega, fun φ hφ hk2 => ?_, ?_⟩
          · rcases wide φ hk2 with x | x
            · have := b2 φ hφ x
              omega
            · rw [hcl φ x]
              exact r3 φ hφ
          · rcases r4 with r4 | ⟨φ, hφ, r4⟩
            · rcases b3 with b3 | ⟨φ, hφ, b3⟩
              · exact .inl (by omega)
              · exact .inr ⟨φ, hφ, by omega⟩
            · refine .inr ⟨fun j => if j = k then i else φ j, fun j => ?_, ?_⟩
              · show (if j = k then i else φ j) < S
                split
                · exact hi
                · exact hφ j
              · rw [hcl (fun j => if j = k then i else φ j) (if_pos rfl), r4]
                refine grN_cong (fun s _ => cl_cong (fun j _ => ?_))
                show φ (k + 1 + j) = if k + 1 + j = k then i else φ (k + 1 + j)
                rw [if_neg (by omega)]
        · rw [if_neg c2]
          obtain ⟨s, s1, s2, s3⟩ := stands c2
          have eL : L s = L i := by
            rw [(hlo s (by omega)).1, el] at s3
            exact (nI_injI (by have := (hlo s (by omega)).2; omega) (by omega)).mp s3
          refine ⟨B, rfl, b1, fun φ hφ hk2 => ?_, b3⟩
          rcases wide φ hk2 with x | x
          · exact b2 φ hφ x
          · have := b2 (fun j => sw s i (φ j)) (fun j => sw_lt (by omega) hi (hφ j)) (by
              show sw s i (φ k) < i
              rw [x]
              unfold sw
              rw [if_neg (by omega), if_pos rfl]
              omega)
            have e5 : grN (cl w (fun j => sw s i (φ j)) L k (n + 1)) S = grN (fun t => cl w φ L k (n + 1) (sw s i t)) S := grN_cong (fun t _ => cl_sw (fun t => by
              unfold sw
              by_cases d : t = s
              · rw [if_pos d, d, eL]
              · rw [if_neg d]
                by_cases d2 : t = i
                · rw [if_pos d2, d2, eL]
                · rw [if_neg d2]) t)
            rw [e5, grN_sw (L := cl w φ L k (n + 1)) (by omega) hi] at this
            exact this) (a := nI lim) ⟨lim, rfl, Nat.le_refl _, fun φ _ h => absurd h (Nat.not_lt_zero _), .inl rfl⟩
    obtain ⟨B, e, b1, b2, b3⟩ := loop
    exact ⟨B, e, b1, fun φ hφ => b2 φ hφ (hφ k), b3⟩
