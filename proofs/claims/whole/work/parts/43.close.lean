/-! sets of numbers, reached by steps -/
def RN (R : Nat → Nat → Prop) (S : Nat → Prop) : Nat → Nat → Prop
  | 0, q => S q
  | n + 1, q => ∃ p, RN R S n p ∧ R p q
def Rch (R : Nat → Nat → Prop) (S : Nat → Prop) (q : Nat) : Prop := ∃ n, RN R S n q
theorem Rch_0 {R : Nat → Nat → Prop} {S : Nat → Prop} {q : Nat} (h : S q) : Rch R S q := ⟨0, h⟩
theorem Rch_s {R : Nat → Nat → Prop} {S : Nat → Prop} {p q : Nat} (h : Rch R S p) (r : R p q) : Rch R S q := by
  obtain ⟨n, hn⟩ := h
  exact ⟨n + 1, p, hn, r⟩
theorem Rch_least {R : Nat → Nat → Prop} {S C : Nat → Prop} (hS : ∀ q, S q → C q) (hC : ∀ p q, C p → R p q → C q) {q : Nat} (h : Rch R S q) : C q := by
  obtain ⟨n, hn⟩ := h
  induction n generalizing q with
  | zero => exact hS q hn
  | succ n ih =>
    obtain ⟨p, hp, r⟩ := hn
    exact hC p q (ih hp) r
theorem Rch_mono {R R' : Nat → Nat → Prop} {S S' : Nat → Prop} (hR : ∀ p q, R p q → R' p q) (hS : ∀ q, S q → S' q) {q : Nat} (h : Rch R S q) : Rch R' S' q := Rch_least (C := Rch R' S') (fun q h => Rch_0 (hS q h)) (fun p q hp r => Rch_s hp (hR p q r)) h
theorem Rch_head {R : Nat → Nat → Prop} {a p b : Nat} (r : R a p) (h : Rch R (fun x => x = p) b) : Rch R (fun x => x = a) b := Rch_least (C := fun b => Rch R (fun x => x = a) b) (fun q hq => by subst hq; exact Rch_s (Rch_0 rfl) r) (fun p q hp r => Rch_s hp r) h
theorem Rch_rev {R : Nat → Nat → Prop} {a b : Nat} (h : Rch R (fun x => x = a) b) : Rch (fun x y => R y x) (fun x => x = b) a := Rch_least (C := fun q => Rch (fun x y => R y x) (fun x => x = q) a) (fun q hq => by subst hq; exact Rch_0 rfl) (fun p q hp r => Rch_head (R := fun x y => R y x) r hp) h
theorem Rch_from {R : Nat → Nat → Prop} {S : Nat → Prop} {b : Nat} (h : Rch R S b) : ∃ a, S a ∧ Rch R (fun x => x = a) b := Rch_least (C := fun b => ∃ a, S a ∧ Rch R (fun x => x = a) b) (fun q hq => ⟨q, hq, Rch_0 rfl⟩) (fun p q h r => by obtain ⟨a, ha, hp⟩ := h; exact ⟨a, ha, Rch_s hp r⟩) h
theorem Rch_to {R : Nat → Nat → Prop} {S : Nat → Prop} {a b : Nat} (ha : S a) (h : Rch R (fun x => x = a) b) : Rch R S b := Rch_mono (fun _ _ h => h) (fun q hq => by subst hq; exact ha) h
theorem fb_ct_lt {p q : Nat → Bool} {k : Nat} : ∀ {n : Nat}, (∀ i, i < n → p i = true → q i = true) → k < n → q k = true → p k = false → fb_ct p n < fb_ct q n
  | 0, _, hk, _, _ => absurd hk (Nat.not_lt_zero _)
  | n + 1, h, hk, hq, hp => by
    rw [fb_ct_succ, fb_ct_succ]
    rcases Nat.lt_or_ge k n with c | c
    · have ih := fb_ct_lt (n := n) (fun i hi => h i (by omega)) c hq hp
      have hn := h n (by omega)
      cases h1 : p n with
      | false => simp; omega
      | true => rw [hn h1]; simp; omega
    · have e : k = n := by omega
      subst e
      have := fb_ct_sub (n := k) (p := p) (q := q) (fun i hi => h i (by omega))
      rw [hq, hp]
      simp
      omega
/-! the reference's way: a pass over all pairs, set in place, again until a pass sets nothing -/
def InA {σ : Type} (M : Nat) (R : Nat → Nat → Prop) (vs : σ → Nat → Bool) (vm : σ → Bool) (z0 : σ) (ex : Nat → Nat → Prop) (z : σ) : Prop :=
  (∀ k, vs z0 k = true → vs z k = true) ∧ (∀ C : Nat → Prop, (∀ k, vs z0 k = true → C k) → (∀ p q, p < M → q < M → C p → R p q → C q) → ∀ k, vs z k = true → C k) ∧ (vm z = false → (∀ k, vs z k = vs z0 k) ∧ ∀ i j, ex i j → vs z0 i = true → R i j → vs z0 j = true) ∧ (vm z = true → ∃ k, k < M ∧ vs z k = true ∧ vs z0 k = false)
def StA {σ : Type} (M : Nat) (R : Nat → Nat → Prop) (vs : σ → Nat → Bool) (vm : σ → Bool) (f : Nat → Nat → σ → σ) : Prop :=
  ∀ i j z, i < M → j < M → ((vs z i = true ∧ vs z j = false ∧ R i j) → (∀ k, vs (f i j z) k = (vs z k || decide (k = j))) ∧ vm (f i j z) = true) ∧ (¬ (vs z i = true ∧ vs z j = false ∧ R i j) → (∀ k, vs (f i j z) k = vs z k) ∧ vm (f i j z) = vm z)
theorem InA_ex {σ : Type} {M : Nat} {R : Nat → Nat → Prop} {vs : σ → Nat → Bool} {vm : σ → Bool} {z0 z : σ} {ex ex' : Nat → Nat → Prop} (he : ∀ a b, ex' a b → ex a b) (h : InA M R vs vm z0 ex z) : InA M R vs vm z0 ex' z :=
  ⟨h.1, h.2.1, fun hm => ⟨(h.2.2.1 hm).1, fun i j hx => (h.2.2.1 hm).2 i j (he i j hx)⟩, h.2.2.2⟩
theorem InA_step {σ : Type} {M : Nat} {R : Nat → Nat → Prop} {vs : σ → Nat → Bool} {vm : σ → Bool} {f : Nat → Nat → σ → σ} (hf : StA M R vs vm f) {z0 z : σ} {ex : Nat → Nat → Prop} {i j : Nat} (hi : i < M) (hj : j < M) (h : InA M R vs vm z0 ex z) : InA M R vs vm z0 (fun a b => ex a b ∨ (a = i ∧ b = j)) (f i j z) := by
  obtain ⟨h1, h2, h3, h4⟩ := h
  obtain ⟨s1, s2⟩ := hf i j z hi hj
  by_cases c : vs z i = true ∧ vs z j = false ∧ R i j
  · obtain ⟨e1, e2⟩ := s1 c
    refine ⟨fun k hk => by rw [e1, h1 k hk]; rfl, fun C hS hC k hk => ?_, fun hm => absurd (e2.symm.trans hm) (by decide), fun _ => ?_⟩
    · rw [e1, Bool.or_eq_true] at hk
      rcases hk with hk | hk
      · exact h2 C hS hC k hk
      · have e := of_decide_eq_true hk
        rw [e]
        exact hC i j hi hj (h2 C hS hC i c.1) c.2.2
    · cases hm : vm z with
      | true =>
        obtain ⟨k, a, b, d⟩ := h4 hm
        exact ⟨k, a, by rw [e1, b]; rfl, d⟩
      | false => exact ⟨j, hj, by rw [e1]; simp, by rw [← (h3 hm).1]; exact c.2.1⟩
  · obtain ⟨e1, e2⟩ := s2 c
    refine ⟨fun k hk => by rw [e1]; exact h1 k hk, fun C hS hC k hk => h2 C hS hC k (by rw [← e1]; exact hk), fun hm => ?_, fun hm => ?_⟩
    · obtain ⟨a, b⟩ := h3 (e2.symm.trans hm)
      refine ⟨fun k => by rw [e1, a], fun i' j' he hv r => ?_⟩
      rcases he with he | ⟨e3, e4⟩
      · exact b i' j' he hv r
      · cases hq : vs z0 j' with
        | true => rfl
        | false => exact absurd ⟨by rw [← e3]; exact (a i').trans hv, by rw [← e4]; exact (a j').trans hq, by rw [← e3, ← e4]; exact r⟩ c
    · obtain ⟨k, a, b, d⟩ := h4 (e2.symm.trans hm)
      exact ⟨k, a, by rw [e1]; exact b, d⟩
theorem passA {σ : Type} {M : Nat} {R : Nat → Nat → Prop} {vs : σ → Nat → Bool} {vm : σ → Bool} {f : Nat → Nat → σ → σ} (hf : StA M R vs vm f) (z0 : σ) (hm : vm z0 = false) : InA M R vs vm z0 (fun a b => a < M ∧ b < M) (foldN (fun i z => foldN (f i) M 0 z) M 0 z0) := by
  have h0 : InA M R vs vm z0 (fun a b => a < 0 ∧ b < M) z0 := ⟨fun _ h => h, fun C hS _ k hk => hS k hk, fun _ => ⟨fun _ => rfl, fun i j hx => absurd hx.1 (Nat.not_lt_zero _)⟩, fun h => absurd (hm.symm.trans h) (by decide)⟩
  have h := foldN_ind (f := fun i z => foldN (f i) M 0 z) (M := M) (fun i z => InA M R vs vm z0 (fun a b => a < i ∧ b < M) z) (fun i z hi hz => by
    have h1 := foldN_ind (f := f i) (M := M) (fun j z => InA M R vs vm z0 (fun a b => (a < i ∧ b < M) ∨ (a = i ∧ b < j)) z) (fun j z hj hz => InA_ex (fun a b hx => by
      rcases hx with hx | ⟨hx, hy⟩
      · exact .inl (.inl hx)
      · rcases Nat.lt_or_ge b j with c | c
        · exact .inl (.inr ⟨hx, c⟩)
        · exact .inr ⟨hx, by omega⟩) (InA_step hf hi hj hz)) M 0 z (by omega) (InA_ex (fun a b hx => by
      rcases hx with hx | hx
      · exact hx
      · omega) hz)
    refine InA_ex (fun a b hx => ?_) h1
    rcases Nat.lt_or_ge a i with c | c
    · exact .inl ⟨c, hx.2⟩
    · exact .inr ⟨by omega, by omega⟩) M 0 z0 (by omega) h0
  exact InA_ex (fun a b hx => ⟨by omega, hx.2⟩) h
theorem closeA {σ : Type} {M : Nat} {R : Nat → Nat → Prop} {vs : σ → Nat → Bool} {vm : σ → Bool} {f : Nat → Nat → σ → σ} (hf : StA M R vs vm f) {e : σ → Bool} {ps rs : σ → σ} (he : ∀ z, e z = !vm z) (hps : ∀ z, ps z = foldN (fun i z => foldN (f i) M 0 z) M 0 (rs z)) (hrs : ∀ z, (∀ k, vs (rs z) k = vs z k) ∧ vm (rs z) = false) : ∀ (n : Nat) (z : σ), vm z = true → M < n + fb_ct (vs z) M → e (whN e ps n z) = true ∧ (∀ k, vs z k = true → vs (whN e ps n z) k = true) ∧ (∀ C : Nat → Prop, (∀ k, vs z k = true → C k) → (∀ p q, p < M → q < M → C p → R p q → C q) → ∀ k, vs (whN e ps n z) k = true → C k) ∧ (∀ p q, p < M → q < M → vs (whN e ps n z) p = true → R p q → vs (whN e ps n z) q = true)
  | 0, z, _, hc => absurd hc (by have := fb_ct_le (vs z) M; omega)
  | n + 1, z, hm, hc => by
    rw [whN_s (by rw [he, hm]; rfl)]
    have e0 := (hrs z).1
    have hA : InA M R vs vm (rs z) (fun a b => a < M ∧ b < M) (ps z) := by rw [hps]; exact passA hf (rs z) (hrs z).2
    obtain ⟨h1, h2, h3, h4⟩ := hA
    cases hv : vm (ps z) with
    | false =>
      obtain ⟨a, b⟩ := h3 hv
      have hr : whN e ps n (ps z) = ps z := whN_e (by rw [he, hv]; rfl)
      rw [hr]
      refine ⟨by rw [he, hv]; rfl, fun k hk => h1 k ((e0 k).trans hk), fun C hS hC k hk => h2 C (fun k hk => hS k ((e0 k).symm.trans hk)) hC k hk, fun p q hp hq hvp r => ?_⟩
      rw [a q]
      exact b p q ⟨hp, hq⟩ ((a p).symm.trans hvp) r
    | true =>
      obtain ⟨k0, a, b, d⟩ := h4 hv
      have hlt : fb_ct (vs z) M < fb_ct (vs (ps z)) M := fb_ct_lt (k := k0) (fun i _ hi => h1 i ((e0 i).trans hi)) a b ((e0 k0).symm.trans d)
      obtain ⟨i1, i2, i3, i4⟩ := closeA hf he hps hrs n (ps z) hv (by omega)
      exact ⟨i1, fun k hk => i2 k (h1 k ((e0 k).trans hk)), fun C hS hC k hk => i3 C (fun k hk => h2 C (fun k hk => hS k ((e0 k).symm.trans hk)) hC k hk) hC k hk, i4⟩
theorem closeA_iff {σ : Type} {M : Nat} {R : Nat → Nat → Prop} {vs : σ → Nat → Bool} {vm : σ → Bool} {f : Nat → Nat → σ → σ} (hf : StA M R vs vm f) {e : σ → Bool} {ps rs : σ → σ} (he : ∀ z, e z = !vm z) (hps : ∀ z, ps z = foldN (fun i z => foldN (f i) M 0 z) M 0 (rs z)) (hrs : ∀ z, (∀ k, vs (rs z) k = vs z k) ∧ vm (rs z) = false) {n : Nat} (z : σ) (hm : vm z = true) (hn : M < n) : e (whN e ps n z) = true ∧ ∀ k, vs (whN e ps n z) k = true ↔ Rch (fun p q => p < M ∧ q < M ∧ R p q) (fun k => vs z k = true) k := by
  obtain ⟨h1, h2, h3, h4⟩ := closeA hf he hps hrs n z hm (by omega)
  refine ⟨h1, fun k => ⟨fun hk => h3 (Rch (fun p q => p < M ∧ q < M ∧ R p q) (fun k => vs z k = true)) (fun k hk => Rch_0 hk) (fun p q hp hq hc r => Rch_s hc ⟨hp, hq, r⟩) k hk, fun hk => ?_⟩⟩
  exact Rch_least (C := fun k => vs (whN e ps n z) k = true) h2 (fun p q hp r => h4 p q r.1 r.2.1 hp r.2.2) hk
/-! the class's way: layer by layer -/
theorem closeB {σ : Type} {M : Nat} {R : Nat → Nat → Prop} {vf vr : σ → Nat → Bool} {I : σ → Prop} {b : σ → Bool} {f : Nat → σ → σ} (hI : ∀ i z, I z → I (f i z)) (hb : ∀ z, I z → (b z = true ↔ ∀ q, q < M → vr z q = false)) (hf : ∀ i z, I z → ∀ q, q < M → (vr (f i z) q = true ↔ (∃ p, p < M ∧ vr z p = true ∧ R p q) ∧ vf z q = false) ∧ vf (f i z) q = (vf z q || vr (f i z) q)) : ∀ (n i : Nat) (z : σ), I z → (∀ q, q < M → vr z q = true → vf z q = true) → (∀ p q, p < M → q < M → vf z p = true → vr z p = false → R p q → vf z q = true) → M ≤ n + fb_ct (fun q => vf z q && !vr z q) M → I (brkN b f n i z) ∧ (∀ q, q < M → vf z q = true → vf (brkN b f n i z) q = true) ∧ (∀ C : Nat → Prop, (∀ q, q < M → vf z q = true → C q) → (∀ p q, p < M → q < M → C p → R p q → C q) → ∀ q, q < M → vf (brkN b f n i z) q = true → C q) ∧ (∀ p q, p < M → q < M → vf (brkN b f n i z) p = true → R p q → vf (brkN b f n i z) q = true)
  | 0, i, z, hz, h1, h2, hc => by
    have hall := fb_ct_all.mp (Nat.le_antisymm (fb_ct_le (fun q => vf z q && !vr z q) M) (by omega))
    refine ⟨hz, fun q _ h => h, fun C hS _ q hq h => hS q hq h, fun p q hp hq _ _ => ?_⟩
    have := hall q hq
    rw [Bool.and_eq_true] at this
    exact this.1
  | n + 1, i, z, hz, h1, h2, hc => by
    cases hbz : b z with
    | true =>
      rw [brkN_t hbz]
      exact ⟨hz, fun q _ h => h, fun C hS _ q hq h => hS q hq h, fun p q hp hq hv r => h2 p q hp hq hv ((hb z hz).mp hbz p hp) r⟩
    | false =>
      rw [brkN_f hbz]
      have hne : ∃ q, q < M ∧ vr z q = true := by
        refine Classical.byContradiction fun hx => ?_
        have : b z = true := (hb z hz).mpr (fun q hq => by
          cases hv : vr z q with
          | false => rfl
          | true => exact absurd ⟨q, hq, hv⟩ hx)
        rw [hbz] at this
        exact absurd this (by decide)
      obtain ⟨q0, hq0, hv0⟩ := hne
      have hs := hf i z hz
      have hlt : fb_ct (fun q => vf z q && !vr z q) M < fb_ct (fun q => vf (f i z) q && !vr (f i z) q) M := by
        have aux : ∀ q, q < M → vf z q = true → (vf (f i z) q && !vr (f i z) q) = true := fun q hq hv => by
          rw [(hs q hq).2, hv]
          cases hr : vr (f i z) q with
          | false => rfl
          | true =>
            have := ((hs q hq).1.mp hr).2
            rw [hv] at this
            exact absurd this (by decide)
        refine fb_ct_lt (k := q0) (fun q hq hv => ?_) hq0 (aux q0 hq0 (h1 q0 hq0 hv0)) ?_
        · rw [Bool.and_eq_true] at hv
          exact aux q hq hv.1
        · show (vf z q0 && !vr z q0) = false
          rw [hv0]
          simp
      have k1 : ∀ q, q < M → vr (f i z) q = true → vf (f i z) q = true := fun q hq hv => by rw [(hs q hq).2, hv]; simp
      have k2 : ∀ p q, p < M → q < M → vf (f i z) p = true → vr (f i z) p = false → R p q → vf (f i z) q = true := fun p q hp hq hv hr r => by
        rw [(hs p hp).2, hr, Bool.or_false] at hv
        rw [(hs q hq).2]
        cases hvq : vf z q with
        | true => rfl
        | false =>
          cases hrp : vr z p with
          | true => rw [(hs q hq).1.mpr ⟨⟨p, hp, hrp, r⟩, hvq⟩]; rfl
          | false => rw [h2 p q hp hq hv hrp r] at hvq; exact absurd hvq (by decide)
      obtain ⟨i1, i2, i3, i4⟩ := closeB hI hb hf n (i + 1) (f i z) (hI i z hz) k1 k2 (by omega)
      refine ⟨i1, fun q hq hv => i2 q hq (by rw [(hs q hq).2, hv]; rfl), fun C hS hC q hq hv => i3 C (fun q hq hv => ?_) hC q hq hv, i4⟩
      rw [(hs q hq).2, Bool.or_eq_true] at hv
      rcases hv with hv | hv
      · exact hS q hq hv
      · obtain ⟨⟨p, hp, hrp, r⟩, _⟩ := (hs q hq).1.mp hv
        exact hC p q hp hq (hS p hp (h1 p hp hrp)) r
theorem closeB_iff {σ : Type} {M : Nat} {R : Nat → Nat → Prop} {vf vr : σ → Nat → Bool} {I : σ → Prop} {b : σ → Bool} {f : Nat → σ → σ} (hI : ∀ i z, I z → I (f i z)) (hb : ∀ z, I z → (b z = true ↔ ∀ q, q < M → vr z q = false)) (hf : ∀ i z, I z → ∀ q, q < M → (vr (f i z) q = true ↔ (∃ p, p < M ∧ vr z p = true ∧ R p q) ∧ vf z q = false) ∧ vf (f i z) q = (vf z q || vr (f i z) q)) {n i : Nat} (hn : M ≤ n) (z : σ) (hz : I z) (hv : ∀ q, vf z q = vr z q) : I (brkN b f n i z) ∧ ∀ q, q < M → (vf (brkN b f n i z) q = true ↔ Rch (fun p q => p < M ∧ q < M ∧ R p q) (fun q => q < M ∧ vf z q = true) q) := by
  obtain ⟨h1, h2, h3, h4⟩ := closeB hI hb hf n i z hz (fun q _ h => (hv q).trans h) (fun p q _ _ a b _ => absurd ((hv p).symm.trans a) (by rw [b]; decide)) (by omega)
  refine ⟨h1, fun q hq => ⟨fun hk => h3 (Rch (fun p q => p < M ∧ q < M ∧ R p q) (fun q => q < M ∧ vf z q = true)) (fun q hq hk => Rch_0 ⟨hq, hk⟩) (fun p q hp hq hc r => Rch_s hc ⟨hp, hq, r⟩) q hq hk, fun hk => ?_⟩⟩
  exact (Rch_least (C := fun k => k < M ∧ vf (brkN b f n i z) k = true) (fun q h => ⟨h.1, h2 q h.1 h.2⟩) (fun p q hp r => ⟨r.2.1, h4 p q r.1 r.2.1 hp.2 r.2.2⟩) hk).2
