/-! CALLS: in place (RO: the callee leaves its world as it was; UP: the callee's world comes back at the same addresses; GN: with new cells) -/
def upW : va_W → List Nat → va_W → va_W
  | w, i :: is, x :: xs => upW (w.set i x) is xs
  | w, _, _ => w
theorem upW_get : ∀ (is : List Nat) (xs : va_W) (w : va_W) (k : Nat) (q : Nat × va_E), is.length = xs.length → (upW w is xs)[k]? = some q → q ∈ xs ∨ (w[k]? = some q ∧ k ∉ is)
  | [], [], w, k, q, _, h => Or.inr ⟨h, by simp⟩
  | [], x :: xs, w, k, q, hl, h => by simp at hl
  | i :: is, [], w, k, q, hl, h => by simp at hl
  | i :: is, x :: xs, w, k, q, hl, h => by
    have ih := upW_get is xs (w.set i x) k q (by simpa using hl) h
    rcases ih with h1 | ⟨h1, h2⟩
    · exact Or.inl (List.mem_cons_of_mem _ h1)
    · rw [List.getElem?_set] at h1
      by_cases e : i = k
      · rw [if_pos e] at h1
        split at h1
        · cases h1
          exact Or.inl List.mem_cons_self
        · cases h1
      · rw [if_neg e] at h1
        exact Or.inr ⟨h1, by simp [h2, Ne.symm e]⟩
theorem upW_fst : ∀ (is : List Nat) (xs : va_W) (w : va_W), is.map (fun i => (w.map Prod.fst)[i]?) = xs.map (fun x => some x.1) → (upW w is xs).map Prod.fst = w.map Prod.fst
  | [], [], w, _ => rfl
  | [], x :: xs, w, h => rfl
  | i :: is, [], w, h => rfl
  | i :: is, x :: xs, w, h => by
    simp only [List.map_cons, List.cons.injEq] at h
    have e : (w.set i x).map Prod.fst = w.map Prod.fst := by
      apply List.ext_getElem?
      intro j
      rw [List.map_set, List.getElem?_set]
      by_cases e : i = j
      · subst e
        rw [if_pos rfl]
        split
        · exact h.1.symm
        · rename_i hh
          rw [List.getElem?_eq_none (by omega)]
      · rw [if_neg e]
    have ih := upW_fst is xs (w.set i x) (by rw [e]; exact h.2)
    show (upW (w.set i x) is xs).map Prod.fst = _
    rw [ih, e]
theorem va_D.fst {A : Nat → Prop} {w w' : va_W} (h : va_D A w) (e : w'.map Prod.fst = w.map Prod.fst) : va_D A w' := by
  have same : ∀ (k : Nat) (q : Nat × va_E), w'[k]? = some q → ∃ b : va_E, w[k]? = some (q.1, b) := by
    intro k q hq
    have z := congrArg (fun l => l[k]?) e
    simp only [List.getElem?_map, hq, Option.map_some] at z
    obtain ⟨x, hx, ex⟩ := Option.map_eq_some_iff.mp z.symm
    exact ⟨x.2, by rw [hx, ← ex]⟩
  constructor
  · intro i j x y hx hy hxy
    have ⟨b, hb⟩ := same i x hx
    have ⟨d, hd⟩ := same j y hy
    exact h.1 i j _ _ hb hd hxy
  · intro k x hx
    have ⟨b, hb⟩ := same k x hx
    exact h.2 k (x.1, b) hb
theorem va_ro {A0 : Nat → Prop} {D : va_G} {cl : List vw_C} {ws wc : va_W} {H H1 : Heap} (hP : va_P D cl ws H) (hD : va_D A0 ws) (isC : List Nat) (hC : isC.map (fun i => ws[i]?) = wc.map some) (hk : ∀ q : Nat, q < H.size → ¬ va_A wc H.size q → H1[q]? = H[q]?) (hP1 : va_P D cl wc H1) : va_P D cl ws H1 := by
  intro k q hq
  have hlt := (hP k q hq).lt
  by_cases h : va_A wc H.size q.1
  · rcases h with ⟨k2, e, h⟩ | h
    · obtain ⟨i, h3, h4⟩ := va_atC hC k2 (q.1, e) h
      have hik := hD.1 k i q (q.1, e) hq h4 rfl
      subst hik
      have : q = (q.1, e) := Option.some.inj (hq.symm.trans h4)
      rw [this]
      exact hP1 k2 _ h
    · omega
  · exact (hP k q hq).kept (hk q.1 hlt h)
theorem va_upP {A0 : Nat → Prop} {D : va_G} {cl : List vw_C} {ws wc w1 : va_W} {H H1 : Heap} (hP : va_P D cl ws H) (hD : va_D A0 ws) (isC : List Nat) (hC : isC.map (fun i => ws[i]?) = wc.map some) (he : w1.map Prod.fst = wc.map Prod.fst) (hk : ∀ q : Nat, q < H.size → ¬ va_A wc H.size q → H1[q]? = H[q]?) (hP1 : va_P D cl w1 H1) : va_P D cl (upW ws isC w1) H1 ∧ va_D A0 (upW ws isC w1) := by
  have hlen : isC.length = wc.length := by simpa using congrArg List.length hC
  have hlen1 : w1.length = wc.length := by simpa using congrArg List.length he
  refine ⟨fun k q hq => ?_, hD.fst (upW_fst isC w1 ws ?_)⟩
  · rcases upW_get isC w1 ws k q (by omega) hq with h | ⟨h1, h2⟩
    · obtain ⟨j, hj⟩ := List.getElem?_of_mem h
      exact hP1 j q hj
    · have hlt := (hP k q h1).lt
      refine (hP k q h1).kept (hk q.1 hlt fun h => ?_)
      rcases h with ⟨k2, e, h⟩ | h
      · obtain ⟨i, h3, h4⟩ := va_atC hC k2 (q.1, e) h
        have hik := hD.1 k i q (q.1, e) h1 h4 rfl
        subst hik
        exact h2 (List.mem_of_getElem? h3)
      · omega
  · apply List.ext_getElem?
    intro k
    rw [List.getElem?_map, List.getElem?_map]
    have e2 : (w1.map Prod.fst)[k]? = (wc.map Prod.fst)[k]? := by rw [he]
    rw [List.getElem?_map, List.getElem?_map] at e2
    cases hc : wc[k]? with
    | none =>
      rw [hc] at e2
      have : isC[k]? = none := List.getElem?_eq_none (by have := List.getElem?_eq_none_iff.mp hc; omega)
      rw [this]
      cases hw : w1[k]? with
      | none => rfl
      | some z => rw [hw] at e2; cases e2
    | some z =>
      obtain ⟨i, h3, h4⟩ := va_atC hC k z hc
      rw [hc] at e2
      cases hw : w1[k]? with
      | none => rw [hw] at e2; cases e2
      | some z1 =>
        rw [hw] at e2
        rw [h3]
        simp only [Option.map_some, List.getElem?_map, h4]
        exact congrArg some e2.symm
def hdK (y : MethodName) (k : Nat) : Prop := y.cls ≠ "java/lang/invoke/MethodHandle" ∧ y.cls ≠ "java/lang/invoke/VarHandle" ∧ (parseMethodDescriptor y.desc).map (fun d => d.parameters.length) = some k
def CSok (own : String) (idx : Nat) (y : MethodName) (b : ByteArray) (n : Nat) (rt : Option FieldType) (k : Nat) : Prop := Cond.methodLink own idx y ∈ lwg ∧ Cond.static y ∈ lwg ∧ Cond.initialized y.cls ∈ lwg ∧ Cond.code y b n rt ∈ lwg ∧ hdK y k
def CNok (own : String) (idx : Nat) (y : MethodName) (b : ByteArray) (n : Nat) (rt : Option FieldType) (k : Nat) : Prop := (own, idx, y, "ChangeImpact") ∈ lwn ∧ Cond.static y ∈ lwg ∧ Cond.initialized y.cls ∈ lwg ∧ Cond.code y b n rt ∈ lwg ∧ hdK y k
def CVok (own : String) (idx : Nat) (C : String) (y : MethodName) (b : ByteArray) (n : Nat) (rt : Option FieldType) (k : Nat) : Prop := Cond.methodLink own idx y ∈ lwg ∧ (Cond.instanceMethod y ∈ lwg ∧ Cond.selects C y y ∈ lwg) ∧ Cond.initialized y.cls ∈ lwg ∧ Cond.code y b n rt ∈ lwg ∧ hdK y k
def CIok (own : String) (idx : Nat) (y : MethodName) (b : ByteArray) (n : Nat) (k : Nat) : Prop := Cond.methodLink own idx y ∈ lwg ∧ (y.name = "<init>" ∧ Cond.instanceMethod y ∈ lwg) ∧ Cond.initialized y.cls ∈ lwg ∧ Cond.code y b n none ∈ lwg ∧ hdK y k
def CJok (own : String) (idx : Nat) (y : MethodName) (b : ByteArray) (n : Nat) (k : Nat) : Prop := (own, idx, y, "ChangeImpact") ∈ lwn ∧ (y.name = "<init>" ∧ Cond.instanceMethod y ∈ lwg) ∧ Cond.initialized y.cls ∈ lwg ∧ Cond.code y b n none ∈ lwg ∧ hdK y k
def okR (r1 : Room) (n : Nat) (r : Room) : Bool := Nat.ble (r1.frames + 1) r.frames && Nat.ble (8 + (n + 11) + r1.locals) r.locals
theorem okR_use {r1 r : Room} {n : Nat} (h : okR r1 n r = true) : r1.frames + 1 ≤ r.frames ∧ 8 + (n + 11) + r1.locals ≤ r.locals := by
  simp only [okR, Bool.and_eq_true] at h
  exact ⟨Nat.le_of_ble_eq_true h.1, Nat.le_of_ble_eq_true h.2⟩
theorem pw_blind {D : va_G} {W0 : va_W} {sz : Nat} {as : List Value} : FrameBlind (va_Pc as (PW D W0 sz)) := fun a U g mk q => by
  obtain ⟨q0, q1, qP, qK, qD, qN⟩ := q
  exact ⟨q0, q1, qP, va_K.moved (u := U) (U := U.calling g mk a) (Vm.Alike.refl U.vm) qK, qD, qN.calling⟩
section VCALLS
variable {Z : BX} {D : va_G} {kc ks : Nat} {wd : va_W} {lv : List (Option Value)} {st rest : List Value} {pc : Nat} {cc : ByteArray} {own : String} {rm : Room} {n0 : Nat}

theorem v_cS_i (E : EF Z D cc own rm n0) {y : MethodName} {b : ByteArray} {n idx ka : Nat} {rt : Option FieldType} {rm1 : Room} {As : List Value} {W0 : va_W} {r : Int32} (d : decode cc pc = .ok (.invokestatic idx, 3)) (Cc : ∀ l, Ct l y b n rt rm1 D As W0 (QI1 D r W0)) (ok : CSok own idx y b n rt ka) (hn : As.length = ka) (hst : As.reverse ++ rest = st) (hrm : okR rm1 n rm = true) (hcr : (rest.map fun v => v.category).sum ≤ 8) (isC : List Nat) (hnd : va_nd isC = true) (hC : isC.map (fun i => wd[i]?) = W0.map some) (hcs : kc + rm1.cells ≤ rm.cells ∧ ks + rm1.slots ≤ rm.slots) (k : V Z D (kc + rm1.cells) (ks + rm1.slots) wd lv (.int r :: rest) (pc + 3)) : V Z D kc ks wd lv st pc := by
  obtain ⟨p, l, e, R, s, m, args, below, meth, c, A, nL, Q⟩ := Z
  obtain ⟨hx, hb, hml, rfl, rfl, hown, hts, hK, hA, hN, hlocks⟩ := E
  subst hst
  intro H locs ls hP hD hS hl
  have hFc := va_free (wc := W0) hD hS hA isC hC
  have hPc := hP.subm isC hC
  have hDc := hD.sub isC hnd hC
  refine va_calli (va_runS (As := As) (rest := rest) (g := F0 m pc ls (As.reverse ++ rest)) ⟨hx, hb, hml, hown, hts⟩ (Cc l H.size) ⟨callB_of ka hts (lwg_inT ok.2.2.2.1) rfl rfl rfl (hts _ ok.2.2.1) (hts _ ok.1) ok.2.2.2.2 (okR_use hrm), hts _ ok.2.1⟩ ⟨pw_blind, fun U hU hW => ⟨rfl, by rw [hU], by rw [hU]; exact hPc, va_K.moved hW.alike hK, hDc.weaken (fun _ _ _ _ => trivial), hN.warm hW⟩⟩ rfl hn hl.1 rfl (lv_room hcr) d hcs) hS (fun q _ h => hFc q h) hFc (fun r0 u t H1 locs1 ht hvm hw hB hz1 hk1 hS => ?_)
  obtain rfl : r0 = r := hw
  obtain ⟨hP1, -⟩ := hB
  rw [ht] at hP1
  exact k H1 locs1 ls (va_ro hP hD isC hC hk1 hP1) hD hS hl
theorem v_cS_iU (E : EF Z D cc own rm n0) {y : MethodName} {b : ByteArray} {n idx ka : Nat} {rt : Option FieldType} {rm1 : Room} {As : List Value} {W0 : va_W} {r : Int32} {W1 : va_W} (d : decode cc pc = .ok (.invokestatic idx, 3)) (Cc : ∀ l, Ct l y b n rt rm1 D As W0 (QI1 D r W1)) (ok : CSok own idx y b n rt ka) (hn : As.length = ka) (hst : As.reverse ++ rest = st) (hrm : okR rm1 n rm = true) (hcr : (rest.map fun v => v.category).sum ≤ 8) (isC : List Nat) (hnd : va_nd isC = true) (hC : isC.map (fun i => wd[i]?) = W0.map some) (hcs : kc + rm1.cells ≤ rm.cells ∧ ks + rm1.slots ≤ rm.slots) (La : List Nat) (hf1 : W1.map Prod.fst = La) (hf0 : W0.map Prod.fst = La) (k : V Z D (kc + rm1.cells) (ks + rm1.slots) (upW wd isC W1) lv (.int r :: rest) (pc + 3)) : V Z D kc ks wd lv st pc := by
  obtain ⟨p, l, e, R, s, m, args, below, meth, c, A, nL, Q⟩ := Z
  obtain ⟨hx, hb, hml, rfl, rfl, hown, hts, hK, hA, hN, hlocks⟩ := E
  subst hst
  intro H locs ls hP hD hS hl
  have hFc := va_free (wc := W0) hD hS hA isC hC
  have hPc := hP.subm isC hC
  have hDc := hD.sub isC hnd hC
  refine va_calli (va_runS (As := As) (rest := rest) (g := F0 m pc ls (As.reverse ++ rest)) ⟨hx, hb, hml, hown, hts⟩ (Cc l H.size) ⟨callB_of ka hts (lwg_inT ok.2.2.2.1) rfl rfl rfl (hts _ ok.2.2.1) (hts _ ok.1) ok.2.2.2.2 (okR_use hrm), hts _ ok.2.1⟩ ⟨pw_blind, fun U hU hW => ⟨rfl, by rw [hU], by rw [hU]; exact hPc, va_K.moved hW.alike hK, hDc.weaken (fun _ _ _ _ => trivial), hN.warm hW⟩⟩ rfl hn hl.1 rfl (lv_room hcr) d hcs) hS (fun q _ h => hFc q h) hFc (fun r0 u t H1 locs1 ht hvm hw hB hz1 hk1 hS => ?_)
  obtain rfl : r0 = r := hw
  obtain ⟨hP1, -⟩ := hB
  rw [ht] at hP1
  obtain ⟨h1, h2⟩ := va_upP hP hD isC hC (hf1.trans hf0.symm) hk1 hP1
  exact k H1 locs1 ls h1 h2 hS hl
theorem v_cS_l (E : EF Z D cc own rm n0) {y : MethodName} {b : ByteArray} {n idx ka : Nat} {rt : Option FieldType} {rm1 : Room} {As : List Value} {W0 : va_W} {r : Int64} (d : decode cc pc = .ok (.invokestatic idx, 3)) (Cc : ∀ l, Ct l y b n rt rm1 D As W0 (QL1 D r W0)) (ok : CSok own idx y b n rt ka) (hn : As.length = ka) (hst : As.reverse ++ rest = st) (hrm : okR rm1 n rm = true) (hcr : (rest.map fun v => v.category).sum ≤ 8) (isC : List Nat) (hnd : va_nd isC = true) (hC : isC.map (fun i => wd[i]?) = W0.map some) (hcs : kc + rm1.cells ≤ rm.cells ∧ ks + rm1.slots ≤ rm.slots) (k : V Z D (kc + rm1.cells) (ks + rm1.slots) wd lv (.long r :: rest) (pc + 3)) : V Z D kc ks wd lv st pc := by
  obtain ⟨p, l, e, R, s, m, args, below, meth, c, A, nL, Q⟩ := Z
  obtain ⟨hx, hb, hml, rfl, rfl, hown, hts, hK, hA, hN, hlocks⟩ := E
  subst hst
  intro H locs ls hP hD hS hl
  have hFc := va_free (wc := W0) hD hS hA isC hC
  have hPc := hP.subm isC hC
  have hDc := hD.sub isC hnd hC
  refine va_calll (va_runS (As := As) (rest := rest) (g := F0 m pc ls (As.reverse ++ rest)) ⟨hx, hb, hml, hown, hts⟩ (Cc l H.size) ⟨callB_of ka hts (lwg_inT ok.2.2.2.1) rfl rfl rfl (hts _ ok.2.2.1) (hts _ ok.1) ok.2.2.2.2 (okR_use hrm), hts _ ok.2.1⟩ ⟨pw_blind, fun U hU hW => ⟨rfl, by rw [hU], by rw [hU]; exact hPc, va_K.moved hW.alike hK, hDc.weaken (fun _ _ _ _ => trivial), hN.warm hW⟩⟩ rfl hn hl.1 rfl (lv_room hcr) d hcs) hS (fun q _ h => hFc q h) hFc (fun r0 u t H1 locs1 ht hvm hw hB hz1 hk1 hS => ?_)
  obtain rfl : r0 = r := hw
  obtain ⟨hP1, -⟩ := hB
  rw [ht] at hP1
  exact k H1 locs1 ls (va_ro hP hD isC hC hk1 hP1) hD hS hl
theorem v_cS_lU (E : EF Z D cc own rm n0) {y : MethodName} {b : ByteArray} {n idx ka : Nat} {rt : Option FieldType} {rm1 : Room} {As : List Value} {W0 : va_W} {r : Int64} {W1 : va_W} (d : decode cc pc = .ok (.invokestatic idx, 3)) (Cc : ∀ l, Ct l y b n rt rm1 D As W0 (QL1 D r W1)) (ok : CSok own idx y b n rt ka) (hn : As.length = ka) (hst : As.reverse ++ rest = st) (hrm : okR rm1 n rm = true) (hcr : (rest.map fun v => v.category).sum ≤ 8) (isC : List Nat) (hnd : va_nd isC = true) (hC : isC.map (fun i => wd[i]?) = W0.map some) (hcs : kc + rm1.cells ≤ rm.cells ∧ ks + rm1.slots ≤ rm.slots) (La : List Nat) (hf1 : W1.map Prod.fst = La) (hf0 : W0.map Prod.fst = La) (k : V Z D (kc + rm1.cells) (ks + rm1.slots) (upW wd isC W1) lv (.long r :: rest) (pc + 3)) : V Z D kc ks wd lv st pc := by
  obtain ⟨p, l, e, R, s, m, args, below, meth, c, A, nL, Q⟩ := Z
  obtain ⟨hx, hb, hml, rfl, rfl, hown, hts, hK, hA, hN, hlocks⟩ := E
  subst hst
  intro H locs ls hP hD hS hl
  have hFc := va_free (wc := W0) hD hS hA isC hC
  have hPc := hP.subm isC hC
  have hDc := hD.sub isC hnd hC
  refine va_calll (va_runS (As := As) (rest := rest) (g := F0 m pc ls (As.reverse ++ rest)) ⟨hx, hb, hml, hown, hts⟩ (Cc l H.size) ⟨callB_of ka hts (lwg_inT ok.2.2.2.1) rfl rfl rfl (hts _ ok.2.2.1) (hts _ ok.1) ok.2.2.2.2 (okR_use hrm), hts _ ok.2.1⟩ ⟨pw_blind, fun U hU hW => ⟨rfl, by rw [hU], by rw [hU]; exact hPc, va_K.moved hW.alike hK, hDc.weaken (fun _ _ _ _ => trivial), hN.warm hW⟩⟩ rfl hn hl.1 rfl (lv_room hcr) d hcs) hS (fun q _ h => hFc q h) hFc (fun r0 u t H1 locs1 ht hvm hw hB hz1 hk1 hS => ?_)
  obtain rfl : r0 = r := hw
  obtain ⟨hP1, -⟩ := hB
  rw [ht] at hP1
  obtain ⟨h1, h2⟩ := va_upP hP hD isC hC (hf1.trans hf0.symm) hk1 hP1
  exact k H1 locs1 ls h1 h2 hS hl
theorem v_cS_v (E : EF Z D cc own rm n0) {y : MethodName} {b : ByteArray} {n idx ka : Nat} {rt : Option FieldType} {rm1 : Room} {As : List Value} {W0 : va_W} (d : decode cc pc = .ok (.invokestatic idx, 3)) (Cc : ∀ l, Ct l y b n rt rm1 D As W0 (QV1 D W0)) (ok : CSok own idx y b n rt ka) (hn : As.length = ka) (hst : As.reverse ++ rest = st) (hrm : okR rm1 n rm = true) (hcr : (rest.map fun v => v.category).sum ≤ 8) (isC : List Nat) (hnd : va_nd isC = true) (hC : isC.map (fun i => wd[i]?) = W0.map some) (hcs : kc + rm1.cells ≤ rm.cells ∧ ks + rm1.slots ≤ rm.slots) (k : V Z D (kc + rm1.cells) (ks + rm1.slots) wd lv rest (pc + 3)) : V Z D kc ks wd lv st pc := by
  obtain ⟨p, l, e, R, s, m, args, below, meth, c, A, nL, Q⟩ := Z
  obtain ⟨hx, hb, hml, rfl, rfl, hown, hts, hK, hA, hN, hlocks⟩ := E
  subst hst
  intro H locs ls hP hD hS hl
  have hFc := va_free (wc := W0) hD hS hA isC hC
  have hPc := hP.subm isC hC
  have hDc := hD.sub isC hnd hC
  refine va_callv (va_runS (As := As) (rest := rest) (g := F0 m pc ls (As.reverse ++ rest)) ⟨hx, hb, hml, hown, hts⟩ (Cc l H.size) ⟨callB_of ka hts (lwg_inT ok.2.2.2.1) rfl rfl rfl (hts _ ok.2.2.1) (hts _ ok.1) ok.2.2.2.2 (okR_use hrm), hts _ ok.2.1⟩ ⟨pw_blind, fun U hU hW => ⟨rfl, by rw [hU], by rw [hU]; exact hPc, va_K.moved hW.alike hK, hDc.weaken (fun _ _ _ _ => trivial), hN.warm hW⟩⟩ rfl hn hl.1 rfl (lv_room hcr) d hcs) hS (fun q _ h => hFc q h) hFc (fun u t H1 locs1 ht hvm hw hB hz1 hk1 hS => ?_)
  obtain ⟨hP1, -⟩ := hB
  rw [ht] at hP1
  exact k H1 locs1 ls (va_ro hP hD isC hC hk1 hP1) hD hS hl
theorem v_cS_vU (E : EF Z D cc own rm n0) {y : MethodName} {b : ByteArray} {n idx ka : Nat} {rt : Option FieldType} {rm1 : Room} {As : List Value} {W0 : va_W} {W1 : va_W} (d : decode cc pc = .ok (.invokestatic idx, 3)) (Cc : ∀ l, Ct l y b n rt rm1 D As W0 (QV1 D W1)) (ok : CSok own idx y b n rt ka) (hn : As.length = ka) (hst : As.reverse ++ rest = st) (hrm : okR rm1 n rm = true) (hcr : (rest.map fun v => v.category).sum ≤ 8) (isC : List Nat) (hnd : va_nd isC = true) (hC : isC.map (fun i => wd[i]?) = W0.map some) (hcs : kc + rm1.cells ≤ rm.cells ∧ ks + rm1.slots ≤ rm.slots) (La : List Nat) (hf1 : W1.map Prod.fst = La) (hf0 : W0.map Prod.fst = La) (k : V Z D (kc + rm1.cells) (ks + rm1.slots) (upW wd isC W1) lv rest (pc + 3)) : V Z D kc ks wd lv st pc := by
  obtain ⟨p, l, e, R, s, m, args, below, meth, c, A, nL, Q⟩ := Z
  obtain ⟨hx, hb, hml, rfl, rfl, hown, hts, hK, hA, hN, hlocks⟩ := E
  subst hst
  intro H locs ls hP hD hS hl
  have hFc := va_free (wc := W0) hD hS hA isC hC
  have hPc := hP.subm isC hC
  have hDc := hD.sub isC hnd hC
  refine va_callv (va_runS (As := As) (rest := rest) (g := F0 m pc ls (As.reverse ++ rest)) ⟨hx, hb, hml, hown, hts⟩ (Cc l H.size) ⟨callB_of ka hts (lwg_inT ok.2.2.2.1) rfl rfl rfl (hts _ ok.2.2.1) (hts _ ok.1) ok.2.2.2.2 (okR_use hrm), hts _ ok.2.1⟩ ⟨pw_blind, fun U hU hW => ⟨rfl, by rw [hU], by rw [hU]; exact hPc, va_K.moved hW.alike hK, hDc.weaken (fun _ _ _ _ => trivial), hN.warm hW⟩⟩ rfl hn hl.1 rfl (lv_room hcr) d hcs) hS (fun q _ h => hFc q h) hFc (fun u t H1 locs1 ht hvm hw hB hz1 hk1 hS => ?_)
  obtain ⟨hP1, -⟩ := hB
  rw [ht] at hP1
  obtain ⟨h1, h2⟩ := va_upP hP hD isC hC (hf1.trans hf0.symm) hk1 hP1
  exact k H1 locs1 ls h1 h2 hS hl
theorem v_cN_i (E : EF Z D cc own rm n0) {y : MethodName} {b : ByteArray} {n idx ka : Nat} {rt : Option FieldType} {rm1 : Room} {As : List Value} {W0 : va_W} {r : Int32} (d : decode cc pc = .ok (.invokestatic idx, 3)) (Cc : ∀ l, Ct l y b n rt rm1 D As W0 (QI1 D r W0)) (ok : CNok own idx y b n rt ka) (hn : As.length = ka) (hst : As.reverse ++ rest = st) (hrm : okR rm1 n rm = true) (hcr : (rest.map fun v => v.category).sum ≤ 8) (isC : List Nat) (hnd : va_nd isC = true) (hC : isC.map (fun i => wd[i]?) = W0.map some) (hcs : kc + rm1.cells ≤ rm.cells ∧ ks + rm1.slots ≤ rm.slots) (k : V Z D (kc + rm1.cells) (ks + rm1.slots) wd lv (.int r :: rest) (pc + 3)) : V Z D kc ks wd lv st pc := by
  obtain ⟨p, l, e, R, s, m, args, below, meth, c, A, nL, Q⟩ := Z
  obtain ⟨hx, hb, hml, rfl, rfl, hown, hts, hK, hA, hN, hlocks⟩ := E
  subst hst
  intro H locs ls hP hD hS hl
  have hFc := va_free (wc := W0) hD hS hA isC hC
  have hPc := hP.subm isC hC
  have hDc := hD.sub isC hnd hC
  refine va_calli (va_runSN (As := As) (rest := rest) (g := F0 m pc ls (As.reverse ++ rest)) ⟨hx, hb, hml, hown, hts⟩ (Cc l H.size) ⟨va_cnB ka hts (lwg_inT ok.2.2.2.1) rfl rfl rfl (hN.1 _ ok.1) (hts _ ok.2.2.1) ok.2.2.2.2 (okR_use hrm), hts _ ok.2.1, trivial⟩ ⟨pw_blind, fun U hU hW => ⟨rfl, by rw [hU], by rw [hU]; exact hPc, va_K.moved hW.alike hK, hDc.weaken (fun _ _ _ _ => trivial), hN.warm hW⟩⟩ rfl hn hl.1 rfl (lv_room hcr) d hcs) hS (fun q _ h => hFc q h) hFc (fun r0 u t H1 locs1 ht hvm hw hB hz1 hk1 hS => ?_)
  obtain rfl : r0 = r := hw
  obtain ⟨hP1, -⟩ := hB
  rw [ht] at hP1
  exact k H1 locs1 ls (va_ro hP hD isC hC hk1 hP1) hD hS hl
theorem v_cN_iU (E : EF Z D cc own rm n0) {y : MethodName} {b : ByteArray} {n idx ka : Nat} {rt : Option FieldType} {rm1 : Room} {As : List Value} {W0 : va_W} {r : Int32} {W1 : va_W} (d : decode cc pc = .ok (.invokestatic idx, 3)) (Cc : ∀ l, Ct l y b n rt rm1 D As W0 (QI1 D r W1)) (ok : CNok own idx y b n rt ka) (hn : As.length = ka) (hst : As.reverse ++ rest = st) (hrm : okR rm1 n rm = true) (hcr : (rest.map fun v => v.category).sum ≤ 8) (isC : List Nat) (hnd : va_nd isC = true) (hC : isC.map (fun i => wd[i]?) = W0.map some) (hcs : kc + rm1.cells ≤ rm.cells ∧ ks + rm1.slots ≤ rm.slots) (La : List Nat) (hf1 : W1.map Prod.fst = La) (hf0 : W0.map Prod.fst = La) (k : V Z D (kc + rm1.cells) (ks + rm1.slots) (upW wd isC W1) lv (.int r :: rest) (pc + 3)) : V Z D kc ks wd lv st pc := by
  obtain ⟨p, l, e, R, s, m, args, below, meth, c, A, nL, Q⟩ := Z
  obtain ⟨hx, hb, hml, rfl, rfl, hown, hts, hK, hA, hN, hlocks⟩ := E
  subst hst
  intro H locs ls hP hD hS hl
  have hFc := va_free (wc := W0) hD hS hA isC hC
  have hPc := hP.subm isC hC
  have hDc := hD.sub isC hnd hC
  refine va_calli (va_runSN (As := As) (rest := rest) (g := F0 m pc ls (As.reverse ++ rest)) ⟨hx, hb, hml, hown, hts⟩ (Cc l H.size) ⟨va_cnB ka hts (lwg_inT ok.2.2.2.1) rfl rfl rfl (hN.1 _ ok.1) (hts _ ok.2.2.1) ok.2.2.2.2 (okR_use hrm), hts _ ok.2.1, trivial⟩ ⟨pw_blind, fun U hU hW => ⟨rfl, by rw [hU], by rw [hU]; exact hPc, va_K.moved hW.alike hK, hDc.weaken (fun _ _ _ _ => trivial), hN.warm hW⟩⟩ rfl hn hl.1 rfl (lv_room hcr) d hcs) hS (fun q _ h => hFc q h) hFc (fun r0 u t H1 locs1 ht hvm hw hB hz1 hk1 hS => ?_)
  obtain rfl : r0 = r := hw
  obtain ⟨hP1, -⟩ := hB
  rw [ht] at hP1
  obtain ⟨h1, h2⟩ := va_upP hP hD isC hC (hf1.trans hf0.symm) hk1 hP1
  exact k H1 locs1 ls h1 h2 hS hl
theorem v_cN_l (E : EF Z D cc own rm n0) {y : MethodName} {b : ByteArray} {n idx ka : Nat} {rt : Option FieldType} {rm1 : Room} {As : List Value} {W0 : va_W} {r : Int64} (d : decode cc pc = .ok (.invokestatic idx, 3)) (Cc : ∀ l, Ct l y b n rt rm1 D As W0 (QL1 D r W0)) (ok : CNok own idx y b n rt ka) (hn : As.length = ka) (hst : As.reverse ++ rest = st) (hrm : okR rm1 n rm = true) (hcr : (rest.map fun v => v.category).sum ≤ 8) (isC : List Nat) (hnd : va_nd isC = true) (hC : isC.map (fun i => wd[i]?) = W0.map some) (hcs : kc + rm1.cells ≤ rm.cells ∧ ks + rm1.slots ≤ rm.slots) (k : V Z D (kc + rm1.cells) (ks + rm1.slots) wd lv (.long r :: rest) (pc + 3)) : V Z D kc ks wd lv st pc := by
  obtain ⟨p, l, e, R, s, m, args, below, meth, c, A, nL, Q⟩ := Z
  obtain ⟨hx, hb, hml, rfl, rfl, hown, hts, hK, hA, hN, hlocks⟩ := E
  subst hst
  intro H locs ls hP hD hS hl
  have hFc := va_free (wc := W0) hD hS hA isC hC
  have hPc := hP.subm isC hC
  have hDc := hD.sub isC hnd hC
  refine va_calll (va_runSN (As := As) (rest := rest) (g := F0 m pc ls (As.reverse ++ rest)) ⟨hx, hb, hml, hown, hts⟩ (Cc l H.size) ⟨va_cnB ka hts (lwg_inT ok.2.2.2.1) rfl rfl rfl (hN.1 _ ok.1) (hts _ ok.2.2.1) ok.2.2.2.2 (okR_use hrm), hts _ ok.2.1, trivial⟩ ⟨pw_blind, fun U hU hW => ⟨rfl, by rw [hU], by rw [hU]; exact hPc, va_K.moved hW.alike hK, hDc.weaken (fun _ _ _ _ => trivial), hN.warm hW⟩⟩ rfl hn hl.1 rfl (lv_room hcr) d hcs) hS (fun q _ h => hFc q h) hFc (fun r0 u t H1 locs1 ht hvm hw hB hz1 hk1 hS => ?_)
  obtain rfl : r0 = r := hw
  obtain ⟨hP1, -⟩ := hB
  rw [ht] at hP1
  exact k H1 locs1 ls (va_ro hP hD isC hC hk1 hP1) hD hS hl
theorem v_cN_lU (E : EF Z D cc own rm n0) {y : MethodName} {b : ByteArray} {n idx ka : Nat} {rt : Option FieldType} {rm1 : Room} {As : List Value} {W0 : va_W} {r : Int64} {W1 : va_W} (d : decode cc pc = .ok (.invokestatic idx, 3)) (Cc : ∀ l, Ct l y b n rt rm1 D As W0 (QL1 D r W1)) (ok : CNok own idx y b n rt ka) (hn : As.length = ka) (hst : As.reverse ++ rest = st) (hrm : okR rm1 n rm = true) (hcr : (rest.map fun v => v.category).sum ≤ 8) (isC : List Nat) (hnd : va_nd isC = true) (hC : isC.map (fun i => wd[i]?) = W0.map some) (hcs : kc + rm1.cells ≤ rm.cells ∧ ks + rm1.slots ≤ rm.slots) (La : List Nat) (hf1 : W1.map Prod.fst = La) (hf0 : W0.map Prod.fst = La) (k : V Z D (kc + rm1.cells) (ks + rm1.slots) (upW wd isC W1) lv (.long r :: rest) (pc + 3)) : V Z D kc ks wd lv st pc := by
  obtain ⟨p, l, e, R, s, m, args, below, meth, c, A, nL, Q⟩ := Z
  obtain ⟨hx, hb, hml, rfl, rfl, hown, hts, hK, hA, hN, hlocks⟩ := E
  subst hst
  intro H locs ls hP hD hS hl
  have hFc := va_free (wc := W0) hD hS hA isC hC
  have hPc := hP.subm isC hC
  have hDc := hD.sub isC hnd hC
  refine va_calll (va_runSN (As := As) (rest := rest) (g := F0 m pc ls (As.reverse ++ rest)) ⟨hx, hb, hml, hown, hts⟩ (Cc l H.size) ⟨va_cnB ka hts (lwg_inT ok.2.2.2.1) rfl rfl rfl (hN.1 _ ok.1) (hts _ ok.2.2.1) ok.2.2.2.2 (okR_use hrm), hts _ ok.2.1, trivial⟩ ⟨pw_blind, fun U hU hW => ⟨rfl, by rw [hU], by rw [hU]; exact hPc, va_K.moved hW.alike hK, hDc.weaken (fun _ _ _ _ => trivial), hN.warm hW⟩⟩ rfl hn hl.1 rfl (lv_room hcr) d hcs) hS (fun q _ h => hFc q h) hFc (fun r0 u t H1 locs1 ht hvm hw hB hz1 hk1 hS => ?_)
  obtain rfl : r0 = r := hw
  obtain ⟨hP1, -⟩ := hB
  rw [ht] at hP1
  obtain ⟨h1, h2⟩ := va_upP hP hD isC hC (hf1.trans hf0.symm) hk1 hP1
  exact k H1 locs1 ls h1 h2 hS hl
theorem v_cN_v (E : EF Z D cc own rm n0) {y : MethodName} {b : ByteArray} {n idx ka : Nat} {rt : Option FieldType} {rm1 : Room} {As : List Value} {W0 : va_W} (d : decode cc pc = .ok (.invokestatic idx, 3)) (Cc : ∀ l, Ct l y b n rt rm1 D As W0 (QV1 D W0)) (ok : CNok own idx y b n rt ka) (hn : As.length = ka) (hst : As.reverse ++ rest = st) (hrm : okR rm1 n rm = true) (hcr : (rest.map fun v => v.category).sum ≤ 8) (isC : List Nat) (hnd : va_nd isC = true) (hC : isC.map (fun i => wd[i]?) = W0.map some) (hcs : kc + rm1.cells ≤ rm.cells ∧ ks + rm1.slots ≤ rm.slots) (k : V Z D (kc + rm1.cells) (ks + rm1.slots) wd lv rest (pc + 3)) : V Z D kc ks wd lv st pc := by
  obtain ⟨p, l, e, R, s, m, args, below, meth, c, A, nL, Q⟩ := Z
  obtain ⟨hx, hb, hml, rfl, rfl, hown, hts, hK, hA, hN, hlocks⟩ := E
  subst hst
  intro H locs ls hP hD hS hl
  have hFc := va_free (wc := W0) hD hS hA isC hC
  have hPc := hP.subm isC hC
  have hDc := hD.sub isC hnd hC
  refine va_callv (va_runSN (As := As) (rest := rest) (g := F0 m pc ls (As.reverse ++ rest)) ⟨hx, hb, hml, hown, hts⟩ (Cc l H.size) ⟨va_cnB ka hts (lwg_inT ok.2.2.2.1) rfl rfl rfl (hN.1 _ ok.1) (hts _ ok.2.2.1) ok.2.2.2.2 (okR_use hrm), hts _ ok.2.1, trivial⟩ ⟨pw_blind, fun U hU hW => ⟨rfl, by rw [hU], by rw [hU]; exact hPc, va_K.moved hW.alike hK, hDc.weaken (fun _ _ _ _ => trivial), hN.warm hW⟩⟩ rfl hn hl.1 rfl (lv_room hcr) d hcs) hS (fun q _ h => hFc q h) hFc (fun u t H1 locs1 ht hvm hw hB hz1 hk1 hS => ?_)
  obtain ⟨hP1, -⟩ := hB
  rw [ht] at hP1
  exact k H1 locs1 ls (va_ro hP hD isC hC hk1 hP1) hD hS hl
theorem v_cN_vU (E : EF Z D cc own rm n0) {y : MethodName} {b : ByteArray} {n idx ka : Nat} {rt : Option FieldType} {rm1 : Room} {As : List Value} {W0 : va_W} {W1 : va_W} (d : decode cc pc = .ok (.invokestatic idx, 3)) (Cc : ∀ l, Ct l y b n rt rm1 D As W0 (QV1 D W1)) (ok : CNok own idx y b n rt ka) (hn : As.length = ka) (hst : As.reverse ++ rest = st) (hrm : okR rm1 n rm = true) (hcr : (rest.map fun v => v.category).sum ≤ 8) (isC : List Nat) (hnd : va_nd isC = true) (hC : isC.map (fun i => wd[i]?) = W0.map some) (hcs : kc + rm1.cells ≤ rm.cells ∧ ks + rm1.slots ≤ rm.slots) (La : List Nat) (hf1 : W1.map Prod.fst = La) (hf0 : W0.map Prod.fst = La) (k : V Z D (kc + rm1.cells) (ks + rm1.slots) (upW wd isC W1) lv rest (pc + 3)) : V Z D kc ks wd lv st pc := by
  obtain ⟨p, l, e, R, s, m, args, below, meth, c, A, nL, Q⟩ := Z
  obtain ⟨hx, hb, hml, rfl, rfl, hown, hts, hK, hA, hN, hlocks⟩ := E
  subst hst
  intro H locs ls hP hD hS hl
  have hFc := va_free (wc := W0) hD hS hA isC hC
  have hPc := hP.subm isC hC
  have hDc := hD.sub isC hnd hC
  refine va_callv (va_runSN (As := As) (rest := rest) (g := F0 m pc ls (As.reverse ++ rest)) ⟨hx, hb, hml, hown, hts⟩ (Cc l H.size) ⟨va_cnB ka hts (lwg_inT ok.2.2.2.1) rfl rfl rfl (hN.1 _ ok.1) (hts _ ok.2.2.1) ok.2.2.2.2 (okR_use hrm), hts _ ok.2.1, trivial⟩ ⟨pw_blind, fun U hU hW => ⟨rfl, by rw [hU], by rw [hU]; exact hPc, va_K.moved hW.alike hK, hDc.weaken (fun _ _ _ _ => trivial), hN.warm hW⟩⟩ rfl hn hl.1 rfl (lv_room hcr) d hcs) hS (fun q _ h => hFc q h) hFc (fun u t H1 locs1 ht hvm hw hB hz1 hk1 hS => ?_)
  obtain ⟨hP1, -⟩ := hB
  rw [ht] at hP1
  obtain ⟨h1, h2⟩ := va_upP hP hD isC hC (hf1.trans hf0.symm) hk1 hP1
  exact k H1 locs1 ls h1 h2 hS hl
theorem v_cV_i (E : EF Z D cc own rm n0) {y : MethodName} {b : ByteArray} {n idx ka : Nat} {rt : Option FieldType} {rm1 : Room} {As : List Value} {W0 : va_W} {a ci : Nat} {fs : List Value} {C : String} {T : u_T} {N : Nat} {r : Int32} (d : decode cc pc = .ok (.invokevirtual idx, 3)) (Cc : ∀ l, Ct l y b n rt rm1 D (.ref a :: As) W0 (QI1 D r W0)) (ok : CVok own idx C y b n rt ka) (hn : As.length = ka) (hst : As.reverse ++ .ref a :: rest = st) (hrm : okR rm1 n rm = true) (hcr : (rest.map fun v => v.category).sum ≤ 8) (q0 : Nat) (he : wd[q0]? = some (a, .inr (ci, fs))) (hc : clX[ci]? = some (C, T, N)) (isC : List Nat) (hnd : va_nd isC = true) (hC : isC.map (fun i => wd[i]?) = W0.map some) (hcs : kc + rm1.cells ≤ rm.cells ∧ ks + rm1.slots ≤ rm.slots) (k : V Z D (kc + rm1.cells) (ks + rm1.slots) wd lv (.int r :: rest) (pc + 3)) : V Z D kc ks wd lv st pc := by
  obtain ⟨p, l, e, R, s, m, args, below, meth, c, A, nL, Q⟩ := Z
  obtain ⟨hx, hb, hml, rfl, rfl, hown, hts, hK, hA, hN, hlocks⟩ := E
  subst hst
  intro H locs ls hP hD hS hl
  have hFc := va_free (wc := W0) hD hS hA isC hC
  have hPc := hP.subm isC hC
  have hDc := hD.sub isC hnd hC
  refine va_calli (va_runV (As := As) (rest := rest) (g := F0 m pc ls (As.reverse ++ .ref a :: rest)) ⟨hx, hb, hml, hown, hts⟩ (Cc l H.size) ⟨callB_of ka hts (lwg_inT ok.2.2.2.1) rfl rfl rfl (hts _ ok.2.2.1) (hts _ ok.1) ok.2.2.2.2 (okR_use hrm), hts _ ok.2.1.1, hts _ ok.2.1.2⟩ ⟨pw_blind, va_recv hK hP hc he, fun U hU hW => ⟨rfl, by rw [hU], by rw [hU]; exact hPc, va_K.moved hW.alike hK, hDc.weaken (fun _ _ _ _ => trivial), hN.warm hW⟩⟩ rfl hn hl.1 rfl (lv_room hcr) d hcs) hS (fun q _ h => hFc q h) hFc (fun r0 u t H1 locs1 ht hvm hw hB hz1 hk1 hS => ?_)
  obtain rfl : r0 = r := hw
  obtain ⟨hP1, -⟩ := hB
  rw [ht] at hP1
  exact k H1 locs1 ls (va_ro hP hD isC hC hk1 hP1) hD hS hl
theorem v_cV_iU (E : EF Z D cc own rm n0) {y : MethodName} {b : ByteArray} {n idx ka : Nat} {rt : Option FieldType} {rm1 : Room} {As : List Value} {W0 : va_W} {a ci : Nat} {fs : List Value} {C : String} {T : u_T} {N : Nat} {r : Int32} {W1 : va_W} (d : decode cc pc = .ok (.invokevirtual idx, 3)) (Cc : ∀ l, Ct l y b n rt rm1 D (.ref a :: As) W0 (QI1 D r W1)) (ok : CVok own idx C y b n rt ka) (hn : As.length = ka) (hst : As.reverse ++ .ref a :: rest = st) (hrm : okR rm1 n rm = true) (hcr : (rest.map fun v => v.category).sum ≤ 8) (q0 : Nat) (he : wd[q0]? = some (a, .inr (ci, fs))) (hc : clX[ci]? = some (C, T, N)) (isC : List Nat) (hnd : va_nd isC = true) (hC : isC.map (fun i => wd[i]?) = W0.map some) (hcs : kc + rm1.cells ≤ rm.cells ∧ ks + rm1.slots ≤ rm.slots) (La : List Nat) (hf1 : W1.map Prod.fst = La) (hf0 : W0.map Prod.fst = La) (k : V Z D (kc + rm1.cells) (ks + rm1.slots) (upW wd isC W1) lv (.int r :: rest) (pc + 3)) : V Z D kc ks wd lv st pc := by
  obtain ⟨p, l, e, R, s, m, args, below, meth, c, A, nL, Q⟩ := Z
  obtain ⟨hx, hb, hml, rfl, rfl, hown, hts, hK, hA, hN, hlocks⟩ := E
  subst hst
  intro H locs ls hP hD hS hl
  have hFc := va_free (wc := W0) hD hS hA isC hC
  have hPc := hP.subm isC hC
  have hDc := hD.sub isC hnd hC
  refine va_calli (va_runV (As := As) (rest := rest) (g := F0 m pc ls (As.reverse ++ .ref a :: rest)) ⟨hx, hb, hml, hown, hts⟩ (Cc l H.size) ⟨callB_of ka hts (lwg_inT ok.2.2.2.1) rfl rfl rfl (hts _ ok.2.2.1) (hts _ ok.1) ok.2.2.2.2 (okR_use hrm), hts _ ok.2.1.1, hts _ ok.2.1.2⟩ ⟨pw_blind, va_recv hK hP hc he, fun U hU hW => ⟨rfl, by rw [hU], by rw [hU]; exact hPc, va_K.moved hW.alike hK, hDc.weaken (fun _ _ _ _ => trivial), hN.warm hW⟩⟩ rfl hn hl.1 rfl (lv_room hcr) d hcs) hS (fun q _ h => hFc q h) hFc (fun r0 u t H1 locs1 ht hvm hw hB hz1 hk1 hS => ?_)
  obtain rfl : r0 = r := hw
  obtain ⟨hP1, -⟩ := hB
  rw [ht] at hP1
  obtain ⟨h1, h2⟩ := va_upP hP hD isC hC (hf1.trans hf0.symm) hk1 hP1
  exact k H1 locs1 ls h1 h2 hS hl
theorem v_cV_l (E : EF Z D cc own rm n0) {y : MethodName} {b : ByteArray} {n idx ka : Nat} {rt : Option FieldType} {rm1 : Room} {As : List Value} {W0 : va_W} {a ci : Nat} {fs : List Value} {C : String} {T : u_T} {N : Nat} {r : Int64} (d : decode cc pc = .ok (.invokevirtual idx, 3)) (Cc : ∀ l, Ct l y b n rt rm1 D (.ref a :: As) W0 (QL1 D r W0)) (ok : CVok own idx C y b n rt ka) (hn : As.length = ka) (hst : As.reverse ++ .ref a :: rest = st) (hrm : okR rm1 n rm = true) (hcr : (rest.map fun v => v.category).sum ≤ 8) (q0 : Nat) (he : wd[q0]? = some (a, .inr (ci, fs))) (hc : clX[ci]? = some (C, T, N)) (isC : List Nat) (hnd : va_nd isC = true) (hC : isC.map (fun i => wd[i]?) = W0.map some) (hcs : kc + rm1.cells ≤ rm.cells ∧ ks + rm1.slots ≤ rm.slots) (k : V Z D (kc + rm1.cells) (ks + rm1.slots) wd lv (.long r :: rest) (pc + 3)) : V Z D kc ks wd lv st pc := by
  obtain ⟨p, l, e, R, s, m, args, below, meth, c, A, nL, Q⟩ := Z
  obtain ⟨hx, hb, hml, rfl, rfl, hown, hts, hK, hA, hN, hlocks⟩ := E
  subst hst
  intro H locs ls hP hD hS hl
  have hFc := va_free (wc := W0) hD hS hA isC hC
  have hPc := hP.subm isC hC
  have hDc := hD.sub isC hnd hC
  refine va_calll (va_runV (As := As) (rest := rest) (g := F0 m pc ls (As.reverse ++ .ref a :: rest)) ⟨hx, hb, hml, hown, hts⟩ (Cc l H.size) ⟨callB_of ka hts (lwg_inT ok.2.2.2.1) rfl rfl rfl (hts _ ok.2.2.1) (hts _ ok.1) ok.2.2.2.2 (okR_use hrm), hts _ ok.2.1.1, hts _ ok.2.1.2⟩ ⟨pw_blind, va_recv hK hP hc he, fun U hU hW => ⟨rfl, by rw [hU], by rw [hU]; exact hPc, va_K.moved hW.alike hK, hDc.weaken (fun _ _ _ _ => trivial), hN.warm hW⟩⟩ rfl hn hl.1 rfl (lv_room hcr) d hcs) hS (fun q _ h => hFc q h) hFc (fun r0 u t H1 locs1 ht hvm hw hB hz1 hk1 hS => ?_)
  obtain rfl : r0 = r := hw
  obtain ⟨hP1, -⟩ := hB
  rw [ht] at hP1
  exact k H1 locs1 ls (va_ro hP hD isC hC hk1 hP1) hD hS hl
theorem v_cV_lU (E : EF Z D cc own rm n0) {y : MethodName} {b : ByteArray} {n idx ka : Nat} {rt : Option FieldType} {rm1 : Room} {As : List Value} {W0 : va_W} {a ci : Nat} {fs : List Value} {C : String} {T : u_T} {N : Nat} {r : Int64} {W1 : va_W} (d : decode cc pc = .ok (.invokevirtual idx, 3)) (Cc : ∀ l, Ct l y b n rt rm1 D (.ref a :: As) W0 (QL1 D r W1)) (ok : CVok own idx C y b n rt ka) (hn : As.length = ka) (hst : As.reverse ++ .ref a :: rest = st) (hrm : okR rm1 n rm = true) (hcr : (rest.map fun v => v.category).sum ≤ 8) (q0 : Nat) (he : wd[q0]? = some (a, .inr (ci, fs))) (hc : clX[ci]? = some (C, T, N)) (isC : List Nat) (hnd : va_nd isC = true) (hC : isC.map (fun i => wd[i]?) = W0.map some) (hcs : kc + rm1.cells ≤ rm.cells ∧ ks + rm1.slots ≤ rm.slots) (La : List Nat) (hf1 : W1.map Prod.fst = La) (hf0 : W0.map Prod.fst = La) (k : V Z D (kc + rm1.cells) (ks + rm1.slots) (upW wd isC W1) lv (.long r :: rest) (pc + 3)) : V Z D kc ks wd lv st pc := by
  obtain ⟨p, l, e, R, s, m, args, below, meth, c, A, nL, Q⟩ := Z
  obtain ⟨hx, hb, hml, rfl, rfl, hown, hts, hK, hA, hN, hlocks⟩ := E
  subst hst
  intro H locs ls hP hD hS hl
  have hFc := va_free (wc := W0) hD hS hA isC hC
  have hPc := hP.subm isC hC
  have hDc := hD.sub isC hnd hC
  refine va_calll (va_runV (As := As) (rest := rest) (g := F0 m pc ls (As.reverse ++ .ref a :: rest)) ⟨hx, hb, hml, hown, hts⟩ (Cc l H.size) ⟨callB_of ka hts (lwg_inT ok.2.2.2.1) rfl rfl rfl (hts _ ok.2.2.1) (hts _ ok.1) ok.2.2.2.2 (okR_use hrm), hts _ ok.2.1.1, hts _ ok.2.1.2⟩ ⟨pw_blind, va_recv hK hP hc he, fun U hU hW => ⟨rfl, by rw [hU], by rw [hU]; exact hPc, va_K.moved hW.alike hK, hDc.weaken (fun _ _ _ _ => trivial), hN.warm hW⟩⟩ rfl hn hl.1 rfl (lv_room hcr) d hcs) hS (fun q _ h => hFc q h) hFc (fun r0 u t H1 locs1 ht hvm hw hB hz1 hk1 hS => ?_)
  obtain rfl : r0 = r := hw
  obtain ⟨hP1, -⟩ := hB
  rw [ht] at hP1
  obtain ⟨h1, h2⟩ := va_upP hP hD isC hC (hf1.trans hf0.symm) hk1 hP1
  exact k H1 locs1 ls h1 h2 hS hl
theorem v_cV_v (E : EF Z D cc own rm n0) {y : MethodName} {b : ByteArray} {n idx ka : Nat} {rt : Option FieldType} {rm1 : Room} {As : List Value} {W0 : va_W} {a ci : Nat} {fs : List Value} {C : String} {T : u_T} {N : Nat} (d : decode cc pc = .ok (.invokevirtual idx, 3)) (Cc : ∀ l, Ct l y b n rt rm1 D (.ref a :: As) W0 (QV1 D W0)) (ok : CVok own idx C y b n rt ka) (hn : As.length = ka) (hst : As.reverse ++ .ref a :: rest = st) (hrm : okR rm1 n rm = true) (hcr : (rest.map fun v => v.category).sum ≤ 8) (q0 : Nat) (he : wd[q0]? = some (a, .inr (ci, fs))) (hc : clX[ci]? = some (C, T, N)) (isC : List Nat) (hnd : va_nd isC = true) (hC : isC.map (fun i => wd[i]?) = W0.map some) (hcs : kc + rm1.cells ≤ rm.cells ∧ ks + rm1.slots ≤ rm.slots) (k : V Z D (kc + rm1.cells) (ks + rm1.slots) wd lv rest (pc + 3)) : V Z D kc ks wd lv st pc := by
  obtain ⟨p, l, e, R, s, m, args, below, meth, c, A, nL, Q⟩ := Z
  obtain ⟨hx, hb, hml, rfl, rfl, hown, hts, hK, hA, hN, hlocks⟩ := E
  subst hst
  intro H locs ls hP hD hS hl
  have hFc := va_free (wc := W0) hD hS hA isC hC
  have hPc := hP.subm isC hC
  have hDc := hD.sub isC hnd hC
  refine va_callv (va_runV (As := As) (rest := rest) (g := F0 m pc ls (As.reverse ++ .ref a :: rest)) ⟨hx, hb, hml, hown, hts⟩ (Cc l H.size) ⟨callB_of ka hts (lwg_inT ok.2.2.2.1) rfl rfl rfl (hts _ ok.2.2.1) (hts _ ok.1) ok.2.2.2.2 (okR_use hrm), hts _ ok.2.1.1, hts _ ok.2.1.2⟩ ⟨pw_blind, va_recv hK hP hc he, fun U hU hW => ⟨rfl, by rw [hU], by rw [hU]; exact hPc, va_K.moved hW.alike hK, hDc.weaken (fun _ _ _ _ => trivial), hN.warm hW⟩⟩ rfl hn hl.1 rfl (lv_room hcr) d hcs) hS (fun q _ h => hFc q h) hFc (fun u t H1 locs1 ht hvm hw hB hz1 hk1 hS => ?_)
  obtain ⟨hP1, -⟩ := hB
  rw [ht] at hP1
  exact k H1 locs1 ls (va_ro hP hD isC hC hk1 hP1) hD hS hl
theorem v_cV_vU (E : EF Z D cc own rm n0) {y : MethodName} {b : ByteArray} {n idx ka : Nat} {rt : Option FieldType} {rm1 : Room} {As : List Value} {W0 : va_W} {a ci : Nat} {fs : List Value} {C : String} {T : u_T} {N : Nat} {W1 : va_W} (d : decode cc pc = .ok (.invokevirtual idx, 3)) (Cc : ∀ l, Ct l y b n rt rm1 D (.ref a :: As) W0 (QV1 D W1)) (ok : CVok own idx C y b n rt ka) (hn : As.length = ka) (hst : As.reverse ++ .ref a :: rest = st) (hrm : okR rm1 n rm = true) (hcr : (rest.map fun v => v.category).sum ≤ 8) (q0 : Nat) (he : wd[q0]? = some (a, .inr (ci, fs))) (hc : clX[ci]? = some (C, T, N)) (isC : List Nat) (hnd : va_nd isC = true) (hC : isC.map (fun i => wd[i]?) = W0.map some) (hcs : kc + rm1.cells ≤ rm.cells ∧ ks + rm1.slots ≤ rm.slots) (La : List Nat) (hf1 : W1.map Prod.fst = La) (hf0 : W0.map Prod.fst = La) (k : V Z D (kc + rm1.cells) (ks + rm1.slots) (upW wd isC W1) lv rest (pc + 3)) : V Z D kc ks wd lv st pc := by
  obtain ⟨p, l, e, R, s, m, args, below, meth, c, A, nL, Q⟩ := Z
  obtain ⟨hx, hb, hml, rfl, rfl, hown, hts, hK, hA, hN, hlocks⟩ := E
  subst hst
  intro H locs ls hP hD hS hl
  have hFc := va_free (wc := W0) hD hS hA isC hC
  have hPc := hP.subm isC hC
  have hDc := hD.sub isC hnd hC
  refine va_callv (va_runV (As := As) (rest := rest) (g := F0 m pc ls (As.reverse ++ .ref a :: rest)) ⟨hx, hb, hml, hown, hts⟩ (Cc l H.size) ⟨callB_of ka hts (lwg_inT ok.2.2.2.1) rfl rfl rfl (hts _ ok.2.2.1) (hts _ ok.1) ok.2.2.2.2 (okR_use hrm), hts _ ok.2.1.1, hts _ ok.2.1.2⟩ ⟨pw_blind, va_recv hK hP hc he, fun U hU hW => ⟨rfl, by rw [hU], by rw [hU]; exact hPc, va_K.moved hW.alike hK, hDc.weaken (fun _ _ _ _ => trivial), hN.warm hW⟩⟩ rfl hn hl.1 rfl (lv_room hcr) d hcs) hS (fun q _ h => hFc q h) hFc (fun u t H1 locs1 ht hvm hw hB hz1 hk1 hS => ?_)
  obtain ⟨hP1, -⟩ := hB
  rw [ht] at hP1
  obtain ⟨h1, h2⟩ := va_upP hP hD isC hC (hf1.trans hf0.symm) hk1 hP1
  exact k H1 locs1 ls h1 h2 hS hl
theorem v_cI_v (E : EF Z D cc own rm n0) {y : MethodName} {b : ByteArray} {n idx ka : Nat} {rm1 : Room} {As : List Value} {W0 : va_W} {a : Nat} (d : decode cc pc = .ok (.invokespecial idx, 3)) (Cc : ∀ l, Ct l y b n none rm1 D (.ref a :: As) W0 (QV1 D W0)) (ok : CIok own idx y b n ka) (hn : As.length = ka) (hst : As.reverse ++ .ref a :: rest = st) (hrm : okR rm1 n rm = true) (hcr : (rest.map fun v => v.category).sum ≤ 8) (isC : List Nat) (hnd : va_nd isC = true) (hC : isC.map (fun i => wd[i]?) = W0.map some) (hcs : kc + rm1.cells ≤ rm.cells ∧ ks + rm1.slots ≤ rm.slots) (k : V Z D (kc + rm1.cells) (ks + rm1.slots) wd lv rest (pc + 3)) : V Z D kc ks wd lv st pc := by
  obtain ⟨p, l, e, R, s, m, args, below, meth, c, A, nL, Q⟩ := Z
  obtain ⟨hx, hb, hml, rfl, rfl, hown, hts, hK, hA, hN, hlocks⟩ := E
  subst hst
  intro H locs ls hP hD hS hl
  have hFc := va_free (wc := W0) hD hS hA isC hC
  have hPc := hP.subm isC hC
  have hDc := hD.sub isC hnd hC
  refine va_callv (va_runI (As := As) (rest := rest) (g := F0 m pc ls (As.reverse ++ .ref a :: rest)) ⟨hx, hb, hml, hown, hts⟩ (Cc l H.size) ⟨callB_of ka hts (lwg_inT ok.2.2.2.1) rfl rfl rfl (hts _ ok.2.2.1) (hts _ ok.1) ok.2.2.2.2 (okR_use hrm), ok.2.1.1, hts _ ok.2.1.2⟩ ⟨pw_blind, fun U hU hW => ⟨rfl, by rw [hU], by rw [hU]; exact hPc, va_K.moved hW.alike hK, hDc.weaken (fun _ _ _ _ => trivial), hN.warm hW⟩⟩ rfl hn hl.1 rfl (lv_room hcr) d hcs) hS (fun q _ h => hFc q h) hFc (fun u t H1 locs1 ht hvm hw hB hz1 hk1 hS => ?_)
  obtain ⟨hP1, -⟩ := hB
  rw [ht] at hP1
  exact k H1 locs1 ls (va_ro hP hD isC hC hk1 hP1) hD hS hl
theorem v_cI_vU (E : EF Z D cc own rm n0) {y : MethodName} {b : ByteArray} {n idx ka : Nat} {rm1 : Room} {As : List Value} {W0 : va_W} {a : Nat} {W1 : va_W} (d : decode cc pc = .ok (.invokespecial idx, 3)) (Cc : ∀ l, Ct l y b n none rm1 D (.ref a :: As) W0 (QV1 D W1)) (ok : CIok own idx y b n ka) (hn : As.length = ka) (hst : As.reverse ++ .ref a :: rest = st) (hrm : okR rm1 n rm = true) (hcr : (rest.map fun v => v.category).sum ≤ 8) (isC : List Nat) (hnd : va_nd isC = true) (hC : isC.map (fun i => wd[i]?) = W0.map some) (hcs : kc + rm1.cells ≤ rm.cells ∧ ks + rm1.slots ≤ rm.slots) (La : List Nat) (hf1 : W1.map Prod.fst = La) (hf0 : W0.map Prod.fst = La) (k : V Z D (kc + rm1.cells) (ks + rm1.slots) (upW wd isC W1) lv rest (pc + 3)) : V Z D kc ks wd lv st pc := by
  obtain ⟨p, l, e, R, s, m, args, below, meth, c, A, nL, Q⟩ := Z
  obtain ⟨hx, hb, hml, rfl, rfl, hown, hts, hK, hA, hN, hlocks⟩ := E
  subst hst
  intro H locs ls hP hD hS hl
  have hFc := va_free (wc := W0) hD hS hA isC hC
  have hPc := hP.subm isC hC
  have hDc := hD.sub isC hnd hC
  refine va_callv (va_runI (As := As) (rest := rest) (g := F0 m pc ls (As.reverse ++ .ref a :: rest)) ⟨hx, hb, hml, hown, hts⟩ (Cc l H.size) ⟨callB_of ka hts (lwg_inT ok.2.2.2.1) rfl rfl rfl (hts _ ok.2.2.1) (hts _ ok.1) ok.2.2.2.2 (okR_use hrm), ok.2.1.1, hts _ ok.2.1.2⟩ ⟨pw_blind, fun U hU hW => ⟨rfl, by rw [hU], by rw [hU]; exact hPc, va_K.moved hW.alike hK, hDc.weaken (fun _ _ _ _ => trivial), hN.warm hW⟩⟩ rfl hn hl.1 rfl (lv_room hcr) d hcs) hS (fun q _ h => hFc q h) hFc (fun u t H1 locs1 ht hvm hw hB hz1 hk1 hS => ?_)
  obtain ⟨hP1, -⟩ := hB
  rw [ht] at hP1
  obtain ⟨h1, h2⟩ := va_upP hP hD isC hC (hf1.trans hf0.symm) hk1 hP1
  exact k H1 locs1 ls h1 h2 hS hl
theorem v_cI_vG (E : EF Z D cc own rm n0) {y : MethodName} {b : ByteArray} {n idx ka : Nat} {rm1 : Room} {As : List Value} {W0 : va_W} {a : Nat} {S : Type} {post : S → Prop} {W1 : S → va_W} {wr : va_W} (d : decode cc pc = .ok (.invokespecial idx, 3)) (Cc : ∀ l, Ct l y b n none rm1 D (.ref a :: As) W0 (QV D post W1)) (ok : CIok own idx y b n ka) (hn : As.length = ka) (hst : As.reverse ++ .ref a :: rest = st) (hrm : okR rm1 n rm = true) (hcr : (rest.map fun v => v.category).sum ≤ 8) (isC : List Nat) (hnd : va_nd isC = true) (hC : isC.map (fun i => wd[i]?) = W0.map some) (hcs : kc + rm1.cells ≤ rm.cells ∧ ks + rm1.slots ≤ rm.slots) (isR : List Nat) (hR : isR.map (fun i => wd[i]?) = wr.map some) (hnR : va_nd isR = true) (hdis : ∀ i ∈ isR, i ∉ isC) (k : ∀ u, post u → V Z D (kc + rm1.cells) (ks + rm1.slots) (wr ++ W1 u) lv rest (pc + 3)) : V Z D kc ks wd lv st pc := by
  obtain ⟨p, l, e, R, s, m, args, below, meth, c, A, nL, Q⟩ := Z
  obtain ⟨hx, hb, hml, rfl, rfl, hown, hts, hK, hA, hN, hlocks⟩ := E
  subst hst
  intro H locs ls hP hD hS hl
  have hFc := va_free (wc := W0) hD hS hA isC hC
  have hPc := hP.subm isC hC
  have hDc := hD.sub isC hnd hC
  refine va_callv (va_runI (As := As) (rest := rest) (g := F0 m pc ls (As.reverse ++ .ref a :: rest)) ⟨hx, hb, hml, hown, hts⟩ (Cc l H.size) ⟨callB_of ka hts (lwg_inT ok.2.2.2.1) rfl rfl rfl (hts _ ok.2.2.1) (hts _ ok.1) ok.2.2.2.2 (okR_use hrm), ok.2.1.1, hts _ ok.2.1.2⟩ ⟨pw_blind, fun U hU hW => ⟨rfl, by rw [hU], by rw [hU]; exact hPc, va_K.moved hW.alike hK, hDc.weaken (fun _ _ _ _ => trivial), hN.warm hW⟩⟩ rfl hn hl.1 rfl (lv_room hcr) d hcs) hS (fun q _ h => hFc q h) hFc (fun u t H1 locs1 ht hvm hw hB hz1 hk1 hS => ?_)
  obtain ⟨hP1, hD1⟩ := hB
  rw [ht] at hP1
  obtain ⟨h1, h2⟩ := va_join (wr := wr) hP hD isC isR hC hR hnR hdis hk1 hFc hP1 hD1
  exact k u hw H1 locs1 ls h1 h2 hS hl
theorem v_cJ_v (E : EF Z D cc own rm n0) {y : MethodName} {b : ByteArray} {n idx ka : Nat} {rm1 : Room} {As : List Value} {W0 : va_W} {a : Nat} (d : decode cc pc = .ok (.invokespecial idx, 3)) (Cc : ∀ l, Ct l y b n none rm1 D (.ref a :: As) W0 (QV1 D W0)) (ok : CJok own idx y b n ka) (hn : As.length = ka) (hst : As.reverse ++ .ref a :: rest = st) (hrm : okR rm1 n rm = true) (hcr : (rest.map fun v => v.category).sum ≤ 8) (isC : List Nat) (hnd : va_nd isC = true) (hC : isC.map (fun i => wd[i]?) = W0.map some) (hcs : kc + rm1.cells ≤ rm.cells ∧ ks + rm1.slots ≤ rm.slots) (k : V Z D (kc + rm1.cells) (ks + rm1.slots) wd lv rest (pc + 3)) : V Z D kc ks wd lv st pc := by
  obtain ⟨p, l, e, R, s, m, args, below, meth, c, A, nL, Q⟩ := Z
  obtain ⟨hx, hb, hml, rfl, rfl, hown, hts, hK, hA, hN, hlocks⟩ := E
  subst hst
  intro H locs ls hP hD hS hl
  have hFc := va_free (wc := W0) hD hS hA isC hC
  have hPc := hP.subm isC hC
  have hDc := hD.sub isC hnd hC
  refine va_callv (va_runIN (As := As) (rest := rest) (g := F0 m pc ls (As.reverse ++ .ref a :: rest)) ⟨hx, hb, hml, hown, hts⟩ (Cc l H.size) ⟨va_cnB ka hts (lwg_inT ok.2.2.2.1) rfl rfl rfl (hN.1 _ ok.1) (hts _ ok.2.2.1) ok.2.2.2.2 (okR_use hrm), ok.2.1.1, hts _ ok.2.1.2⟩ ⟨pw_blind, fun U hU hW => ⟨rfl, by rw [hU], by rw [hU]; exact hPc, va_K.moved hW.alike hK, hDc.weaken (fun _ _ _ _ => trivial), hN.warm hW⟩⟩ rfl hn hl.1 rfl (lv_room hcr) d hcs) hS (fun q _ h => hFc q h) hFc (fun u t H1 locs1 ht hvm hw hB hz1 hk1 hS => ?_)
  obtain ⟨hP1, -⟩ := hB
  rw [ht] at hP1
  exact k H1 locs1 ls (va_ro hP hD isC hC hk1 hP1) hD hS hl
theorem v_cJ_vU (E : EF Z D cc own rm n0) {y : MethodName} {b : ByteArray} {n idx ka : Nat} {rm1 : Room} {As : List Value} {W0 : va_W} {a : Nat} {W1 : va_W} (d : decode cc pc = .ok (.invokespecial idx, 3)) (Cc : ∀ l, Ct l y b n none rm1 D (.ref a :: As) W0 (QV1 D W1)) (ok : CJok own idx y b n ka) (hn : As.length = ka) (hst : As.reverse ++ .ref a :: rest = st) (hrm : okR rm1 n rm = true) (hcr : (rest.map fun v => v.category).sum ≤ 8) (isC : List Nat) (hnd : va_nd isC = true) (hC : isC.map (fun i => wd[i]?) = W0.map some) (hcs : kc + rm1.cells ≤ rm.cells ∧ ks + rm1.slots ≤ rm.slots) (La : List Nat) (hf1 : W1.map Prod.fst = La) (hf0 : W0.map Prod.fst = La) (k : V Z D (kc + rm1.cells) (ks + rm1.slots) (upW wd isC W1) lv rest (pc + 3)) : V Z D kc ks wd lv st pc := by
  obtain ⟨p, l, e, R, s, m, args, below, meth, c, A, nL, Q⟩ := Z
  obtain ⟨hx, hb, hml, rfl, rfl, hown, hts, hK, hA, hN, hlocks⟩ := E
  subst hst
  intro H locs ls hP hD hS hl
  have hFc := va_free (wc := W0) hD hS hA isC hC
  have hPc := hP.subm isC hC
  have hDc := hD.sub isC hnd hC
  refine va_callv (va_runIN (As := As) (rest := rest) (g := F0 m pc ls (As.reverse ++ .ref a :: rest)) ⟨hx, hb, hml, hown, hts⟩ (Cc l H.size) ⟨va_cnB ka hts (lwg_inT ok.2.2.2.1) rfl rfl rfl (hN.1 _ ok.1) (hts _ ok.2.2.1) ok.2.2.2.2 (okR_use hrm), ok.2.1.1, hts _ ok.2.1.2⟩ ⟨pw_blind, fun U hU hW => ⟨rfl, by rw [hU], by rw [hU]; exact hPc, va_K.moved hW.alike hK, hDc.weaken (fun _ _ _ _ => trivial), hN.warm hW⟩⟩ rfl hn hl.1 rfl (lv_room hcr) d hcs) hS (fun q _ h => hFc q h) hFc (fun u t H1 locs1 ht hvm hw hB hz1 hk1 hS => ?_)
  obtain ⟨hP1, -⟩ := hB
  rw [ht] at hP1
  obtain ⟨h1, h2⟩ := va_upP hP hD isC hC (hf1.trans hf0.symm) hk1 hP1
  exact k H1 locs1 ls h1 h2 hS hl
theorem v_cJ_vG (E : EF Z D cc own rm n0) {y : MethodName} {b : ByteArray} {n idx ka : Nat} {rm1 : Room} {As : List Value} {W0 : va_W} {a : Nat} {S : Type} {post : S → Prop} {W1 : S → va_W} {wr : va_W} (d : decode cc pc = .ok (.invokespecial idx, 3)) (Cc : ∀ l, Ct l y b n none rm1 D (.ref a :: As) W0 (QV D post W1)) (ok : CJok own idx y b n ka) (hn : As.length = ka) (hst : As.reverse ++ .ref a :: rest = st) (hrm : okR rm1 n rm = true) (hcr : (rest.map fun v => v.category).sum ≤ 8) (isC : List Nat) (hnd : va_nd isC = true) (hC : isC.map (fun i => wd[i]?) = W0.map some) (hcs : kc + rm1.cells ≤ rm.cells ∧ ks + rm1.slots ≤ rm.slots) (isR : List Nat) (hR : isR.map (fun i => wd[i]?) = wr.map some) (hnR : va_nd isR = true) (hdis : ∀ i ∈ isR, i ∉ isC) (k : ∀ u, post u → V Z D (kc + rm1.cells) (ks + rm1.slots) (wr ++ W1 u) lv rest (pc + 3)) : V Z D kc ks wd lv st pc := by
  obtain ⟨p, l, e, R, s, m, args, below, meth, c, A, nL, Q⟩ := Z
  obtain ⟨hx, hb, hml, rfl, rfl, hown, hts, hK, hA, hN, hlocks⟩ := E
  subst hst
  intro H locs ls hP hD hS hl
  have hFc := va_free (wc := W0) hD hS hA isC hC
  have hPc := hP.subm isC hC
  have hDc := hD.sub isC hnd hC
  refine va_callv (va_runIN (As := As) (rest := rest) (g := F0 m pc ls (As.reverse ++ .ref a :: rest)) ⟨hx, hb, hml, hown, hts⟩ (Cc l H.size) ⟨va_cnB ka hts (lwg_inT ok.2.2.2.1) rfl rfl rfl (hN.1 _ ok.1) (hts _ ok.2.2.1) ok.2.2.2.2 (okR_use hrm), ok.2.1.1, hts _ ok.2.1.2⟩ ⟨pw_blind, fun U hU hW => ⟨rfl, by rw [hU], by rw [hU]; exact hPc, va_K.moved hW.alike hK, hDc.weaken (fun _ _ _ _ => trivial), hN.warm hW⟩⟩ rfl hn hl.1 rfl (lv_room hcr) d hcs) hS (fun q _ h => hFc q h) hFc (fun u t H1 locs1 ht hvm hw hB hz1 hk1 hS => ?_)
  obtain ⟨hP1, hD1⟩ := hB
  rw [ht] at hP1
  obtain ⟨h1, h2⟩ := va_join (wr := wr) hP hD isC isR hC hR hnR hdis hk1 hFc hP1 hD1
  exact k u hw H1 locs1 ls h1 h2 hS hl
end VCALLS
