/-! THE V LAYER: the machine at a pc, with the locals, the stack and the world as lists. Every row turns V at an instruction into V at the next. -/
abbrev clX : List vw_C := [(RX0, TX0, 2), (RX1, TX1, 6), (RX2, TX2, 4), (RX3, TX3, 4), (RX4, TX4, 3), (RX5, TX5, 5), (RX6, TX6, 2), (RX7, TX7, 10)]
abbrev tyD (D : va_G) : List (ClassId × FieldType) := [(D.1 8, .int), (D.1 9, .boolean), (D.1 10, .long), (D.1 11, .array .int), (D.1 12, .object "ChangeImpact$State")]
abbrev aI (D : va_G) (n : Nat) (f : Nat → Int32) : va_E := .inl (D.1 8, n, .inl f)
abbrev aZ (D : va_G) (n : Nat) (f : Nat → Int32) : va_E := .inl (D.1 9, n, .inl f)
abbrev aJ (D : va_G) (n : Nat) (f : Nat → Int64) : va_E := .inl (D.1 10, n, .inr (.inl f))
abbrev aG (D : va_G) (n : Nat) (g : Nat → Option Nat) : va_E := .inl (D.1 11, n, .inr (.inr (.inr (.inr g))))
abbrev aS (D : va_G) (n : Nat) (g : Nat → Option Nat) : va_E := .inl (D.1 12, n, .inr (.inr (.inr (.inr g))))
def lwg : List Cond := lw_tbl.filter goodWord
theorem lwg_of {w : Cond} (h : w ∈ lw_tbl) (g : goodWord w = true) : w ∈ lwg := List.mem_filter.mpr ⟨h, g⟩
theorem lwg_at {w : Cond} (i : Nat) (h : tables_1[i]? = some w) (g : goodWord w = true) : w ∈ lwg := lwg_of (List.mem_append_right _ (List.mem_of_getElem? h)) g
theorem lwg_sel {w : Cond} (i : Nat) (h : (k2_sels lw_privs)[i]? = some w) (g : goodWord w = true) : w ∈ lwg := lwg_of (List.mem_append_left _ (List.mem_of_getElem? h)) g
theorem lwg_good {w : Cond} (h : w ∈ lwg) : (w.onTables && w.keeps) = true ∨ ∃ ty, w = .arrayClass ty := good_of_word (List.mem_filter.mp h).2
theorem lwg_in {c d : Cond} (hc : c ∈ lwg) : GoodIn (d :: lwg) (c :: lwg) := fun w hw => (List.mem_cons.mp hw).elim (fun e => by subst e; exact ⟨List.mem_cons_of_mem _ hc, lwg_good hc⟩) (fun h => ⟨List.mem_cons_of_mem _ h, lwg_good h⟩)
theorem lwg_inT {c : Cond} (hc : c ∈ lwg) : GoodIn lwg (c :: lwg) := fun w hw => (List.mem_cons.mp hw).elim (fun e => by subst e; exact ⟨hc, lwg_good hc⟩) (fun h => ⟨h, lwg_good h⟩)
abbrev wU (y : MethodName) (b : ByteArray) (n : Nat) (r : Option FieldType) : List Cond := Cond.code y b n r :: lwg
def vq_AOA (t : FieldType) (U : State) : Prop := (Cond.arrayOver (.array t)).before #[] U = true
theorem vq_spec {t : FieldType} {U : State} (h : vq_AOA t U) : ∃ (comp c : ClassId) (k : Class), U.vm.findClass (FieldType.array t).toString = some comp ∧ (U.vm.classes.findIdx? fun (x : Class) => match x.kind with | .array component _ => component == comp | _ => false) = some c ∧ U.vm.classes[c]? = some k ∧ k.kind = .array comp (.array t) ∧ U.vm.findClass ("[" ++ (FieldType.array t).toString) = some c := arrayOverA_spec h
theorem vq_AOA.moved {t : FieldType} {u U : State} (hvm : u.vm.Alike U.vm) (h : vq_AOA t u) : vq_AOA t U := over_moved hvm h
def lwn : List (String × Nat × MethodName × String) := [(RX6, 11, yX4_init, "ChangeImpact"), (RX4, 11, yX5_init, "ChangeImpact"), (RX5, 46, yX6_setOf, "ChangeImpact"), (RX5, 36, yX6_inRange, "ChangeImpact"), (RX5, 49, yX6_contains, "ChangeImpact"), (RX1, 44, yX6_inRange, "ChangeImpact"), (RX4, 44, yX6_setOf, "ChangeImpact"), (RX4, 48, yX6_pairsWith, "ChangeImpact"), (RX5, 63, yX6_containsPair, "ChangeImpact"), (RX5, 59, yX6_pairsWith, "ChangeImpact"), (RX4, 56, yX6_targetsWith, "ChangeImpact"), (RX0, 15, yX6_setOfPair, "ChangeImpact"), (RX5, 71, yX6_setOfPair, "ChangeImpact"), (RX0, 25, yX6_smallestPair, "ChangeImpact"), (RX5, 83, yX6_targetsWith, "ChangeImpact"), (RX2, 29, yX6_smallestTarget, "ChangeImpact"), (RX2, 36, yX6_setOf, "ChangeImpact"), (RX2, 50, yX6_contains, "ChangeImpact"), (RX3, 39, yX6_setOf, "ChangeImpact")]
def NK (U : State) : Prop := (∀ q ∈ lwn, va_Nw (.methodLinkNest q.1 q.2.1 q.2.2.1 q.2.2.2) U) ∧ va_AO "ChangeImpact$State" U ∧ vq_AOA .int U
theorem NK.warm {s U : State} (hW : s.WarmedH U.vm) (h : NK s) : NK U := ⟨fun q hq => va_Nw.warmM hW (h.1 q hq), va_AO.moved hW.alike h.2.1, vq_AOA.moved hW.alike h.2.2⟩
theorem NK.calling {U : State} {g : JFrame} {mk : MethodId} {a : Array Value} (h : NK U) : NK (U.calling g mk a) := ⟨fun q hq => va_Nw.same rfl (u := U) rfl (h.1 q hq), va_AO.moved (u := U) (Vm.Alike.refl U.vm) h.2.1, vq_AOA.moved (u := U) (Vm.Alike.refl U.vm) h.2.2⟩
def lvh (ls : Array Slot) (nL : Nat) (lv : List (Option Value)) : Prop := ls.size = nL ∧ lv_wf ls ∧ ∀ (i : Nat) (v : Value), lv[i]? = some (some v) → ls[i]? = some (.val v)
def lve (lv : List (Option Value)) : List (Nat × Value) := lv.zipIdx.filterMap (fun q => q.1.map (fun v => (q.2, v)))
theorem lve_mem {lv : List (Option Value)} {j : Nat} {w : Value} : (j, w) ∈ lve lv ↔ lv[j]? = some (some w) := by
  unfold lve
  rw [List.mem_filterMap]
  constructor
  · rintro ⟨⟨o, i⟩, h1, h2⟩
    rw [List.mem_zipIdx_iff_getElem?] at h1
    cases o with
    | none => simp at h2
    | some v =>
      simp at h2
      obtain ⟨rfl, rfl⟩ := h2
      exact h1
  · intro h
    exact ⟨(some w, j), List.mem_zipIdx_iff_getElem?.mpr h, rfl⟩
theorem lvh.has {ls : Array Slot} {nL : Nat} {lv : List (Option Value)} (h : lvh ls nL lv) : lv_has ls nL (lve lv) := ⟨h.1, h.2.1, fun q hq => h.2.2 q.1 q.2 (lve_mem.mp hq)⟩
def okS (lv : List (Option Value)) : Nat → Bool
  | 0 => true
  | k + 1 => match lv[k]? with
    | some (some w) => !(w.category == 2)
    | _ => true
theorem okS_use {lv : List (Option Value)} {i j : Nat} {w : Value} (h : okS lv i = true) (e : j + 1 = i) (hj : lv[j]? = some (some w)) : (w.category == 2) = false := by
  subst e
  simp only [okS, hj] at h
  simpa using h
theorem lvh.st1 {ls : Array Slot} {nL i : Nat} {v : Value} {lv : List (Option Value)} (ok : okS lv i = true) (h : lv_has ls nL ((i, v) :: (lve lv).filter (fun q => !(q.1 == i) && !(q.1 + 1 == i && q.2.category == 2)))) : lvh ls nL (lv.set i (some v)) := by
  refine ⟨h.1, h.2.1, fun j w hj => ?_⟩
  rw [List.getElem?_set] at hj
  by_cases e : i = j
  · subst e
    by_cases hl : i < lv.length
    · simp [hl] at hj
      subst hj
      exact h.2.2 (i, v) List.mem_cons_self
    · simp [hl] at hj
  · rw [if_neg e] at hj
    refine h.2.2 (j, w) (List.mem_cons_of_mem _ (List.mem_filter.mpr ⟨lve_mem.mpr hj, ?_⟩))
    by_cases e2 : j + 1 = i
    · have := okS_use ok e2 hj
      simp [this, Ne.symm e]
    · simp [e2, Ne.symm e]
theorem lvh.st2 {ls : Array Slot} {nL i : Nat} {v : Value} {lv : List (Option Value)} (ok : okS lv i = true) (h : lv_has ls nL ((i, v) :: (lve lv).filter (fun q => !(q.1 == i) && (!(q.1 == i + 1) && !(q.1 + 1 == i && q.2.category == 2))))) : lvh ls nL ((lv.set i (some v)).set (i + 1) none) := by
  refine ⟨h.1, h.2.1, fun j w hj => ?_⟩
  rw [List.getElem?_set] at hj
  by_cases e1 : i + 1 = j
  · rw [if_pos e1] at hj
    split at hj <;> cases hj
  rw [if_neg e1, List.getElem?_set] at hj
  by_cases e : i = j
  · subst e
    by_cases hl : i < lv.length
    · simp [hl] at hj
      subst hj
      exact h.2.2 (i, v) List.mem_cons_self
    · simp [hl] at hj
  · rw [if_neg e] at hj
    refine h.2.2 (j, w) (List.mem_cons_of_mem _ (List.mem_filter.mpr ⟨lve_mem.mpr hj, ?_⟩))
    by_cases e2 : j + 1 = i
    · have := okS_use ok e2 hj
      simp [this, Ne.symm e, Ne.symm e1]
    · simp [e2, Ne.symm e, Ne.symm e1]
abbrev BX : Type := Program × Launch × Env × Room × State × MethodId × Array Value × List Frame × Method × Code × (Nat → Prop) × Nat × (State → Prop)
def V (Z : BX) (D : va_G) (kc ks : Nat) (wd : va_W) (lv : List (Option Value)) (st : List Value) (pc : Nat) : Prop := match Z with
  | (p, l, e, R, s, m, args, below, meth, c, A, nL, Q) => ∀ (H : Heap) (locs : List Loc) (ls : Array Slot), va_P D clX wd H → va_D A wd → va_S A s.heap H locs → lvh ls nL lv → W p l e R s m args below meth c H locs kc ks Q (F0 m pc ls st)
def EF (Z : BX) (D : va_G) (cc : ByteArray) (own : String) (rm : Room) (n0 : Nat) : Prop := match Z with
  | (p, l, e, R, s, m, args, below, meth, c, A, nL, Q) => p.tables.exec = Jvm.exec ∧ c.code = cc ∧ c.maxLocals = n0 ∧ nL = n0 ∧ R = rm ∧ s.vm.findClass own = some m.cls ∧ (∀ w ∈ lwg, w.before args s = true) ∧ va_K D clX (tyD D) s ∧ (∀ q : Nat, s.heap.size ≤ q → A q) ∧ NK s ∧ meth.locks = false
def RQ (Z : BX) (Qf : (Nat → Prop) → Array Value → State → Outcome → State → Prop) (mc ms : Nat) (rt : Option FieldType) : Prop := match Z with
  | (p, l, e, R, s, m, args, below, meth, c, A, nL, Q) => Q = MQ below (Qf A) args s mc ms A ∧ meth.sig.returnType = rt ∧ (meth.name = "<init>" ∨ True)
def PW (D : va_G) (W0 : va_W) (sz : Nat) (U : State) : Prop := U.heap.size = sz ∧ va_P D clX W0 U.heap ∧ va_K D clX (tyD D) U ∧ va_D (fun _ => True) W0 ∧ NK U
def Ct (l : Launch) (y : MethodName) (b : ByteArray) (n : Nat) (rt : Option FieldType) (rm : Room) (D : va_G) (as : List Value) (W0 : va_W) (Qf : (Nat → Prop) → Array Value → State → Outcome → State → Prop) : Prop :=
  ∀ sz : Nat, Met l y (wU y b n rt) rm (va_Pc as (PW D W0 sz)) (Qf (va_A W0 sz)) rm.cells rm.slots (va_A W0 sz)
def lvI : List Value → List (Option Value)
  | [] => []
  | v :: t => if v.category = 2 then some v :: none :: lvI t else some v :: lvI t
theorem lvI_sl : ∀ (vs : List Value) (i : Nat) (v : Value), (lvI vs)[i]? = some (some v) → (lg_sl vs)[i]? = some (.val v)
  | [], i, v, h => by simp [lvI] at h
  | w :: t, i, v, h => by
    have ih := lvI_sl t
    by_cases hc : w.category = 2
    · have e : lg_sl (w :: t) = .val w :: .second :: lg_sl t := by simp [lg_sl, hc]
      have e2 : lvI (w :: t) = some w :: none :: lvI t := by simp [lvI, hc]
      rw [e2] at h
      rw [e]
      match i, h with
      | 0, h => simpa using h
      | 1, h => simp at h
      | i + 2, h => simpa using ih i v (by simpa using h)
    · have e : lg_sl (w :: t) = .val w :: lg_sl t := by simp [lg_sl, hc]
      have e2 : lvI (w :: t) = some w :: lvI t := by simp [lvI, hc]
      rw [e2] at h
      rw [e]
      match i, h with
      | 0, h => simpa using h
      | i + 1, h => simpa using ih i v (by simpa using h)
theorem lvI_len : ∀ vs : List Value, (lvI vs).length = (lg_sl vs).length
  | [] => rfl
  | w :: t => by
    have ih := lvI_len t
    by_cases hc : w.category = 2
    · have e : lg_sl (w :: t) = .val w :: .second :: lg_sl t := by simp [lg_sl, hc]
      have e2 : lvI (w :: t) = some w :: none :: lvI t := by simp [lvI, hc]
      rw [e, e2]; simp [ih]
    · have e : lg_sl (w :: t) = .val w :: lg_sl t := by simp [lg_sl, hc]
      have e2 : lvI (w :: t) = some w :: lvI t := by simp [lvI, hc]
      rw [e, e2]; simp [ih]
theorem lvh_entry {as : List Value} {n k : Nat} {lv0 : List (Option Value)} (h0 : lvI as ++ List.replicate k none = lv0) (hn : lv0.length = n) : lvh ((lg_sl as ++ List.replicate (n - (lg_sl as).length) Slot.unset).toArray) n lv0 := by
  subst h0
  rw [List.length_append, lvI_len, List.length_replicate] at hn
  have hle : (lg_sl as).length ≤ n := by omega
  have he := lv_entry as hle
  refine ⟨he.1, he.2.1, fun i v hi => ?_⟩
  by_cases hl : i < (lvI as).length
  · rw [List.getElem?_append_left hl] at hi
    have := lvI_sl as i v hi
    rw [List.getElem?_toArray, List.getElem?_append_left (by rw [← lvI_len]; exact hl)]
    exact this
  · rw [List.getElem?_append_right (by omega), List.getElem?_replicate] at hi
    split at hi <;> cases hi
theorem Ct.ofV {l : Launch} {y : MethodName} {b : ByteArray} {n : Nat} {rt : Option FieldType} {rm : Room} {D : va_G} {as : List Value} {W0 : va_W} {Qf : (Nat → Prop) → Array Value → State → Outcome → State → Prop} (k : Nat) {lv0 : List (Option Value)} (hy : plainName y.cls = true) (h0 : lvI as ++ List.replicate k none = lv0) (hn : lv0.length = n)
    (body : ∀ Z : BX, EF Z D b y.cls rm n → RQ Z Qf rm.cells rm.slots rt → V Z D 0 0 W0 lv0 [] 0) : Ct l y b n rt rm D as W0 Qf := by
  intro sz
  refine Met.ofW (cc := b) (maxL := n) (ret := rt) hy rfl ?_
  intro p e s m args below meth c s₁ B hml hv
  obtain ⟨rfl, hsz, hP, hK, hD0, hN⟩ := hv
  have hts := atoms_spec (ws := wU y b n rt) B.pre
  have hown : s.vm.findClass y.cls = some m.cls := findClass_of_methodNamed B.named
  subst hsz
  have hD := hD0.self (sz := s.heap.size)
  rw [lg_entry_eq]
  refine body (p, l, e, (headSpec (wU y b n rt) rm).room, s, m, as.toArray, below, meth, c, va_A W0 s.heap.size, n, _) ⟨B.exec, B.bytes, hml, rfl, rfl, hown, fun w hw => hts w (List.mem_cons_of_mem _ hw), hK, fun q h => Or.inr h, hN, B.notSynchronized⟩ ⟨rfl, B.returns, Or.inr trivial⟩ s.heap [] _ hP hD va_S.rf (lvh_entry h0 hn)
/-- the ends -/
def QI {S : Type} (D : va_G) (post : Int32 → S → Prop) (W1 : S → va_W) (A : Nat → Prop) : Array Value → State → Outcome → State → Prop := va_Qi post (fun u t => va_P D clX (W1 u) t.heap ∧ va_D A (W1 u)) A
def QL {S : Type} (D : va_G) (post : Int64 → S → Prop) (W1 : S → va_W) (A : Nat → Prop) : Array Value → State → Outcome → State → Prop := va_Ql post (fun u t => va_P D clX (W1 u) t.heap ∧ va_D A (W1 u)) A
def QV {S : Type} (D : va_G) (post : S → Prop) (W1 : S → va_W) (A : Nat → Prop) : Array Value → State → Outcome → State → Prop := va_Qv post (fun u t => va_P D clX (W1 u) t.heap ∧ va_D A (W1 u)) A
abbrev QI1 (D : va_G) (r : Int32) (W1 : va_W) := QI (S := Unit) D (fun x _ => x = r) (fun _ => W1)
abbrev QL1 (D : va_G) (r : Int64) (W1 : va_W) := QL (S := Unit) D (fun x _ => x = r) (fun _ => W1)
abbrev QV1 (D : va_G) (W1 : va_W) := QV (S := Unit) D (fun _ => True) (fun _ => W1)
section VROWS
variable {Z : BX} {D : va_G} {kc ks : Nat} {wd : va_W} {lv : List (Option Value)} {st rest : List Value} {pc : Nat} {cc : ByteArray} {own : String} {rm : Room} {n0 : Nat}

theorem v_iconst (E : EF Z D cc own rm n0) {n : Int} {v : Int32} (d : decode cc pc = .ok (.iconst n, 1)) (hv : Int32.ofInt n = v) (k : V Z D kc ks wd lv (.int v :: st) (pc + 1)) : V Z D kc ks wd lv st pc := by
  obtain ⟨p, l, e, R, s, m, args, below, meth, c, A, nL, Q⟩ := Z
  obtain ⟨hx, hb, hml, rfl, rfl, hown, hts, hK, hA, hN, hlocks⟩ := E
  intro H locs ls hP hD hS hl
  exact lv_iconst hx hb d hv (k H locs ls hP hD hS hl)
theorem v_bipush (E : EF Z D cc own rm n0) {n : Int} {v : Int32} (d : decode cc pc = .ok (.bipush n, 2)) (hv : (Int8.ofInt n).toInt32 = v) (k : V Z D kc ks wd lv (.int v :: st) (pc + 2)) : V Z D kc ks wd lv st pc := by
  obtain ⟨p, l, e, R, s, m, args, below, meth, c, A, nL, Q⟩ := Z
  obtain ⟨hx, hb, hml, rfl, rfl, hown, hts, hK, hA, hN, hlocks⟩ := E
  intro H locs ls hP hD hS hl
  exact lv_bipush hx hb d hv (k H locs ls hP hD hS hl)
theorem v_sipush (E : EF Z D cc own rm n0) {n : Int} {v : Int32} (d : decode cc pc = .ok (.sipush n, 3)) (hv : (Int16.ofInt n).toInt32 = v) (k : V Z D kc ks wd lv (.int v :: st) (pc + 3)) : V Z D kc ks wd lv st pc := by
  obtain ⟨p, l, e, R, s, m, args, below, meth, c, A, nL, Q⟩ := Z
  obtain ⟨hx, hb, hml, rfl, rfl, hown, hts, hK, hA, hN, hlocks⟩ := E
  intro H locs ls hP hD hS hl
  exact lv_sipush hx hb d hv (k H locs ls hP hD hS hl)
theorem v_lconst (E : EF Z D cc own rm n0) {n : Fin 2} {v : Int64} (d : decode cc pc = .ok (.lconst n, 1)) (hv : Int64.ofNat (n : Nat) = v) (k : V Z D kc ks wd lv (.long v :: st) (pc + 1)) : V Z D kc ks wd lv st pc := by
  obtain ⟨p, l, e, R, s, m, args, below, meth, c, A, nL, Q⟩ := Z
  obtain ⟨hx, hb, hml, rfl, rfl, hown, hts, hK, hA, hN, hlocks⟩ := E
  intro H locs ls hP hD hS hl
  exact lv_lconst hx hb d hv (k H locs ls hP hD hS hl)
theorem v_ldcw (E : EF Z D cc own rm n0) {index : Nat} {v : Int32} (d : decode cc pc = .ok (.ldc_w index, 3)) (hw : Cond.constant own index v ∈ lwg) (k : V Z D kc ks wd lv (.int v :: st) (pc + 3)) : V Z D kc ks wd lv st pc := by
  obtain ⟨p, l, e, R, s, m, args, below, meth, c, A, nL, Q⟩ := Z
  obtain ⟨hx, hb, hml, rfl, rfl, hown, hts, hK, hA, hN, hlocks⟩ := E
  intro H locs ls hP hD hS hl
  exact lv_ldcw hx hb hown (hts _ hw) d (k H locs ls hP hD hS hl)
theorem v_ldc2 (E : EF Z D cc own rm n0) {index : Nat} {v : Int64} (d : decode cc pc = .ok (.ldc2_w index, 3)) (hw : Cond.constantLong own index v ∈ lwg) (k : V Z D kc ks wd lv (.long v :: st) (pc + 3)) : V Z D kc ks wd lv st pc := by
  obtain ⟨p, l, e, R, s, m, args, below, meth, c, A, nL, Q⟩ := Z
  obtain ⟨hx, hb, hml, rfl, rfl, hown, hts, hK, hA, hN, hlocks⟩ := E
  intro H locs ls hP hD hS hl
  exact lv_ldc2 hx hb hown (hts _ hw) d (k H locs ls hP hD hS hl)
theorem v_null (E : EF Z D cc own rm n0) (d : decode cc pc = .ok (.aconst_null, 1)) (k : V Z D kc ks wd lv (.null :: st) (pc + 1)) : V Z D kc ks wd lv st pc := by
  obtain ⟨p, l, e, R, s, m, args, below, meth, c, A, nL, Q⟩ := Z
  obtain ⟨hx, hb, hml, rfl, rfl, hown, hts, hK, hA, hN, hlocks⟩ := E
  intro H locs ls hP hD hS hl
  exact lv_null hx hb d (k H locs ls hP hD hS hl)
theorem v_iload_n (E : EF Z D cc own rm n0) {i : Fin 4} {x : Int32} (d : decode cc pc = .ok (.iload_n i, 1)) (h : lv[(i : Nat)]? = some (some (.int x))) (k : V Z D kc ks wd lv (.int x :: st) (pc + 1)) : V Z D kc ks wd lv st pc := by
  obtain ⟨p, l, e, R, s, m, args, below, meth, c, A, nL, Q⟩ := Z
  obtain ⟨hx, hb, hml, rfl, rfl, hown, hts, hK, hA, hN, hlocks⟩ := E
  intro H locs ls hP hD hS hl
  exact lv_iload_n hx hb d rfl (hl.2.2 _ _ h) (k H locs ls hP hD hS hl)
theorem v_iload (E : EF Z D cc own rm n0) {i : Nat} {x : Int32} (d : decode cc pc = .ok (.iload i, 2)) (h : lv[i]? = some (some (.int x))) (k : V Z D kc ks wd lv (.int x :: st) (pc + 2)) : V Z D kc ks wd lv st pc := by
  obtain ⟨p, l, e, R, s, m, args, below, meth, c, A, nL, Q⟩ := Z
  obtain ⟨hx, hb, hml, rfl, rfl, hown, hts, hK, hA, hN, hlocks⟩ := E
  intro H locs ls hP hD hS hl
  exact lv_iload hx hb d (hl.2.2 _ _ h) (k H locs ls hP hD hS hl)
theorem v_lload_n (E : EF Z D cc own rm n0) {i : Fin 4} {x : Int64} (d : decode cc pc = .ok (.lload_n i, 1)) (h : lv[(i : Nat)]? = some (some (.long x))) (k : V Z D kc ks wd lv (.long x :: st) (pc + 1)) : V Z D kc ks wd lv st pc := by
  obtain ⟨p, l, e, R, s, m, args, below, meth, c, A, nL, Q⟩ := Z
  obtain ⟨hx, hb, hml, rfl, rfl, hown, hts, hK, hA, hN, hlocks⟩ := E
  intro H locs ls hP hD hS hl
  exact lv_lload_n hx hb d rfl (hl.2.2 _ _ h) (k H locs ls hP hD hS hl)
theorem v_lload (E : EF Z D cc own rm n0) {i : Nat} {x : Int64} (d : decode cc pc = .ok (.lload i, 2)) (h : lv[i]? = some (some (.long x))) (k : V Z D kc ks wd lv (.long x :: st) (pc + 2)) : V Z D kc ks wd lv st pc := by
  obtain ⟨p, l, e, R, s, m, args, below, meth, c, A, nL, Q⟩ := Z
  obtain ⟨hx, hb, hml, rfl, rfl, hown, hts, hK, hA, hN, hlocks⟩ := E
  intro H locs ls hP hD hS hl
  exact lv_lload hx hb d (hl.2.2 _ _ h) (k H locs ls hP hD hS hl)
theorem v_aload_n (E : EF Z D cc own rm n0) {i : Fin 4} {x : Nat} (d : decode cc pc = .ok (.aload_n i, 1)) (h : lv[(i : Nat)]? = some (some (.ref x))) (k : V Z D kc ks wd lv (.ref x :: st) (pc + 1)) : V Z D kc ks wd lv st pc := by
  obtain ⟨p, l, e, R, s, m, args, below, meth, c, A, nL, Q⟩ := Z
  obtain ⟨hx, hb, hml, rfl, rfl, hown, hts, hK, hA, hN, hlocks⟩ := E
  intro H locs ls hP hD hS hl
  exact lv_aload_n hx hb d rfl (hl.2.2 _ _ h) (k H locs ls hP hD hS hl)
theorem v_aload (E : EF Z D cc own rm n0) {i : Nat} {x : Nat} (d : decode cc pc = .ok (.aload i, 2)) (h : lv[i]? = some (some (.ref x))) (k : V Z D kc ks wd lv (.ref x :: st) (pc + 2)) : V Z D kc ks wd lv st pc := by
  obtain ⟨p, l, e, R, s, m, args, below, meth, c, A, nL, Q⟩ := Z
  obtain ⟨hx, hb, hml, rfl, rfl, hown, hts, hK, hA, hN, hlocks⟩ := E
  intro H locs ls hP hD hS hl
  exact lv_aload hx hb d (hl.2.2 _ _ h) (k H locs ls hP hD hS hl)
theorem v_aload_nN (E : EF Z D cc own rm n0) {i : Fin 4} (d : decode cc pc = .ok (.aload_n i, 1)) (h : lv[(i : Nat)]? = some (some .null)) (k : V Z D kc ks wd lv (.null :: st) (pc + 1)) : V Z D kc ks wd lv st pc := by
  obtain ⟨p, l, e, R, s, m, args, below, meth, c, A, nL, Q⟩ := Z
  obtain ⟨hx, hb, hml, rfl, rfl, hown, hts, hK, hA, hN, hlocks⟩ := E
  intro H locs ls hP hD hS hl
  exact lv_aload_nN hx hb d rfl (hl.2.2 _ _ h) (k H locs ls hP hD hS hl)
theorem v_istore_n (E : EF Z D cc own rm n0) {i : Fin 4} {x : Int32} (d : decode cc pc = .ok (.istore_n i, 1)) (hn : Nat.ble ((i : Nat) + 1) n0 = true) (ok : okS lv (i : Nat) = true) (k : V Z D kc ks wd (lv.set (i : Nat) (some (.int x))) st (pc + 1)) : V Z D kc ks wd lv (.int x :: st) pc := by
  obtain ⟨p, l, e, R, s, m, args, below, meth, c, A, nL, Q⟩ := Z
  obtain ⟨hx, hb, hml, rfl, rfl, hown, hts, hK, hA, hN, hlocks⟩ := E
  intro H locs ls hP hD hS hl
  exact lv_istore_n hx hb d rfl hl.has (Nat.le_of_ble_eq_true hn) rfl (fun ls hl => k H locs ls hP hD hS (lvh.st1 ok hl))
theorem v_istore (E : EF Z D cc own rm n0) {i : Nat} {x : Int32} (d : decode cc pc = .ok (.istore i, 2)) (hn : Nat.ble (i + 1) n0 = true) (ok : okS lv i = true) (k : V Z D kc ks wd (lv.set i (some (.int x))) st (pc + 2)) : V Z D kc ks wd lv (.int x :: st) pc := by
  obtain ⟨p, l, e, R, s, m, args, below, meth, c, A, nL, Q⟩ := Z
  obtain ⟨hx, hb, hml, rfl, rfl, hown, hts, hK, hA, hN, hlocks⟩ := E
  intro H locs ls hP hD hS hl
  exact lv_istore hx hb d hl.has (Nat.le_of_ble_eq_true hn) rfl (fun ls hl => k H locs ls hP hD hS (lvh.st1 ok hl))
theorem v_astore_n (E : EF Z D cc own rm n0) {i : Fin 4} {x : Nat} (d : decode cc pc = .ok (.astore_n i, 1)) (hn : Nat.ble ((i : Nat) + 1) n0 = true) (ok : okS lv (i : Nat) = true) (k : V Z D kc ks wd (lv.set (i : Nat) (some (.ref x))) st (pc + 1)) : V Z D kc ks wd lv (.ref x :: st) pc := by
  obtain ⟨p, l, e, R, s, m, args, below, meth, c, A, nL, Q⟩ := Z
  obtain ⟨hx, hb, hml, rfl, rfl, hown, hts, hK, hA, hN, hlocks⟩ := E
  intro H locs ls hP hD hS hl
  exact lv_astore_n hx hb d rfl hl.has (Nat.le_of_ble_eq_true hn) rfl (fun ls hl => k H locs ls hP hD hS (lvh.st1 ok hl))
theorem v_astore (E : EF Z D cc own rm n0) {i : Nat} {x : Nat} (d : decode cc pc = .ok (.astore i, 2)) (hn : Nat.ble (i + 1) n0 = true) (ok : okS lv i = true) (k : V Z D kc ks wd (lv.set i (some (.ref x))) st (pc + 2)) : V Z D kc ks wd lv (.ref x :: st) pc := by
  obtain ⟨p, l, e, R, s, m, args, below, meth, c, A, nL, Q⟩ := Z
  obtain ⟨hx, hb, hml, rfl, rfl, hown, hts, hK, hA, hN, hlocks⟩ := E
  intro H locs ls hP hD hS hl
  exact lv_astore hx hb d hl.has (Nat.le_of_ble_eq_true hn) rfl (fun ls hl => k H locs ls hP hD hS (lvh.st1 ok hl))
theorem v_astore_nN (E : EF Z D cc own rm n0) {i : Fin 4} (d : decode cc pc = .ok (.astore_n i, 1)) (hn : Nat.ble ((i : Nat) + 1) n0 = true) (ok : okS lv (i : Nat) = true) (k : V Z D kc ks wd (lv.set (i : Nat) (some .null)) st (pc + 1)) : V Z D kc ks wd lv (.null :: st) pc := by
  obtain ⟨p, l, e, R, s, m, args, below, meth, c, A, nL, Q⟩ := Z
  obtain ⟨hx, hb, hml, rfl, rfl, hown, hts, hK, hA, hN, hlocks⟩ := E
  intro H locs ls hP hD hS hl
  exact lv_astore_nN hx hb d rfl hl.has (Nat.le_of_ble_eq_true hn) rfl (fun ls hl => k H locs ls hP hD hS (lvh.st1 ok hl))
theorem v_lstore_n (E : EF Z D cc own rm n0) {i : Fin 4} {x : Int64} (d : decode cc pc = .ok (.lstore_n i, 1)) (hn : Nat.ble ((i : Nat) + 2) n0 = true) (ok : okS lv (i : Nat) = true) (k : V Z D kc ks wd ((lv.set (i : Nat) (some (.long x))).set ((i : Nat) + 1) none) st (pc + 1)) : V Z D kc ks wd lv (.long x :: st) pc := by
  obtain ⟨p, l, e, R, s, m, args, below, meth, c, A, nL, Q⟩ := Z
  obtain ⟨hx, hb, hml, rfl, rfl, hown, hts, hK, hA, hN, hlocks⟩ := E
  intro H locs ls hP hD hS hl
  exact lv_lstore_n hx hb d rfl hl.has (Nat.le_of_ble_eq_true hn) rfl (fun ls hl => k H locs ls hP hD hS (lvh.st2 ok hl))
theorem v_lstore (E : EF Z D cc own rm n0) {i : Nat} {x : Int64} (d : decode cc pc = .ok (.lstore i, 2)) (hn : Nat.ble (i + 2) n0 = true) (ok : okS lv i = true) (k : V Z D kc ks wd ((lv.set i (some (.long x))).set (i + 1) none) st (pc + 2)) : V Z D kc ks wd lv (.long x :: st) pc := by
  obtain ⟨p, l, e, R, s, m, args, below, meth, c, A, nL, Q⟩ := Z
  obtain ⟨hx, hb, hml, rfl, rfl, hown, hts, hK, hA, hN, hlocks⟩ := E
  intro H locs ls hP hD hS hl
  exact lv_lstore hx hb d hl.has (Nat.le_of_ble_eq_true hn) rfl (fun ls hl => k H locs ls hP hD hS (lvh.st2 ok hl))
theorem v_iinc (E : EF Z D cc own rm n0) {i : Nat} {n : Int} {x v : Int32} (d : decode cc pc = .ok (.iinc i n, 3)) (h : lv[i]? = some (some (.int x))) (hv : x + Int32.ofInt n = v) (hn : Nat.ble (i + 1) n0 = true) (ok : okS lv i = true) (k : V Z D kc ks wd (lv.set i (some (.int v))) st (pc + 3)) : V Z D kc ks wd lv st pc := by
  obtain ⟨p, l, e, R, s, m, args, below, meth, c, A, nL, Q⟩ := Z
  obtain ⟨hx, hb, hml, rfl, rfl, hown, hts, hK, hA, hN, hlocks⟩ := E
  intro H locs ls hP hD hS hl
  obtain ⟨j, hj⟩ := List.getElem?_of_mem (lve_mem.mpr h)
  exact lv_iinc hx hb d hl.has hj hv (Nat.le_of_ble_eq_true hn) rfl (fun ls hl => k H locs ls hP hD hS (lvh.st1 ok hl))
theorem v_iadd (E : EF Z D cc own rm n0) {x y : Int32} (d : decode cc pc = .ok (.iadd, 1)) (k : V Z D kc ks wd lv (.int (x + y) :: st) (pc + 1)) : V Z D kc ks wd lv (.int y :: .int x :: st) pc := by
  obtain ⟨p, l, e, R, s, m, args, below, meth, c, A, nL, Q⟩ := Z
  obtain ⟨hx, hb, hml, rfl, rfl, hown, hts, hK, hA, hN, hlocks⟩ := E
  intro H locs ls hP hD hS hl
  exact lv_iadd hx hb d (k H locs ls hP hD hS hl)
theorem v_isub (E : EF Z D cc own rm n0) {x y : Int32} (d : decode cc pc = .ok (.isub, 1)) (k : V Z D kc ks wd lv (.int (x - y) :: st) (pc + 1)) : V Z D kc ks wd lv (.int y :: .int x :: st) pc := by
  obtain ⟨p, l, e, R, s, m, args, below, meth, c, A, nL, Q⟩ := Z
  obtain ⟨hx, hb, hml, rfl, rfl, hown, hts, hK, hA, hN, hlocks⟩ := E
  intro H locs ls hP hD hS hl
  exact lv_isub hx hb d (k H locs ls hP hD hS hl)
theorem v_imul (E : EF Z D cc own rm n0) {x y : Int32} (d : decode cc pc = .ok (.imul, 1)) (k : V Z D kc ks wd lv (.int (x * y) :: st) (pc + 1)) : V Z D kc ks wd lv (.int y :: .int x :: st) pc := by
  obtain ⟨p, l, e, R, s, m, args, below, meth, c, A, nL, Q⟩ := Z
  obtain ⟨hx, hb, hml, rfl, rfl, hown, hts, hK, hA, hN, hlocks⟩ := E
  intro H locs ls hP hD hS hl
  exact lv_imul hx hb d (k H locs ls hP hD hS hl)
theorem v_iand (E : EF Z D cc own rm n0) {x y : Int32} (d : decode cc pc = .ok (.iand, 1)) (k : V Z D kc ks wd lv (.int (x &&& y) :: st) (pc + 1)) : V Z D kc ks wd lv (.int y :: .int x :: st) pc := by
  obtain ⟨p, l, e, R, s, m, args, below, meth, c, A, nL, Q⟩ := Z
  obtain ⟨hx, hb, hml, rfl, rfl, hown, hts, hK, hA, hN, hlocks⟩ := E
  intro H locs ls hP hD hS hl
  exact lv_iand hx hb d (k H locs ls hP hD hS hl)
theorem v_ior (E : EF Z D cc own rm n0) {x y : Int32} (d : decode cc pc = .ok (.ior, 1)) (k : V Z D kc ks wd lv (.int (x ||| y) :: st) (pc + 1)) : V Z D kc ks wd lv (.int y :: .int x :: st) pc := by
  obtain ⟨p, l, e, R, s, m, args, below, meth, c, A, nL, Q⟩ := Z
  obtain ⟨hx, hb, hml, rfl, rfl, hown, hts, hK, hA, hN, hlocks⟩ := E
  intro H locs ls hP hD hS hl
  exact lv_ior hx hb d (k H locs ls hP hD hS hl)
theorem v_ixor (E : EF Z D cc own rm n0) {x y : Int32} (d : decode cc pc = .ok (.ixor, 1)) (k : V Z D kc ks wd lv (.int (x ^^^ y) :: st) (pc + 1)) : V Z D kc ks wd lv (.int y :: .int x :: st) pc := by
  obtain ⟨p, l, e, R, s, m, args, below, meth, c, A, nL, Q⟩ := Z
  obtain ⟨hx, hb, hml, rfl, rfl, hown, hts, hK, hA, hN, hlocks⟩ := E
  intro H locs ls hP hD hS hl
  exact lv_ixor hx hb d (k H locs ls hP hD hS hl)
theorem v_ishl (E : EF Z D cc own rm n0) {x y : Int32} (d : decode cc pc = .ok (.ishl, 1)) (k : V Z D kc ks wd lv (.int (x <<< (y &&& 31)) :: st) (pc + 1)) : V Z D kc ks wd lv (.int y :: .int x :: st) pc := by
  obtain ⟨p, l, e, R, s, m, args, below, meth, c, A, nL, Q⟩ := Z
  obtain ⟨hx, hb, hml, rfl, rfl, hown, hts, hK, hA, hN, hlocks⟩ := E
  intro H locs ls hP hD hS hl
  exact lv_ishl hx hb d (k H locs ls hP hD hS hl)
theorem v_ishr (E : EF Z D cc own rm n0) {x y : Int32} (d : decode cc pc = .ok (.ishr, 1)) (k : V Z D kc ks wd lv (.int (x >>> (y &&& 31)) :: st) (pc + 1)) : V Z D kc ks wd lv (.int y :: .int x :: st) pc := by
  obtain ⟨p, l, e, R, s, m, args, below, meth, c, A, nL, Q⟩ := Z
  obtain ⟨hx, hb, hml, rfl, rfl, hown, hts, hK, hA, hN, hlocks⟩ := E
  intro H locs ls hP hD hS hl
  exact lv_ishr hx hb d (k H locs ls hP hD hS hl)
theorem v_idiv (E : EF Z D cc own rm n0) {x y : Int32} (d : decode cc pc = .ok (.idiv, 1)) (hne : ¬ y = 0) (k : V Z D kc ks wd lv (.int (x / y) :: st) (pc + 1)) : V Z D kc ks wd lv (.int y :: .int x :: st) pc := by
  obtain ⟨p, l, e, R, s, m, args, below, meth, c, A, nL, Q⟩ := Z
  obtain ⟨hx, hb, hml, rfl, rfl, hown, hts, hK, hA, hN, hlocks⟩ := E
  intro H locs ls hP hD hS hl
  exact lv_idiv hx hb d hne (k H locs ls hP hD hS hl)
theorem v_irem (E : EF Z D cc own rm n0) {x y : Int32} (d : decode cc pc = .ok (.irem, 1)) (hne : ¬ y = 0) (k : V Z D kc ks wd lv (.int (x - x / y * y) :: st) (pc + 1)) : V Z D kc ks wd lv (.int y :: .int x :: st) pc := by
  obtain ⟨p, l, e, R, s, m, args, below, meth, c, A, nL, Q⟩ := Z
  obtain ⟨hx, hb, hml, rfl, rfl, hown, hts, hK, hA, hN, hlocks⟩ := E
  intro H locs ls hP hD hS hl
  exact lv_irem hx hb d hne (k H locs ls hP hD hS hl)
theorem v_iushr (E : EF Z D cc own rm n0) {x y : Int32} (d : decode cc pc = .ok (.iushr, 1)) (k : V Z D kc ks wd lv (.int (x.toUInt32 >>> (y.toUInt32 &&& Int32.toUInt32 31)).toInt32 :: st) (pc + 1)) : V Z D kc ks wd lv (.int y :: .int x :: st) pc := by
  obtain ⟨p, l, e, R, s, m, args, below, meth, c, A, nL, Q⟩ := Z
  obtain ⟨hx, hb, hml, rfl, rfl, hown, hts, hK, hA, hN, hlocks⟩ := E
  intro H locs ls hP hD hS hl
  exact lv_iushr hx hb d rfl (k H locs ls hP hD hS hl)
theorem v_ladd (E : EF Z D cc own rm n0) {x y : Int64} (d : decode cc pc = .ok (.ladd, 1)) (k : V Z D kc ks wd lv (.long (x + y) :: st) (pc + 1)) : V Z D kc ks wd lv (.long y :: .long x :: st) pc := by
  obtain ⟨p, l, e, R, s, m, args, below, meth, c, A, nL, Q⟩ := Z
  obtain ⟨hx, hb, hml, rfl, rfl, hown, hts, hK, hA, hN, hlocks⟩ := E
  intro H locs ls hP hD hS hl
  exact lv_ladd hx hb d (k H locs ls hP hD hS hl)
theorem v_lsub (E : EF Z D cc own rm n0) {x y : Int64} (d : decode cc pc = .ok (.lsub, 1)) (k : V Z D kc ks wd lv (.long (x - y) :: st) (pc + 1)) : V Z D kc ks wd lv (.long y :: .long x :: st) pc := by
  obtain ⟨p, l, e, R, s, m, args, below, meth, c, A, nL, Q⟩ := Z
  obtain ⟨hx, hb, hml, rfl, rfl, hown, hts, hK, hA, hN, hlocks⟩ := E
  intro H locs ls hP hD hS hl
  exact lv_lsub hx hb d (k H locs ls hP hD hS hl)
theorem v_land (E : EF Z D cc own rm n0) {x y : Int64} (d : decode cc pc = .ok (.land, 1)) (k : V Z D kc ks wd lv (.long (x &&& y) :: st) (pc + 1)) : V Z D kc ks wd lv (.long y :: .long x :: st) pc := by
  obtain ⟨p, l, e, R, s, m, args, below, meth, c, A, nL, Q⟩ := Z
  obtain ⟨hx, hb, hml, rfl, rfl, hown, hts, hK, hA, hN, hlocks⟩ := E
  intro H locs ls hP hD hS hl
  exact lv_land hx hb d (k H locs ls hP hD hS hl)
theorem v_lor (E : EF Z D cc own rm n0) {x y : Int64} (d : decode cc pc = .ok (.lor, 1)) (k : V Z D kc ks wd lv (.long (x ||| y) :: st) (pc + 1)) : V Z D kc ks wd lv (.long y :: .long x :: st) pc := by
  obtain ⟨p, l, e, R, s, m, args, below, meth, c, A, nL, Q⟩ := Z
  obtain ⟨hx, hb, hml, rfl, rfl, hown, hts, hK, hA, hN, hlocks⟩ := E
  intro H locs ls hP hD hS hl
  exact lv_lor hx hb d (k H locs ls hP hD hS hl)
theorem v_lxor (E : EF Z D cc own rm n0) {x y : Int64} (d : decode cc pc = .ok (.lxor, 1)) (k : V Z D kc ks wd lv (.long (x ^^^ y) :: st) (pc + 1)) : V Z D kc ks wd lv (.long y :: .long x :: st) pc := by
  obtain ⟨p, l, e, R, s, m, args, below, meth, c, A, nL, Q⟩ := Z
  obtain ⟨hx, hb, hml, rfl, rfl, hown, hts, hK, hA, hN, hlocks⟩ := E
  intro H locs ls hP hD hS hl
  exact lv_lxor hx hb d (k H locs ls hP hD hS hl)
theorem v_lushr (E : EF Z D cc own rm n0) {x : Int64} {y : Int32} (d : decode cc pc = .ok (.lushr, 1)) (k : V Z D kc ks wd lv (.long (x.toUInt64 >>> (y.toInt64.toUInt64 &&& Int64.toUInt64 63)).toInt64 :: st) (pc + 1)) : V Z D kc ks wd lv (.int y :: .long x :: st) pc := by
  obtain ⟨p, l, e, R, s, m, args, below, meth, c, A, nL, Q⟩ := Z
  obtain ⟨hx, hb, hml, rfl, rfl, hown, hts, hK, hA, hN, hlocks⟩ := E
  intro H locs ls hP hD hS hl
  exact lv_lushr hx hb d rfl (k H locs ls hP hD hS hl)
theorem v_lshl (E : EF Z D cc own rm n0) {x : Int64} {y : Int32} (d : decode cc pc = .ok (.lshl, 1)) (k : V Z D kc ks wd lv (.long (x <<< (y.toInt64 &&& 63)) :: st) (pc + 1)) : V Z D kc ks wd lv (.int y :: .long x :: st) pc := by
  obtain ⟨p, l, e, R, s, m, args, below, meth, c, A, nL, Q⟩ := Z
  obtain ⟨hx, hb, hml, rfl, rfl, hown, hts, hK, hA, hN, hlocks⟩ := E
  intro H locs ls hP hD hS hl
  exact lv_lshl hx hb d rfl (k H locs ls hP hD hS hl)
theorem v_lcmp (E : EF Z D cc own rm n0) {x y : Int64} (d : decode cc pc = .ok (.lcmp, 1)) (k : V Z D kc ks wd lv (.int (lg_cmp x y) :: st) (pc + 1)) : V Z D kc ks wd lv (.long y :: .long x :: st) pc := by
  obtain ⟨p, l, e, R, s, m, args, below, meth, c, A, nL, Q⟩ := Z
  obtain ⟨hx, hb, hml, rfl, rfl, hown, hts, hK, hA, hN, hlocks⟩ := E
  intro H locs ls hP hD hS hl
  exact W.lcmp hx hb d (k H locs ls hP hD hS hl)
theorem v_i2l (E : EF Z D cc own rm n0) {x : Int32} (d : decode cc pc = .ok (.i2l, 1)) (k : V Z D kc ks wd lv (.long x.toInt64 :: st) (pc + 1)) : V Z D kc ks wd lv (.int x :: st) pc := by
  obtain ⟨p, l, e, R, s, m, args, below, meth, c, A, nL, Q⟩ := Z
  obtain ⟨hx, hb, hml, rfl, rfl, hown, hts, hK, hA, hN, hlocks⟩ := E
  intro H locs ls hP hD hS hl
  exact lv_i2l hx hb d rfl (k H locs ls hP hD hS hl)
theorem v_l2i (E : EF Z D cc own rm n0) {x : Int64} (d : decode cc pc = .ok (.l2i, 1)) (k : V Z D kc ks wd lv (.int x.toInt32 :: st) (pc + 1)) : V Z D kc ks wd lv (.long x :: st) pc := by
  obtain ⟨p, l, e, R, s, m, args, below, meth, c, A, nL, Q⟩ := Z
  obtain ⟨hx, hb, hml, rfl, rfl, hown, hts, hK, hA, hN, hlocks⟩ := E
  intro H locs ls hP hD hS hl
  exact lv_l2i hx hb d rfl (k H locs ls hP hD hS hl)
theorem v_dup (E : EF Z D cc own rm n0) {va : Value} (d : decode cc pc = .ok (.dup, 1)) (hva : va.category = 1) (k : V Z D kc ks wd lv (va :: va :: st) (pc + 1)) : V Z D kc ks wd lv (va :: st) pc := by
  obtain ⟨p, l, e, R, s, m, args, below, meth, c, A, nL, Q⟩ := Z
  obtain ⟨hx, hb, hml, rfl, rfl, hown, hts, hK, hA, hN, hlocks⟩ := E
  intro H locs ls hP hD hS hl
  exact lv_dup hx hb d hva (k H locs ls hP hD hS hl)
theorem v_pop (E : EF Z D cc own rm n0) {va : Value} (d : decode cc pc = .ok (.pop, 1)) (hva : va.category = 1) (k : V Z D kc ks wd lv st (pc + 1)) : V Z D kc ks wd lv (va :: st) pc := by
  obtain ⟨p, l, e, R, s, m, args, below, meth, c, A, nL, Q⟩ := Z
  obtain ⟨hx, hb, hml, rfl, rfl, hown, hts, hK, hA, hN, hlocks⟩ := E
  intro H locs ls hP hD hS hl
  exact lv_pop hx hb d hva (k H locs ls hP hD hS hl)
theorem v_dup2 (E : EF Z D cc own rm n0) {va vb : Value} (d : decode cc pc = .ok (.dup2, 1)) (hva : va.category = 1) (hvb : vb.category = 1) (k : V Z D kc ks wd lv (va :: vb :: va :: vb :: st) (pc + 1)) : V Z D kc ks wd lv (va :: vb :: st) pc := by
  obtain ⟨p, l, e, R, s, m, args, below, meth, c, A, nL, Q⟩ := Z
  obtain ⟨hx, hb, hml, rfl, rfl, hown, hts, hK, hA, hN, hlocks⟩ := E
  intro H locs ls hP hD hS hl
  exact lv_dup2_11 hx hb d hva hvb (k H locs ls hP hD hS hl)
theorem v_goto (E : EF Z D cc own rm n0) {off : Int} (tgt : Nat) (d : decode cc pc = .ok (.goto off, 3)) (ht : (pc : Int) + off = (tgt : Int)) (k : V Z D kc ks wd lv st tgt) : V Z D kc ks wd lv st pc := by
  obtain ⟨p, l, e, R, s, m, args, below, meth, c, A, nL, Q⟩ := Z
  obtain ⟨hx, hb, hml, rfl, rfl, hown, hts, hK, hA, hN, hlocks⟩ := E
  intro H locs ls hP hD hS hl
  exact lv_goto hx hb d ht (k H locs ls hP hD hS hl)
theorem v_if_eq (E : EF Z D cc own rm n0) {off : Int} (tgt : Nat) {x : Int32} (d : decode cc pc = .ok (.ifCond .eq off, 3)) (ht : (pc : Int) + off = (tgt : Int)) (kt : x = 0 → V Z D kc ks wd lv st tgt) (kf : ¬ x = 0 → V Z D kc ks wd lv st (pc + 3)) : V Z D kc ks wd lv (.int x :: st) pc := by
  obtain ⟨p, l, e, R, s, m, args, below, meth, c, A, nL, Q⟩ := Z
  obtain ⟨hx, hb, hml, rfl, rfl, hown, hts, hK, hA, hN, hlocks⟩ := E
  intro H locs ls hP hD hS hl
  exact lv_if_eq hx hb d ht (fun q => kt q H locs ls hP hD hS hl) (fun q => kf q H locs ls hP hD hS hl)
theorem v_if_ne (E : EF Z D cc own rm n0) {off : Int} (tgt : Nat) {x : Int32} (d : decode cc pc = .ok (.ifCond .ne off, 3)) (ht : (pc : Int) + off = (tgt : Int)) (kt : ¬ x = 0 → V Z D kc ks wd lv st tgt) (kf : x = 0 → V Z D kc ks wd lv st (pc + 3)) : V Z D kc ks wd lv (.int x :: st) pc := by
  obtain ⟨p, l, e, R, s, m, args, below, meth, c, A, nL, Q⟩ := Z
  obtain ⟨hx, hb, hml, rfl, rfl, hown, hts, hK, hA, hN, hlocks⟩ := E
  intro H locs ls hP hD hS hl
  exact lv_if_ne hx hb d ht (fun q => kt q H locs ls hP hD hS hl) (fun q => kf q H locs ls hP hD hS hl)
theorem v_if_lt (E : EF Z D cc own rm n0) {off : Int} (tgt : Nat) {x : Int32} (d : decode cc pc = .ok (.ifCond .lt off, 3)) (ht : (pc : Int) + off = (tgt : Int)) (kt : x < 0 → V Z D kc ks wd lv st tgt) (kf : ¬ x < 0 → V Z D kc ks wd lv st (pc + 3)) : V Z D kc ks wd lv (.int x :: st) pc := by
  obtain ⟨p, l, e, R, s, m, args, below, meth, c, A, nL, Q⟩ := Z
  obtain ⟨hx, hb, hml, rfl, rfl, hown, hts, hK, hA, hN, hlocks⟩ := E
  intro H locs ls hP hD hS hl
  exact lv_if_lt hx hb d ht (fun q => kt q H locs ls hP hD hS hl) (fun q => kf q H locs ls hP hD hS hl)
theorem v_if_ge (E : EF Z D cc own rm n0) {off : Int} (tgt : Nat) {x : Int32} (d : decode cc pc = .ok (.ifCond .ge off, 3)) (ht : (pc : Int) + off = (tgt : Int)) (kt : 0 ≤ x → V Z D kc ks wd lv st tgt) (kf : ¬ 0 ≤ x → V Z D kc ks wd lv st (pc + 3)) : V Z D kc ks wd lv (.int x :: st) pc := by
  obtain ⟨p, l, e, R, s, m, args, below, meth, c, A, nL, Q⟩ := Z
  obtain ⟨hx, hb, hml, rfl, rfl, hown, hts, hK, hA, hN, hlocks⟩ := E
  intro H locs ls hP hD hS hl
  exact lv_if_ge hx hb d ht (fun q => kt q H locs ls hP hD hS hl) (fun q => kf q H locs ls hP hD hS hl)
theorem v_if_gt (E : EF Z D cc own rm n0) {off : Int} (tgt : Nat) {x : Int32} (d : decode cc pc = .ok (.ifCond .gt off, 3)) (ht : (pc : Int) + off = (tgt : Int)) (kt : 0 < x → V Z D kc ks wd lv st tgt) (kf : ¬ 0 < x → V Z D kc ks wd lv st (pc + 3)) : V Z D kc ks wd lv (.int x :: st) pc := by
  obtain ⟨p, l, e, R, s, m, args, below, meth, c, A, nL, Q⟩ := Z
  obtain ⟨hx, hb, hml, rfl, rfl, hown, hts, hK, hA, hN, hlocks⟩ := E
  intro H locs ls hP hD hS hl
  exact lv_if_gt hx hb d ht (fun q => kt q H locs ls hP hD hS hl) (fun q => kf q H locs ls hP hD hS hl)
theorem v_if_le (E : EF Z D cc own rm n0) {off : Int} (tgt : Nat) {x : Int32} (d : decode cc pc = .ok (.ifCond .le off, 3)) (ht : (pc : Int) + off = (tgt : Int)) (kt : x ≤ 0 → V Z D kc ks wd lv st tgt) (kf : ¬ x ≤ 0 → V Z D kc ks wd lv st (pc + 3)) : V Z D kc ks wd lv (.int x :: st) pc := by
  obtain ⟨p, l, e, R, s, m, args, below, meth, c, A, nL, Q⟩ := Z
  obtain ⟨hx, hb, hml, rfl, rfl, hown, hts, hK, hA, hN, hlocks⟩ := E
  intro H locs ls hP hD hS hl
  exact lv_if_le hx hb d ht (fun q => kt q H locs ls hP hD hS hl) (fun q => kf q H locs ls hP hD hS hl)
theorem v_icmp_eq (E : EF Z D cc own rm n0) {off : Int} (tgt : Nat) {x y : Int32} (d : decode cc pc = .ok (.if_icmp .eq off, 3)) (ht : (pc : Int) + off = (tgt : Int)) (kt : x = y → V Z D kc ks wd lv st tgt) (kf : ¬ x = y → V Z D kc ks wd lv st (pc + 3)) : V Z D kc ks wd lv (.int y :: .int x :: st) pc := by
  obtain ⟨p, l, e, R, s, m, args, below, meth, c, A, nL, Q⟩ := Z
  obtain ⟨hx, hb, hml, rfl, rfl, hown, hts, hK, hA, hN, hlocks⟩ := E
  intro H locs ls hP hD hS hl
  exact lv_icmp_eq hx hb d ht (fun q => kt q H locs ls hP hD hS hl) (fun q => kf q H locs ls hP hD hS hl)
theorem v_icmp_ne (E : EF Z D cc own rm n0) {off : Int} (tgt : Nat) {x y : Int32} (d : decode cc pc = .ok (.if_icmp .ne off, 3)) (ht : (pc : Int) + off = (tgt : Int)) (kt : ¬ x = y → V Z D kc ks wd lv st tgt) (kf : x = y → V Z D kc ks wd lv st (pc + 3)) : V Z D kc ks wd lv (.int y :: .int x :: st) pc := by
  obtain ⟨p, l, e, R, s, m, args, below, meth, c, A, nL, Q⟩ := Z
  obtain ⟨hx, hb, hml, rfl, rfl, hown, hts, hK, hA, hN, hlocks⟩ := E
  intro H locs ls hP hD hS hl
  exact lv_icmp_ne hx hb d ht (fun q => kt q H locs ls hP hD hS hl) (fun q => kf q H locs ls hP hD hS hl)
theorem v_icmp_lt (E : EF Z D cc own rm n0) {off : Int} (tgt : Nat) {x y : Int32} (d : decode cc pc = .ok (.if_icmp .lt off, 3)) (ht : (pc : Int) + off = (tgt : Int)) (kt : x < y → V Z D kc ks wd lv st tgt) (kf : ¬ x < y → V Z D kc ks wd lv st (pc + 3)) : V Z D kc ks wd lv (.int y :: .int x :: st) pc := by
  obtain ⟨p, l, e, R, s, m, args, below, meth, c, A, nL, Q⟩ := Z
  obtain ⟨hx, hb, hml, rfl, rfl, hown, hts, hK, hA, hN, hlocks⟩ := E
  intro H locs ls hP hD hS hl
  exact lv_icmp_lt hx hb d ht (fun q => kt q H locs ls hP hD hS hl) (fun q => kf q H locs ls hP hD hS hl)
theorem v_icmp_ge (E : EF Z D cc own rm n0) {off : Int} (tgt : Nat) {x y : Int32} (d : decode cc pc = .ok (.if_icmp .ge off, 3)) (ht : (pc : Int) + off = (tgt : Int)) (kt : y ≤ x → V Z D kc ks wd lv st tgt) (kf : ¬ y ≤ x → V Z D kc ks wd lv st (pc + 3)) : V Z D kc ks wd lv (.int y :: .int x :: st) pc := by
  obtain ⟨p, l, e, R, s, m, args, below, meth, c, A, nL, Q⟩ := Z
  obtain ⟨hx, hb, hml, rfl, rfl, hown, hts, hK, hA, hN, hlocks⟩ := E
  intro H locs ls hP hD hS hl
  exact lv_icmp_ge hx hb d ht (fun q => kt q H locs ls hP hD hS hl) (fun q => kf q H locs ls hP hD hS hl)
theorem v_icmp_gt (E : EF Z D cc own rm n0) {off : Int} (tgt : Nat) {x y : Int32} (d : decode cc pc = .ok (.if_icmp .gt off, 3)) (ht : (pc : Int) + off = (tgt : Int)) (kt : y < x → V Z D kc ks wd lv st tgt) (kf : ¬ y < x → V Z D kc ks wd lv st (pc + 3)) : V Z D kc ks wd lv (.int y :: .int x :: st) pc := by
  obtain ⟨p, l, e, R, s, m, args, below, meth, c, A, nL, Q⟩ := Z
  obtain ⟨hx, hb, hml, rfl, rfl, hown, hts, hK, hA, hN, hlocks⟩ := E
  intro H locs ls hP hD hS hl
  exact lv_icmp_gt hx hb d ht (fun q => kt q H locs ls hP hD hS hl) (fun q => kf q H locs ls hP hD hS hl)
theorem v_icmp_le (E : EF Z D cc own rm n0) {off : Int} (tgt : Nat) {x y : Int32} (d : decode cc pc = .ok (.if_icmp .le off, 3)) (ht : (pc : Int) + off = (tgt : Int)) (kt : x ≤ y → V Z D kc ks wd lv st tgt) (kf : ¬ x ≤ y → V Z D kc ks wd lv st (pc + 3)) : V Z D kc ks wd lv (.int y :: .int x :: st) pc := by
  obtain ⟨p, l, e, R, s, m, args, below, meth, c, A, nL, Q⟩ := Z
  obtain ⟨hx, hb, hml, rfl, rfl, hown, hts, hK, hA, hN, hlocks⟩ := E
  intro H locs ls hP hD hS hl
  exact lv_icmp_le hx hb d ht (fun q => kt q H locs ls hP hD hS hl) (fun q => kf q H locs ls hP hD hS hl)
theorem v_ifnonnull (E : EF Z D cc own rm n0) {x : Nat} {off : Int} (tgt : Nat) (d : decode cc pc = .ok (.ifnonnull off, 3)) (ht : (pc : Int) + off = (tgt : Int)) (k : V Z D kc ks wd lv st tgt) : V Z D kc ks wd lv (.ref x :: st) pc := by
  obtain ⟨p, l, e, R, s, m, args, below, meth, c, A, nL, Q⟩ := Z
  obtain ⟨hx, hb, hml, rfl, rfl, hown, hts, hK, hA, hN, hlocks⟩ := E
  intro H locs ls hP hD hS hl
  exact lv_ifnonnull hx hb d ht (k H locs ls hP hD hS hl)
theorem v_ifnonnullN (E : EF Z D cc own rm n0) {off : Int} (d : decode cc pc = .ok (.ifnonnull off, 3)) (k : V Z D kc ks wd lv st (pc + 3)) : V Z D kc ks wd lv (.null :: st) pc := by
  obtain ⟨p, l, e, R, s, m, args, below, meth, c, A, nL, Q⟩ := Z
  obtain ⟨hx, hb, hml, rfl, rfl, hown, hts, hK, hA, hN, hlocks⟩ := E
  intro H locs ls hP hD hS hl
  exact lv_ifnonnullN hx hb d (k H locs ls hP hD hS hl)
theorem nI_inB {i : Int32} {k n : Nat} (hi : i = nI k) (hk : k < n) (hn : Nat.ble n 2147483647 = true) : vp_in i n ∧ i.toNatClampNeg = k := by
  have h1 := Nat.le_of_ble_eq_true hn
  subst hi
  exact ⟨vp_in_nI hk (by omega), nI_clamp (by omega)⟩
theorem v_iald (E : EF Z D cc own rm n0) {a n : Nat} {f : Nat → Int32} {i : Int32} (d : decode cc pc = .ok (.iaload, 1)) (q0 : Nat) (ha : wd[q0]? = some (a, aI D n f)) (j : Nat) (hi : i = nI j) (hj : j < n) (hn : Nat.ble n 2147483647 = true) (k : V Z D kc ks wd lv (.int (f j) :: st) (pc + 1)) : V Z D kc ks wd lv (.int i :: .ref a :: st) pc := by
  obtain ⟨p, l, e, R, s, m, args, below, meth, c, A, nL, Q⟩ := Z
  obtain ⟨hx, hb, hml, rfl, rfl, hown, hts, hK, hA, hN, hlocks⟩ := E
  intro H locs ls hP hD hS hl
  obtain ⟨h1, h2⟩ := nI_inB hi hj hn
  refine va_iald hx hb hK hP q0 0 ha rfl h1 d ?_
  rw [h2]
  exact k H locs ls hP hD hS hl
theorem v_zald (E : EF Z D cc own rm n0) {a n : Nat} {f : Nat → Int32} {i : Int32} (d : decode cc pc = .ok (.baload, 1)) (q0 : Nat) (ha : wd[q0]? = some (a, aZ D n f)) (j : Nat) (hi : i = nI j) (hj : j < n) (hn : Nat.ble n 2147483647 = true) (k : V Z D kc ks wd lv (.int (f j) :: st) (pc + 1)) : V Z D kc ks wd lv (.int i :: .ref a :: st) pc := by
  obtain ⟨p, l, e, R, s, m, args, below, meth, c, A, nL, Q⟩ := Z
  obtain ⟨hx, hb, hml, rfl, rfl, hown, hts, hK, hA, hN, hlocks⟩ := E
  intro H locs ls hP hD hS hl
  obtain ⟨h1, h2⟩ := nI_inB hi hj hn
  refine va_zald hx hb hK hP q0 1 ha rfl h1 d ?_
  rw [h2]
  exact k H locs ls hP hD hS hl
theorem v_lald (E : EF Z D cc own rm n0) {a n : Nat} {f : Nat → Int64} {i : Int32} (d : decode cc pc = .ok (.laload, 1)) (q0 : Nat) (ha : wd[q0]? = some (a, aJ D n f)) (j : Nat) (hi : i = nI j) (hj : j < n) (hn : Nat.ble n 2147483647 = true) (k : V Z D kc ks wd lv (.long (f j) :: st) (pc + 1)) : V Z D kc ks wd lv (.int i :: .ref a :: st) pc := by
  obtain ⟨p, l, e, R, s, m, args, below, meth, c, A, nL, Q⟩ := Z
  obtain ⟨hx, hb, hml, rfl, rfl, hown, hts, hK, hA, hN, hlocks⟩ := E
  intro H locs ls hP hD hS hl
  obtain ⟨h1, h2⟩ := nI_inB hi hj hn
  refine va_lald hx hb hK hP q0 2 ha rfl h1 d ?_
  rw [h2]
  exact k H locs ls hP hD hS hl
theorem v_iast (E : EF Z D cc own rm n0) {a n : Nat} {f : Nat → Int32} {i : Int32} {x : Int32} (d : decode cc pc = .ok (.iastore, 1)) (q0 : Nat) (ha : wd[q0]? = some (a, aI D n f)) (j : Nat) (hi : i = nI j) (hj : j < n) (hn : Nat.ble n 2147483647 = true) (k : V Z D kc ks (wd.set q0 (a, aI D n (upd f j x))) lv st (pc + 1)) : V Z D kc ks wd lv (.int x :: .int i :: .ref a :: st) pc := by
  obtain ⟨p, l, e, R, s, m, args, below, meth, c, A, nL, Q⟩ := Z
  obtain ⟨hx, hb, hml, rfl, rfl, hown, hts, hK, hA, hN, hlocks⟩ := E
  intro H locs ls hP hD hS hl
  obtain ⟨h1, h2⟩ := nI_inB hi hj hn
  refine va_iast hx hb hK hP hD hS q0 0 ha rfl h1 d (fun H1 locs1 hP hD hS => ?_)
  rw [h2] at hP hD
  exact k H1 locs1 ls hP hD hS hl
theorem v_zast (E : EF Z D cc own rm n0) {a n : Nat} {f : Nat → Int32} {i : Int32} {x : Int32} (d : decode cc pc = .ok (.bastore, 1)) (q0 : Nat) (ha : wd[q0]? = some (a, aZ D n f)) (j : Nat) (hi : i = nI j) (hj : j < n) (hn : Nat.ble n 2147483647 = true) (k : V Z D kc ks (wd.set q0 (a, aZ D n (upd f j (vp_nar .boolean x)))) lv st (pc + 1)) : V Z D kc ks wd lv (.int x :: .int i :: .ref a :: st) pc := by
  obtain ⟨p, l, e, R, s, m, args, below, meth, c, A, nL, Q⟩ := Z
  obtain ⟨hx, hb, hml, rfl, rfl, hown, hts, hK, hA, hN, hlocks⟩ := E
  intro H locs ls hP hD hS hl
  obtain ⟨h1, h2⟩ := nI_inB hi hj hn
  refine va_zast hx hb hK hP hD hS q0 1 ha rfl h1 d (fun H1 locs1 hP hD hS => ?_)
  rw [h2] at hP hD
  exact k H1 locs1 ls hP hD hS hl
theorem v_last (E : EF Z D cc own rm n0) {a n : Nat} {f : Nat → Int64} {i : Int32} {x : Int64} (d : decode cc pc = .ok (.lastore, 1)) (q0 : Nat) (ha : wd[q0]? = some (a, aJ D n f)) (j : Nat) (hi : i = nI j) (hj : j < n) (hn : Nat.ble n 2147483647 = true) (k : V Z D kc ks (wd.set q0 (a, aJ D n (vp_updL f j x))) lv st (pc + 1)) : V Z D kc ks wd lv (.long x :: .int i :: .ref a :: st) pc := by
  obtain ⟨p, l, e, R, s, m, args, below, meth, c, A, nL, Q⟩ := Z
  obtain ⟨hx, hb, hml, rfl, rfl, hown, hts, hK, hA, hN, hlocks⟩ := E
  intro H locs ls hP hD hS hl
  obtain ⟨h1, h2⟩ := nI_inB hi hj hn
  refine va_last hx hb hK hP hD hS q0 2 ha rfl h1 d (fun H1 locs1 hP hD hS => ?_)
  rw [h2] at hP hD
  exact k H1 locs1 ls hP hD hS hl
theorem v_gald (E : EF Z D cc own rm n0) {a n : Nat} {f : Nat → Option Nat} {i : Int32} (d : decode cc pc = .ok (.aaload, 1)) (q0 : Nat) (ha : wd[q0]? = some (a, aG D n f)) (j : Nat) (hi : i = nI j) (hj : j < n) (hn : Nat.ble n 2147483647 = true) (k : V Z D kc ks wd lv (va_rf (f j) :: st) (pc + 1)) : V Z D kc ks wd lv (.int i :: .ref a :: st) pc := by
  obtain ⟨p, l, e, R, s, m, args, below, meth, c, A, nL, Q⟩ := Z
  obtain ⟨hx, hb, hml, rfl, rfl, hown, hts, hK, hA, hN, hlocks⟩ := E
  intro H locs ls hP hD hS hl
  obtain ⟨h1, h2⟩ := nI_inB hi hj hn
  have hlt : i.toNatClampNeg < n := by rw [h2]; exact hj
  refine W.aald (v := va_rf (f i.toNatClampNeg)) (ty := .array .int) hx hb (hP q0 _ ha) ((hK.2 3 (D.1 11, .array .int) rfl).1 n (fun j => va_rf (f j))) rfl (fun q => by cases q) (by show ¬ (i < 0 ∨ (arrV _ _ _).slots.size ≤ _); rw [arrV_size]; exact h1) (by show (arrV _ _ _).slots[_]? = _; rw [arrV_read _ _ hlt]) rfl rfl d ?_
  rw [h2]
  exact k H locs ls hP hD hS hl
theorem v_sald (E : EF Z D cc own rm n0) {a n : Nat} {f : Nat → Option Nat} {i : Int32} (d : decode cc pc = .ok (.aaload, 1)) (q0 : Nat) (ha : wd[q0]? = some (a, aS D n f)) (j : Nat) (hi : i = nI j) (hj : j < n) (hn : Nat.ble n 2147483647 = true) (k : V Z D kc ks wd lv (va_rf (f j) :: st) (pc + 1)) : V Z D kc ks wd lv (.int i :: .ref a :: st) pc := by
  obtain ⟨p, l, e, R, s, m, args, below, meth, c, A, nL, Q⟩ := Z
  obtain ⟨hx, hb, hml, rfl, rfl, hown, hts, hK, hA, hN, hlocks⟩ := E
  intro H locs ls hP hD hS hl
  obtain ⟨h1, h2⟩ := nI_inB hi hj hn
  refine va_aldq hx hb hK hP q0 4 ha rfl h1 d ?_
  rw [h2]
  exact k H locs ls hP hD hS hl
theorem v_sast (E : EF Z D cc own rm n0) {a n v : Nat} {f : Nat → Option Nat} {vs : List Value} {i : Int32} (d : decode cc pc = .ok (.aastore, 1)) (q0 : Nat) (ha : wd[q0]? = some (a, aS D n f)) (qk : Nat) (hv : wd[qk]? = some (v, .inr (4, vs))) (j : Nat) (hi : i = nI j) (hj : j < n) (hn : Nat.ble n 2147483647 = true) (k : V Z D kc ks (wd.set q0 (a, aS D n (va_up f j (some v)))) lv st (pc + 1)) : V Z D kc ks wd lv (.ref v :: .int i :: .ref a :: st) pc := by
  obtain ⟨p, l, e, R, s, m, args, below, meth, c, A, nL, Q⟩ := Z
  obtain ⟨hx, hb, hml, rfl, rfl, hown, hts, hK, hA, hN, hlocks⟩ := E
  intro H locs ls hP hD hS hl
  obtain ⟨h1, h2⟩ := nI_inB hi hj hn
  refine va_astq (r := (RX4, TX4, 3)) hx hb hK hP hD hS q0 4 qk 4 ha rfl hv rfl h1 d (fun H1 locs1 hP hD hS => ?_)
  rw [h2] at hP hD
  exact k H1 locs1 ls hP hD hS hl
theorem v_alen (E : EF Z D cc own rm n0) {a n : Nat} {f : Nat → Int32} {v : Int32} (d : decode cc pc = .ok (.arraylength, 1)) (q0 : Nat) (ha : wd[q0]? = some (a, aI D n f)) (hv : nI n = v) (k : V Z D kc ks wd lv (.int v :: st) (pc + 1)) : V Z D kc ks wd lv (.ref a :: st) pc := by
  obtain ⟨p, l, e, R, s, m, args, below, meth, c, A, nL, Q⟩ := Z
  obtain ⟨hx, hb, hml, rfl, rfl, hown, hts, hK, hA, hN, hlocks⟩ := E
  intro H locs ls hP hD hS hl
  exact va_alen hx hb hK hP q0 0 ha (ty := .int) rfl hv d (k H locs ls hP hD hS hl)
theorem v_get (E : EF Z D cc own rm n0) {a ci N index : Nat} {C : String} {T : u_T} {fs : List Value} {v : Value} (d : decode cc pc = .ok (.getfield index, 3)) (hc : clX[ci]? = some (C, T, N)) (hin : ∀ w ∈ u_ws C T N, w ∈ lwg) (q0 : Nat) (he : wd[q0]? = some (a, .inr (ci, fs))) (j : Nat) (hj : Nat.ble (j + 1) N = true) (hw : Cond.fieldLink own index (T j).1 (T j).2.1 (T j).2.2.1 ∈ lwg) (hv : fs[j]? = some v) (k : V Z D kc ks wd lv (v :: st) (pc + 3)) : V Z D kc ks wd lv (.ref a :: st) pc := by
  obtain ⟨p, l, e, R, s, m, args, below, meth, c, A, nL, Q⟩ := Z
  obtain ⟨hx, hb, hml, rfl, rfl, hown, hts, hK, hA, hN, hlocks⟩ := E
  intro H locs ls hP hD hS hl
  exact va_get hx hb hts hin hown hK hP q0 he hc j (Nat.le_of_ble_eq_true hj) (hts _ hw) (fun _ h9 => h9) hv d (k H locs ls hP hD hS hl)
theorem v_put (E : EF Z D cc own rm n0) {a ci N index : Nat} {C : String} {T : u_T} {fs : List Value} {v : Value} {ty : FieldType} (d : decode cc pc = .ok (.putfield index, 3)) (hc : clX[ci]? = some (C, T, N)) (hin : ∀ w ∈ u_ws C T N, w ∈ lwg) (ty0 : Nat → FieldType) (hty : ∀ k, k < N → parseFieldDescriptor (T k).2.2.1 = some (ty0 k)) (hnm : ∀ a, a < N → ∀ b, b < N → a ≠ b → (T a).2.1 ≠ (T b).2.1) (q0 : Nat) (he : wd[q0]? = some (a, .inr (ci, fs))) (j : Nat) (hj : Nat.ble (j + 1) N = true) (hw : Cond.fieldLink own index (T j).1 (T j).2.1 (T j).2.2.1 ∈ lwg) (hfin : (T j).2.2.2 = false) (ht : ty0 j = ty) (hn : narrow ty v = v) (hfit : fits ty v = true) (hl0 : Nat.ble (j + 1) fs.length = true) (k : V Z D kc ks (wd.set q0 (a, .inr (ci, fs.set j v))) lv st (pc + 3)) : V Z D kc ks wd lv (v :: .ref a :: st) pc := by
  obtain ⟨p, l, e, R, s, m, args, below, meth, c, A, nL, Q⟩ := Z
  obtain ⟨hx, hb, hml, rfl, rfl, hown, hts, hK, hA, hN, hlocks⟩ := E
  intro H locs ls hP hD hS hl
  exact va_put hx hb hts hin ty0 hty hnm hown hK hP hD hS q0 he hc j (Nat.le_of_ble_eq_true hj) (hts _ hw) (fun _ h9 => h9) hfin (by rw [← ht]; exact hty j (Nat.le_of_ble_eq_true hj)) hn hfit (Nat.le_of_ble_eq_true hl0) d (fun H1 locs1 hP hD hS => k H1 locs1 ls hP hD hS hl)
def InitZ (Z : BX) : Prop := match Z with
  | (p, l, e, R, s, m, args, below, meth, c, A, nL, Q) => meth.name = "<init>"
theorem v_putF (E : EF Z D cc own rm n0) (I : InitZ Z) {a ci N index : Nat} {C : String} {T : u_T} {fs : List Value} {v : Value} {ty : FieldType} (d : decode cc pc = .ok (.putfield index, 3)) (hc : clX[ci]? = some (C, T, N)) (hin : ∀ w ∈ u_ws C T N, w ∈ lwg) (ty0 : Nat → FieldType) (hty : ∀ k, k < N → parseFieldDescriptor (T k).2.2.1 = some (ty0 k)) (hnm : ∀ a, a < N → ∀ b, b < N → a ≠ b → (T a).2.1 ≠ (T b).2.1) (q0 : Nat) (he : wd[q0]? = some (a, .inr (ci, fs))) (j : Nat) (hj : Nat.ble (j + 1) N = true) (hw : Cond.fieldLink own index (T j).1 (T j).2.1 (T j).2.2.1 ∈ lwg) (hfin : (T j).2.2.2 = true) (hdc : (T j).1 = own) (ht : ty0 j = ty) (hn : narrow ty v = v) (hfit : fits ty v = true) (hl0 : Nat.ble (j + 1) fs.length = true) (k : V Z D kc ks (wd.set q0 (a, .inr (ci, fs.set j v))) lv st (pc + 3)) : V Z D kc ks wd lv (v :: .ref a :: st) pc := by
  obtain ⟨p, l, e, R, s, m, args, below, meth, c, A, nL, Q⟩ := Z
  obtain ⟨hx, hb, hml, rfl, rfl, hown, hts, hK, hA, hN, hlocks⟩ := E
  intro H locs ls hP hD hS hl
  exact va_putF hx hb hts hin ty0 hty hnm hown hK hP hD hS q0 he hc j (Nat.le_of_ble_eq_true hj) (hts _ hw) (fun _ h9 => h9) hfin I hdc (by rw [← ht]; exact hty j (Nat.le_of_ble_eq_true hj)) hn hfit (Nat.le_of_ble_eq_true hl0) d (fun H1 locs1 hP hD hS => k H1 locs1 ls hP hD hS hl)
theorem v_widen {c1 s1 : Nat} (h1 : kc ≤ c1) (h2 : ks ≤ s1) (k : V Z D c1 s1 wd lv st pc) : V Z D kc ks wd lv st pc := by
  obtain ⟨p, l, e, R, s, m, args, below, meth, c, A, nL, Q⟩ := Z
  intro H locs ls hP hD hS hl
  exact W.widen h1 h2 (k H locs ls hP hD hS hl)
theorem va_atC {ws wc : va_W} {isC : List Nat} (hC : isC.map (fun i => ws[i]?) = wc.map some) (k : Nat) (q : Nat × va_E) (hq : wc[k]? = some q) : ∃ i, isC[k]? = some i ∧ ws[i]? = some q := by
  have z := congrArg (fun l => l[k]?) hC
  simpa [List.getElem?_map, hq] using z
theorem va_P.subm {D : va_G} {cl : List vw_C} {ws ws' : va_W} {H : Heap} (h : va_P D cl ws H) (is : List Nat) (hs : is.map (fun i => ws[i]?) = ws'.map some) : va_P D cl ws' H := fun k q hk => (va_atC hs k q hk).elim fun i hi => h i q hi.2
theorem v_sub {wd' : va_W} (is : List Nat) (hn : va_nd is = true) (hs : is.map (fun i => wd[i]?) = wd'.map some) (k : V Z D kc ks wd' lv st pc) : V Z D kc ks wd lv st pc := by
  obtain ⟨p, l, e, R, s, m, args, below, meth, c, A, nL, Q⟩ := Z
  intro H locs ls hP hD hS hl
  exact k H locs ls (hP.subm is hs) (hD.sub is hn hs) hS hl
theorem v_lv {lv' : List (Option Value)} (h : ∀ (i : Nat) (v : Value), lv'[i]? = some (some v) → lv[i]? = some (some v)) (k : V Z D kc ks wd lv' st pc) : V Z D kc ks wd lv st pc := by
  obtain ⟨p, l, e, R, s, m, args, below, meth, c, A, nL, Q⟩ := Z
  intro H locs ls hP hD hS hl
  exact k H locs ls hP hD hS ⟨hl.1, hl.2.1, fun i v hi => hl.2.2 i v (h i v hi)⟩
theorem v_iret (E : EF Z D cc own rm n0) {S : Type} {post : Int32 → S → Prop} {W1 : S → va_W} {mc ms : Nat} {rt : Option FieldType} (F : RQ Z (QI D post W1) mc ms rt) {x : Int32} {ty : FieldType} (d : decode cc pc = .ok (.ireturn, 1)) (hrt : rt = some ty) (hnr : narrow ty (.int x) = .int x) (u : S) (hp : post x u) (hw : W1 u = wd) (h1 : kc ≤ mc) (h2 : ks ≤ ms) : V Z D kc ks wd lv [.int x] pc := by
  obtain ⟨p, l, e, R, s, m, args, below, meth, c, A, nL, Q⟩ := Z
  obtain ⟨hx, hb, hml, rfl, rfl, hown, hts, hK, hA, hN, hlocks⟩ := E
  obtain ⟨rfl, hr, -⟩ := F
  intro H locs ls hP hD hS hl
  subst hw
  refine W.widen h1 h2 ?_
  exact W.zret hx hb (hr.trans hrt) hnr (fun t ht hW => ⟨⟨x, u, rfl, hp, by rw [ht]; exact hP, hD⟩, hS.F ht⟩) hS.2.2 d hlocks
theorem v_lret (E : EF Z D cc own rm n0) {S : Type} {post : Int64 → S → Prop} {W1 : S → va_W} {mc ms : Nat} {rt : Option FieldType} (F : RQ Z (QL D post W1) mc ms rt) {x : Int64} (d : decode cc pc = .ok (.lreturn, 1)) (hrt : rt = some .long) (u : S) (hp : post x u) (hw : W1 u = wd) (h1 : kc ≤ mc) (h2 : ks ≤ ms) : V Z D kc ks wd lv [.long x] pc := by
  obtain ⟨p, l, e, R, s, m, args, below, meth, c, A, nL, Q⟩ := Z
  obtain ⟨hx, hb, hml, rfl, rfl, hown, hts, hK, hA, hN, hlocks⟩ := E
  obtain ⟨rfl, hr, -⟩ := F
  intro H locs ls hP hD hS hl
  subst hw
  refine W.widen h1 h2 ?_
  exact W.lret hx hb (hr.trans hrt) (fun t ht hW => ⟨⟨x, u, rfl, hp, by rw [ht]; exact hP, hD⟩, hS.F ht⟩) hS.2.2 d hlocks
theorem v_vret (E : EF Z D cc own rm n0) {S : Type} {post : S → Prop} {W1 : S → va_W} {mc ms : Nat} {rt : Option FieldType} (F : RQ Z (QV D post W1) mc ms rt) (d : decode cc pc = .ok (.return_, 1)) (hrt : rt = none) (u : S) (hp : post u) (hw : W1 u = wd) (h1 : kc ≤ mc) (h2 : ks ≤ ms) : V Z D kc ks wd lv [] pc := by
  obtain ⟨p, l, e, R, s, m, args, below, meth, c, A, nL, Q⟩ := Z
  obtain ⟨hx, hb, hml, rfl, rfl, hown, hts, hK, hA, hN, hlocks⟩ := E
  obtain ⟨rfl, hr, -⟩ := F
  intro H locs ls hP hD hS hl
  subst hw
  refine W.widen h1 h2 ?_
  exact W.vret hx hb (hr.trans hrt) (fun t ht hW => ⟨⟨u, rfl, hp, by rw [ht]; exact hP, hD⟩, hS.F ht⟩) hS.2.2 d hlocks
end VROWS
