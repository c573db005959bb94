/-! the states behind n turns, and what they hold -/
def mt_f (o n : Nat) : Nat → Option Nat := fun j => if j < n then some (o + 1 + j) else none
theorem mt_f0 (o : Nat) : mt_f o 0 = fun _ => none := rfl
theorem mt_fs (o n : Nat) : va_up (mt_f o n) n (some (o + 1 + n)) = mt_f o (n + 1) := by
  funext j
  simp only [va_up, mt_f]
  by_cases h : j = n
  · subst h
    simp
  · rw [if_neg h]
    by_cases h2 : j < n
    · rw [if_pos h2, if_pos (by omega)]
    · rw [if_neg h2, if_neg (by omega)]
def mt_st (cO cR : ClassId) (S : State) : Nat → State
  | 0 => S.pushCell (mt_out cO (fun _ => none))
  | n + 1 => mt_turn cO cR S.heap.size (mt_f S.heap.size n) n (mt_st cO cR S n)
theorem mt_size (cO cR : ClassId) (S : State) : ∀ n : Nat, (mt_st cO cR S n).heap.size = S.heap.size + 1 + n
  | 0 => size_pushCell _ _
  | n + 1 => by
    show (State.setCell _ _ _).heap.size = _
    rw [size_setCell, size_pushCell, mt_size cO cR S n]
    omega
theorem mt_vm (cO cR : ClassId) (S : State) : ∀ n : Nat, (mt_st cO cR S n).vm = S.vm
  | 0 => rfl
  | n + 1 => mt_vm cO cR S n
theorem mt_used (cO cR : ClassId) (S : State) : ∀ n : Nat, (mt_st cO cR S n).slotsUsed = S.slotsUsed + 4 + 20 * n
  | 0 => congrArg (S.slotsUsed + ·) (arrV_size cO 4 _)
  | n + 1 => by
    show (mt_st cO cR S n).slotsUsed + (arrV cR 20 _).slots.size = _
    rw [mt_used cO cR S n, arrV_size]
    omega
theorem mt_cell (cO cR : ClassId) (S : State) : ∀ n : Nat, (mt_st cO cR S n).heap[S.heap.size]? = some (mt_out cO (mt_f S.heap.size n))
  | 0 => Array.getElem?_push_size
  | n + 1 => by
    have hlt : S.heap.size < ((mt_st cO cR S n).pushCell (mt_row cR)).heap.size := by
      rw [size_pushCell, mt_size]
      omega
    refine (heapAt_setCell_self _ hlt).trans ?_
    rw [mt_size, mt_fs]
theorem mt_top (cO cR : ClassId) (S : State) (g : JFrame) : ∀ n : Nat, mt_st cO cR (S.setTop g) n = (mt_st cO cR S n).setTop g
  | 0 => rfl
  | n + 1 => by
    show mt_turn cO cR S.heap.size (mt_f S.heap.size n) n (mt_st cO cR (S.setTop g) n) = _
    rw [mt_top cO cR S g n]
    rfl
def mt_rows (D : va_G) (o n : Nat) : va_W := (List.range n).map fun j => (o + 1 + j, aI D 20 (fun _ => 0))
theorem mt_rows_succ (D : va_G) (o n : Nat) : mt_rows D o (n + 1) = mt_rows D o n ++ [(o + 1 + n, aI D 20 (fun _ => 0))] := by
  simp [mt_rows, List.range_succ]
section MWALK
variable {p : Program} {l : Launch} {e : Env} {R : Room} {s : State} {m : MethodId} {args : Array Value} {below : List Frame} {meth : Method} {c : Code} {U : State} {locs : List Loc} {kc ks : Nat} {A : Nat → Prop} {D : va_G} {wd : va_W}
theorem mt_walk (X : Stand p l e R s m args below meth c U locs kc ks) (hP : va_P D clX wd U.heap) (hD : va_D A wd) (hS : va_S A s.heap U.heap locs) (hA : ∀ q, s.heap.size ≤ q → A q) :
    ∀ n : Nat, ∃ locs1 : List Loc, Stand p l e R s m args below meth c (mt_st (D.1 11) (D.1 8) U n) locs1 (kc + 1 + n) (ks + 4 + 20 * n) ∧ va_P D clX (wd ++ (U.heap.size, aG D 4 (mt_f U.heap.size n)) :: mt_rows D U.heap.size n) (mt_st (D.1 11) (D.1 8) U n).heap ∧
      va_D A (wd ++ (U.heap.size, aG D 4 (mt_f U.heap.size n)) :: mt_rows D U.heap.size n) ∧ va_S A s.heap (mt_st (D.1 11) (D.1 8) U n).heap locs1
  | 0 => by
    have X0 := X.pushed (mt_out (D.1 11) (fun _ => none))
    rw [show (mt_out (D.1 11) (fun _ => none)).slots.size = 4 from arrV_size _ _ _] at X0
    exact ⟨locs, X0, mt_P hP Array.getElem?_push_size, hD.push hP rfl (hA _ hS.1), mt_S hS⟩
  | n + 1 => by
    obtain ⟨locs1, X1, P1, D1, S1⟩ := mt_walk X hP hD hS hA n
    obtain ⟨X2, P2, D2, S2⟩ := mt_world X1 P1 D1 S1 hA n
    rw [mt_size, mt_fs, ← mt_rows_succ] at P2 D2
    exact ⟨_, X2, P2, D2, S2⟩
end MWALK
section MWP2
variable {E : CtlPost} {e : Env} {d : Bool} {acts : List Action} {S : State}
theorem mt_store {cO cR : ClassId} {kO : Class} {o i : Nat} {f : Nat → Option Nat} (hO : S.vm.classes[cO]? = some kO) (kindO : kO.kind = .array cR (.array .int)) (ho : S.heap[o]? = some (mt_out cO f)) (hi : i < 4) {Q : Unit → Pre} (hq : ∀ d' acts', Q () d' acts' (mt_turn cO cR o f i S)) : wp (Jvm.writeLoc o i (.ref S.heap.size)) Q E e d acts (S.pushCell (mt_row cR)) := by
  rw [W.writeLoc]
  have hlt : o < S.heap.size := (Array.getElem?_eq_some_iff.mp ho).1
  have h1 : (S.pushCell (mt_row cR)).heap[o]? = some (mt_out cO f) := by
    show (S.heap.push _)[o]? = _
    rw [Array.getElem?_push_lt hlt, ← Array.getElem?_eq_getElem hlt, ho]
  refine ⟨_, h1, (by intro h; cases h), ?_, ?_, ?_⟩
  · show i < (arrV cO 4 _).slots.size
    rw [arrV_size]
    exact hi
  · show (S.pushCell (mt_row cR)).fitsSlot cO .none i (.ref S.heap.size) = true
    simp [State.fitsSlot, State.slotType?, hO, kindO, fits]
  · rw [mt_set]
    exact hq _ _
theorem mt_loop {cO cR comp : ClassId} {kO kR : Class} (hO : S.vm.classes[cO]? = some kO) (kindO : kO.kind = .array cR (.array .int)) (hR : S.vm.classes[cR]? = some kR) (kindR : kR.kind = .array comp .int) (hl : ¬ 20 > e.platform.arrayLengthLimit) (hh : ¬ 20 * componentBytes .int > e.platform.maxHeapBytes) (hc : S.heap.size + 5 ≤ e.platform.maxCells) (hs : S.slotsUsed + 84 ≤ e.platform.maxSlots) {Q : PUnit → Pre} :
    ∀ (r n : Nat) (d : Bool) (acts : List Action), n + r = 4 → (∀ d' acts', Q PUnit.unit d' acts' (mt_st cO cR S 4)) →
      wp (forIn (List.range' n r) PUnit.unit fun i _ => do
        let x ← Op.multianewarray.make cR [20]
        Jvm.writeLoc S.heap.size i (.ref x)
        Pure.pure (ForInStep.yield PUnit.unit)) Q E e d acts (mt_st cO cR S n)
  | 0, n, d, acts, hn, hq => by
    obtain rfl : n = 4 := by omega
    exact hq d acts
  | r + 1, n, d, acts, hn, hq => by
    rw [List.range'_succ, List.forIn_cons]
    rw [wp_bind', wp_bind']
    refine mt_make1 (by rw [mt_vm]; exact hR) kindR hl hh (by rw [mt_size]; omega) (by rw [mt_used]; omega) fun a0 => ?_
    rw [wp_bind']
    refine mt_store (f := mt_f S.heap.size n) (by rw [mt_vm]; exact hO) kindO (mt_cell cO cR S n) (by omega) fun d1 a1 => ?_
    exact mt_loop hO kindO hR kindR hl hh hc hs r (n + 1) d1 a1 (by omega) hq
theorem mt_make2 {cO cR comp : ClassId} {kO kR : Class} (hO : S.vm.classes[cO]? = some kO) (kindO : kO.kind = .array cR (.array .int)) (hR : S.vm.classes[cR]? = some kR) (kindR : kR.kind = .array comp .int) (hl : ¬ 20 > e.platform.arrayLengthLimit) (hh : ¬ 20 * componentBytes .int > e.platform.maxHeapBytes) (hc : S.heap.size + 5 ≤ e.platform.maxCells) (hs : S.slotsUsed + 84 ≤ e.platform.maxSlots)
    {Q : Addr → Pre} (hq : ∀ d' acts', Q S.heap.size d' acts' (mt_st cO cR S 4)) : wp (Op.multianewarray.make cO [4, 20]) Q E e d acts S := by
  have n0 : ¬ (4 : Int32) < 0 := by decide
  have n1 : (4 : Int32).toNatClampNeg = 4 := by decide
  have n2 : ((4 : Int32) == 0) = false := by decide
  have b : componentBytes (.array .int) = componentBytes .int := by decide
  rw [Op.multianewarray.make]
  simp only [n0, if_false, wp_bind', wp_pure', W.theClass, hO, Option.some.injEq, exists_eq_left', kindO, n1, n2, Bool.false_eq_true]
  refine W.newArray_of hO kindO (by omega) (by rw [b]; omega) (by omega) (by omega) rfl fun a' => ?_
  rw [arrV_new, wp_bind', Std.Legacy.Range.forIn_eq_forIn_range']
  exact mt_loop hO kindO hR kindR hl hh hc hs 4 0 d a' rfl fun d1 a1 => hq d1 a1
end MWP2
theorem mt_g (o : Nat) : mt_f o 4 = gU (fun j => o + 1 + j) 0 := by
  funext j
  simp only [mt_f, gU, Nat.zero_add]
theorem v_mna {Z : BX} {D : va_G} {kc ks : Nat} {wd : va_W} {lv : List (Option Value)} {st : List Value} {pc : Nat} {cc : ByteArray} {own : String} {rm : Room} {n0 : Nat} (E : EF Z D cc own rm n0) {idx : Nat} (d : decode cc pc = .ok (.multianewarray idx 2, 4)) (hw : Cond.classLink own idx "[[I" ∈ lwg) (h1 : kc + 5 ≤ rm.cells) (h2 : ks + 84 ≤ rm.slots)
    (k : ∀ (a : Nat) (r : Nat → Nat), V Z D (kc + 5) (ks + 84) (wd ++ [(a, aG D 4 (gU r 0)), (r 0, aI D 20 (fun _ => 0)), (r 1, aI D 20 (fun _ => 0)), (r 2, aI D 20 (fun _ => 0)), (r 3, aI D 20 (fun _ => 0))]) lv (.ref a :: st) (pc + 4)) : V Z D kc ks wd lv (.int 20 :: .int 4 :: st) pc := by
  obtain ⟨p, l, e, R, s, m, args, below, meth, c, A, nL, Q⟩ := Z
  obtain ⟨hx, hb, hml, rfl, rfl, hown, hts, hK, hA, hN, hlocks⟩ := E
  intro H locs ls hP hD hS hl T hT X
  subst hT
  obtain ⟨cR, cO, kO, fR, -, gO, kindO, fO⟩ := vq_spec hN.2.2
  have e11 : s.vm.findClass ("[" ++ (FieldType.array .int).toString) = some (D.1 11) := (hK.2 3 (D.1 11, .array .int) rfl).2
  have e8 : s.vm.findClass (FieldType.array .int).toString = some (D.1 8) := (hK.2 0 (D.1 8, .int) rfl).2
  obtain rfl : cO = D.1 11 := Option.some.inj (fO.symm.trans e11)
  obtain rfl : cR = D.1 8 := Option.some.inj (fR.symm.trans e8)
  obtain ⟨-, kR, gR, comp, kindR⟩ := (hK.2 0 (D.1 8, .int) rfl).1 0 (fun _ => .null)
  obtain ⟨cL, fL, hL⟩ := Cond.classLink_spec hown (hts _ hw) e.platform (by rw [X.admits.platform])
  obtain rfl : cL = D.1 11 := Option.some.inj (fL.symm.trans e11)
  obtain ⟨w1, w2, w3⟩ := State.classEntry (e := e) X.warmed hL
  generalize T.vm.noted m.cls idx (.cls (D.1 11)) = vm1 at w1 w2 w3
  obtain ⟨kO', gO', xO⟩ := w2.alike.2.2 _ _ gO
  obtain ⟨kR', gR', xR⟩ := w2.alike.2.2 _ _ gR
  have X1 := X.noted w2
  obtain ⟨locs4, X4, P4, D4, S4⟩ := mt_walk X1 hP hD hS hA 4
  rw [mt_g] at P4 D4
  obtain ⟨t, z1, z2⟩ := k T.heap.size (fun j => T.heap.size + 1 + j) _ locs4 ls P4 D4 S4 hl _ rfl X4
  refine ⟨t, ?_, z2⟩
  refine Steps.instr (f := F0 m pc ls (.int 20 :: .int 4 :: st)) (c := c) X.here ?_
  have d' : decode c.code (F0 m pc ls (.int 20 :: .int 4 :: st)).pc = .ok (.multianewarray idx 2, 4) := by
    rw [hb]
    exact d
  rw [d']
  show wpRun (p.tables.exec (.multianewarray idx 2)) _ _ e _
  rw [hx]
  show wp (Op.multianewarray.sem idx 2) _ _ e false [] (T.setTop (F0 m pc ls (.int 20 :: .int 4 :: st)))
  unfold Op.multianewarray.sem
  rw [wp_bind', W.resolveClassAt_transfer (s := T.setTop (F0 m pc ls (.int 20 :: .int 4 :: st))) (State.method?_setTop _ X.here.top) w1 w3, W.resolveClassAt_ready (s := (T.setTop (F0 m pc ls (.int 20 :: .int 4 :: st))).setVm vm1) (State.method?_setTop _ X.here.top) w3, wp_bind']
  refine (popN_top (s := T.setVm vm1) (f := F0 m pc ls (.int 20 :: .int 4 :: st)) (args := [.int 4, .int 20]) (rest := st) X1.here.top rfl).mpr ?_
  simp only [List.mapM, List.mapM.loop, wp_bind', wp_pure']
  have r1 := X1.roomAbove h1 h2
  have lim : ¬ 20 > e.platform.arrayLengthLimit := by
    rw [Launch.admits_arrayLengthLimit X.admits]
    decide
  have wide : ¬ 20 * componentBytes .int > e.platform.maxHeapBytes := by
    rw [Launch.admits_maxHeapBytes X.admits]
    decide
  refine mt_make2 (S := (T.setVm vm1).setTop (F0 m pc ls st)) (cO := D.1 11) (cR := D.1 8) (kO := kO') (kR := kR') (comp := comp) gO' (by rw [xO]; exact kindO) gR' (by rw [xR]; exact kindR) lim wide r1.1 r1.2 fun d1 a1 => ?_
  rw [mt_top, wp_bind', W.mark, W.pushRef]
  refine ⟨_, State.topJava?_setTop' _ X4.here.top, fun a2 => ?_⟩
  rw [State.setTop_setTop, afterInstr_ok]
  exact z1
