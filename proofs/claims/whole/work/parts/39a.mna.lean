/-! new int[4][20], out of the machine's own words: one array of four rows, then row by row -/
def mO (c : ClassId) (h i : Nat) : Cell := arrV c 4 (fun j => va_rf (if j < i then some (h + 1 + j) else none))
def mI (c : ClassId) : Cell := arrV c 20 (fun _ => .int 0)
def mF (S : State) (c d : ClassId) : Nat → State
  | 0 => S.pushCell (mO c S.heap.size 0)
  | i + 1 => ((mF S c d i).pushCell (mI d)).setCell S.heap.size (mO c S.heap.size (i + 1))
theorem mO_0 (c : ClassId) (h : Nat) : ({ cls := c, slots := Array.replicate 4 .null, vm := .none } : Cell) = mO c h 0 := by
  rw [arrV_new]
  unfold mO
  refine congrArg (arrV c 4) (funext fun j => ?_)
  rw [if_neg (Nat.not_lt_zero j)]
  rfl
theorem mO_s (c : ClassId) (h i : Nat) : (mO c h i).setSlot i (.ref (h + 1 + i)) = mO c h (i + 1) := by
  unfold mO
  rw [arrV_store]
  refine congrArg (arrV c 4) (funext fun j => ?_)
  unfold updV
  by_cases e : j = i
  · rw [if_pos e, e, if_pos (Nat.lt_succ_self i)]
    rfl
  · rw [if_neg e]
    dsimp only
    by_cases g : j < i
    · rw [if_pos g, if_pos (by omega)]
    · rw [if_neg g, if_neg (by omega)]
theorem mI_0 (c : ClassId) : ({ cls := c, slots := Array.replicate 20 (.int 0), vm := .none } : Cell) = mI c := arrV_new c 20 (.int 0)
theorem mO_z (c : ClassId) (h i : Nat) : (mO c h i).slots.size = 4 := arrV_size _ _ _
theorem mI_z (c : ClassId) : (mI c).slots.size = 20 := arrV_size _ _ _
theorem mF_f (S : State) (c d : ClassId) : ∀ i, (mF S c d i).heap.size = S.heap.size + 1 + i ∧ (mF S c d i).heap[S.heap.size]? = some (mO c S.heap.size i) ∧ (mF S c d i).vm = S.vm ∧ (mF S c d i).slotsUsed = S.slotsUsed + 4 + 20 * i
  | 0 => ⟨by simp [mF], by simp [mF], rfl, by show S.slotsUsed + (mO c S.heap.size 0).slots.size = _; rw [mO_z]⟩
  | i + 1 => by
    obtain ⟨a, b, v, u⟩ := mF_f S c d i
    have lt : S.heap.size < (mF S c d i).heap.size := by omega
    have b2 : ((mF S c d i).pushCell (mI d)).heap[S.heap.size]? = some (mO c S.heap.size i) := by
      rw [State.heap_pushCell_of_lt (h := lt)]
      exact b
    refine ⟨?_, State.heap_setCell_self b2, by simp [mF, v], ?_⟩
    · simp [mF, State.setCell, a]
      omega
    · simp [mF, u, mI_z]
      omega
theorem mF_old (S : State) (c d : ClassId) {a : Nat} (ha : a < S.heap.size) : ∀ i, (mF S c d i).heap[a]? = S.heap[a]?
  | 0 => State.heap_pushCell_of_lt S _ ha
  | i + 1 => by
    have f1 := (mF_f S c d i).1
    have lt : a < (mF S c d i).heap.size := by omega
    show (((mF S c d i).pushCell (mI d)).setCell S.heap.size _).heap[a]? = _
    rw [State.heap_setCell_other (Nat.ne_of_gt ha), State.heap_pushCell_of_lt (h := lt)]
    exact mF_old S c d ha i
theorem mF_row (S : State) (c d : ClassId) : ∀ i j, j < i → (mF S c d i).heap[S.heap.size + 1 + j]? = some (mI d)
  | 0, _, h => absurd h (Nat.not_lt_zero _)
  | i + 1, j, h => by
    have f1 := (mF_f S c d i).1
    show (((mF S c d i).pushCell (mI d)).setCell S.heap.size _).heap[S.heap.size + 1 + j]? = _
    rw [State.heap_setCell_other (show S.heap.size ≠ S.heap.size + 1 + j by omega)]
    by_cases e : j = i
    · subst e
      rw [← f1]
      exact State.heap_pushCell_size _ _
    · have lt : S.heap.size + 1 + j < (mF S c d i).heap.size := by omega
      rw [State.heap_pushCell_of_lt (h := lt)]
      exact mF_row S c d i j (by omega)
theorem mF_top (S : State) (f : JFrame) (c d : ClassId) : ∀ i, mF (S.setTop f) c d i = (mF S c d i).setTop f
  | 0 => rfl
  | i + 1 => by
    show ((mF (S.setTop f) c d i).pushCell (mI d)).setCell S.heap.size (mO c S.heap.size (i + 1)) = _
    rw [mF_top S f c d i]
    rfl
theorem mF_st {p : Program} {l : Launch} {e : Env} {R : Room} {s : State} {m : MethodId} {args : Array Value} {below : List Frame} {meth : Method} {co : Code} {T : State} {locs : List Loc} {cells slots : Nat} (X : Stand p l e R s m args below meth co T locs cells slots) (c d : ClassId) : ∀ i, Stand p l e R s m args below meth co (mF T c d i) (locs ++ (List.range i).map (fun j => (⟨T.heap.size, j⟩ : Loc))) (cells + 1 + i) (slots + 4 + 20 * i)
  | 0 => by
    have h := X.pushed (mO c T.heap.size 0)
    rw [mO_z] at h
    rw [List.range_zero, List.map_nil, List.append_nil]
    exact h
  | i + 1 => by
    obtain ⟨a, b, _, _⟩ := mF_f T c d i
    have b2 : ((mF T c d i).pushCell (mI d)).heap[T.heap.size]? = some (mO c T.heap.size i) := by
      have lt : T.heap.size < (mF T c d i).heap.size := by omega
      rw [State.heap_pushCell_of_lt (h := lt)]
      exact b
    have h := ((mF_st X c d i).pushed (mI d)).stored b2 i (.ref (T.heap.size + 1 + i))
    rw [mI_z, mO_s] at h
    rw [List.range_succ, List.map_append, ← List.append_assoc, show slots + 4 + 20 * (i + 1) = slots + 4 + 20 * i + 20 by omega]
    exact h
section MWP
variable {E : CtlPost} {e : Env} {d : Bool} {acts : List Action} {s : State}
theorem mw1 {c cc : ClassId} {k : Class} (hk : s.vm.classes[c]? = some k) (hkind : k.kind = .array cc .int) (hl : ¬ 20 > e.platform.arrayLengthLimit) (hh : ¬ 80 > e.platform.maxHeapBytes) (h1 : s.heap.size < e.platform.maxCells) (h2 : s.slotsUsed + 20 ≤ e.platform.maxSlots) {Q : Addr → Pre} (hq : ∀ acts', Q s.heap.size d acts' (s.pushCell (mI c))) : wp (multianewarray.make c [20]) Q E e d acts s := by
  have hn : ¬ (20 : Int32) < 0 := by decide
  have hz : (20 : Int32).toNatClampNeg = 20 := by decide
  rw [multianewarray.make]
  simp only [wp_bind', W.ite, hn, if_false, wp_pure', W.theClass, hk, hkind, Option.some.injEq, exists_eq_left', hz]
  refine W.newArray_of hk hkind hl (by show ¬ 20 * 4 > _; exact hh) h1 h2 rfl (fun acts' => ?_)
  have := hq acts'
  rw [← mI_0] at this
  exact this
theorem mw2 {c dd cc : ClassId} {k kd : Class} (hk : s.vm.classes[c]? = some k) (hkind : k.kind = .array dd (.array .int)) (hd : s.vm.classes[dd]? = some kd) (hdk : kd.kind = .array cc .int) (hl : ¬ 20 > e.platform.arrayLengthLimit) (hh : ¬ 80 > e.platform.maxHeapBytes) (h1 : s.heap.size + 5 ≤ e.platform.maxCells) (h2 : s.slotsUsed + 84 ≤ e.platform.maxSlots) {Q : Addr → Pre} (hq : ∀ d' acts', Q s.heap.size d' acts' (mF s c dd 4)) : wp (multianewarray.make c [4, 20]) Q E e d acts s := by
  have hn : ¬ (4 : Int32) < 0 := by decide
  have hz : (4 : Int32).toNatClampNeg = 4 := by decide
  have hf : ([(20 : Int32)].find? (· < 0)) = none := by decide
  rw [multianewarray.make]
  simp only [wp_bind', W.ite, hn, if_false, wp_pure', W.theClass, hk, hkind, Option.some.injEq, exists_eq_left', hz]
  refine W.newArray_of hk hkind (by omega) (by show ¬ 4 * 4 > _; omega) (by omega) (by omega) rfl (fun acts' => ?_)
  simp only [hf]
  rw [ite_self, wp_bind', Std.Legacy.Range.forIn_eq_forIn_range']
  have hs : ([:4] : Std.Legacy.Range).size = 4 := by simp [Std.Legacy.Range.size]
  rw [hs]
  show wp (forIn (List.range' 0 4 1) PUnit.unit _) _ E e d acts' _
  rw [mO_0 c s.heap.size]
  refine wp_forIn_inv (fun rest s' => ∃ i, i ≤ 4 ∧ rest = List.range' i (4 - i) ∧ s' = mF s c dd i) _ _ ⟨0, Nat.zero_le _, rfl, rfl⟩ ?_ ?_
  · rintro x rest s' d' acts' Q' ⟨i, hi, hr, rfl⟩ hnext
    have hlt : i < 4 := by
      rcases Nat.lt_or_ge i 4 with h | h
      · exact h
      · rw [show 4 - i = 0 by omega] at hr
        cases hr
    obtain ⟨rfl, hrest⟩ : x = i ∧ rest = List.range' (i + 1) (4 - (i + 1)) := by
      rw [show 4 - i = (4 - (i + 1)) + 1 by omega, List.range'_succ] at hr
      exact ⟨(List.cons.inj hr).1, (List.cons.inj hr).2⟩
    obtain ⟨f1, f2, f3, f4⟩ := mF_f s c dd x
    have lt0 : s.heap.size < (mF s c dd x).heap.size := by omega
    simp only [wp_bind']
    refine mw1 (by rw [f3]; exact hd) hdk hl hh (by rw [f1]; omega) (by rw [f4]; omega) (fun acts2 => ?_)
    simp only [wp_bind', W.writeLoc, wp_pure']
    refine ⟨mO c s.heap.size x, by rw [State.heap_pushCell_of_lt (h := lt0)]; exact f2, by unfold mO arrV; simp, by rw [mO_z]; exact hlt, ?_, hnext _ _ _ ⟨x + 1, hlt, hrest, ?_⟩⟩
    · show State.fitsSlot _ c .none x _ = true
      simp [State.fitsSlot, State.slotType?, f3, hk, hkind]
      rfl
    · rw [f1, mO_s]
      rfl
  · rintro s' d' acts' ⟨i, hi, hr, rfl⟩
    have hi4 : i = 4 := by
      rcases Nat.lt_or_ge i 4 with h | h
      · rw [show 4 - i = (4 - (i + 1)) + 1 by omega, List.range'_succ] at hr
        cases hr
      · omega
    subst hi4
    simp only [wp_pure']
    exact hq _ _
end MWP
