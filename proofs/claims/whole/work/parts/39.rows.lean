/-! new int[4][20], walked turn by turn. A turn of the machine's loop makes one row at the heap's end and lays its address into a place of the outer array; the world (wd, the outer array, the rows so far) is carried along with the walk. -/
def mt_row (cR : ClassId) : Cell := arrV cR 20 (fun _ => .int 0)
def mt_out (cO : ClassId) (f : Nat → Option Nat) : Cell := arrV cO 4 (fun j => va_rf (f j))
def mt_turn (cO cR : ClassId) (o : Nat) (f : Nat → Option Nat) (i : Nat) (U : State) : State := (U.pushCell (mt_row cR)).setCell o (mt_out cO (va_up f i (some U.heap.size)))
theorem mt_set (cO : ClassId) (f : Nat → Option Nat) (i a : Nat) : (mt_out cO f).setSlot i (.ref a) = mt_out cO (va_up f i (some a)) := by
  unfold mt_out
  rw [arrV_store]
  refine congrArg (arrV cO 4) (funext fun j => ?_)
  simp only [updV, va_up]
  split <;> rfl
theorem mt_P {D : va_G} {ws : va_W} {H : Heap} {x : Cell} {b : va_E} (hP : va_P D clX ws H) (hb : va_at D clX (H.size, b) (H.push x)) : va_P D clX (ws ++ [(H.size, b)]) (H.push x) := by
  refine va_P.app (hP.kept fun k q hk => ?_) fun k q hk => ?_
  · exact Array.getElem?_push_lt ((hP k q hk).lt) |>.trans (Array.getElem?_eq_getElem _).symm
  · have hm := List.mem_singleton.mp (List.mem_of_getElem? hk)
    subst hm
    exact hb
theorem mt_S {A : Nat → Prop} {H0 H : Heap} {locs : List Loc} {x : Cell} (h : va_S A H0 H locs) : va_S A H0 (H.push x) locs := by
  obtain ⟨h1, h2, h3⟩ := h
  refine ⟨by rw [Array.size_push]; omega, fun q hq hn => ?_, h3⟩
  have hlt : q < H.size := Nat.lt_of_lt_of_le hq h1
  rw [← h2 q hq hn, Array.getElem?_push_lt hlt, Array.getElem?_eq_getElem hlt]
theorem mt_list {α : Type} (w t : List α) (x y z : α) : ((w ++ x :: t) ++ [z]).set w.length y = w ++ y :: (t ++ [z]) := by
  simp
section MTURN
variable {p : Program} {l : Launch} {e : Env} {R : Room} {s : State} {m : MethodId} {args : Array Value} {below : List Frame} {meth : Method} {c : Code} {U : State} {locs : List Loc} {kc ks : Nat} {A : Nat → Prop} {D : va_G} {wd tl : va_W} {o : Nat} {f : Nat → Option Nat}
theorem mt_world (X : Stand p l e R s m args below meth c U locs kc ks) (hP : va_P D clX (wd ++ (o, aG D 4 f) :: tl) U.heap) (hD : va_D A (wd ++ (o, aG D 4 f) :: tl)) (hS : va_S A s.heap U.heap locs) (hA : ∀ q, s.heap.size ≤ q → A q) (i : Nat) :
    Stand p l e R s m args below meth c (mt_turn (D.1 11) (D.1 8) o f i U) (locs ++ [⟨o, i⟩]) (kc + 1) (ks + 20) ∧
    va_P D clX (wd ++ (o, aG D 4 (va_up f i (some U.heap.size))) :: (tl ++ [(U.heap.size, aI D 20 (fun _ => 0))])) (mt_turn (D.1 11) (D.1 8) o f i U).heap ∧
    va_D A (wd ++ (o, aG D 4 (va_up f i (some U.heap.size))) :: (tl ++ [(U.heap.size, aI D 20 (fun _ => 0))])) ∧
    va_S A s.heap (mt_turn (D.1 11) (D.1 8) o f i U).heap (locs ++ [⟨o, i⟩]) := by
  have P1 : va_P D clX ((wd ++ (o, aG D 4 f) :: tl) ++ [(U.heap.size, aI D 20 (fun _ => 0))]) (U.pushCell (mt_row (D.1 8))).heap :=
    mt_P hP (Array.getElem?_push_size)
  have D1 : va_D A ((wd ++ (o, aG D 4 f) :: tl) ++ [(U.heap.size, aI D 20 (fun _ => 0))]) := hD.push hP rfl (hA _ hS.1)
  have S1 : va_S A s.heap (U.pushCell (mt_row (D.1 8))).heap locs := mt_S hS
  have q1 : ((wd ++ (o, aG D 4 f) :: tl) ++ [(U.heap.size, aI D 20 (fun _ => 0))])[wd.length]? = some (o, aG D 4 f) := by simp
  have hc : (U.pushCell (mt_row (D.1 8))).heap[o]? = some (mt_out (D.1 11) f) := P1 wd.length _ q1
  have hlt : o < (U.pushCell (mt_row (D.1 8))).heap.size := (Array.getElem?_eq_some_iff.mp hc).1
  have X1 := (X.pushed (mt_row (D.1 8))).stored hc i (.ref U.heap.size)
  rw [mt_set, show (mt_row (D.1 8)).slots.size = 20 from arrV_size _ _ _] at X1
  have oq : ∀ q : Nat, q ≠ o → (mt_turn (D.1 11) (D.1 8) o f i U).heap[q]? = (U.pushCell (mt_row (D.1 8))).heap[q]? := fun q hq => heapAt_setCell_ne _ (Ne.symm hq)
  have at2 : va_at D clX (o, aG D 4 (va_up f i (some U.heap.size))) (mt_turn (D.1 11) (D.1 8) o f i U).heap := heapAt_setCell_self _ hlt
  refine ⟨X1, ?_, ?_, S1.put (size_setCell _ _ _) oq (D1.2 _ _ q1)⟩
  · rw [← mt_list wd tl (o, aG D 4 f)]
    exact P1.set D1 q1 at2 oq
  · rw [← mt_list wd tl (o, aG D 4 f)]
    exact D1.set q1
end MTURN
section MWP
variable {E : CtlPost} {e : Env} {d : Bool} {acts : List Action} {S : State}
theorem mt_make1 {cR comp : ClassId} {k : Class} (hk : S.vm.classes[cR]? = some k) (hkind : k.kind = .array comp .int) (hl : ¬ 20 > e.platform.arrayLengthLimit) (hh : ¬ 20 * componentBytes .int > e.platform.maxHeapBytes) (hc : S.heap.size < e.platform.maxCells) (hs : S.slotsUsed + 20 ≤ e.platform.maxSlots) {Q : Addr → Pre} (hq : ∀ acts', Q S.heap.size d acts' (S.pushCell (mt_row cR))) : wp (Op.multianewarray.make cR [20]) Q E e d acts S := by
  have n0 : ¬ (20 : Int32) < 0 := by decide
  have n1 : (20 : Int32).toNatClampNeg = 20 := by decide
  rw [Op.multianewarray.make]
  simp only [n0, if_false, wp_bind', wp_pure', W.theClass, hk, Option.some.injEq, exists_eq_left', hkind, n1]
  refine W.newArray_of hk hkind hl hh hc hs rfl fun a' => ?_
  have z := hq a'
  unfold mt_row at z
  rw [← arrV_new] at z
  exact z
end MWP
