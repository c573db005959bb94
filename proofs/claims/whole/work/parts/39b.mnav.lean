/-! the machine's step, and the row -/
theorem w_mna {p : Program} {l : Launch} {e : Env} {R : Room} {s : State} {m : MethodId} {args : Array Value} {below : List Frame} {meth : Method} {c : Code} {H : Heap} {locs : List Loc} {cells slots : Nat} {Q : State → Prop} {cc : ByteArray} {pc : Nat} {ls : Array Slot} {rest : List Value} (hexec : p.tables.exec = Jvm.exec) (hb : c.code = cc) {own : String} {index : Nat} (hown : s.vm.findClass own = some m.cls) (hclink : (Cond.classLink own index "[[I").before args s = true) (hover : vq_AOA .int s) (harr : (Cond.arrayClass .int).before args s = true) (hdg : decode cc pc = .ok (.multianewarray index 2, 4)) (hcells : cells + 5 ≤ R.cells) (hslots : slots + 84 ≤ R.slots)
    (kk : ∀ (H1 : Heap) (cA cI : ClassId), s.vm.findClass ("[" ++ (FieldType.array .int).toString) = some cA → s.vm.findClass ("[" ++ (FieldType.int).toString) = some cI → H1.size = H.size + 5 → H1[H.size]? = some (mO cA H.size 4) → (∀ j, j < 4 → H1[H.size + 1 + j]? = some (mI cI)) → (∀ a, a < H.size → H1[a]? = H[a]?) → W p l e R s m args below meth c H1 (locs ++ (List.range 4).map (fun j => (⟨H.size, j⟩ : Loc))) (cells + 5) (slots + 84) Q (F0 m (pc + 4) ls (.ref H.size :: rest))) : W p l e R s m args below meth c H locs cells slots Q (F0 m pc ls (.int 20 :: .int 4 :: rest)) := by
  intro T hT X
  subst hT
  subst hb
  have hpl : e.platform.magicAccessors = ({} : Platform).magicAccessors := by rw [X.admits.platform]
  obtain ⟨cI, cA, kA, hcI, -, hkA, hkindA, hnameA⟩ := vq_spec hover
  obtain ⟨cI', kI, cz, hcI', hkI, hkindI⟩ := Cond.arrayClass_spec harr
  have ec : cI' = cI := Option.some.inj (hcI'.symm.trans hcI)
  subst ec
  have hnm : s.vm.findClass "[[I" = some cA := hnameA
  obtain ⟨c0, hfc0, hcl⟩ := Cond.classLink_spec hown hclink e.platform hpl
  cases hnm.symm.trans hfc0
  obtain ⟨hg₁, hwarm₁, hready₁⟩ := State.classEntry (e := e) X.warmed hcl
  generalize T.vm.noted m.cls index (.cls cA) = vm₁ at hg₁ hwarm₁ hready₁
  have hal : s.vm.Alike vm₁ := hwarm₁.alike
  obtain ⟨kA₁, hkA₁, heA⟩ := hal.2.2 _ _ hkA
  obtain ⟨kI₁, hkI₁, heI⟩ := hal.2.2 _ _ hkI
  have hkindA₁ : kA₁.kind = .array cI' (.array .int) := by rw [heA]; exact hkindA
  have hkindI₁ : kI₁.kind = .array cz .int := by rw [heI]; exact hkindI
  have X₁ := X.noted hwarm₁
  obtain ⟨hr1, hr2⟩ := X.roomAbove hcells hslots
  have XF := mF_st X₁ cA cI' 4
  obtain ⟨f1, f2, f3, f4⟩ := mF_f (T.setVm vm₁) cA cI' 4
  obtain ⟨t, a1, b1⟩ := kk (mF (T.setVm vm₁) cA cI' 4).heap cA cI' hnameA hcI' f1 f2 (fun j hj => mF_row (T.setVm vm₁) cA cI' 4 j hj) (fun a ha => mF_old (T.setVm vm₁) cA cI' ha 4) (mF (T.setVm vm₁) cA cI' 4) rfl XF
  refine ⟨t, ?_, b1⟩
  have hl : ¬ 20 > e.platform.arrayLengthLimit := by rw [Launch.admits_arrayLengthLimit X.admits]; omega
  have hh : ¬ 80 > e.platform.maxHeapBytes := by rw [Launch.admits_maxHeapBytes X.admits]; omega
  generalize hgg : F0 m pc ls (.int 20 :: .int 4 :: rest) = g
  have hgm : g.method = m := by rw [← hgg]
  have hgs : g.stack = .int 20 :: .int 4 :: rest := by rw [← hgg]
  have hgd : decode c.code g.pc = .ok (.multianewarray index 2, 4) := by rw [← hgg]; exact hdg
  have ha1 : Steps p.tables e below ((mF (T.setVm vm₁) cA cI' 4).setTop { g with pc := g.pc + 4, stack := .ref T.heap.size :: rest }) t := by rw [← hgg]; exact a1
  subst hgm
  jvm_step X.here [hexec, hgd]
  simp only [multianewarray.sem, wp_bind', W.resolveClassAt_links (State.method?_setTop g X.here.top) hg₁]
  rw [W.popN, if_neg (by decide)]
  refine ⟨g, State.topJava?_setTop' (s := T.setVm vm₁) g X.here.top, [.int 4, .int 20], rest, rfl, hgs, ?_⟩
  simp only [List.mapM_cons, List.mapM_nil, wp_bind', wp_pure']
  refine mw2 (k := kA₁) (kd := kI₁) (dd := cI') (cc := cz) hkA₁ hkindA₁ hkI₁ hkindI₁ hl hh (by show T.heap.size + 5 ≤ _; exact hr1) (by show T.slotsUsed + 84 ≤ _; exact hr2) (fun d' acts' => ?_)
  have eS : ((T.setTop g).setVm vm₁).setTop { g with stack := rest } = (T.setVm vm₁).setTop { g with stack := rest } := by
    show ((T.setVm vm₁).setTop g).setTop _ = _
    rw [State.setTop_setTop]
  rw [eS, mF_top]
  simp only [wp_bind', W.mark, W.pushRef, State.topJava?_setTop' _ XF.here.top, Option.some.injEq, exists_eq_left', State.setTop_setTop, State.heap_setTop]
  intro acts
  simp [jvm, XF.here.top]
  exact ha1
theorem v_mna {Z : BX} {D : va_G} {kc ks : Nat} {wd : va_W} {lv : List (Option Value)} {st : List Value} {pc : Nat} {cc : ByteArray} {own : String} {rm : Room} {n0 : Nat} (E : EF Z D cc own rm n0) {idx : Nat} (d : decode cc pc = .ok (.multianewarray idx 2, 4)) (hw : Cond.classLink own idx "[[I" ∈ lwg) (h1 : kc + 5 ≤ rm.cells) (h2 : ks + 84 ≤ rm.slots)
    (k : ∀ (a : Nat) (r : Nat → Nat), V Z D (kc + 5) (ks + 84) (wd ++ [(a, aG D 4 (gU r 0)), (r 0, aI D 20 (fun _ => 0)), (r 1, aI D 20 (fun _ => 0)), (r 2, aI D 20 (fun _ => 0)), (r 3, aI D 20 (fun _ => 0))]) lv (.ref a :: st) (pc + 4)) : V Z D kc ks wd lv (.int 20 :: .int 4 :: st) pc := by
  obtain ⟨p, l, e, R, s, m, args, below, meth, c, A, nL, Q⟩ := Z
  obtain ⟨hx, hb, hml, rfl, rfl, hown, hts, hK, hA, hN, hlocks⟩ := E
  intro H locs ls hP hD hS hl
  refine w_mna hx hb hown (hts _ hw) hN.2.2 (hts _ ac_int) d h1 h2 (fun H1 cA cI fA fI z1 e1 er eo => ?_)
  have gA : s.vm.findClass ("[" ++ (FieldType.array .int).toString) = some (D.1 11) := (hK.2 3 (D.1 11, .array .int) rfl).2
  have gI : s.vm.findClass ("[" ++ (FieldType.int).toString) = some (D.1 8) := (hK.2 0 (D.1 8, .int) rfl).2
  obtain rfl : cA = D.1 11 := Option.some.inj (fA.symm.trans gA)
  obtain rfl : cI = D.1 8 := Option.some.inj (fI.symm.trans gI)
  have key : ∀ (k : Nat) (x : Nat × va_E), ([(H.size, aG D 4 (gU (fun i => H.size + 1 + i) 0)), (H.size + 1 + 0, aI D 20 (fun _ => 0)), (H.size + 1 + 1, aI D 20 (fun _ => 0)), (H.size + 1 + 2, aI D 20 (fun _ => 0)), (H.size + 1 + 3, aI D 20 (fun _ => 0))] : va_W)[k]? = some x → x.1 = H.size + k ∧ va_at D clX x H1 := fun k x hx => by
    match k, hx with
    | 0, hx =>
      cases hx
      refine ⟨rfl, ?_⟩
      show H1[H.size]? = some (vp_cell (D.1 11) (4, .inr (.inr (.inr (.inr (gU (fun i => H.size + 1 + i) 0))))))
      rw [e1, vp_cell_q]
      unfold mO gU
      refine congrArg some (congrArg (arrV (D.1 11) 4) (funext fun j => ?_))
      dsimp only
      rw [Nat.zero_add]
    | 1, hx =>
      cases hx
      exact ⟨rfl, er 0 (by decide)⟩
    | 2, hx =>
      cases hx
      exact ⟨rfl, er 1 (by decide)⟩
    | 3, hx =>
      cases hx
      exact ⟨rfl, er 2 (by decide)⟩
    | 4, hx =>
      cases hx
      exact ⟨rfl, er 3 (by decide)⟩
    | k + 5, hx => simp at hx
  refine k H.size (fun i => H.size + 1 + i) H1 (locs ++ (List.range 4).map (fun j => (⟨H.size, j⟩ : Loc))) ls ?_ ?_ ?_ hl
  · exact (hP.kept (fun i x hx => eo x.1 ((hP i x hx).lt))).app (fun i x hx => (key i x hx).2)
  · refine hD.app ⟨fun i j x y hx hy hxy => ?_, fun i x hx => ?_⟩ (fun i j x y hx hy => ?_)
    · have a1 := (key i x hx).1
      have a2 := (key j y hy).1
      omega
    · have a1 := (key i x hx).1
      exact hA _ (by have := hS.1; omega)
    · have a1 := (hP i x hx).lt
      have a2 := (key j y hy).1
      omega
  · refine ⟨by have := hS.1; omega, fun q h1 h2 => (eo q (Nat.lt_of_lt_of_le h1 hS.1)).trans (hS.2.1 q h1 h2), fun q hq => ?_⟩
    rcases List.mem_append.mp hq with h | h
    · exact hS.2.2 q h
    · obtain ⟨j, -, rfl⟩ := List.mem_map.mp h
      exact hA _ hS.1
