theorem tw_mmins : Cond.static Lib.Math.min.name ∈ lwg := lwg_at 454 (by decide +kernel) (by decide +kernel)
theorem tw_mminc : Cond.code Lib.Math.min.name Lib.Math.min.code 2 (some .int) ∈ lwg := lwg_at 455 (by decide +kernel) (by decide +kernel)
theorem tw_mmaxs : Cond.static Lib.Math.max.name ∈ lwg := lwg_at 393 (by decide +kernel) (by decide +kernel)
theorem tw_mmaxc : Cond.code Lib.Math.max.name Lib.Math.max.code 2 (some .int) ∈ lwg := lwg_at 394 (by decide +kernel) (by decide +kernel)
theorem tw_oi : Cond.instanceMethod Lib.objectInit ∈ lwg := lwg_at 20 (by decide +kernel) (by decide +kernel)
theorem tw_oc : Cond.code Lib.objectInit ⟨#[0xb1]⟩ 1 none ∈ lwg := lwg_at 21 (by decide +kernel) (by decide +kernel)
theorem tw_acs : Cond.static arraycopyName ∈ lwg := lwg_at 472 (by decide +kernel) (by decide +kernel)
theorem tw_acn : Cond.native arraycopyName ∈ lwg := lwg_at 473 (by decide +kernel) (by decide +kernel)
theorem mo_X6_3 : Cond.methodLink RX6 3 Lib.objectInit ∈ lwg := lwg_at 19 (by decide +kernel) (by decide +kernel)
theorem mo_X0_3 : Cond.methodLink RX0 3 Lib.objectInit ∈ lwg := lwg_at 317 (by decide +kernel) (by decide +kernel)
theorem mo_X1_3 : Cond.methodLink RX1 3 Lib.objectInit ∈ lwg := lwg_at 63 (by decide +kernel) (by decide +kernel)
theorem mo_X1_38 : Cond.methodLink RX1 38 arraycopyName ∈ lwg := lwg_at 478 (by decide +kernel) (by decide +kernel)
theorem mo_X2_3 : Cond.methodLink RX2 3 Lib.objectInit ∈ lwg := lwg_at 363 (by decide +kernel) (by decide +kernel)
theorem mo_X3_3 : Cond.methodLink RX3 3 Lib.objectInit ∈ lwg := lwg_at 409 (by decide +kernel) (by decide +kernel)
theorem mo_X4_3 : Cond.methodLink RX4 3 Lib.objectInit ∈ lwg := lwg_at 27 (by decide +kernel) (by decide +kernel)
theorem mo_X5_3 : Cond.methodLink RX5 3 Lib.objectInit ∈ lwg := lwg_at 33 (by decide +kernel) (by decide +kernel)
theorem mo_X5_30 : Cond.methodLink RX5 30 arraycopyName ∈ lwg := lwg_at 471 (by decide +kernel) (by decide +kernel)
theorem mo_X7_1 : Cond.methodLink RX7 1 Lib.objectInit ∈ lwg := lwg_at 488 (by decide +kernel) (by decide +kernel)
section VMORE
variable {Z : BX} {D : va_G} {kc ks : Nat} {wd : va_W} {lv : List (Option Value)} {st rest : List Value} {pc : Nat} {cc : ByteArray} {own : String} {rm : Room} {n0 : Nat}

theorem v_objInit (E : EF Z D cc own rm n0) {idx a : Nat} (d : decode cc pc = .ok (.invokespecial idx, 3)) (hw : Cond.methodLink own idx Lib.objectInit ∈ lwg) (hfr : Nat.ble 1 rm.frames = true) (hlo : Nat.ble 20 rm.locals = true) (hcr : (rest.map fun v => v.category).sum ≤ 8) (k : V Z D kc ks wd lv rest (pc + 3)) : V Z D kc ks wd lv (.ref a :: rest) pc := by
  obtain ⟨p, l, e, R, s, m, args, below, meth, c, A, nL, Q⟩ := Z
  obtain ⟨hx, hb, hml, rfl, rfl, hown, hts, hK, hA, hN, hlocks⟩ := E
  intro H locs ls hP hD hS hl
  refine W.objInit hx hb hown (hts _ hw) (hts _ tw_oi) (hts _ tw_oc) rfl (by rw [hml]; exact hl.1) rfl d (Nat.le_of_ble_eq_true hfr) (by
    have h1 := lv_room (m := m) (pc := pc) (ls := ls) (rest := .ref a :: rest) hcr
    have h2 := Nat.le_of_ble_eq_true hlo
    omega) ?_
  exact W.eq rfl (k H locs ls hP hD hS hl)
theorem nI_len {n : Int32} {N' : Nat} (hn : n = nI N') (hN : Nat.ble N' 100000 = true) : ¬ n < 0 ∧ n.toNatClampNeg = N' := by
  have h := Nat.le_of_ble_eq_true hN
  subst hn
  exact ⟨nI_pos (by omega), nI_clamp (by omega)⟩
theorem v_newI (E : EF Z D cc own rm n0) {n : Int32} (N' : Nat) (d : decode cc pc = .ok (.newarray .int, 2)) (hn : n = nI N') (hN' : Nat.ble N' 100000 = true) (hc : kc + 1 ≤ rm.cells) (hs : ks + N' ≤ rm.slots) (k : ∀ q, V Z D (kc + 1) (ks + N') (wd ++ [(q, aI D N' (fun _ => 0))]) lv (.ref q :: st) (pc + 2)) : V Z D kc ks wd lv (.int n :: st) pc := by
  obtain ⟨p, l, e, R, s, m, args, below, meth, c, A, nL, Q⟩ := Z
  obtain ⟨hx, hb, hml, rfl, rfl, hown, hts, hK, hA, hN, hlocks⟩ := E
  intro H locs ls hP hD hS hl
  obtain ⟨h1, h2⟩ := nI_len hn hN'
  have hle := Nat.le_of_ble_eq_true hN'
  refine va_newa (N' := N') (atype := .int) (ty := .int) (a0 := (N', .inl (fun _ => 0))) hx hb (hts _ ac_int) rfl hK hP hD hS hA (fun cA => rfl) h1 h2 (by
    have : componentBytes .int ≤ 8 := by decide
    have := Nat.mul_le_mul hle this
    omega) hc hs d (fun q cA H1 hK1 hP hD hS => ?_)
  have ea : s.vm.findClass ("[" ++ (FieldType.int).toString) = some cA := (hK1.2 5 (cA, .int) rfl).2
  have eb : s.vm.findClass ("[" ++ (FieldType.int).toString) = some (D.1 8) := (hK.2 0 (D.1 8, .int) rfl).2
  obtain rfl : cA = D.1 8 := Option.some.inj (ea.symm.trans eb)
  exact k q H1 locs ls hP hD hS hl
theorem v_newZ (E : EF Z D cc own rm n0) {n : Int32} (N' : Nat) (d : decode cc pc = .ok (.newarray .boolean, 2)) (hn : n = nI N') (hN' : Nat.ble N' 100000 = true) (hc : kc + 1 ≤ rm.cells) (hs : ks + N' ≤ rm.slots) (k : ∀ q, V Z D (kc + 1) (ks + N') (wd ++ [(q, aZ D N' (fun _ => 0))]) lv (.ref q :: st) (pc + 2)) : V Z D kc ks wd lv (.int n :: st) pc := by
  obtain ⟨p, l, e, R, s, m, args, below, meth, c, A, nL, Q⟩ := Z
  obtain ⟨hx, hb, hml, rfl, rfl, hown, hts, hK, hA, hN, hlocks⟩ := E
  intro H locs ls hP hD hS hl
  obtain ⟨h1, h2⟩ := nI_len hn hN'
  have hle := Nat.le_of_ble_eq_true hN'
  refine va_newa (N' := N') (atype := .boolean) (ty := .boolean) (a0 := (N', .inl (fun _ => 0))) hx hb (hts _ ac_boolean) rfl hK hP hD hS hA (fun cA => rfl) h1 h2 (by
    have : componentBytes .boolean ≤ 8 := by decide
    have := Nat.mul_le_mul hle this
    omega) hc hs d (fun q cA H1 hK1 hP hD hS => ?_)
  have ea : s.vm.findClass ("[" ++ (FieldType.boolean).toString) = some cA := (hK1.2 5 (cA, .boolean) rfl).2
  have eb : s.vm.findClass ("[" ++ (FieldType.boolean).toString) = some (D.1 9) := (hK.2 1 (D.1 9, .boolean) rfl).2
  obtain rfl : cA = D.1 9 := Option.some.inj (ea.symm.trans eb)
  exact k q H1 locs ls hP hD hS hl
theorem v_newJ (E : EF Z D cc own rm n0) {n : Int32} (N' : Nat) (d : decode cc pc = .ok (.newarray .long, 2)) (hn : n = nI N') (hN' : Nat.ble N' 100000 = true) (hc : kc + 1 ≤ rm.cells) (hs : ks + N' ≤ rm.slots) (k : ∀ q, V Z D (kc + 1) (ks + N') (wd ++ [(q, aJ D N' (fun _ => 0))]) lv (.ref q :: st) (pc + 2)) : V Z D kc ks wd lv (.int n :: st) pc := by
  obtain ⟨p, l, e, R, s, m, args, below, meth, c, A, nL, Q⟩ := Z
  obtain ⟨hx, hb, hml, rfl, rfl, hown, hts, hK, hA, hN, hlocks⟩ := E
  intro H locs ls hP hD hS hl
  obtain ⟨h1, h2⟩ := nI_len hn hN'
  have hle := Nat.le_of_ble_eq_true hN'
  refine va_newa (N' := N') (atype := .long) (ty := .long) (a0 := (N', .inr (.inl (fun _ => 0)))) hx hb (hts _ ac_long) rfl hK hP hD hS hA (fun cA => rfl) h1 h2 (by
    have : componentBytes .long ≤ 8 := by decide
    have := Nat.mul_le_mul hle this
    omega) hc hs d (fun q cA H1 hK1 hP hD hS => ?_)
  have ea : s.vm.findClass ("[" ++ (FieldType.long).toString) = some cA := (hK1.2 5 (cA, .long) rfl).2
  have eb : s.vm.findClass ("[" ++ (FieldType.long).toString) = some (D.1 10) := (hK.2 2 (D.1 10, .long) rfl).2
  obtain rfl : cA = D.1 10 := Option.some.inj (ea.symm.trans eb)
  exact k q H1 locs ls hP hD hS hl
theorem v_newS (E : EF Z D cc own rm n0) {n : Int32} {idx : Nat} (N' : Nat) (d : decode cc pc = .ok (.anewarray idx, 3)) (hw : Cond.classLink own idx "ChangeImpact$State" ∈ lwg) (hn : n = nI N') (hN' : Nat.ble N' 100000 = true) (hc : kc + 1 ≤ rm.cells) (hs : ks + N' ≤ rm.slots) (k : ∀ q, V Z D (kc + 1) (ks + N') (wd ++ [(q, aS D N' (fun _ => none))]) lv (.ref q :: st) (pc + 3)) : V Z D kc ks wd lv (.int n :: st) pc := by
  obtain ⟨p, l, e, R, s, m, args, below, meth, c, A, nL, Q⟩ := Z
  obtain ⟨hx, hb, hml, rfl, rfl, hown, hts, hK, hA, hN, hlocks⟩ := E
  intro H locs ls hP hD hS hl
  obtain ⟨h1, h2⟩ := nI_len hn hN'
  have hle := Nat.le_of_ble_eq_true hN'
  refine va_newq hx hb hown (hts _ hw) hN.2.1 hK hP hD hS hA h1 h2 (by omega) hc hs d (fun q cA H1 hK1 hP hD hS => ?_)
  obtain ⟨k1, c1, -, -, -, ea⟩ := (hK1.2 5 (cA, .object "ChangeImpact$State") rfl).2
  obtain ⟨k2, c2, -, -, -, eb⟩ := (hK.2 4 (D.1 12, .object "ChangeImpact$State") rfl).2
  obtain rfl : cA = D.1 12 := Option.some.inj (ea.symm.trans eb)
  exact k q H1 locs ls hP hD hS hl
theorem v_new (E : EF Z D cc own rm n0) {ci N index : Nat} {C : String} {T : u_T} (d : decode cc pc = .ok (.new index, 3)) (hc : clX[ci]? = some (C, T, N)) (hin : ∀ w ∈ u_ws C T N, w ∈ lwg) (ty0 : Nat → FieldType) (hty : ∀ k, k < N → parseFieldDescriptor (T k).2.2.1 = some (ty0 k)) (hcl : Cond.classLink own index C ∈ lwg) (hib : Cond.instantiable C N ∈ lwg) (hini : Cond.initialized C ∈ lwg) (fs : List Value) (hfs : ∀ j, j < N → defaultValue (ty0 j) = vp_V fs j) (h1 : kc + 1 ≤ rm.cells) (h2 : ks + N ≤ rm.slots) (k : ∀ q, V Z D (kc + 1) (ks + N) (wd ++ [(q, .inr (ci, fs))]) lv (.ref q :: st) (pc + 3)) : V Z D kc ks wd lv st pc := by
  obtain ⟨p, l, e, R, s, m, args, below, meth, c, A, nL, Q⟩ := Z
  obtain ⟨hx, hb, hml, rfl, rfl, hown, hts, hK, hA, hN, hlocks⟩ := E
  intro H locs ls hP hD hS hl
  exact va_new hx hb hts hin ty0 hty hown (hts _ hcl) (hts _ hib) (hts _ hini) hK hP hD hS hA hc hfs h1 h2 d (fun q H1 hP hD hS => k q H1 locs ls hP hD hS hl)
theorem v_cpyI (E : EF Z D cc own rm n0) {idx a a0 n1 m1 : Nat} {f g : Nat → Int32} {n : Int32} (nn : Nat) (d : decode cc pc = .ok (.invokestatic idx, 3)) (hw : Cond.methodLink own idx arraycopyName ∈ lwg) (q0 q1 : Nat) (ha0 : wd[q0]? = some (a0, aI D n1 f)) (ha1 : wd[q1]? = some (a, aI D m1 g)) (hn : n = nI nn) (hN' : Nat.ble nn 100000 = true) (h4 : nn ≤ n1) (h5 : nn ≤ m1) (hfr : Nat.ble 1 rm.frames = true) (hlo : Nat.ble 60 rm.locals = true) (hcr : (rest.map fun v => v.category).sum ≤ 8) (k : V Z D kc ks (wd.set q1 (a, aI D m1 (va_cpy f g 0 0 nn))) lv rest (pc + 3)) : V Z D kc ks wd lv (.int n :: .int 0 :: .ref a :: .int 0 :: .ref a0 :: rest) pc := by
  obtain ⟨p, l, e, R, s, m, args, below, meth, c, A, nL, Q⟩ := Z
  obtain ⟨hx, hb, hml, rfl, rfl, hown, hts, hK, hA, hN, hlocks⟩ := E
  intro H locs ls hP hD hS hl
  obtain ⟨h3, e3⟩ := nI_len hn hN'
  have e1 : (0 : Int32).toNatClampNeg = 0 := by decide
  refine va_copyi (ty := .int) hx hb (by rw [hml]; exact hl.1.symm) hown (hts _ hw) (hts _ tw_acn) (hts _ tw_acs) (hts _ tw_in_J10) hK hP hD hS q0 q1 0 0 ha0 ha1 rfl rfl rfl (by decide) (by decide) h3 (by rw [e1, e3]; omega) (by rw [e1, e3]; omega) (fun i _ => rfl) (Nat.le_of_ble_eq_true hfr) (by
    have h2 := Nat.le_of_ble_eq_true hlo
    have h6 : nativeFrameWords "java/lang/System" "arraycopy" 5 + 11 ≤ 52 := by decide
    omega) d (fun H1 locs1 hP hD hS => ?_)
  rw [e1, e3] at hP hD
  exact k H1 locs1 ls hP hD hS hl
theorem v_cpyZ (E : EF Z D cc own rm n0) {idx a a0 n1 m1 : Nat} {f g : Nat → Int32} {n : Int32} (nn : Nat) (d : decode cc pc = .ok (.invokestatic idx, 3)) (hw : Cond.methodLink own idx arraycopyName ∈ lwg) (q0 q1 : Nat) (ha0 : wd[q0]? = some (a0, aZ D n1 f)) (ha1 : wd[q1]? = some (a, aZ D m1 g)) (hn : n = nI nn) (hN' : Nat.ble nn 100000 = true) (h4 : nn ≤ n1) (h5 : nn ≤ m1) (hfit : ∀ i, i < nn → fits .boolean (.int (f i)) = true) (hfr : Nat.ble 1 rm.frames = true) (hlo : Nat.ble 60 rm.locals = true) (hcr : (rest.map fun v => v.category).sum ≤ 8) (k : V Z D kc ks (wd.set q1 (a, aZ D m1 (va_cpy f g 0 0 nn))) lv rest (pc + 3)) : V Z D kc ks wd lv (.int n :: .int 0 :: .ref a :: .int 0 :: .ref a0 :: rest) pc := by
  obtain ⟨p, l, e, R, s, m, args, below, meth, c, A, nL, Q⟩ := Z
  obtain ⟨hx, hb, hml, rfl, rfl, hown, hts, hK, hA, hN, hlocks⟩ := E
  intro H locs ls hP hD hS hl
  obtain ⟨h3, e3⟩ := nI_len hn hN'
  have e1 : (0 : Int32).toNatClampNeg = 0 := by decide
  refine va_copyi (ty := .boolean) hx hb (by rw [hml]; exact hl.1.symm) hown (hts _ hw) (hts _ tw_acn) (hts _ tw_acs) (hts _ tw_in_J10) hK hP hD hS q0 q1 1 1 ha0 ha1 rfl rfl rfl (by decide) (by decide) h3 (by rw [e1, e3]; omega) (by rw [e1, e3]; omega) (fun i hi => by rw [e1, Nat.zero_add]; exact hfit i (by rw [← e3]; exact hi)) (Nat.le_of_ble_eq_true hfr) (by
    have h2 := Nat.le_of_ble_eq_true hlo
    have h6 : nativeFrameWords "java/lang/System" "arraycopy" 5 + 11 ≤ 52 := by decide
    omega) d (fun H1 locs1 hP hD hS => ?_)
  rw [e1, e3] at hP hD
  exact k H1 locs1 ls hP hD hS hl
theorem v_mmax (E : EF Z D cc own rm n0) {idx : Nat} {x y : Int32} (d : decode cc pc = .ok (.invokestatic idx, 3)) (hw : Cond.methodLink own idx Lib.Math.max.name ∈ lwg) (hfr : Nat.ble 1 rm.frames = true) (hlo : Nat.ble 21 rm.locals = true) (hcr : (st.map fun v => v.category).sum ≤ 8) (h1 : kc ≤ rm.cells) (h2 : ks ≤ rm.slots) (k : V Z D kc ks wd lv (.int (if x < y then y else x) :: st) (pc + 3)) : V Z D kc ks wd lv (.int y :: .int x :: st) pc := by
  obtain ⟨p, l, e, R, s, m, args, below, meth, c, A, nL, Q⟩ := Z
  obtain ⟨hx, hb, hml, rfl, rfl, hown, hts, hK, hA, hN, hlocks⟩ := E
  intro H locs ls hP hD hS hl
  refine va_mmax hx hb (by rw [hml]; exact hl.1.symm) hown (hts _ hw) (hts _ tw_mmaxs) (hts _ tw_in_J9) (hts _ tw_mmaxc) (Nat.le_of_ble_eq_true hfr) (by
    have := Nat.le_of_ble_eq_true hlo
    omega) h1 h2 d ?_
  exact k H locs ls hP hD hS hl
theorem v_mmin (E : EF Z D cc own rm n0) {idx : Nat} {x y : Int32} (d : decode cc pc = .ok (.invokestatic idx, 3)) (hw : Cond.methodLink own idx Lib.Math.min.name ∈ lwg) (hfr : Nat.ble 1 rm.frames = true) (hlo : Nat.ble 21 rm.locals = true) (hcr : (st.map fun v => v.category).sum ≤ 8) (h1 : kc ≤ rm.cells) (h2 : ks ≤ rm.slots) (k : V Z D kc ks wd lv (.int (if y < x then y else x) :: st) (pc + 3)) : V Z D kc ks wd lv (.int y :: .int x :: st) pc := by
  obtain ⟨p, l, e, R, s, m, args, below, meth, c, A, nL, Q⟩ := Z
  obtain ⟨hx, hb, hml, rfl, rfl, hown, hts, hK, hA, hN, hlocks⟩ := E
  intro H locs ls hP hD hS hl
  refine va_mmin hx hb (by rw [hml]; exact hl.1.symm) hown (hts _ hw) (hts _ tw_mmins) (hts _ tw_in_J9) (hts _ tw_mminc) (Nat.le_of_ble_eq_true hfr) (by
    have := Nat.le_of_ble_eq_true hlo
    omega) h1 h2 d ?_
  exact k H locs ls hP hD hS hl
end VMORE
theorem Ct.ofVI {l : Launch} {y : MethodName} {b : ByteArray} {n : Nat} {rt : Option FieldType} {rm : Room} {D : va_G} {as : List Value} {W0 : va_W} {Qf : (Nat → Prop) → Array Value → State → Outcome → State → Prop} (k : Nat) {lv0 : List (Option Value)} (hy : plainName y.cls = true) (hy1 : y.name = "<init>") (h0 : lvI as ++ List.replicate k none = lv0) (hn : lv0.length = n)
    (body : ∀ Z : BX, EF Z D b y.cls rm n → RQ Z Qf rm.cells rm.slots rt → InitZ Z → V Z D 0 0 W0 lv0 [] 0) : Ct l y b n rt rm D as W0 Qf := by
  intro sz
  refine Met.ofW (cc := b) (maxL := n) (ret := rt) hy rfl ?_
  intro p e s m args below meth c s₁ B hml hv
  obtain ⟨rfl, hsz, hP, hK, hD0, hN⟩ := hv
  have hts := atoms_spec (ws := wU y b n rt) B.pre
  have hown : s.vm.findClass y.cls = some m.cls := findClass_of_methodNamed B.named
  have hin : meth.name = y.name := (name_of_methodNamed B.named B.method).1
  subst hsz
  have hD := hD0.self (sz := s.heap.size)
  rw [lg_entry_eq]
  refine body (p, l, e, (headSpec (wU y b n rt) rm).room, s, m, as.toArray, below, meth, c, va_A W0 s.heap.size, n, _) ⟨B.exec, B.bytes, hml, rfl, rfl, hown, fun w hw => hts w (List.mem_cons_of_mem _ hw), hK, fun q h => Or.inr h, hN, B.notSynchronized⟩ ⟨rfl, B.returns, Or.inr trivial⟩ (hin.trans hy1) s.heap [] _ hP hD va_S.rf (lvh_entry h0 hn)
