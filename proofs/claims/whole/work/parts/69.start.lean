/-! the start -/
theorem acs {ty : FieldType} {A : Array Value} {U : State} (h : (Cond.arrayClass ty).before A U = true) : ∃ (cA : ClassId) (k : Class) (comp : ClassId), U.vm.findClass ("[" ++ ty.toString) = some cA ∧ U.vm.classes[cA]? = some k ∧ k.kind = .array comp ty := by
  unfold Cond.before at h
  simp only [Cond.holds, Cond.value, beq_iff_eq] at h
  rw [Option.map_eq_some_iff] at h
  obtain ⟨k, hk, hb⟩ := h
  rw [Option.bind_eq_some_iff] at hk
  obtain ⟨c, hc, hk⟩ := hk
  cases hkind : k.kind with
  | array comp t1 =>
    rw [hkind] at hb
    have e : t1 = ty := of_decide_eq_true hb
    exact ⟨c, k, comp, hc, hk, by rw [hkind, e]⟩
  | _ =>
    rw [hkind] at hb
    simp at hb
theorem lwn_in : ∀ q ∈ lwn, Cond.methodLinkNest q.1 q.2.1 q.2.2.1 q.2.2.2 ∈ tables_1 := List.forall_mem_cons.mpr ⟨List.mem_of_getElem? (i := 24) (by decide +kernel), List.forall_mem_cons.mpr ⟨List.mem_of_getElem? (i := 30) (by decide +kernel), List.forall_mem_cons.mpr ⟨List.mem_of_getElem? (i := 137) (by decide +kernel), List.forall_mem_cons.mpr ⟨List.mem_of_getElem? (i := 152) (by decide +kernel), List.forall_mem_cons.mpr ⟨List.mem_of_getElem? (i := 157) (by decide +kernel), List.forall_mem_cons.mpr ⟨List.mem_of_getElem? (i := 202) (by decide +kernel), List.forall_mem_cons.mpr ⟨List.mem_of_getElem? (i := 215) (by decide +kernel), List.forall_mem_cons.mpr ⟨List.mem_of_getElem? (i := 216) (by decide +kernel), List.forall_mem_cons.mpr ⟨List.mem_of_getElem? (i := 278) (by decide +kernel), List.forall_mem_cons.mpr ⟨List.mem_of_getElem? (i := 288) (by decide +kernel), List.forall_mem_cons.mpr ⟨List.mem_of_getElem? (i := 303) (by decide +kernel), List.forall_mem_cons.mpr ⟨List.mem_of_getElem? (i := 318) (by decide +kernel), List.forall_mem_cons.mpr ⟨List.mem_of_getElem? (i := 323) (by decide +kernel), List.forall_mem_cons.mpr ⟨List.mem_of_getElem? (i := 324) (by decide +kernel), List.forall_mem_cons.mpr ⟨List.mem_of_getElem? (i := 348) (by decide +kernel), List.forall_mem_cons.mpr ⟨List.mem_of_getElem? (i := 365) (by decide +kernel), List.forall_mem_cons.mpr ⟨List.mem_of_getElem? (i := 368) (by decide +kernel), List.forall_mem_cons.mpr ⟨List.mem_of_getElem? (i := 396) (by decide +kernel), List.forall_mem_cons.mpr ⟨List.mem_of_getElem? (i := 418) (by decide +kernel), fun _ h => absurd h List.not_mem_nil⟩⟩⟩⟩⟩⟩⟩⟩⟩⟩⟩⟩⟩⟩⟩⟩⟩⟩⟩
theorem start_E {p : Program} {e : Env} {s : State} {m : MethodId} {below : List Frame} {meth : Method} {c : Code} (l : Launch) {b L : Nat} {xs : Nat → Int32} (C0 : lw_At p s m meth c b L xs) : ∃ D : va_G, EF (p, l, e, room_1, s, m, #[Value.ref b], below, meth, c, (fun q : Nat => s.heap.size ≤ q), 4, lw_Z below #[Value.ref b] s) D cL_law RL room_1 4 := by
  obtain ⟨hx, hb, hr, hml, hown, hts0, hX, hbl, hlocks, hgv⟩ := C0
  have htb : ∀ w ∈ tables_1, w.before #[Value.ref b] s = true := fun w hw => hts0 w (List.mem_append_right _ hw)
  have hts : ∀ w ∈ lwg, w.before #[Value.ref b] s = true := fun w hw => hts0 w (List.mem_filter.mp hw).1
  obtain ⟨c0, i0, k0⟩ := u_known (C := RX0) (T := TX0) (N := 2) hts iwX0 (hts _ ib_X0)
  obtain ⟨c1, i1, k1⟩ := u_known (C := RX1) (T := TX1) (N := 6) hts iwX1 (hts _ ib_X1)
  obtain ⟨c2, i2, k2⟩ := u_known (C := RX2) (T := TX2) (N := 4) hts iwX2 (hts _ ib_X2)
  obtain ⟨c3, i3, k3⟩ := u_known (C := RX3) (T := TX3) (N := 4) hts iwX3 (hts _ ib_X3)
  obtain ⟨c4, i4, k4⟩ := u_known (C := RX4) (T := TX4) (N := 3) hts iwX4 (hts _ ib_X4)
  obtain ⟨c5, i5, k5⟩ := u_known (C := RX5) (T := TX5) (N := 5) hts iwX5 (hts _ ib_X5)
  obtain ⟨c6, i6, k6⟩ := u_known (C := RX6) (T := TX6) (N := 2) hts iwX6 (hts _ ib_X6)
  obtain ⟨c7, i7, k7⟩ := u_known (C := RX7) (T := TX7) (N := 10) hts iwX7 (hts _ ib_X7)
  obtain ⟨c8, g8, q8, m8, n8, o8⟩ := acs (hts _ ac_int)
  obtain ⟨c9, g9, q9, m9, n9, o9⟩ := acs (hts _ ac_boolean)
  obtain ⟨c10, g10, q10, m10, n10, o10⟩ := acs (hts _ ac_long)
  have hA0 : (Cond.arrayOver (.array .int)).before #[Value.ref b] s = true := htb _ (List.mem_of_getElem? (i := 35) (by decide +kernel))
  have hAA : vq_AOA .int s := hA0
  have hAO : va_AO "ChangeImpact$State" s := va_AO.of (htb _ (List.mem_of_getElem? (i := 108) (by decide +kernel)))
  obtain ⟨q11, c11, g11, l11, _, n11, o11, m11⟩ := vq_spec hAA
  obtain ⟨q12, c12, g12, l12, _, n12, o12, m12⟩ := Cond.arrayOver_spec hAO
  refine ⟨(fun k => if k = 0 then c0 else if k = 1 then c1 else if k = 2 then c2 else if k = 3 then c3 else if k = 4 then c4 else if k = 5 then c5 else if k = 6 then c6 else if k = 7 then c7 else if k = 8 then c8 else if k = 9 then c9 else if k = 10 then c10 else if k = 11 then c11 else c12, fun k => if k = 0 then i0 else if k = 1 then i1 else if k = 2 then i2 else if k = 3 then i3 else if k = 4 then i4 else if k = 5 then i5 else if k = 6 then i6 else i7), hx, hb, hml, rfl, rfl, hown, hts, ⟨fun k q hq => ?_, fun k q hq => ?_⟩, fun _ h => h, ⟨fun q hq => ?_, hAO, hAA⟩, hlocks⟩
  · match k, hq with
    | 0, hq => cases hq; exact k0
    | 1, hq => cases hq; exact k1
    | 2, hq => cases hq; exact k2
    | 3, hq => cases hq; exact k3
    | 4, hq => cases hq; exact k4
    | 5, hq => cases hq; exact k5
    | 6, hq => cases hq; exact k6
    | 7, hq => cases hq; exact k7
    | k + 8, hq => simp at hq
  · match k, hq with
    | 0, hq => cases hq; exact ⟨fun n z => ⟨(fun k h => by cases h), g8, n8, q8, o8⟩, m8⟩
    | 1, hq => cases hq; exact ⟨fun n z => ⟨(fun k h => by cases h), g9, n9, q9, o9⟩, m9⟩
    | 2, hq => cases hq; exact ⟨fun n z => ⟨(fun k h => by cases h), g10, n10, q10, o10⟩, m10⟩
    | 3, hq => cases hq; exact ⟨fun n z => ⟨(fun k h => by cases h), g11, n11, q11, o11⟩, m11⟩
    | 4, hq => cases hq; exact ⟨fun n z => ⟨(fun k h => by cases h), g12, n12, q12, o12⟩, g12, q12, n12, o12, l12, m12⟩
    | k + 5, hq => simp at hq
  · exact htb _ (lwn_in q hq)
theorem fo_init (n : Nat) (hn : n < 100) : w_X6_init_n14 n = -10 := by
  show foldN (s_J7_fill_53178_5 (-10)) 100 0 (fun _ => 0) n = -10
  rw [updfold (f := s_J7_fill_53178_5 (-10)) (v := fun _ => -10) (fun i a hi => rfl), if_pos hn]
theorem Rl_init : Rl 0 0 0 0 0 (fun _ => 0) (fun _ => 0) us0 0 (fun _ => 0) (fun _ => 0) (fun _ => 0) (fun _ => 0) w_X6_init_n14 0 (fun _ => 0) := by
  have hl : ∀ a b, lnk (fun _ => 0) a b = 0 := fun a b => rfl
  refine ⟨rfl, rfl, rfl, by decide, by decide, ⟨by decide, fun a b _ _ => ⟨rfl, by rw [hl]; decide, fun x => absurd (hl a b) x⟩, fun k b _ _ j => ?_⟩, ⟨fun t ht => absurd ht (by omega), fun k _ j => ?_⟩, fun t ht => absurd ht (by omega), ⟨okp_0, fun q _ => Or.inl rfl, fun q _ => ?_⟩, ⟨fun _ => 0, fun a b _ _ x => absurd (hl a b) x⟩, by decide, by decide, rfl, rfl, fun f hf => absurd hf (by omega), fun f hf => absurd hf (by omega), fun f hf => absurd hf (by omega), fun n hn => Or.inl ⟨rfl, fo_init n hn⟩, fun f hf => absurd hf (by omega), fun _ _ => Or.inl rfl, fun _ _ => Or.inl rfl⟩
  · rw [hl]
    show bt 0 j = _
    rw [b_0, decide_eq_false (by omega)]
  · show bt 0 j = _
    rw [b_0, decide_eq_false (by omega)]
  · show bl 0 (pos q) = true ↔ _
    rw [l_0]
    exact ⟨fun x => absurd x (by decide), fun x => absurd x (show ¬ (0 : Int32) = 1 by decide)⟩
theorem lp_end {p : Program} {e : Env} {s : State} {m : MethodId} {below : List Frame} {meth : Method} {c : Code} {l : Launch} {b L : Nat} {xs : Nat → Int32} (C0 : lw_At p s m meth c b L xs) {D : va_G} (E : EF (p, l, e, room_1, s, m, #[Value.ref b], below, meth, c, (fun q : Nat => s.heap.size ≤ q), 4, lw_Z below #[Value.ref b] s) D cL_law RL room_1 4) (kc ks : Nat) (wd : va_W) (lv : List (Option Value)) (h1 : kc ≤ 600000) (h2 : ks ≤ 7302250) : V (p, l, e, room_1, s, m, #[Value.ref b], below, meth, c, (fun q : Nat => s.heap.size ≤ q), 4, lw_Z below #[Value.ref b] s) D kc ks wd lv [] 862 := by
  refine v_iconst E dL_law_862 (v := 1) (by decide) ?_
  intro H locs ls hP hD hS hl
  refine va_forget (fun q hq => hS.2.2 q hq) ?_
  refine W.widen (k := 600000) (n := 7302250) h1 h2 ?_
  obtain ⟨hx, hb, hr, hml, hown, hts0, hX, hbl, hlocks, hgv⟩ := C0
  exact lw_ret hx hb hr hlocks dL_law_863
set_option maxRecDepth 20000 in
theorem whole_start {p : Program} {e : Env} {s : State} {m : MethodId} {below : List Frame} {meth : Method} {c : Code} (l : Launch) (hflags : l.flags = flags0) {b L : Nat} {xs : Nat → Int32} (hL : L ≤ 2048) (C0 : lw_At p s m meth c b L xs) : W p l e room_1 s m #[Value.ref b] below meth c s.heap [] 0 0 (lw_Z below #[Value.ref b] s) (entryFrame m ([Value.ref b] : List Value).toArray 4) := by
  obtain ⟨D, E⟩ := start_E (e := e) (below := below) l C0
  have SX : SXF (p, l, e, room_1, s, m, #[Value.ref b], below, meth, c, (fun q : Nat => s.heap.size ≤ q), 4, lw_Z below #[Value.ref b] s) b L xs := ⟨C0.2.2.2.2.2.2.1, C0.2.2.2.2.2.2.2.1, Nat.not_le.mpr C0.2.2.2.2.2.2.2.1, by omega⟩
  have hend := lp_end (e := e) (below := below) (l := l) C0 E
  have K : V (p, l, e, room_1, s, m, #[Value.ref b], below, meth, c, (fun q : Nat => s.heap.size ≤ q), 4, lw_Z below #[Value.ref b] s) D 0 0 [] [some (.ref b), none, none, none] [] 0 := by
    refine v_new E dL_law_0 (ci := 6) rfl iwX6 tyX6 tyX6_ok cl_L_7 ib_X6 tw_in_X6 [.null, .null] (fun j hj => by rcases (show j = 0 ∨ j = 1 by omega) with rfl | rfl <;> rfl) (Nat.le_of_ble_eq_true rfl) (Nat.le_of_ble_eq_true rfl) (fun x0 => ?_)
    refine v_dup E dL_law_3 rfl ?_
    refine v_cI_vG E dL_law_4 (c_X6_init D x0) cs_L_9 rfl rfl rfl (Nat.le_of_ble_eq_true rfl) [0] rfl rfl ⟨Nat.le_of_ble_eq_true rfl, Nat.le_of_ble_eq_true rfl⟩ (wr := []) [] rfl rfl (by decide) (fun u _ => ?_)
    refine v_astore_n E dL_law_7 rfl rfl ?_
    refine v_new E dL_law_8 (ci := 7) rfl iwX7 tyX7 tyX7_ok cl_L_10 ib_X7 tw_in_X7 [.null, .null, .null, .null, .null, .null, .null, .null, .null, .null] (fun j hj => by rcases (show j = 0 ∨ j = 1 ∨ j = 2 ∨ j = 3 ∨ j = 4 ∨ j = 5 ∨ j = 6 ∨ j = 7 ∨ j = 8 ∨ j = 9 by omega) with rfl | rfl | rfl | rfl | rfl | rfl | rfl | rfl | rfl | rfl <;> rfl) (Nat.le_of_ble_eq_true rfl) (Nat.le_of_ble_eq_true rfl) (fun r0 => ?_)
    refine v_dup E dL_law_11 rfl ?_
    refine v_cI_vG E dL_law_12 (c_X7_init D r0) cs_L_12 rfl rfl rfl (Nat.le_of_ble_eq_true rfl) [17] rfl rfl ⟨Nat.le_of_ble_eq_true rfl, Nat.le_of_ble_eq_true rfl⟩ (wr := [(x0, .inr (6, [.ref (u 0), .ref (u 15)])), (u 0, .inr (4, [.ref (u 1), .ref (u 9), .long 0])), (u 1, .inr (5, [.int 0, .int 0, .ref (u 2), .ref (u 3), .ref (u 4)])), (u 2, aI D 20 ((fun _ => 0))), (u 3, aI D 3 ((fun _ => 0))), (u 4, aG D 4 (gU u 5)), (u 5, aI D 20 (us0 0)), (u 6, aI D 20 (us0 1)), (u 7, aI D 20 (us0 2)), (u 8, aI D 20 (us0 3)), (u 9, .inr (1, [.int 0, .ref (u 10), .ref (u 11), .ref (u 12), .ref (u 13), .ref (u 14)])), (u 10, aI D 40 ((fun _ => 0))), (u 11, aI D 40 ((fun _ => 0))), (u 12, aZ D 40 ((fun _ => 0))), (u 13, aZ D 40 ((fun _ => 0))), (u 14, aI D 100 w_X6_init_n14), (u 15, aS D 2 (fun _ => none))]) [0, 1, 2, 3, 4, 5, 6, 7, 8, 9, 10, 11, 12, 13, 14, 15, 16] rfl rfl (by decide) (fun v _ => ?_)
    refine v_astore_n E dL_law_15 rfl rfl ?_
    refine v_iconst E dL_law_16 (v := 0) (by decide) ?_
    refine v_istore_n E dL_law_17 rfl rfl ?_
    refine v_sub (wd' := BWc D x0 (u 15) (fun _ => none) u 0 0 (fun _ => 0) (fun _ => 0) us0 0 (fun _ => 0) (fun _ => 0) (fun _ => 0) (fun _ => 0) w_X6_init_n14 0 (adN r0 v) (fun _ => 0) (fun _ => 0) (fun _ => 0) (fun _ => 0) (fun _ => 0) (fun _ => 0) (fun _ => 0) (fun _ => 0) (fun _ => 0) (fun _ => 0) ++ []) [0, 16, 1, 2, 3, 4, 5, 6, 7, 8, 9, 10, 11, 12, 13, 14, 15, 17, 18, 19, 20, 21, 22, 23, 24, 25, 26, 27] rfl rfl ?_
    refine v_widen (c1 := 100 + 15 * 0) (s1 := 3000 + 400 * 0) (Nat.le_of_ble_eq_true rfl) (Nat.le_of_ble_eq_true rfl) ?_
    exact lp_loop E SX hL hend 512 0 0 0 (by omega) (by decide) (by decide) (by decide) 0 0 x0 (u 15) (fun _ => none) u 0 0 (fun _ => 0) (fun _ => 0) us0 0 (fun _ => 0) (fun _ => 0) (fun _ => 0) (fun _ => 0) w_X6_init_n14 0 (adN r0 v) (fun _ => 0) (fun _ => 0) (fun _ => 0) (fun _ => 0) (fun _ => 0) (fun _ => 0) (fun _ => 0) (fun _ => 0) (fun _ => 0) (fun _ => 0) [] Rl_init (Or.inl ⟨rfl, rfl, rfl, rfl, rfl⟩)
  rw [lg_entry_eq]
  exact K s.heap [] _ (fun k q h => by simp at h) ⟨fun i j p q h => by simp at h, fun k q h => by simp at h⟩ va_S.rf (lvh_entry (k := 3) rfl rfl)
