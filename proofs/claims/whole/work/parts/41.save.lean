/-! ChangeImpact: save, restore -/
section VCG
variable {Z : BX} {D : va_G} {kc ks : Nat} {wd : va_W} {lv : List (Option Value)} {st rest : List Value} {pc : Nat} {cc : ByteArray} {own : String} {rm : Room} {n0 : Nat}
theorem v_cV_iG (E : EF Z D cc own rm n0) {y : MethodName} {b : ByteArray} {n idx ka : Nat} {rt : Option FieldType} {rm1 : Room} {As : List Value} {W0 : va_W} {a ci : Nat} {fs : List Value} {C : String} {T : u_T} {N : Nat} {S : Type} {post : Int32 → S → Prop} {W1 : S → va_W} {wr : va_W} (d : decode cc pc = .ok (.invokevirtual idx, 3)) (Cc : ∀ l, Ct l y b n rt rm1 D (.ref a :: As) W0 (QI D post W1)) (ok : CVok own idx C y b n rt ka) (hn : As.length = ka) (hst : As.reverse ++ .ref a :: rest = st) (hrm : okR rm1 n rm = true) (hcr : (rest.map fun v => v.category).sum ≤ 8) (q0 : Nat) (he : wd[q0]? = some (a, .inr (ci, fs))) (hc : clX[ci]? = some (C, T, N)) (isC : List Nat) (hnd : va_nd isC = true) (hC : isC.map (fun i => wd[i]?) = W0.map some) (hcs : kc + rm1.cells ≤ rm.cells ∧ ks + rm1.slots ≤ rm.slots) (isR : List Nat) (hR : isR.map (fun i => wd[i]?) = wr.map some) (hnR : va_nd isR = true) (hdis : ∀ i ∈ isR, i ∉ isC) (k : ∀ r u, post r u → V Z D (kc + rm1.cells) (ks + rm1.slots) (wr ++ W1 u) lv (.int r :: rest) (pc + 3)) : V Z D kc ks wd lv st pc := by
  obtain ⟨p, l, e, R, s, m, args, below, meth, c, A, nL, Q⟩ := Z
  obtain ⟨hx, hb, hml, rfl, rfl, hown, hts, hK, hA, hN, hlocks⟩ := E
  subst hst
  intro H locs ls hP hD hS hl
  have hFc := va_free (wc := W0) hD hS hA isC hC
  have hPc := hP.subm isC hC
  have hDc := hD.sub isC hnd hC
  refine va_calli (va_runV (As := As) (rest := rest) (g := F0 m pc ls (As.reverse ++ .ref a :: rest)) ⟨hx, hb, hml, hown, hts⟩ (Cc l H.size) ⟨callB_of ka hts (lwg_inT ok.2.2.2.1) rfl rfl rfl (hts _ ok.2.2.1) (hts _ ok.1) ok.2.2.2.2 (okR_use hrm), hts _ ok.2.1.1, hts _ ok.2.1.2⟩ ⟨pw_blind, va_recv hK hP hc he, fun U hU hW => ⟨rfl, by rw [hU], by rw [hU]; exact hPc, va_K.moved hW.alike hK, hDc.weaken (fun _ _ _ _ => trivial), hN.warm hW⟩⟩ rfl hn hl.1 rfl (lv_room hcr) d hcs) hS (fun q _ h => hFc q h) hFc (fun r u t H1 locs1 ht hvm hw hB hz1 hk1 hS => ?_)
  obtain ⟨hP1, hD1⟩ := hB
  rw [ht] at hP1
  obtain ⟨h1, h2⟩ := va_join (wr := wr) hP hD isC isR hC hR hnR hdis hk1 hFc hP1 hD1
  exact k r u hw H1 locs1 ls h1 h2 hS hl
theorem v_cV_vW (E : EF Z D cc own rm n0) {y : MethodName} {b : ByteArray} {n idx ka : Nat} {rt : Option FieldType} {rm1 : Room} {As : List Value} {W0 : va_W} {a ci : Nat} {fs : List Value} {C : String} {T : u_T} {N : Nat} {W1 wr : va_W} (d : decode cc pc = .ok (.invokevirtual idx, 3)) (Cc : ∀ l, Ct l y b n rt rm1 D (.ref a :: As) W0 (QV1 D W1)) (ok : CVok own idx C y b n rt ka) (hn : As.length = ka) (hst : As.reverse ++ .ref a :: rest = st) (hrm : okR rm1 n rm = true) (hcr : (rest.map fun v => v.category).sum ≤ 8) (q0 : Nat) (he : wd[q0]? = some (a, .inr (ci, fs))) (hc : clX[ci]? = some (C, T, N)) (isC : List Nat) (hnd : va_nd isC = true) (hC : isC.map (fun i => wd[i]?) = W0.map some) (hcs : kc + rm1.cells ≤ rm.cells ∧ ks + rm1.slots ≤ rm.slots) (isR : List Nat) (hR : isR.map (fun i => wd[i]?) = wr.map some) (hnR : va_nd isR = true) (hdis : ∀ i ∈ isR, i ∉ isC) (k : V Z D (kc + rm1.cells) (ks + rm1.slots) (wr ++ W1) lv rest (pc + 3)) : V Z D kc ks wd lv st pc := by
  obtain ⟨p, l, e, R, s, m, args, below, meth, c, A, nL, Q⟩ := Z
  obtain ⟨hx, hb, hml, rfl, rfl, hown, hts, hK, hA, hN, hlocks⟩ := E
  subst hst
  intro H locs ls hP hD hS hl
  have hFc := va_free (wc := W0) hD hS hA isC hC
  have hPc := hP.subm isC hC
  have hDc := hD.sub isC hnd hC
  refine va_callv (va_runV (As := As) (rest := rest) (g := F0 m pc ls (As.reverse ++ .ref a :: rest)) ⟨hx, hb, hml, hown, hts⟩ (Cc l H.size) ⟨callB_of ka hts (lwg_inT ok.2.2.2.1) rfl rfl rfl (hts _ ok.2.2.1) (hts _ ok.1) ok.2.2.2.2 (okR_use hrm), hts _ ok.2.1.1, hts _ ok.2.1.2⟩ ⟨pw_blind, va_recv hK hP hc he, fun U hU hW => ⟨rfl, by rw [hU], by rw [hU]; exact hPc, va_K.moved hW.alike hK, hDc.weaken (fun _ _ _ _ => trivial), hN.warm hW⟩⟩ rfl hn hl.1 rfl (lv_room hcr) d hcs) hS (fun q _ h => hFc q h) hFc (fun u t H1 locs1 ht hvm hw hB hz1 hk1 hS => ?_)
  obtain ⟨hP1, hD1⟩ := hB
  rw [ht] at hP1
  obtain ⟨h1, h2⟩ := va_join (wr := wr) hP hD isC isR hC hR hnR hdis hk1 hFc hP1 hD1
  exact k H1 locs1 ls h1 h2 hS hl
end VCG
theorem inR_ok {s : Int32} {j : Nat} (hs : s = nI j) (hj : j < 2) : ¬ r_X6_inRange s 2 = 0 := by
  subst hs
  rcases (show j = 0 ∨ j = 1 by omega) with h | h <;> subst h <;> decide
def r_save_s (ct : Int32) : Int32 := ct
def w_save_s_17_2 (di : Int64) : Int64 := (w_X4_copyFrom_0_2 di)
def w_save_s_18_0 (ct : Int32) : Int32 := (w_X4_copyFrom_1_0 ct)
def w_save_s_18_1 (dp : Int32) : Int32 := (w_X4_copyFrom_1_1 dp)
def w_save_s_19 (we : Nat → Int32) (we3 : Nat → Int32) : Nat → Int32 := (w_X4_copyFrom_2 we3 we)
def w_save_s_20 (ok : Nat → Int32) (ok3 : Nat → Int32) : Nat → Int32 := (w_X4_copyFrom_3 ok3 ok)
def w_save_s_22 (us : Nat → Nat → Int32) (us3 : Nat → Nat → Int32) : Nat → Nat → Int32 := (w_X4_copyFrom_5 us3 us)
def w_save_s_26_0 (fc : Int32) : Int32 := (w_X4_copyFrom_9_0 fc)
def w_save_s_27 (ft : Nat → Int32) (ft3 : Nat → Int32) : Nat → Int32 := (w_X4_copyFrom_10 ft3 ft)
def w_save_s_28 (fn : Nat → Int32) (fn3 : Nat → Int32) : Nat → Int32 := (w_X4_copyFrom_11 fn3 fn)
def w_save_s_29 (fh : Nat → Int32) (fh3 : Nat → Int32) : Nat → Int32 := (w_X4_copyFrom_12 fh3 fh)
def w_save_s_30 (fe : Nat → Int32) (fe3 : Nat → Int32) : Nat → Int32 := (w_X4_copyFrom_13 fe3 fe)
def w_save_s_31 (fo : Nat → Int32) (fo3 : Nat → Int32) : Nat → Int32 := (w_X4_copyFrom_14 fo3 fo)
set_option maxRecDepth 20000 in
/-- X6_save -/
theorem c_save_s (D : va_G) (x0 : Nat) (x1 : Nat) (sv : Nat → Option Nat) (q : Nat → Nat) (ct : Int32) (dp : Int32) (we : Nat → Int32) (ok : Nat → Int32) (us : Nat → Nat → Int32) (fc : Int32) (ft : Nat → Int32) (fn : Nat → Int32) (fh : Nat → Int32) (fe : Nat → Int32) (fo : Nat → Int32) (di : Int64) (p : Nat → Nat) (ct3 : Int32) (dp3 : Int32) (we3 : Nat → Int32) (ok3 : Nat → Int32) (us3 : Nat → Nat → Int32) (fc3 : Int32) (ft3 : Nat → Int32) (fn3 : Nat → Int32) (fh3 : Nat → Int32) (fe3 : Nat → Int32) (fo3 : Nat → Int32) (di3 : Int64) (s : Int32) (j : Nat) (hs : s = nI j) (hj : j < 2) (hsv : sv j = some (p 0)) (hfh : ∀ i, i < 40 → fits .boolean (.int (fh i)) = true) (hfe : ∀ i, i < 40 → fits .boolean (.int (fe i)) = true) (l : Launch) : Ct l yX6_save cX6_save 3 (some .int) (rmM 3 103 0 0) D [.ref x0, .int s] [(x0, .inr (6, [.ref (q 0), .ref x1])), (x1, aS D 2 sv), (q 0, .inr (4, [.ref (q 1), .ref (q 9), .long di])), (q 1, .inr (5, [.int ct, .int dp, .ref (q 2), .ref (q 3), .ref (q 4)])), (q 2, aI D 20 we), (q 3, aI D 3 ok), (q 4, aG D 4 (gU q 5)), (q 5, aI D 20 (us 0)), (q 6, aI D 20 (us 1)), (q 7, aI D 20 (us 2)), (q 8, aI D 20 (us 3)), (q 9, .inr (1, [.int fc, .ref (q 10), .ref (q 11), .ref (q 12), .ref (q 13), .ref (q 14)])), (q 10, aI D 40 ft), (q 11, aI D 40 fn), (q 12, aZ D 40 fh), (q 13, aZ D 40 fe), (q 14, aI D 100 fo), (p 0, .inr (4, [.ref (p 1), .ref (p 9), .long di3])), (p 1, .inr (5, [.int ct3, .int dp3, .ref (p 2), .ref (p 3), .ref (p 4)])), (p 2, aI D 20 we3), (p 3, aI D 3 ok3), (p 4, aG D 4 (gU p 5)), (p 5, aI D 20 (us3 0)), (p 6, aI D 20 (us3 1)), (p 7, aI D 20 (us3 2)), (p 8, aI D 20 (us3 3)), (p 9, .inr (1, [.int fc3, .ref (p 10), .ref (p 11), .ref (p 12), .ref (p 13), .ref (p 14)])), (p 10, aI D 40 ft3), (p 11, aI D 40 fn3), (p 12, aZ D 40 fh3), (p 13, aZ D 40 fe3), (p 14, aI D 100 fo3)] (QI1 D (r_save_s ct) [(x0, .inr (6, [.ref (q 0), .ref x1])), (x1, aS D 2 sv), (q 0, .inr (4, [.ref (q 1), .ref (q 9), .long di])), (q 1, .inr (5, [.int ct, .int dp, .ref (q 2), .ref (q 3), .ref (q 4)])), (q 2, aI D 20 we), (q 3, aI D 3 ok), (q 4, aG D 4 (gU q 5)), (q 5, aI D 20 (us 0)), (q 6, aI D 20 (us 1)), (q 7, aI D 20 (us 2)), (q 8, aI D 20 (us 3)), (q 9, .inr (1, [.int fc, .ref (q 10), .ref (q 11), .ref (q 12), .ref (q 13), .ref (q 14)])), (q 10, aI D 40 ft), (q 11, aI D 40 fn), (q 12, aZ D 40 fh), (q 13, aZ D 40 fe), (q 14, aI D 100 fo), (p 0, .inr (4, [.ref (p 1), .ref (p 9), .long (w_save_s_17_2 di)])), (p 1, .inr (5, [.int (w_save_s_18_0 ct), .int (w_save_s_18_1 dp), .ref (p 2), .ref (p 3), .ref (p 4)])), (p 2, aI D 20 (w_save_s_19 we we3)), (p 3, aI D 3 (w_save_s_20 ok ok3)), (p 4, aG D 4 (gU p 5)), (p 5, aI D 20 ((w_save_s_22 us us3) 0)), (p 6, aI D 20 ((w_save_s_22 us us3) 1)), (p 7, aI D 20 ((w_save_s_22 us us3) 2)), (p 8, aI D 20 ((w_save_s_22 us us3) 3)), (p 9, .inr (1, [.int (w_save_s_26_0 fc), .ref (p 10), .ref (p 11), .ref (p 12), .ref (p 13), .ref (p 14)])), (p 10, aI D 40 (w_save_s_27 ft ft3)), (p 11, aI D 40 (w_save_s_28 fn fn3)), (p 12, aZ D 40 (w_save_s_29 fh fh3)), (p 13, aZ D 40 (w_save_s_30 fe fe3)), (p 14, aI D 100 (w_save_s_31 fo fo3))]) := by
  refine Ct.ofV 1 (lv0 := [some (.ref x0), some (.int s), none]) (by decide) rfl rfl (fun Z E F => ?_)
  refine v_iload_n E dX6_save_0 rfl ?_
  refine v_iconst E dX6_save_1 (v := 2) (by decide) ?_
  refine v_cS_i E dX6_save_2 (c_X6_inRange D s 2) cs_X6_24 rfl rfl rfl (Nat.le_of_ble_eq_true rfl) [] rfl rfl ⟨Nat.le_of_ble_eq_true rfl, Nat.le_of_ble_eq_true rfl⟩ ?_
  refine v_if_ne E 11 dX6_save_5 (by decide) (fun c_5 => ?_) (fun c_5 => ?_)
  · refine v_aload_n E dX6_save_11 rfl ?_
    refine v_get E dX6_save_12 (ci := 6) rfl iwX6 0 rfl 1 rfl fl_X6_16 rfl ?_
    refine v_iload_n E dX6_save_15 rfl ?_
    refine v_sald E dX6_save_16 1 rfl j hs (by omega) rfl ?_
    rw [show va_rf (sv j) = .ref (p 0) from by rw [hsv]; rfl]
    refine v_astore_n E dX6_save_17 rfl rfl ?_
    refine v_aload_n E dX6_save_18 rfl ?_
    refine v_ifnonnull E 37 dX6_save_19 (by decide) ?_
    refine v_aload_n E dX6_save_37 rfl ?_
    refine v_aload_n E dX6_save_38 rfl ?_
    refine v_get E dX6_save_39 (ci := 6) rfl iwX6 0 rfl 0 rfl fl_X6_12 rfl ?_
    refine v_cV_vW E dX6_save_42 (c_X4_copyFrom D p ct3 dp3 we3 ok3 us3 fc3 ft3 fn3 fh3 fe3 fo3 di3 q ct dp we ok us fc ft fn fh fe fo di hfh hfe) cs_X6_182 rfl rfl rfl (Nat.le_of_ble_eq_true rfl) 17 rfl rfl [17, 18, 19, 20, 21, 22, 23, 24, 25, 26, 27, 28, 29, 30, 31, 2, 3, 4, 5, 6, 7, 8, 9, 10, 11, 12, 13, 14, 15, 16] rfl rfl ⟨Nat.le_of_ble_eq_true rfl, Nat.le_of_ble_eq_true rfl⟩ (wr := [(x0, .inr (6, [.ref (q 0), .ref x1])), (x1, aS D 2 sv)]) [0, 1] rfl rfl (by decide) ?_
    refine v_sub [0, 1, 17, 18, 19, 20, 21, 22, 23, 24, 25, 26, 27, 28, 29, 30, 31, 2, 3, 4, 5, 6, 7, 8, 9, 10, 11, 12, 13, 14, 15, 16] rfl (wd' := [(x0, .inr (6, [.ref (q 0), .ref x1])), (x1, aS D 2 sv), (q 0, .inr (4, [.ref (q 1), .ref (q 9), .long di])), (q 1, .inr (5, [.int ct, .int dp, .ref (q 2), .ref (q 3), .ref (q 4)])), (q 2, aI D 20 we), (q 3, aI D 3 ok), (q 4, aG D 4 (gU q 5)), (q 5, aI D 20 (us 0)), (q 6, aI D 20 (us 1)), (q 7, aI D 20 (us 2)), (q 8, aI D 20 (us 3)), (q 9, .inr (1, [.int fc, .ref (q 10), .ref (q 11), .ref (q 12), .ref (q 13), .ref (q 14)])), (q 10, aI D 40 ft), (q 11, aI D 40 fn), (q 12, aZ D 40 fh), (q 13, aZ D 40 fe), (q 14, aI D 100 fo), (p 0, .inr (4, [.ref (p 1), .ref (p 9), .long (w_X4_copyFrom_0_2 di)])), (p 1, .inr (5, [.int (w_X4_copyFrom_1_0 ct), .int (w_X4_copyFrom_1_1 dp), .ref (p 2), .ref (p 3), .ref (p 4)])), (p 2, aI D 20 (w_X4_copyFrom_2 we3 we)), (p 3, aI D 3 (w_X4_copyFrom_3 ok3 ok)), (p 4, aG D 4 (gU p 5)), (p 5, aI D 20 ((w_X4_copyFrom_5 us3 us) 0)), (p 6, aI D 20 ((w_X4_copyFrom_5 us3 us) 1)), (p 7, aI D 20 ((w_X4_copyFrom_5 us3 us) 2)), (p 8, aI D 20 ((w_X4_copyFrom_5 us3 us) 3)), (p 9, .inr (1, [.int (w_X4_copyFrom_9_0 fc), .ref (p 10), .ref (p 11), .ref (p 12), .ref (p 13), .ref (p 14)])), (p 10, aI D 40 (w_X4_copyFrom_10 ft3 ft)), (p 11, aI D 40 (w_X4_copyFrom_11 fn3 fn)), (p 12, aZ D 40 (w_X4_copyFrom_12 fh3 fh)), (p 13, aZ D 40 (w_X4_copyFrom_13 fe3 fe)), (p 14, aI D 100 (w_X4_copyFrom_14 fo3 fo))]) rfl ?_
    refine v_aload_n E dX6_save_45 rfl ?_
    refine v_get E dX6_save_46 (ci := 6) rfl iwX6 0 rfl 0 rfl fl_X6_12 rfl ?_
    refine v_get E dX6_save_49 (ci := 4) rfl iwX4 2 rfl 0 rfl fl_X6_20 rfl ?_
    refine v_get E dX6_save_52 (ci := 5) rfl iwX5 3 rfl 0 rfl fl_X6_28 rfl ?_
    exact v_iret E F dX6_save_55 rfl rfl () rfl rfl (Nat.le_of_ble_eq_true rfl) (Nat.le_of_ble_eq_true rfl)
  · exact absurd c_5 (inR_ok hs hj)

def r_restore_s (ct3 : Int32) : Int32 := (w_X4_copyFrom_1_0 ct3)
def w_restore_s_2_2 (di3 : Int64) : Int64 := (w_X4_copyFrom_0_2 di3)
def w_restore_s_3_0 (ct3 : Int32) : Int32 := (w_X4_copyFrom_1_0 ct3)
def w_restore_s_3_1 (dp3 : Int32) : Int32 := (w_X4_copyFrom_1_1 dp3)
def w_restore_s_4 (we : Nat → Int32) (we3 : Nat → Int32) : Nat → Int32 := (w_X4_copyFrom_2 we we3)
def w_restore_s_5 (ok : Nat → Int32) (ok3 : Nat → Int32) : Nat → Int32 := (w_X4_copyFrom_3 ok ok3)
def w_restore_s_7 (us : Nat → Nat → Int32) (us3 : Nat → Nat → Int32) : Nat → Nat → Int32 := (w_X4_copyFrom_5 us us3)
def w_restore_s_11_0 (fc3 : Int32) : Int32 := (w_X4_copyFrom_9_0 fc3)
def w_restore_s_12 (ft : Nat → Int32) (ft3 : Nat → Int32) : Nat → Int32 := (w_X4_copyFrom_10 ft ft3)
def w_restore_s_13 (fn : Nat → Int32) (fn3 : Nat → Int32) : Nat → Int32 := (w_X4_copyFrom_11 fn fn3)
def w_restore_s_14 (fh : Nat → Int32) (fh3 : Nat → Int32) : Nat → Int32 := (w_X4_copyFrom_12 fh fh3)
def w_restore_s_15 (fe : Nat → Int32) (fe3 : Nat → Int32) : Nat → Int32 := (w_X4_copyFrom_13 fe fe3)
def w_restore_s_16 (fo : Nat → Int32) (fo3 : Nat → Int32) : Nat → Int32 := (w_X4_copyFrom_14 fo fo3)
set_option maxRecDepth 20000 in
/-- X6_restore -/
theorem c_restore_s (D : va_G) (x0 : Nat) (x1 : Nat) (sv : Nat → Option Nat) (q : Nat → Nat) (ct : Int32) (dp : Int32) (we : Nat → Int32) (ok : Nat → Int32) (us : Nat → Nat → Int32) (fc : Int32) (ft : Nat → Int32) (fn : Nat → Int32) (fh : Nat → Int32) (fe : Nat → Int32) (fo : Nat → Int32) (di : Int64) (p : Nat → Nat) (ct3 : Int32) (dp3 : Int32) (we3 : Nat → Int32) (ok3 : Nat → Int32) (us3 : Nat → Nat → Int32) (fc3 : Int32) (ft3 : Nat → Int32) (fn3 : Nat → Int32) (fh3 : Nat → Int32) (fe3 : Nat → Int32) (fo3 : Nat → Int32) (di3 : Int64) (s : Int32) (j : Nat) (hs : s = nI j) (hj : j < 2) (hsv : sv j = some (p 0)) (hfh3 : ∀ i, i < 40 → fits .boolean (.int (fh3 i)) = true) (hfe3 : ∀ i, i < 40 → fits .boolean (.int (fe3 i)) = true) (l : Launch) : Ct l yX6_restore cX6_restore 3 (some .int) (rmM 3 103 0 0) D [.ref x0, .int s] [(x0, .inr (6, [.ref (q 0), .ref x1])), (x1, aS D 2 sv), (q 0, .inr (4, [.ref (q 1), .ref (q 9), .long di])), (q 1, .inr (5, [.int ct, .int dp, .ref (q 2), .ref (q 3), .ref (q 4)])), (q 2, aI D 20 we), (q 3, aI D 3 ok), (q 4, aG D 4 (gU q 5)), (q 5, aI D 20 (us 0)), (q 6, aI D 20 (us 1)), (q 7, aI D 20 (us 2)), (q 8, aI D 20 (us 3)), (q 9, .inr (1, [.int fc, .ref (q 10), .ref (q 11), .ref (q 12), .ref (q 13), .ref (q 14)])), (q 10, aI D 40 ft), (q 11, aI D 40 fn), (q 12, aZ D 40 fh), (q 13, aZ D 40 fe), (q 14, aI D 100 fo), (p 0, .inr (4, [.ref (p 1), .ref (p 9), .long di3])), (p 1, .inr (5, [.int ct3, .int dp3, .ref (p 2), .ref (p 3), .ref (p 4)])), (p 2, aI D 20 we3), (p 3, aI D 3 ok3), (p 4, aG D 4 (gU p 5)), (p 5, aI D 20 (us3 0)), (p 6, aI D 20 (us3 1)), (p 7, aI D 20 (us3 2)), (p 8, aI D 20 (us3 3)), (p 9, .inr (1, [.int fc3, .ref (p 10), .ref (p 11), .ref (p 12), .ref (p 13), .ref (p 14)])), (p 10, aI D 40 ft3), (p 11, aI D 40 fn3), (p 12, aZ D 40 fh3), (p 13, aZ D 40 fe3), (p 14, aI D 100 fo3)] (QI1 D (r_restore_s ct3) [(x0, .inr (6, [.ref (q 0), .ref x1])), (x1, aS D 2 sv), (q 0, .inr (4, [.ref (q 1), .ref (q 9), .long (w_restore_s_2_2 di3)])), (q 1, .inr (5, [.int (w_restore_s_3_0 ct3), .int (w_restore_s_3_1 dp3), .ref (q 2), .ref (q 3), .ref (q 4)])), (q 2, aI D 20 (w_restore_s_4 we we3)), (q 3, aI D 3 (w_restore_s_5 ok ok3)), (q 4, aG D 4 (gU q 5)), (q 5, aI D 20 ((w_restore_s_7 us us3) 0)), (q 6, aI D 20 ((w_restore_s_7 us us3) 1)), (q 7, aI D 20 ((w_restore_s_7 us us3) 2)), (q 8, aI D 20 ((w_restore_s_7 us us3) 3)), (q 9, .inr (1, [.int (w_restore_s_11_0 fc3), .ref (q 10), .ref (q 11), .ref (q 12), .ref (q 13), .ref (q 14)])), (q 10, aI D 40 (w_restore_s_12 ft ft3)), (q 11, aI D 40 (w_restore_s_13 fn fn3)), (q 12, aZ D 40 (w_restore_s_14 fh fh3)), (q 13, aZ D 40 (w_restore_s_15 fe fe3)), (q 14, aI D 100 (w_restore_s_16 fo fo3)), (p 0, .inr (4, [.ref (p 1), .ref (p 9), .long di3])), (p 1, .inr (5, [.int ct3, .int dp3, .ref (p 2), .ref (p 3), .ref (p 4)])), (p 2, aI D 20 we3), (p 3, aI D 3 ok3), (p 4, aG D 4 (gU p 5)), (p 5, aI D 20 (us3 0)), (p 6, aI D 20 (us3 1)), (p 7, aI D 20 (us3 2)), (p 8, aI D 20 (us3 3)), (p 9, .inr (1, [.int fc3, .ref (p 10), .ref (p 11), .ref (p 12), .ref (p 13), .ref (p 14)])), (p 10, aI D 40 ft3), (p 11, aI D 40 fn3), (p 12, aZ D 40 fh3), (p 13, aZ D 40 fe3), (p 14, aI D 100 fo3)]) := by
  refine Ct.ofV 1 (lv0 := [some (.ref x0), some (.int s), none]) (by decide) rfl rfl (fun Z E F => ?_)
  refine v_iload_n E dX6_restore_0 rfl ?_
  refine v_iconst E dX6_restore_1 (v := 2) (by decide) ?_
  refine v_cS_i E dX6_restore_2 (c_X6_inRange D s 2) cs_X6_24 rfl rfl rfl (Nat.le_of_ble_eq_true rfl) [] rfl rfl ⟨Nat.le_of_ble_eq_true rfl, Nat.le_of_ble_eq_true rfl⟩ ?_
  refine v_if_ne E 11 dX6_restore_5 (by decide) (fun c_5 => ?_) (fun c_5 => ?_)
  · refine v_aload_n E dX6_restore_11 rfl ?_
    refine v_get E dX6_restore_12 (ci := 6) rfl iwX6 0 rfl 1 rfl fl_X6_16 rfl ?_
    refine v_iload_n E dX6_restore_15 rfl ?_
    refine v_sald E dX6_restore_16 1 rfl j hs (by omega) rfl ?_
    rw [show va_rf (sv j) = .ref (p 0) from by rw [hsv]; rfl]
    refine v_astore_n E dX6_restore_17 rfl rfl ?_
    refine v_aload_n E dX6_restore_18 rfl ?_
    refine v_ifnonnull E 25 dX6_restore_19 (by decide) ?_
    refine v_aload_n E dX6_restore_25 rfl ?_
    refine v_get E dX6_restore_26 (ci := 6) rfl iwX6 0 rfl 0 rfl fl_X6_12 rfl ?_
    refine v_aload_n E dX6_restore_29 rfl ?_
    refine v_cV_vW E dX6_restore_30 (c_X4_copyFrom D q ct dp we ok us fc ft fn fh fe fo di p ct3 dp3 we3 ok3 us3 fc3 ft3 fn3 fh3 fe3 fo3 di3 hfh3 hfe3) cs_X6_182 rfl rfl rfl (Nat.le_of_ble_eq_true rfl) 2 rfl rfl [2, 3, 4, 5, 6, 7, 8, 9, 10, 11, 12, 13, 14, 15, 16, 17, 18, 19, 20, 21, 22, 23, 24, 25, 26, 27, 28, 29, 30, 31] rfl rfl ⟨Nat.le_of_ble_eq_true rfl, Nat.le_of_ble_eq_true rfl⟩ (wr := [(x0, .inr (6, [.ref (q 0), .ref x1])), (x1, aS D 2 sv)]) [0, 1] rfl rfl (by decide) ?_
    refine v_sub [0, 1, 2, 3, 4, 5, 6, 7, 8, 9, 10, 11, 12, 13, 14, 15, 16, 17, 18, 19, 20, 21, 22, 23, 24, 25, 26, 27, 28, 29, 30, 31] rfl (wd' := [(x0, .inr (6, [.ref (q 0), .ref x1])), (x1, aS D 2 sv), (q 0, .inr (4, [.ref (q 1), .ref (q 9), .long (w_X4_copyFrom_0_2 di3)])), (q 1, .inr (5, [.int (w_X4_copyFrom_1_0 ct3), .int (w_X4_copyFrom_1_1 dp3), .ref (q 2), .ref (q 3), .ref (q 4)])), (q 2, aI D 20 (w_X4_copyFrom_2 we we3)), (q 3, aI D 3 (w_X4_copyFrom_3 ok ok3)), (q 4, aG D 4 (gU q 5)), (q 5, aI D 20 ((w_X4_copyFrom_5 us us3) 0)), (q 6, aI D 20 ((w_X4_copyFrom_5 us us3) 1)), (q 7, aI D 20 ((w_X4_copyFrom_5 us us3) 2)), (q 8, aI D 20 ((w_X4_copyFrom_5 us us3) 3)), (q 9, .inr (1, [.int (w_X4_copyFrom_9_0 fc3), .ref (q 10), .ref (q 11), .ref (q 12), .ref (q 13), .ref (q 14)])), (q 10, aI D 40 (w_X4_copyFrom_10 ft ft3)), (q 11, aI D 40 (w_X4_copyFrom_11 fn fn3)), (q 12, aZ D 40 (w_X4_copyFrom_12 fh fh3)), (q 13, aZ D 40 (w_X4_copyFrom_13 fe fe3)), (q 14, aI D 100 (w_X4_copyFrom_14 fo fo3)), (p 0, .inr (4, [.ref (p 1), .ref (p 9), .long di3])), (p 1, .inr (5, [.int ct3, .int dp3, .ref (p 2), .ref (p 3), .ref (p 4)])), (p 2, aI D 20 we3), (p 3, aI D 3 ok3), (p 4, aG D 4 (gU p 5)), (p 5, aI D 20 (us3 0)), (p 6, aI D 20 (us3 1)), (p 7, aI D 20 (us3 2)), (p 8, aI D 20 (us3 3)), (p 9, .inr (1, [.int fc3, .ref (p 10), .ref (p 11), .ref (p 12), .ref (p 13), .ref (p 14)])), (p 10, aI D 40 ft3), (p 11, aI D 40 fn3), (p 12, aZ D 40 fh3), (p 13, aZ D 40 fe3), (p 14, aI D 100 fo3)]) rfl ?_
    refine v_aload_n E dX6_restore_33 rfl ?_
    refine v_get E dX6_restore_34 (ci := 6) rfl iwX6 0 rfl 0 rfl fl_X6_12 rfl ?_
    refine v_get E dX6_restore_37 (ci := 4) rfl iwX4 2 rfl 0 rfl fl_X6_20 rfl ?_
    refine v_get E dX6_restore_40 (ci := 5) rfl iwX5 3 rfl 0 rfl fl_X6_28 rfl ?_
    exact v_iret E F dX6_restore_43 rfl rfl () rfl rfl (Nat.le_of_ble_eq_true rfl) (Nat.le_of_ble_eq_true rfl)
  · exact absurd c_5 (inR_ok hs hj)

def r_restore_n  : Int32 := (-11)
set_option maxRecDepth 20000 in
/-- X6_restore -/
theorem c_restore_n (D : va_G) (x0 : Nat) (x1 : Nat) (sv : Nat → Option Nat) (q : Nat → Nat) (ct : Int32) (dp : Int32) (we : Nat → Int32) (ok : Nat → Int32) (us : Nat → Nat → Int32) (fc : Int32) (ft : Nat → Int32) (fn : Nat → Int32) (fh : Nat → Int32) (fe : Nat → Int32) (fo : Nat → Int32) (di : Int64) (s : Int32) (j : Nat) (hs : s = nI j) (hj : j < 2) (hsv : sv j = none) (l : Launch) : Ct l yX6_restore cX6_restore 3 (some .int) (rmM 1 21 0 0) D [.ref x0, .int s] [(x0, .inr (6, [.ref (q 0), .ref x1])), (x1, aS D 2 sv), (q 0, .inr (4, [.ref (q 1), .ref (q 9), .long di])), (q 1, .inr (5, [.int ct, .int dp, .ref (q 2), .ref (q 3), .ref (q 4)])), (q 2, aI D 20 we), (q 3, aI D 3 ok), (q 4, aG D 4 (gU q 5)), (q 5, aI D 20 (us 0)), (q 6, aI D 20 (us 1)), (q 7, aI D 20 (us 2)), (q 8, aI D 20 (us 3)), (q 9, .inr (1, [.int fc, .ref (q 10), .ref (q 11), .ref (q 12), .ref (q 13), .ref (q 14)])), (q 10, aI D 40 ft), (q 11, aI D 40 fn), (q 12, aZ D 40 fh), (q 13, aZ D 40 fe), (q 14, aI D 100 fo)] (QI1 D (r_restore_n) [(x0, .inr (6, [.ref (q 0), .ref x1])), (x1, aS D 2 sv), (q 0, .inr (4, [.ref (q 1), .ref (q 9), .long di])), (q 1, .inr (5, [.int ct, .int dp, .ref (q 2), .ref (q 3), .ref (q 4)])), (q 2, aI D 20 we), (q 3, aI D 3 ok), (q 4, aG D 4 (gU q 5)), (q 5, aI D 20 (us 0)), (q 6, aI D 20 (us 1)), (q 7, aI D 20 (us 2)), (q 8, aI D 20 (us 3)), (q 9, .inr (1, [.int fc, .ref (q 10), .ref (q 11), .ref (q 12), .ref (q 13), .ref (q 14)])), (q 10, aI D 40 ft), (q 11, aI D 40 fn), (q 12, aZ D 40 fh), (q 13, aZ D 40 fe), (q 14, aI D 100 fo)]) := by
  refine Ct.ofV 1 (lv0 := [some (.ref x0), some (.int s), none]) (by decide) rfl rfl (fun Z E F => ?_)
  refine v_iload_n E dX6_restore_0 rfl ?_
  refine v_iconst E dX6_restore_1 (v := 2) (by decide) ?_
  refine v_cS_i E dX6_restore_2 (c_X6_inRange D s 2) cs_X6_24 rfl rfl rfl (Nat.le_of_ble_eq_true rfl) [] rfl rfl ⟨Nat.le_of_ble_eq_true rfl, Nat.le_of_ble_eq_true rfl⟩ ?_
  refine v_if_ne E 11 dX6_restore_5 (by decide) (fun c_5 => ?_) (fun c_5 => ?_)
  · refine v_aload_n E dX6_restore_11 rfl ?_
    refine v_get E dX6_restore_12 (ci := 6) rfl iwX6 0 rfl 1 rfl fl_X6_16 rfl ?_
    refine v_iload_n E dX6_restore_15 rfl ?_
    refine v_sald E dX6_restore_16 1 rfl j hs (by omega) rfl ?_
    rw [show va_rf (sv j) = .null from by rw [hsv]; rfl]
    refine v_astore_nN E dX6_restore_17 rfl rfl ?_
    refine v_aload_nN E dX6_restore_18 rfl ?_
    refine v_ifnonnullN E dX6_restore_19 ?_
    refine v_bipush E dX6_restore_22 (v := -11) (by decide) ?_
    exact v_iret E F dX6_restore_24 rfl rfl () rfl rfl (Nat.le_of_ble_eq_true rfl) (Nat.le_of_ble_eq_true rfl)
  · exact absurd c_5 (inR_ok hs hj)

def adN (s : Nat) (p : Nat → Nat) : Nat → Nat := fun k => match k with
  | 0 => s
  | k => p k
def r_save_n (ct : Int32) : Int32 := ct
def w_save_n_n0_2 (di : Int64) : Int64 := (w_X4_copyFrom_0_2 di)
def w_save_n_n1_0 (ct : Int32) : Int32 := (w_X4_copyFrom_1_0 ct)
def w_save_n_n1_1 (dp : Int32) : Int32 := (w_X4_copyFrom_1_1 dp)
def w_save_n_n2 (we : Nat → Int32) : Nat → Int32 := (w_X4_copyFrom_2 (fun _ => 0) we)
def w_save_n_n3 (ok : Nat → Int32) : Nat → Int32 := (w_X4_copyFrom_3 (fun _ => 0) ok)
def w_save_n_n9_0 (fc : Int32) : Int32 := (w_X4_copyFrom_9_0 fc)
def w_save_n_n10 (ft : Nat → Int32) : Nat → Int32 := (w_X4_copyFrom_10 (fun _ => 0) ft)
def w_save_n_n11 (fn : Nat → Int32) : Nat → Int32 := (w_X4_copyFrom_11 (fun _ => 0) fn)
def w_save_n_n12 (fh : Nat → Int32) : Nat → Int32 := (w_X4_copyFrom_12 (fun _ => 0) fh)
def w_save_n_n13 (fe : Nat → Int32) : Nat → Int32 := (w_X4_copyFrom_13 (fun _ => 0) fe)
def w_save_n_n14 (fo : Nat → Int32) : Nat → Int32 := (w_X4_copyFrom_14 (w_X4_init_n13) fo)
set_option maxRecDepth 20000 in
/-- X6_save -/
theorem c_save_n (D : va_G) (x0 : Nat) (x1 : Nat) (sv : Nat → Option Nat) (q : Nat → Nat) (ct : Int32) (dp : Int32) (we : Nat → Int32) (ok : Nat → Int32) (us : Nat → Nat → Int32) (fc : Int32) (ft : Nat → Int32) (fn : Nat → Int32) (fh : Nat → Int32) (fe : Nat → Int32) (fo : Nat → Int32) (di : Int64) (s : Int32) (j : Nat) (hs : s = nI j) (hj : j < 2) (hsv : sv j = none) (hfh : ∀ i, i < 40 → fits .boolean (.int (fh i)) = true) (hfe : ∀ i, i < 40 → fits .boolean (.int (fe i)) = true) (l : Launch) : Ct l yX6_save cX6_save 3 (some .int) (rmM 3 103 15 381) D [.ref x0, .int s] [(x0, .inr (6, [.ref (q 0), .ref x1])), (x1, aS D 2 sv), (q 0, .inr (4, [.ref (q 1), .ref (q 9), .long di])), (q 1, .inr (5, [.int ct, .int dp, .ref (q 2), .ref (q 3), .ref (q 4)])), (q 2, aI D 20 we), (q 3, aI D 3 ok), (q 4, aG D 4 (gU q 5)), (q 5, aI D 20 (us 0)), (q 6, aI D 20 (us 1)), (q 7, aI D 20 (us 2)), (q 8, aI D 20 (us 3)), (q 9, .inr (1, [.int fc, .ref (q 10), .ref (q 11), .ref (q 12), .ref (q 13), .ref (q 14)])), (q 10, aI D 40 ft), (q 11, aI D 40 fn), (q 12, aZ D 40 fh), (q 13, aZ D 40 fe), (q 14, aI D 100 fo)] (QI (S := Nat → Nat) D (fun x _ => x = r_save_n ct) (fun u => [(x0, .inr (6, [.ref (q 0), .ref x1])), (x1, aS D 2 (va_up sv j (some (u 0)))), (q 0, .inr (4, [.ref (q 1), .ref (q 9), .long di])), (q 1, .inr (5, [.int ct, .int dp, .ref (q 2), .ref (q 3), .ref (q 4)])), (q 2, aI D 20 we), (q 3, aI D 3 ok), (q 4, aG D 4 (gU q 5)), (q 5, aI D 20 (us 0)), (q 6, aI D 20 (us 1)), (q 7, aI D 20 (us 2)), (q 8, aI D 20 (us 3)), (q 9, .inr (1, [.int fc, .ref (q 10), .ref (q 11), .ref (q 12), .ref (q 13), .ref (q 14)])), (q 10, aI D 40 ft), (q 11, aI D 40 fn), (q 12, aZ D 40 fh), (q 13, aZ D 40 fe), (q 14, aI D 100 fo), (u 0, .inr (4, [.ref (u 1), .ref (u 9), .long (w_save_n_n0_2 di)])), (u 1, .inr (5, [.int (w_save_n_n1_0 ct), .int (w_save_n_n1_1 dp), .ref (u 2), .ref (u 3), .ref (u 4)])), (u 2, aI D 20 (w_save_n_n2 we)), (u 3, aI D 3 (w_save_n_n3 ok)), (u 4, aG D 4 (gU u 5)), (u 5, aI D 20 ((w_X4_copyFrom_5 us0 us) 0)), (u 6, aI D 20 ((w_X4_copyFrom_5 us0 us) 1)), (u 7, aI D 20 ((w_X4_copyFrom_5 us0 us) 2)), (u 8, aI D 20 ((w_X4_copyFrom_5 us0 us) 3)), (u 9, .inr (1, [.int (w_save_n_n9_0 fc), .ref (u 10), .ref (u 11), .ref (u 12), .ref (u 13), .ref (u 14)])), (u 10, aI D 40 (w_save_n_n10 ft)), (u 11, aI D 40 (w_save_n_n11 fn)), (u 12, aZ D 40 (w_save_n_n12 fh)), (u 13, aZ D 40 (w_save_n_n13 fe)), (u 14, aI D 100 (w_save_n_n14 fo))])) := by
  refine Ct.ofV 1 (lv0 := [some (.ref x0), some (.int s), none]) (by decide) rfl rfl (fun Z E F => ?_)
  refine v_iload_n E dX6_save_0 rfl ?_
  refine v_iconst E dX6_save_1 (v := 2) (by decide) ?_
  refine v_cS_i E dX6_save_2 (c_X6_inRange D s 2) cs_X6_24 rfl rfl rfl (Nat.le_of_ble_eq_true rfl) [] rfl rfl ⟨Nat.le_of_ble_eq_true rfl, Nat.le_of_ble_eq_true rfl⟩ ?_
  refine v_if_ne E 11 dX6_save_5 (by decide) (fun c_5 => ?_) (fun c_5 => ?_)
  · refine v_aload_n E dX6_save_11 rfl ?_
    refine v_get E dX6_save_12 (ci := 6) rfl iwX6 0 rfl 1 rfl fl_X6_16 rfl ?_
    refine v_iload_n E dX6_save_15 rfl ?_
    refine v_sald E dX6_save_16 1 rfl j hs (by omega) rfl ?_
    rw [show va_rf (sv j) = .null from by rw [hsv]; rfl]
    refine v_astore_nN E dX6_save_17 rfl rfl ?_
    refine v_aload_nN E dX6_save_18 rfl ?_
    refine v_ifnonnullN E dX6_save_19 ?_
    refine v_new E dX6_save_22 (ci := 4) rfl iwX4 tyX4 tyX4_ok cl_X6_9 ib_X4 tw_in_X4 [.null, .null, .long 0] (fun j hj => by rcases (show j = 0 ∨ j = 1 ∨ j = 2 by omega) with rfl | rfl | rfl <;> rfl) (Nat.le_of_ble_eq_true rfl) (Nat.le_of_ble_eq_true rfl) (fun qv22 => ?_)
    refine v_wd (wd2 := [(x0, .inr (6, [.ref (q 0), .ref x1])), (x1, aS D 2 sv), (q 0, .inr (4, [.ref (q 1), .ref (q 9), .long di])), (q 1, .inr (5, [.int ct, .int dp, .ref (q 2), .ref (q 3), .ref (q 4)])), (q 2, aI D 20 we), (q 3, aI D 3 ok), (q 4, aG D 4 (gU q 5)), (q 5, aI D 20 (us 0)), (q 6, aI D 20 (us 1)), (q 7, aI D 20 (us 2)), (q 8, aI D 20 (us 3)), (q 9, .inr (1, [.int fc, .ref (q 10), .ref (q 11), .ref (q 12), .ref (q 13), .ref (q 14)])), (q 10, aI D 40 ft), (q 11, aI D 40 fn), (q 12, aZ D 40 fh), (q 13, aZ D 40 fe), (q 14, aI D 100 fo), (qv22, .inr (4, [.null, .null, .long 0]))]) rfl ?_
    refine v_dup E dX6_save_25 rfl ?_
    refine v_cJ_vG E dX6_save_26 (c_X4_init D qv22) cs_X6_11 rfl rfl rfl (Nat.le_of_ble_eq_true rfl) [17] rfl rfl ⟨Nat.le_of_ble_eq_true rfl, Nat.le_of_ble_eq_true rfl⟩ (wr := [(x0, .inr (6, [.ref (q 0), .ref x1])), (x1, aS D 2 sv), (q 0, .inr (4, [.ref (q 1), .ref (q 9), .long di])), (q 1, .inr (5, [.int ct, .int dp, .ref (q 2), .ref (q 3), .ref (q 4)])), (q 2, aI D 20 we), (q 3, aI D 3 ok), (q 4, aG D 4 (gU q 5)), (q 5, aI D 20 (us 0)), (q 6, aI D 20 (us 1)), (q 7, aI D 20 (us 2)), (q 8, aI D 20 (us 3)), (q 9, .inr (1, [.int fc, .ref (q 10), .ref (q 11), .ref (q 12), .ref (q 13), .ref (q 14)])), (q 10, aI D 40 ft), (q 11, aI D 40 fn), (q 12, aZ D 40 fh), (q 13, aZ D 40 fe), (q 14, aI D 100 fo)]) [0, 1, 2, 3, 4, 5, 6, 7, 8, 9, 10, 11, 12, 13, 14, 15, 16] rfl rfl (by decide) (fun u26 hu26 => ?_)
    refine v_wd (wd2 := [(x0, .inr (6, [.ref (q 0), .ref x1])), (x1, aS D 2 sv), (q 0, .inr (4, [.ref (q 1), .ref (q 9), .long di])), (q 1, .inr (5, [.int ct, .int dp, .ref (q 2), .ref (q 3), .ref (q 4)])), (q 2, aI D 20 we), (q 3, aI D 3 ok), (q 4, aG D 4 (gU q 5)), (q 5, aI D 20 (us 0)), (q 6, aI D 20 (us 1)), (q 7, aI D 20 (us 2)), (q 8, aI D 20 (us 3)), (q 9, .inr (1, [.int fc, .ref (q 10), .ref (q 11), .ref (q 12), .ref (q 13), .ref (q 14)])), (q 10, aI D 40 ft), (q 11, aI D 40 fn), (q 12, aZ D 40 fh), (q 13, aZ D 40 fe), (q 14, aI D 100 fo), (qv22, .inr (4, [.ref (u26 1), .ref (u26 9), .long 0])), (u26 1, .inr (5, [.int 0, .int 0, .ref (u26 2), .ref (u26 3), .ref (u26 4)])), (u26 2, aI D 20 (fun _ => 0)), (u26 3, aI D 3 (fun _ => 0)), (u26 4, aG D 4 (gU u26 5)), (u26 5, aI D 20 (us0 0)), (u26 6, aI D 20 (us0 1)), (u26 7, aI D 20 (us0 2)), (u26 8, aI D 20 (us0 3)), (u26 9, .inr (1, [.int 0, .ref (u26 10), .ref (u26 11), .ref (u26 12), .ref (u26 13), .ref (u26 14)])), (u26 10, aI D 40 (fun _ => 0)), (u26 11, aI D 40 (fun _ => 0)), (u26 12, aZ D 40 (fun _ => 0)), (u26 13, aZ D 40 (fun _ => 0)), (u26 14, aI D 100 (w_X4_init_n13))]) rfl ?_
    refine v_astore_n E dX6_save_29 rfl rfl ?_
    refine v_aload_n E dX6_save_30 rfl ?_
    refine v_get E dX6_save_31 (ci := 6) rfl iwX6 0 rfl 1 rfl fl_X6_16 rfl ?_
    refine v_iload_n E dX6_save_34 rfl ?_
    refine v_aload_n E dX6_save_35 rfl ?_
    refine v_sast E dX6_save_36 1 rfl 17 rfl j hs (by omega) rfl ?_
    refine v_wd (wd2 := [(x0, .inr (6, [.ref (q 0), .ref x1])), (x1, aS D 2 (va_up sv j (some qv22))), (q 0, .inr (4, [.ref (q 1), .ref (q 9), .long di])), (q 1, .inr (5, [.int ct, .int dp, .ref (q 2), .ref (q 3), .ref (q 4)])), (q 2, aI D 20 we), (q 3, aI D 3 ok), (q 4, aG D 4 (gU q 5)), (q 5, aI D 20 (us 0)), (q 6, aI D 20 (us 1)), (q 7, aI D 20 (us 2)), (q 8, aI D 20 (us 3)), (q 9, .inr (1, [.int fc, .ref (q 10), .ref (q 11), .ref (q 12), .ref (q 13), .ref (q 14)])), (q 10, aI D 40 ft), (q 11, aI D 40 fn), (q 12, aZ D 40 fh), (q 13, aZ D 40 fe), (q 14, aI D 100 fo), (qv22, .inr (4, [.ref (u26 1), .ref (u26 9), .long 0])), (u26 1, .inr (5, [.int 0, .int 0, .ref (u26 2), .ref (u26 3), .ref (u26 4)])), (u26 2, aI D 20 (fun _ => 0)), (u26 3, aI D 3 (fun _ => 0)), (u26 4, aG D 4 (gU u26 5)), (u26 5, aI D 20 (us0 0)), (u26 6, aI D 20 (us0 1)), (u26 7, aI D 20 (us0 2)), (u26 8, aI D 20 (us0 3)), (u26 9, .inr (1, [.int 0, .ref (u26 10), .ref (u26 11), .ref (u26 12), .ref (u26 13), .ref (u26 14)])), (u26 10, aI D 40 (fun _ => 0)), (u26 11, aI D 40 (fun _ => 0)), (u26 12, aZ D 40 (fun _ => 0)), (u26 13, aZ D 40 (fun _ => 0)), (u26 14, aI D 100 (w_X4_init_n13))]) rfl ?_
    refine v_wd (wd2 := [(x0, .inr (6, [.ref (q 0), .ref x1])), (x1, aS D 2 (va_up sv j (some ((adN qv22 u26) 0)))), (q 0, .inr (4, [.ref (q 1), .ref (q 9), .long di])), (q 1, .inr (5, [.int ct, .int dp, .ref (q 2), .ref (q 3), .ref (q 4)])), (q 2, aI D 20 we), (q 3, aI D 3 ok), (q 4, aG D 4 (gU q 5)), (q 5, aI D 20 (us 0)), (q 6, aI D 20 (us 1)), (q 7, aI D 20 (us 2)), (q 8, aI D 20 (us 3)), (q 9, .inr (1, [.int fc, .ref (q 10), .ref (q 11), .ref (q 12), .ref (q 13), .ref (q 14)])), (q 10, aI D 40 ft), (q 11, aI D 40 fn), (q 12, aZ D 40 fh), (q 13, aZ D 40 fe), (q 14, aI D 100 fo), ((adN qv22 u26) 0, .inr (4, [.ref ((adN qv22 u26) 1), .ref ((adN qv22 u26) 9), .long 0])), ((adN qv22 u26) 1, .inr (5, [.int 0, .int 0, .ref ((adN qv22 u26) 2), .ref ((adN qv22 u26) 3), .ref ((adN qv22 u26) 4)])), ((adN qv22 u26) 2, aI D 20 (fun _ => 0)), ((adN qv22 u26) 3, aI D 3 (fun _ => 0)), ((adN qv22 u26) 4, aG D 4 (gU (adN qv22 u26) 5)), ((adN qv22 u26) 5, aI D 20 (us0 0)), ((adN qv22 u26) 6, aI D 20 (us0 1)), ((adN qv22 u26) 7, aI D 20 (us0 2)), ((adN qv22 u26) 8, aI D 20 (us0 3)), ((adN qv22 u26) 9, .inr (1, [.int 0, .ref ((adN qv22 u26) 10), .ref ((adN qv22 u26) 11), .ref ((adN qv22 u26) 12), .ref ((adN qv22 u26) 13), .ref ((adN qv22 u26) 14)])), ((adN qv22 u26) 10, aI D 40 (fun _ => 0)), ((adN qv22 u26) 11, aI D 40 (fun _ => 0)), ((adN qv22 u26) 12, aZ D 40 (fun _ => 0)), ((adN qv22 u26) 13, aZ D 40 (fun _ => 0)), ((adN qv22 u26) 14, aI D 100 (w_X4_init_n13))]) (by rw [gU_eq (q := adN qv22 u26) (r := u26) (a := 5) (b := 5) rfl rfl rfl rfl]; rfl) ?_
    refine v_aload_n E dX6_save_37 rfl ?_
    refine v_aload_n E dX6_save_38 rfl ?_
    refine v_get E dX6_save_39 (ci := 6) rfl iwX6 0 rfl 0 rfl fl_X6_12 rfl ?_
    refine v_cV_vW E dX6_save_42 (c_X4_copyFrom D (adN qv22 u26) 0 0 (fun _ => 0) (fun _ => 0) us0 0 (fun _ => 0) (fun _ => 0) (fun _ => 0) (fun _ => 0) (w_X4_init_n13) 0 q ct dp we ok us fc ft fn fh fe fo di hfh hfe) cs_X6_182 rfl rfl rfl (Nat.le_of_ble_eq_true rfl) 17 rfl rfl [17, 18, 19, 20, 21, 22, 23, 24, 25, 26, 27, 28, 29, 30, 31, 2, 3, 4, 5, 6, 7, 8, 9, 10, 11, 12, 13, 14, 15, 16] rfl rfl ⟨Nat.le_of_ble_eq_true rfl, Nat.le_of_ble_eq_true rfl⟩ (wr := [(x0, .inr (6, [.ref (q 0), .ref x1])), (x1, aS D 2 (va_up sv j (some ((adN qv22 u26) 0))))]) [0, 1] rfl rfl (by decide) ?_
    refine v_sub [0, 1, 17, 18, 19, 20, 21, 22, 23, 24, 25, 26, 27, 28, 29, 30, 31, 2, 3, 4, 5, 6, 7, 8, 9, 10, 11, 12, 13, 14, 15, 16] rfl (wd' := [(x0, .inr (6, [.ref (q 0), .ref x1])), (x1, aS D 2 (va_up sv j (some ((adN qv22 u26) 0)))), (q 0, .inr (4, [.ref (q 1), .ref (q 9), .long di])), (q 1, .inr (5, [.int ct, .int dp, .ref (q 2), .ref (q 3), .ref (q 4)])), (q 2, aI D 20 we), (q 3, aI D 3 ok), (q 4, aG D 4 (gU q 5)), (q 5, aI D 20 (us 0)), (q 6, aI D 20 (us 1)), (q 7, aI D 20 (us 2)), (q 8, aI D 20 (us 3)), (q 9, .inr (1, [.int fc, .ref (q 10), .ref (q 11), .ref (q 12), .ref (q 13), .ref (q 14)])), (q 10, aI D 40 ft), (q 11, aI D 40 fn), (q 12, aZ D 40 fh), (q 13, aZ D 40 fe), (q 14, aI D 100 fo), ((adN qv22 u26) 0, .inr (4, [.ref ((adN qv22 u26) 1), .ref ((adN qv22 u26) 9), .long (w_X4_copyFrom_0_2 di)])), ((adN qv22 u26) 1, .inr (5, [.int (w_X4_copyFrom_1_0 ct), .int (w_X4_copyFrom_1_1 dp), .ref ((adN qv22 u26) 2), .ref ((adN qv22 u26) 3), .ref ((adN qv22 u26) 4)])), ((adN qv22 u26) 2, aI D 20 (w_X4_copyFrom_2 (fun _ => 0) we)), ((adN qv22 u26) 3, aI D 3 (w_X4_copyFrom_3 (fun _ => 0) ok)), ((adN qv22 u26) 4, aG D 4 (gU (adN qv22 u26) 5)), ((adN qv22 u26) 5, aI D 20 ((w_X4_copyFrom_5 us0 us) 0)), ((adN qv22 u26) 6, aI D 20 ((w_X4_copyFrom_5 us0 us) 1)), ((adN qv22 u26) 7, aI D 20 ((w_X4_copyFrom_5 us0 us) 2)), ((adN qv22 u26) 8, aI D 20 ((w_X4_copyFrom_5 us0 us) 3)), ((adN qv22 u26) 9, .inr (1, [.int (w_X4_copyFrom_9_0 fc), .ref ((adN qv22 u26) 10), .ref ((adN qv22 u26) 11), .ref ((adN qv22 u26) 12), .ref ((adN qv22 u26) 13), .ref ((adN qv22 u26) 14)])), ((adN qv22 u26) 10, aI D 40 (w_X4_copyFrom_10 (fun _ => 0) ft)), ((adN qv22 u26) 11, aI D 40 (w_X4_copyFrom_11 (fun _ => 0) fn)), ((adN qv22 u26) 12, aZ D 40 (w_X4_copyFrom_12 (fun _ => 0) fh)), ((adN qv22 u26) 13, aZ D 40 (w_X4_copyFrom_13 (fun _ => 0) fe)), ((adN qv22 u26) 14, aI D 100 (w_X4_copyFrom_14 (w_X4_init_n13) fo))]) rfl ?_
    refine v_aload_n E dX6_save_45 rfl ?_
    refine v_get E dX6_save_46 (ci := 6) rfl iwX6 0 rfl 0 rfl fl_X6_12 rfl ?_
    refine v_get E dX6_save_49 (ci := 4) rfl iwX4 2 rfl 0 rfl fl_X6_20 rfl ?_
    refine v_get E dX6_save_52 (ci := 5) rfl iwX5 3 rfl 0 rfl fl_X6_28 rfl ?_
    exact v_iret E F dX6_save_55 rfl rfl (adN qv22 u26) rfl rfl (Nat.le_of_ble_eq_true rfl) (Nat.le_of_ble_eq_true rfl)
  · exact absurd c_5 (inR_ok hs hj)

