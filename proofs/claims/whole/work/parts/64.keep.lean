/-! what a slot keeps -/
theorem Rl_g {B N F : Nat} {ct dp : Int32} {we ok : Nat → Int32} {us : Nat → Nat → Int32} {fc : Int32} {ft fn fh fe fo : Nat → Int32} {di : Int64} {g : Nat → Int32} (R : Rl B N F ct dp we ok us fc ft fn fh fe fo di g) {g' : Nat → Int32} (e : ∀ k, k < 703 → g' k = g k) : Rl B N F ct dp we ok us fc ft fn fh fe fo di g' := by
  have hN := R.lk.1
  have e1 := e 1 (by decide)
  obtain ⟨rk, ac⟩ := R.ac
  refine ⟨R.ct, (e 0 (by decide)).trans R.g0, R.dp.trans e1.symm, by rw [e1]; exact R.d1, by rw [e1]; exact R.d2, LK_c R.lk (fun k a b => e k (by omega)), RK_c hN R.rk (fun k a b => e k (by omega)), RW_c hN R.rw (fun k a b => e k (by omega)), RD_c R.rd (fun k a b => e k (by omega)), ⟨rk, AC_c ac (fun k a b => e k (by omega))⟩, ?_, FL_c R.fl (e 2 (by decide)) (fun k a b => e k (by omega))⟩
  rw [tc_c hN (fun k a b => e k (by omega))]
  exact R.tc
theorem Rl_s {B N F : Nat} {ct dp : Int32} {we ok : Nat → Int32} {us : Nat → Nat → Int32} {fc : Int32} {ft fn fh fe fo : Nat → Int32} {di : Int64} {g : Nat → Int32} (R : Rl B N F ct dp we ok us fc ft fn fh fe fo di g) {we' ok' : Nat → Int32} {us' : Nat → Nat → Int32} {ft' fn' fh' fe' fo' : Nat → Int32} (e1 : ∀ t, t < 20 → we' t = we t) (e2 : ∀ k, k < 3 → ok' k = ok k) (e3 : ∀ k b, k < 4 → b < 20 → us' k b = us k b) (e4 : ∀ f, f < 40 → ft' f = ft f) (e5 : ∀ f, f < 40 → fn' f = fn f) (e6 : ∀ f, f < 40 → fh' f = fh f) (e7 : ∀ f, f < 40 → fe' f = fe f) (e8 : ∀ n, n < 100 → fo' n = fo n) : Rl B N F ct dp we' ok' us' fc ft' fn' fh' fe' fo' di g := by
  have hN := R.lk.1
  have hF := R.fl.hF
  refine ⟨R.ct, R.g0, R.dp, R.d1, R.d2, ⟨hN, R.lk.2.1, fun k b hk hb j => ?_⟩, ⟨R.rk.1, fun k hk j => ?_⟩, fun t ht => ?_, R.rd, R.ac, R.tc, R.fl.hF, R.fl.cf, R.fl.g2, fun f hf => ?_, fun f hf => ?_, fun f hf => ?_, fun n hn => ?_, fun f hf he => ?_, fun i hi => ?_, fun i hi => ?_⟩
  · rw [e3 k b hk hb]
    exact R.lk.2.2 k b hk hb j
  · rw [e2 k hk]
    exact R.rk.2 k hk j
  · rw [e1 t (by omega)]
    exact R.rw t ht
  · rw [e7 f (by omega), e4 f (by omega)]
    exact R.fl.ex f hf
  · rw [e6 f (by omega)]
    exact R.fl.hd f hf
  · rw [e5 f (by omega)]
    exact R.fl.nm f hf
  · rw [e8 n hn]
    exact R.fl.ow n hn
  · rw [e7 f (by omega)] at he
    obtain ⟨n, hn, a, b⟩ := R.fl.un f hf he
    exact ⟨n, hn, by rw [e5 f (by omega)]; exact a, by rw [e8 n hn]; exact b⟩
  · rw [e6 i hi]
    exact R.fl.bh i hi
  · rw [e7 i hi]
    exact R.fl.be i hi
theorem cpy0 (f g : Nat → Int32) {n k : Nat} (h : k < n) : va_cpy f g 0 0 n k = f k := by
  rw [pk_cpy_in (Nat.zero_le k) (by omega)]
  congr 1
  omega
theorem Rl_cpy {B N F : Nat} {ct dp : Int32} {we ok : Nat → Int32} {us : Nat → Nat → Int32} {fc : Int32} {ft fn fh fe fo : Nat → Int32} {di : Int64} {g : Nat → Int32} (R : Rl B N F ct dp we ok us fc ft fn fh fe fo di g) (we' ok' : Nat → Int32) (us' : Nat → Nat → Int32) (ft' fn' fh' fe' fo' : Nat → Int32) : Rl B N F (w_X4_copyFrom_1_0 ct) (w_X4_copyFrom_1_1 dp) (w_X4_copyFrom_2 we' we) (w_X4_copyFrom_3 ok' ok) (w_X4_copyFrom_5 us' us) (w_X4_copyFrom_9_0 fc) (w_X4_copyFrom_10 ft' ft) (w_X4_copyFrom_11 fn' fn) (w_X4_copyFrom_12 fh' fh) (w_X4_copyFrom_13 fe' fe) (w_X4_copyFrom_14 fo' fo) (w_X4_copyFrom_0_2 di) g := by
  refine Rl_s R (fun t ht => cpy0 we we' ht) (fun k hk => cpy0 ok ok' hk) (fun k b hk hb => ?_) (fun f hf => cpy0 ft ft' hf) (fun f hf => cpy0 fn fn' hf) (fun f hf => cpy0 fh fh' hf) (fun f hf => cpy0 fe fe' hf) (fun n hn => cpy0 fo fo' hn)
  have : k = 0 ∨ k = 1 ∨ k = 2 ∨ k = 3 := by omega
  rcases this with e | e | e | e
  · subst e
    exact cpy0 (us 0) _ hb
  · subst e
    exact cpy0 (us 1) _ hb
  · subst e
    exact cpy0 (us 2) _ hb
  · subst e
    exact cpy0 (us 3) _ hb
theorem Rl_fits {B N F : Nat} {ct dp : Int32} {we ok : Nat → Int32} {us : Nat → Nat → Int32} {fc : Int32} {ft fn fh fe fo : Nat → Int32} {di : Int64} {g : Nat → Int32} (R : Rl B N F ct dp we ok us fc ft fn fh fe fo di g) : (∀ i, i < 40 → fits .boolean (.int (fh i)) = true) ∧ ∀ i, i < 40 → fits .boolean (.int (fe i)) = true := by
  refine ⟨fun i hi => ?_, fun i hi => ?_⟩
  · rcases R.fl.bh i hi with e | e
    · rw [e]; decide
    · rw [e]; decide
  · rcases R.fl.be i hi with e | e
    · rw [e]; decide
    · rw [e]; decide
def slc (sl : Nat → Int32) (j : Nat) : Nat → Int32 := fun k => sl (703 * j + k)
theorem save_at (g sl : Nat → Int32) {j : Nat} (hj : j < 2) (m : Nat) : w_X7_save_2 g sl (nI j) m = if 703 * j ≤ m ∧ m < 703 * j + 703 then g (m - 703 * j) else sl m := by
  have hr : ¬ r_X7_in (nI j) 0 1 = 0 := (in7K (m := 1) (by decide)).mpr ⟨j, by omega, rfl⟩
  have ej : (nI j).toNatClampNeg = j := nI_clamp (by omega)
  unfold w_X7_save_2
  rw [if_neg hr]
  have K := foldN_i (f := s_X7_save_14 g (nI j)) (n := 703) (fun i (a : Nat → Int32) => ∀ m, a m = if 703 * j ≤ m ∧ m < 703 * j + i then g (m - 703 * j) else sl m) (fun i a hi ih m => by
    unfold s_X7_save_14
    rw [ej]
    by_cases c : m = 703 * j + i
    · rw [up_i _ _ c, if_pos (by omega)]
      congr 1
      omega
    · rw [up_n _ _ c, ih m]
      by_cases d : 703 * j ≤ m ∧ m < 703 * j + i
      · rw [if_pos d, if_pos (by omega)]
      · rw [if_neg d, if_neg (by omega)]) (a := sl) (fun m => by rw [if_neg (by omega)])
  exact K m
theorem save_in (g sl : Nat → Int32) {j k : Nat} (hj : j < 2) (hk : k < 703) : slc (w_X7_save_2 g sl (nI j)) j k = g k := by
  unfold slc
  rw [save_at g sl hj, if_pos (by omega)]
  congr 1
  omega
theorem save_out (g sl : Nat → Int32) {j j' k : Nat} (hj : j < 2) (hj' : j' < 2) (hn : j' ≠ j) (hk : k < 703) : slc (w_X7_save_2 g sl (nI j)) j' k = slc sl j' k := by
  unfold slc
  rw [save_at g sl hj, if_neg (by omega)]
theorem rest_at (g sl zs : Nat → Int32) {j : Nat} (hj : j < 2) (hz : ¬ zs j = 0) (k : Nat) : w_X7_restore_1 g sl zs (nI j) k = if k < 703 then slc sl j k else g k := by
  have hr : ¬ r_X7_in (nI j) 0 1 = 0 := (in7K (m := 1) (by decide)).mpr ⟨j, by omega, rfl⟩
  have ej : (nI j).toNatClampNeg = j := nI_clamp (by omega)
  unfold w_X7_restore_1
  rw [if_neg hr, ej, if_neg hz]
  exact updfold (f := s_X7_restore_26 sl (nI j)) (v := slc sl j) (fun i a hi => by
    unfold s_X7_restore_26
    rw [ej]
    rfl) g k
def SVc (D : va_G) (p : Nat → Nat) (ct dp : Int32) (we ok : Nat → Int32) (us : Nat → Nat → Int32) (fc : Int32) (ft fn fh fe fo : Nat → Int32) (di : Int64) : va_W := [(p 0, .inr (4, [.ref (p 1), .ref (p 9), .long di])), (p 1, .inr (5, [.int ct, .int dp, .ref (p 2), .ref (p 3), .ref (p 4)])), (p 2, aI D 20 we), (p 3, aI D 3 ok), (p 4, aG D 4 (gU p 5)), (p 5, aI D 20 (us 0)), (p 6, aI D 20 (us 1)), (p 7, aI D 20 (us 2)), (p 8, aI D 20 (us 3)), (p 9, .inr (1, [.int fc, .ref (p 10), .ref (p 11), .ref (p 12), .ref (p 13), .ref (p 14)])), (p 10, aI D 40 ft), (p 11, aI D 40 fn), (p 12, aZ D 40 fh), (p 13, aZ D 40 fe), (p 14, aI D 100 fo)]
def MDc (D : va_G) (r : Nat → Nat) (g sl zs ch stp od rd ld sh wt : Nat → Int32) : va_W := [(r 0, .inr (7, [.ref (r 1), .ref (r 2), .ref (r 3), .ref (r 4), .ref (r 5), .ref (r 6), .ref (r 7), .ref (r 8), .ref (r 9), .ref (r 10)])), (r 1, aI D 703 g), (r 2, aI D 1406 sl), (r 3, aZ D 2 zs), (r 4, aZ D 40 ch), (r 5, aI D 40 stp), (r 6, aI D 20 od), (r 7, aI D 20 rd), (r 8, aI D 4 ld), (r 9, aI D 20 sh), (r 10, aI D 10 wt)]
def BWc (D : va_G) (x0 x1 : Nat) (sv : Nat → Option Nat) (q : Nat → Nat) (ct dp : Int32) (we ok : Nat → Int32) (us : Nat → Nat → Int32) (fc : Int32) (ft fn fh fe fo : Nat → Int32) (di : Int64) (r : Nat → Nat) (g sl zs ch stp od rd ld sh wt : Nat → Int32) : va_W := [(x0, .inr (6, [.ref (q 0), .ref x1])), (x1, aS D 2 sv), (q 0, .inr (4, [.ref (q 1), .ref (q 9), .long di])), (q 1, .inr (5, [.int ct, .int dp, .ref (q 2), .ref (q 3), .ref (q 4)])), (q 2, aI D 20 we), (q 3, aI D 3 ok), (q 4, aG D 4 (gU q 5)), (q 5, aI D 20 (us 0)), (q 6, aI D 20 (us 1)), (q 7, aI D 20 (us 2)), (q 8, aI D 20 (us 3)), (q 9, .inr (1, [.int fc, .ref (q 10), .ref (q 11), .ref (q 12), .ref (q 13), .ref (q 14)])), (q 10, aI D 40 ft), (q 11, aI D 40 fn), (q 12, aZ D 40 fh), (q 13, aZ D 40 fe), (q 14, aI D 100 fo), (r 0, .inr (7, [.ref (r 1), .ref (r 2), .ref (r 3), .ref (r 4), .ref (r 5), .ref (r 6), .ref (r 7), .ref (r 8), .ref (r 9), .ref (r 10)])), (r 1, aI D 703 g), (r 2, aI D 1406 sl), (r 3, aZ D 2 zs), (r 4, aZ D 40 ch), (r 5, aI D 40 stp), (r 6, aI D 20 od), (r 7, aI D 20 rd), (r 8, aI D 4 ld), (r 9, aI D 20 sh), (r 10, aI D 10 wt)]
def SVX (B : Nat) (D : va_G) (p : Nat → Nat) (w : va_W) (h : Nat → Int32) : Prop := ∃ (N F : Nat) (ct dp : Int32) (we ok : Nat → Int32) (us : Nat → Nat → Int32) (fc : Int32) (ft fn fh fe fo : Nat → Int32) (di : Int64), w = SVc D p ct dp we ok us fc ft fn fh fe fo di ∧ Rl B N F ct dp we ok us fc ft fn fh fe fo di h
theorem SVX_g {B B' : Nat} {D : va_G} {p : Nat → Nat} {w : va_W} {h h' : Nat → Int32} (X : SVX B D p w h) (hB : B ≤ B') (e : ∀ k, k < 703 → h' k = h k) : SVX B' D p w h' := by
  obtain ⟨N, F, ct, dp, we, ok, us, fc, ft, fn, fh, fe, fo, di, a, R⟩ := X
  exact ⟨N, F, ct, dp, we, ok, us, fc, ft, fn, fh, fe, fo, di, a, Rl_g (Rl_B R hB) e⟩
def KP (B : Nat) (D : va_G) (sv : Nat → Option Nat) (sl zs : Nat → Int32) (tl : va_W) : Prop := (sv 0 = none ∧ sv 1 = none ∧ zs 0 = 0 ∧ zs 1 = 0 ∧ tl = []) ∨ (∃ (j : Nat) (p : Nat → Nat), j < 2 ∧ sv j = some (p 0) ∧ sv (1 - j) = none ∧ ¬ zs j = 0 ∧ zs (1 - j) = 0 ∧ SVX B D p tl (slc sl j)) ∨ ∃ (j : Nat) (p p' : Nat → Nat) (w w' : va_W), j < 2 ∧ sv j = some (p 0) ∧ sv (1 - j) = some (p' 0) ∧ ¬ zs j = 0 ∧ ¬ zs (1 - j) = 0 ∧ tl = w ++ w' ∧ SVX B D p w (slc sl j) ∧ SVX B D p' w' (slc sl (1 - j))
theorem KP_B {B B' : Nat} {D : va_G} {sv : Nat → Option Nat} {sl zs : Nat → Int32} {tl : va_W} (h : KP B D sv sl zs tl) (hB : B ≤ B') : KP B' D sv sl zs tl := by
  rcases h with a | ⟨j, p, h1, h2, h3, h4, h5, h6⟩ | ⟨j, p, p', w, w', h1, h2, h3, h4, h5, h6, h7, h8⟩
  · exact Or.inl a
  · exact Or.inr (Or.inl ⟨j, p, h1, h2, h3, h4, h5, SVX_g h6 hB (fun _ _ => rfl)⟩)
  · exact Or.inr (Or.inr ⟨j, p, p', w, w', h1, h2, h3, h4, h5, h6, SVX_g h7 hB (fun _ _ => rfl), SVX_g h8 hB (fun _ _ => rfl)⟩)
