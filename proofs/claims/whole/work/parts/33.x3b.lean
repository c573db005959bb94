/-! ChangeImpact: improve, by induction on the depth -/
theorem okR_mk {r1 r : Room} {n : Nat} (h1 : r1.frames + 1 ≤ r.frames) (h2 : 8 + (n + 11) + r1.locals ≤ r.locals) : okR r1 n r = true := by
  unfold okR
  rw [Nat.ble_eq_true_of_le h1, Nat.ble_eq_true_of_le h2]
  rfl
theorem upd_back (f : Nat → Int32) (k : Nat) (x : Int32) : upd (upd f k x) k (f k) = f := by
  funext j
  by_cases h : j = k
  · subst h; exact pk_us
  · rw [pk_un h, pk_un h]
abbrev rmI (d : Nat) : Room := rmM (d + 4) (27 * d + 90) 0 0
def s_X3_improve_28 (lo : Nat → Int32) (wt : Nat → Int32) (kx : Nat) (rec_ : (Nat → Int32) → Int32 → Int32) (i : Nat) (be : Int32) : Int32 := if be ≤ ((lo i) + (wt kx)) then be else if (r_X3_standsBefore lo i) = 0 then (rec_ (upd lo i ((lo i) + (wt kx))) be) else be
def r_X3_improve (wt : Nat → Int32) (S km : Nat) : Nat → Nat → (Nat → Int32) → Int32 → Int32
  | 0, kx, lo, lim => (if lim < (r_X3_greatest S lo) then lim else (r_X3_greatest S lo))
  | dd + 1, kx, lo, lim => if (nI km) ≤ (nI kx) then (if lim < (r_X3_greatest S lo) then lim else (r_X3_greatest S lo)) else if (nI kx) < 10 then (foldN (s_X3_improve_28 lo wt kx (r_X3_improve wt S km dd (kx + 1))) S 0 lim) else (if lim < (r_X3_greatest S lo) then lim else (r_X3_greatest S lo))
set_option maxRecDepth 20000 in
/-- improve -/
theorem c_X3_improve0 (D : va_G) : ∀ (dd a0 S a1 : Nat) (lo wt : Nat → Int32) (lim : Int32) (km kx : Nat), km ≤ 10 → kx + dd = 10 → 1 ≤ S → S ≤ 4 → ∀ l : Launch, Ct l yX3_improve cX3_improve 8 (some .int) (rmI dd) D [.ref a1, .int (nI km), .int (nI kx), .ref a0, .int lim] [(a1, aI D 10 wt), (a0, aI D S lo)] (QI1 D (r_X3_improve wt S km dd kx lo lim) [(a1, aI D 10 wt), (a0, aI D S lo)]) := by
  intro dd
  induction dd with
  | zero =>
    intro a0 S a1 lo wt lim km kx hkm hkx hS1 hS l
    refine Ct.ofV 3 (lv0 := [some (.ref a1), some (.int (nI km)), some (.int (nI kx)), some (.ref a0), some (.int lim), none, none, none]) (by decide) rfl rfl (fun Z E F => ?_)
    refine v_iload_n E dX3_improve_0 rfl ?_
    refine v_iload_n E dX3_improve_1 rfl ?_
    refine v_icmp_ge E 11 dX3_improve_2 (by decide) (fun c_2 => ?_) (fun c_2 => ?_)
    · refine v_aload_n E dX3_improve_11 rfl ?_
      refine v_cS_i E dX3_improve_12 (c_X3_greatest D a0 S lo (by omega)) cs_X3_45 rfl rfl (okR_mk (by show 1 + 1 ≤ 0 + 4; omega) (by show 8 + (3 + 11) + 21 ≤ 27 * 0 + 90; omega)) (Nat.le_of_ble_eq_true rfl) [1] rfl rfl ⟨Nat.le_of_ble_eq_true rfl, Nat.le_of_ble_eq_true rfl⟩ ?_
      refine v_iload E dX3_improve_15 rfl ?_
      refine v_mmin E dX3_improve_17 ml_X3_52 rfl rfl (Nat.le_of_ble_eq_true rfl) (Nat.le_of_ble_eq_true rfl) (Nat.le_of_ble_eq_true rfl) ?_
      exact v_iret E F dX3_improve_20 rfl rfl () rfl rfl (Nat.le_of_ble_eq_true rfl) (Nat.le_of_ble_eq_true rfl)
    · refine v_iload_n E dX3_improve_5 rfl ?_
      refine v_bipush E dX3_improve_6 (v := 10) (by decide) ?_
      refine v_icmp_lt E 21 dX3_improve_8 (by decide) (fun c_8 => ?_) (fun c_8 => ?_)
      · exact absurd c_8 (by rw [show kx = 10 by omega]; decide)
      · refine v_aload_n E dX3_improve_11 rfl ?_
        refine v_cS_i E dX3_improve_12 (c_X3_greatest D a0 S lo (by omega)) cs_X3_45 rfl rfl (okR_mk (by show 1 + 1 ≤ 0 + 4; omega) (by show 8 + (3 + 11) + 21 ≤ 27 * 0 + 90; omega)) (Nat.le_of_ble_eq_true rfl) [1] rfl rfl ⟨Nat.le_of_ble_eq_true rfl, Nat.le_of_ble_eq_true rfl⟩ ?_
        refine v_iload E dX3_improve_15 rfl ?_
        refine v_mmin E dX3_improve_17 ml_X3_52 rfl rfl (Nat.le_of_ble_eq_true rfl) (Nat.le_of_ble_eq_true rfl) (Nat.le_of_ble_eq_true rfl) ?_
        exact v_iret E F dX3_improve_20 rfl rfl () rfl rfl (Nat.le_of_ble_eq_true rfl) (Nat.le_of_ble_eq_true rfl)
  | succ dd IHd =>
    intro a0 S a1 lo wt lim km kx hkm hkx hS1 hS l
    refine Ct.ofV 3 (lv0 := [some (.ref a1), some (.int (nI km)), some (.int (nI kx)), some (.ref a0), some (.int lim), none, none, none]) (by decide) rfl rfl (fun Z E F => ?_)
    refine v_iload_n E dX3_improve_0 rfl ?_
    refine v_iload_n E dX3_improve_1 rfl ?_
    refine v_icmp_ge E 11 dX3_improve_2 (by decide) (fun c_2 => ?_) (fun c_2 => ?_)
    · refine v_aload_n E dX3_improve_11 rfl ?_
      refine v_cS_i E dX3_improve_12 (c_X3_greatest D a0 S lo (by omega)) cs_X3_45 rfl rfl (okR_mk (by show 1 + 1 ≤ (dd + 1) + 4; omega) (by show 8 + (3 + 11) + 21 ≤ 27 * (dd + 1) + 90; omega)) (Nat.le_of_ble_eq_true rfl) [1] rfl rfl ⟨Nat.le_of_ble_eq_true rfl, Nat.le_of_ble_eq_true rfl⟩ ?_
      refine v_iload E dX3_improve_15 rfl ?_
      refine v_mmin E dX3_improve_17 ml_X3_52 rfl rfl (Nat.le_of_ble_eq_true rfl) (Nat.le_of_ble_eq_true rfl) (Nat.le_of_ble_eq_true rfl) ?_
      exact v_iret E F dX3_improve_20 rfl rfl () (by simp only [r_X3_improve, if_pos c_2]) rfl (Nat.le_of_ble_eq_true rfl) (Nat.le_of_ble_eq_true rfl)
    · refine v_iload_n E dX3_improve_5 rfl ?_
      refine v_bipush E dX3_improve_6 (v := 10) (by decide) ?_
      refine v_icmp_lt E 21 dX3_improve_8 (by decide) (fun c_8 => ?_) (fun c_8 => ?_)
      · have hk10 : kx < 10 := by omega
        refine v_iload E dX3_improve_21 rfl ?_
        refine v_istore E dX3_improve_23 rfl rfl ?_
        refine v_iconst E dX3_improve_25 (v := 0) (by decide) ?_
        refine v_istore E dX3_improve_26 rfl rfl ?_
        have L28 : ∀ (n i : Nat) (be : Int32), i + n = S → V Z D 0 0 [(a1, aI D 10 wt), (a0, aI D S lo)] [some (.ref a1), some (.int (nI km)), some (.int (nI kx)), some (.ref a0), some (.int lim), some (.int (foldN (s_X3_improve_28 lo wt kx (r_X3_improve wt S km dd (kx + 1))) n i be)), some (.int (nI S)), none] [] 96 → V Z D 0 0 [(a1, aI D 10 wt), (a0, aI D S lo)] [some (.ref a1), some (.int (nI km)), some (.int (nI kx)), some (.ref a0), some (.int lim), some (.int be), some (.int (nI i)), none] [] 28 := by
          intro n
          induction n with
          | zero =>
            intro i be hi  K28
            have hiN : i = S := by omega
            rw [hiN]
            refine v_iload E dX3_improve_28 rfl ?_
            refine v_aload_n E dX3_improve_30 rfl ?_
            refine v_alen E dX3_improve_31 1 rfl (v := nI S) rfl ?_
            refine v_icmp_ge E 96 dX3_improve_32 (by decide) (fun c_32 => ?_) (fun c_32 => ?_)
            · exact K28
            · exact absurd (leN (a := S) (b := S) rfl rfl (by omega) (by omega)) c_32
          | succ n ih =>
            intro i be hi  K28
            refine v_iload E dX3_improve_28 rfl ?_
            refine v_aload_n E dX3_improve_30 rfl ?_
            refine v_alen E dX3_improve_31 1 rfl (v := nI S) rfl ?_
            refine v_icmp_ge E 96 dX3_improve_32 (by decide) (fun c_32 => ?_) (fun c_32 => ?_)
            · exact absurd c_32 (nleN (a := S) (b := i) rfl rfl (by omega) (by omega))
            · refine v_aload_n E dX3_improve_35 rfl ?_
              refine v_iload E dX3_improve_36 rfl ?_
              refine v_iald E dX3_improve_38 1 rfl i rfl (by omega) (Nat.ble_eq_true_of_le (by omega)) ?_
              refine v_istore E dX3_improve_39 rfl rfl ?_
              refine v_iload E dX3_improve_41 rfl ?_
              refine v_aload_n E dX3_improve_43 rfl ?_
              refine v_iload_n E dX3_improve_44 rfl ?_
              refine v_iald E dX3_improve_45 0 rfl kx rfl (by omega) rfl ?_
              refine v_iadd E dX3_improve_46 ?_
              refine v_iload E dX3_improve_47 rfl ?_
              refine v_icmp_ge E 90 dX3_improve_49 (by decide) (fun c_49 => ?_) (fun c_49 => ?_)
              · refine v_iinc E dX3_improve_90 (v := nI (i + 1)) rfl (inc1 _) rfl rfl ?_
                refine v_goto E 28 dX3_improve_93 (by decide) ?_
                have hs : s_X3_improve_28 lo wt kx (r_X3_improve wt S km dd (kx + 1)) i be = be := by simp only [s_X3_improve_28, if_pos c_49]
                rw [foldN_s (s_X3_improve_28 lo wt kx (r_X3_improve wt S km dd (kx + 1))) n i be, hs] at K28
                refine v_mask [true, true, true, true, true, true, true, false] rfl ?_
                exact ih (i + 1) be (by omega) K28
              · refine v_aload_n E dX3_improve_52 rfl ?_
                refine v_iload E dX3_improve_53 rfl ?_
                refine v_cS_i E dX3_improve_55 (c_X3_standsBefore D a0 S lo (nI i) i rfl (by omega) (by omega)) cs_X3_58 rfl rfl (okR_mk (by show 0 + 1 ≤ (dd + 1) + 4; omega) (by show 8 + (3 + 11) + 0 ≤ 27 * (dd + 1) + 90; omega)) (Nat.le_of_ble_eq_true rfl) [1] rfl rfl ⟨Nat.le_of_ble_eq_true rfl, Nat.le_of_ble_eq_true rfl⟩ ?_
                refine v_if_ne E 90 dX3_improve_58 (by decide) (fun c_58 => ?_) (fun c_58 => ?_)
                · refine v_iinc E dX3_improve_90 (v := nI (i + 1)) rfl (inc1 _) rfl rfl ?_
                  refine v_goto E 28 dX3_improve_93 (by decide) ?_
                  have hs : s_X3_improve_28 lo wt kx (r_X3_improve wt S km dd (kx + 1)) i be = be := by simp only [s_X3_improve_28, if_neg c_49, if_neg c_58]
                  rw [foldN_s (s_X3_improve_28 lo wt kx (r_X3_improve wt S km dd (kx + 1))) n i be, hs] at K28
                  refine v_mask [true, true, true, true, true, true, true, false] rfl ?_
                  exact ih (i + 1) be (by omega) K28
                · refine v_aload_n E dX3_improve_61 rfl ?_
                  refine v_iload E dX3_improve_62 rfl ?_
                  refine v_iload E dX3_improve_64 rfl ?_
                  refine v_aload_n E dX3_improve_66 rfl ?_
                  refine v_iload_n E dX3_improve_67 rfl ?_
                  refine v_iald E dX3_improve_68 0 rfl kx rfl (by omega) rfl ?_
                  refine v_iadd E dX3_improve_69 ?_
                  refine v_iast E dX3_improve_70 1 rfl i rfl (by omega) (Nat.ble_eq_true_of_le (by omega)) ?_
                  refine v_wd (wd2 := [(a1, aI D 10 wt), (a0, aI D S (upd lo i ((lo i) + (wt kx))))]) rfl ?_
                  refine v_aload_n E dX3_improve_71 rfl ?_
                  refine v_iload_n E dX3_improve_72 rfl ?_
                  refine v_iload_n E dX3_improve_73 rfl ?_
                  refine v_iconst E dX3_improve_74 (v := 1) (by decide) ?_
                  refine v_iadd E dX3_improve_75 ?_
                  refine v_top (y := nI (kx + 1)) (nI_1 kx) ?_
                  refine v_aload_n E dX3_improve_76 rfl ?_
                  refine v_iload E dX3_improve_77 rfl ?_
                  refine v_cS_i E dX3_improve_79 ((fun (_ : va_G) => IHd) D a0 S a1 (upd lo i ((lo i) + (wt kx))) wt be km (kx + 1) (by omega) (by omega) (by omega) (by omega)) cs_X3_48 rfl rfl (okR_mk (by show dd + 4 + 1 ≤ dd + 1 + 4; omega) (by show 8 + (8 + 11) + (27 * dd + 90) ≤ 27 * (dd + 1) + 90; omega)) (Nat.le_of_ble_eq_true rfl) [0, 1] rfl rfl ⟨Nat.le_of_ble_eq_true rfl, Nat.le_of_ble_eq_true rfl⟩ ?_
                  refine v_istore E dX3_improve_82 rfl rfl ?_
                  refine v_aload_n E dX3_improve_84 rfl ?_
                  refine v_iload E dX3_improve_85 rfl ?_
                  refine v_iload E dX3_improve_87 rfl ?_
                  refine v_iast E dX3_improve_89 1 rfl i rfl (by omega) (Nat.ble_eq_true_of_le (by omega)) ?_
                  refine v_wd (wd2 := [(a1, aI D 10 wt), (a0, aI D S (upd (upd lo i ((lo i) + (wt kx))) i (lo i)))]) rfl ?_
                  refine v_wd (wd2 := [(a1, aI D 10 wt), (a0, aI D S lo)]) (by rw [upd_back]) ?_
                  refine v_iinc E dX3_improve_90 (v := nI (i + 1)) rfl (inc1 _) rfl rfl ?_
                  refine v_goto E 28 dX3_improve_93 (by decide) ?_
                  have hs : s_X3_improve_28 lo wt kx (r_X3_improve wt S km dd (kx + 1)) i be = ((r_X3_improve wt S km dd (kx + 1)) (upd lo i ((lo i) + (wt kx))) be) := by simp only [s_X3_improve_28, if_neg c_49, if_pos c_58]
                  rw [foldN_s (s_X3_improve_28 lo wt kx (r_X3_improve wt S km dd (kx + 1))) n i be, hs] at K28
                  refine v_mask [true, true, true, true, true, true, true, false] rfl ?_
                  exact ih (i + 1) ((r_X3_improve wt S km dd (kx + 1)) (upd lo i ((lo i) + (wt kx))) be) (by omega) K28
        refine L28 S 0 lim (by omega)  ?_
        refine v_iload E dX3_improve_96 rfl ?_
        exact v_iret E F dX3_improve_98 rfl rfl () (by simp only [r_X3_improve, if_neg c_2, if_pos c_8]) rfl (Nat.le_of_ble_eq_true rfl) (Nat.le_of_ble_eq_true rfl)
      · refine v_aload_n E dX3_improve_11 rfl ?_
        refine v_cS_i E dX3_improve_12 (c_X3_greatest D a0 S lo (by omega)) cs_X3_45 rfl rfl (okR_mk (by show 1 + 1 ≤ (dd + 1) + 4; omega) (by show 8 + (3 + 11) + 21 ≤ 27 * (dd + 1) + 90; omega)) (Nat.le_of_ble_eq_true rfl) [1] rfl rfl ⟨Nat.le_of_ble_eq_true rfl, Nat.le_of_ble_eq_true rfl⟩ ?_
        refine v_iload E dX3_improve_15 rfl ?_
        refine v_mmin E dX3_improve_17 ml_X3_52 rfl rfl (Nat.le_of_ble_eq_true rfl) (Nat.le_of_ble_eq_true rfl) (Nat.le_of_ble_eq_true rfl) ?_
        exact v_iret E F dX3_improve_20 rfl rfl () (by simp only [r_X3_improve, if_neg c_2, if_neg c_8]) rfl (Nat.le_of_ble_eq_true rfl) (Nat.le_of_ble_eq_true rfl)
theorem c_X3_improve (D : va_G) (a0 S a1 : Nat) (lo wt : Nat → Int32) (ts ix lim : Int32) (km : Nat) (hts : ts = nI km) (hix : ix = nI 0) (hkm : km ≤ 10) (hS1 : 1 ≤ S) (hS : S ≤ 4) (l : Launch) : Ct l yX3_improve cX3_improve 8 (some .int) (rmM 14 360 0 0) D [.ref a1, .int ts, .int ix, .ref a0, .int lim] [(a1, aI D 10 wt), (a0, aI D S lo)] (QI1 D (r_X3_improve wt S km 10 0 lo lim) [(a1, aI D 10 wt), (a0, aI D S lo)]) := by
  subst hts
  subst hix
  exact c_X3_improve0 D 10 a0 S a1 lo wt lim km 0 hkm rfl hS1 hS l
