/-! the cases of the loop, on the relation -/
def LPt (Z : BX) (D : va_G) (b B c i pc : Nat) : Prop := ∀ (N F x0 x1 : Nat) (sv : Nat → Option Nat) (q : Nat → Nat) (ct : Int32) (dp : Int32) (we : Nat → Int32) (ok : Nat → Int32) (us : Nat → Nat → Int32) (fc : Int32) (ft : Nat → Int32) (fn : Nat → Int32) (fh : Nat → Int32) (fe : Nat → Int32) (fo : Nat → Int32) (di : Int64) (r : Nat → Nat) (g : Nat → Int32) (sl : Nat → Int32) (zs : Nat → Int32) (ch : Nat → Int32) (stp : Nat → Int32) (od : Nat → Int32) (rd : Nat → Int32) (ld : Nat → Int32) (sh : Nat → Int32) (wt : Nat → Int32) (tl : va_W), Rl B N F ct dp we ok us fc ft fn fh fe fo di g → KP B D sv sl zs tl → V Z D (100 + 15 * c) (3000 + 400 * c) (BWc D x0 x1 sv q ct dp we ok us fc ft fn fh fe fo di r g sl zs ch stp od rd ld sh wt ++ tl) [some (.ref b), some (.ref x0), some (.ref (r 0)), some (.int (nI i))] [] pc
theorem lp_addTarget {Z : BX} {D : va_G} (E : EF Z D cL_law RL room_1 4) {b L : Nat} {xs : Nat → Int32} (SX : SXF Z b L xs) {B c i : Nat} (hi : i + 3 < L) (hc : c ≤ 520) (hB : B < 100000) (H : LPt Z D b (B + 1) (c + 1) i 856) : LPt Z D b B c i 152 := by
  intro N F x0 x1 sv q ct dp we ok us fc ft fn fh fe fo di r g sl zs ch stp od rd ld sh wt tl R K
  refine law_addTarget E SX i hi (by omega) (by omega) x0 x1 sv q ct dp we ok us fc ft fn fh fe fo di r g sl zs ch stp od rd ld sh wt N R.ct R.lk.1 R.g0 (rel_addTarget R (xs (i + 1)) (xs (i + 2))).1 ?_
  refine v_widen (c1 := 100 + 15 * (c + 1)) (s1 := 3000 + 400 * (c + 1)) (by omega) (by omega) ?_
  obtain ⟨N2, R2⟩ := (rel_addTarget R (xs (i + 1)) (xs (i + 2))).2
  exact H N2 F x0 x1 sv q ((w_X6_addTarget_2_0 ct ok (xs (i + 1)) (xs (i + 2)))) dp ((w_X6_addTarget_3 ct we ok (xs (i + 1)) (xs (i + 2)) N)) ((w_X6_addTarget_4 ct ok (xs (i + 1)) (xs (i + 2)))) us fc ft fn fh fe fo di r ((w_X7_addTarget_1 g (xs (i + 1)) (xs (i + 2)) N)) sl zs ch stp od rd ld sh wt tl (Rl_B R2 (Nat.le_succ B)) (KP_B K (Nat.le_succ B))
theorem lp_targetCount {Z : BX} {D : va_G} (E : EF Z D cL_law RL room_1 4) {b L : Nat} {xs : Nat → Int32} (SX : SXF Z b L xs) {B c i : Nat} (hi : i + 3 < L) (hc : c ≤ 520) (hB : B < 100000) (H : LPt Z D b (B + 1) (c + 1) i 856) : LPt Z D b B c i 185 := by
  intro N F x0 x1 sv q ct dp we ok us fc ft fn fh fe fo di r g sl zs ch stp od rd ld sh wt tl R K
  refine law_targetCount E SX i hi (by omega) (by omega) x0 x1 sv q ct dp we ok us fc ft fn fh fe fo di r g sl zs ch stp od rd ld sh wt (R.ct.trans R.g0.symm) ?_
  refine v_widen (c1 := 100 + 15 * (c + 1)) (s1 := 3000 + 400 * (c + 1)) (by omega) (by omega) ?_
  exact H N F x0 x1 sv q ct dp we ok us fc ft fn fh fe fo di r g sl zs ch stp od rd ld sh wt tl (Rl_B R (Nat.le_succ B)) (KP_B K (Nat.le_succ B))
theorem lp_addDependency {Z : BX} {D : va_G} (E : EF Z D cL_law RL room_1 4) {b L : Nat} {xs : Nat → Int32} (SX : SXF Z b L xs) {B c i : Nat} (hi : i + 3 < L) (hc : c ≤ 520) (hB : B < 100000) (H : LPt Z D b (B + 1) (c + 1) i 856) : LPt Z D b B c i 198 := by
  intro N F x0 x1 sv q ct dp we ok us fc ft fn fh fe fo di r g sl zs ch stp od rd ld sh wt tl R K
  refine law_addDependency E SX i hi (by omega) (by omega) x0 x1 sv q ct dp we ok us fc ft fn fh fe fo di r g sl zs ch stp od rd ld sh wt N R.ct R.lk.1 R.g0 (fun t wo => refReachT R.lk.1 t wo) (rel_addDependency R hB (xs (i + 1)) (xs (i + 2)) (xs (i + 3))).1 ?_
  refine v_widen (c1 := 100 + 15 * (c + 1)) (s1 := 3000 + 400 * (c + 1)) (by omega) (by omega) ?_
  exact H N F x0 x1 sv q ct ((w_X6_addDependency_2_1 ct dp ok us (xs (i + 1)) (xs (i + 2)) (xs (i + 3)))) we ok ((w_X6_addDependency_6 ct dp ok us (xs (i + 1)) (xs (i + 2)) (xs (i + 3)))) fc ft fn fh fe fo di r ((w_X7_addDependency_1 g (xs (i + 1)) (xs (i + 2)) (xs (i + 3)) N)) sl zs ch stp od rd ld sh wt tl (rel_addDependency R hB (xs (i + 1)) (xs (i + 2)) (xs (i + 3))).2 (KP_B K (Nat.le_succ B))
theorem lp_removeDependency {Z : BX} {D : va_G} (E : EF Z D cL_law RL room_1 4) {b L : Nat} {xs : Nat → Int32} (SX : SXF Z b L xs) {B c i : Nat} (hi : i + 3 < L) (hc : c ≤ 520) (hB : B < 100000) (H : LPt Z D b (B + 1) (c + 1) i 856) : LPt Z D b B c i 241 := by
  intro N F x0 x1 sv q ct dp we ok us fc ft fn fh fe fo di r g sl zs ch stp od rd ld sh wt tl R K
  refine law_removeDependency E SX i hi (by omega) (by omega) x0 x1 sv q ct dp we ok us fc ft fn fh fe fo di r g sl zs ch stp od rd ld sh wt N R.ct R.lk.1 R.g0 (rel_removeDependency R hB (xs (i + 1)) (xs (i + 2))).1 ?_
  refine v_widen (c1 := 100 + 15 * (c + 1)) (s1 := 3000 + 400 * (c + 1)) (by omega) (by omega) ?_
  exact H N F x0 x1 sv q ct ((w_X6_removeDependency_2_1 ct dp us (xs (i + 1)) (xs (i + 2)))) we ok ((w_X6_removeDependency_6 ct us (xs (i + 1)) (xs (i + 2)))) fc ft fn fh fe fo di r ((w_X7_removeDependency_1 g (xs (i + 1)) (xs (i + 2)))) sl zs ch stp od rd ld sh wt tl (rel_removeDependency R hB (xs (i + 1)) (xs (i + 2))).2 (KP_B K (Nat.le_succ B))
theorem lp_addFile {Z : BX} {D : va_G} (E : EF Z D cL_law RL room_1 4) {b L : Nat} {xs : Nat → Int32} (SX : SXF Z b L xs) {B c i : Nat} (hi : i + 3 < L) (hc : c ≤ 520) (hB : B < 100000) (H : LPt Z D b (B + 1) (c + 1) i 856) : LPt Z D b B c i 274 := by
  intro N F x0 x1 sv q ct dp we ok us fc ft fn fh fe fo di r g sl zs ch stp od rd ld sh wt tl R K
  refine law_addFile E SX i hi (by omega) (by omega) x0 x1 sv q ct dp we ok us fc ft fn fh fe fo di r g sl zs ch stp od rd ld sh wt N F R.ct R.lk.1 R.fl.cf R.fl.hF R.g0 R.fl.g2 (fun _ => (rel_addFile R (xs (i + 1)) 0 (xs (i + 3)) (Or.inl rfl)).1) (fun _ => (rel_addFile R (xs (i + 1)) 0 (xs (i + 3)) (Or.inl rfl)).1) (fun _ => ?_) (fun _ => ?_)
  · refine v_widen (c1 := 100 + 15 * (c + 1)) (s1 := 3000 + 400 * (c + 1)) (by omega) (by omega) ?_
    obtain ⟨F2, R2⟩ := (rel_addFile R (xs (i + 1)) 0 (xs (i + 3)) (Or.inl rfl)).2
    exact H N F2 x0 x1 sv q ct dp we ok us ((w_X6_addFile_10_0 ct fc fn fe fo (xs (i + 1)) (xs (i + 3)))) ((w_X6_addFile_11 ct fc ft fn fe fo (xs (i + 1)) (xs (i + 3)) F)) ((w_X6_addFile_12 ct fc fn fe fo (xs (i + 1)) (xs (i + 3)) F)) ((w_X6_addFile_13 ct fc fn fh fe fo (xs (i + 1)) 0 (xs (i + 3)) F)) ((w_X6_addFile_14 ct fc fn fe fo (xs (i + 1)) (xs (i + 3)) F)) ((w_X6_addFile_15 ct fc fn fe fo (xs (i + 1)) (xs (i + 3)))) ((w_X6_addFile_1_2 ct fc ft fn fh fe fo di (xs (i + 1)) 0 (xs (i + 3)) F)) r ((w_X7_addFile_1 g (xs (i + 1)) 0 (xs (i + 3)) F)) sl zs ch stp od rd ld sh wt tl (Rl_B R2 (Nat.le_succ B)) (KP_B K (Nat.le_succ B))
  · refine v_widen (c1 := 100 + 15 * (c + 1)) (s1 := 3000 + 400 * (c + 1)) (by omega) (by omega) ?_
    obtain ⟨F2, R2⟩ := (rel_addFile R (xs (i + 1)) 1 (xs (i + 3)) (Or.inr rfl)).2
    exact H N F2 x0 x1 sv q ct dp we ok us ((w_X6_addFile_10_0 ct fc fn fe fo (xs (i + 1)) (xs (i + 3)))) ((w_X6_addFile_11 ct fc ft fn fe fo (xs (i + 1)) (xs (i + 3)) F)) ((w_X6_addFile_12 ct fc fn fe fo (xs (i + 1)) (xs (i + 3)) F)) ((w_X6_addFile_13 ct fc fn fh fe fo (xs (i + 1)) 1 (xs (i + 3)) F)) ((w_X6_addFile_14 ct fc fn fe fo (xs (i + 1)) (xs (i + 3)) F)) ((w_X6_addFile_15 ct fc fn fe fo (xs (i + 1)) (xs (i + 3)))) ((w_X6_addFile_1_2 ct fc ft fn fh fe fo di (xs (i + 1)) 1 (xs (i + 3)) F)) r ((w_X7_addFile_1 g (xs (i + 1)) 1 (xs (i + 3)) F)) sl zs ch stp od rd ld sh wt tl (Rl_B R2 (Nat.le_succ B)) (KP_B K (Nat.le_succ B))
theorem lp_edit {Z : BX} {D : va_G} (E : EF Z D cL_law RL room_1 4) {b L : Nat} {xs : Nat → Int32} (SX : SXF Z b L xs) {B c i : Nat} (hi : i + 3 < L) (hc : c ≤ 520) (hB : B < 100000) (H : LPt Z D b (B + 1) (c + 1) i 856) : LPt Z D b B c i 333 := by
  intro N F x0 x1 sv q ct dp we ok us fc ft fn fh fe fo di r g sl zs ch stp od rd ld sh wt tl R K
  refine law_edit E SX i hi (by omega) (by omega) x0 x1 sv q ct dp we ok us fc ft fn fh fe fo di r g sl zs ch stp od rd ld sh wt F R.fl.cf R.fl.hF R.fl.g2 (fl_T R.fl R.lk.1) (rel_edit R (xs (i + 1))).1 ?_
  refine v_widen (c1 := 100 + 15 * (c + 1)) (s1 := 3000 + 400 * (c + 1)) (by omega) (by omega) ?_
  exact H N F x0 x1 sv q ct dp we ok us fc ft fn fh fe fo ((w_X6_edit_1_2 fc ft fh fe di (xs (i + 1)))) r ((w_X7_edit_1 g (xs (i + 1)))) sl zs ch stp od rd ld sh wt tl (Rl_B (rel_edit R (xs (i + 1))).2 (Nat.le_succ B)) (KP_B K (Nat.le_succ B))
theorem lp_rename {Z : BX} {D : va_G} (E : EF Z D cL_law RL room_1 4) {b L : Nat} {xs : Nat → Int32} (SX : SXF Z b L xs) {B c i : Nat} (hi : i + 3 < L) (hc : c ≤ 520) (hB : B < 100000) (H : LPt Z D b (B + 1) (c + 1) i 856) : LPt Z D b B c i 356 := by
  intro N F x0 x1 sv q ct dp we ok us fc ft fn fh fe fo di r g sl zs ch stp od rd ld sh wt tl R K
  refine law_rename E SX i hi (by omega) (by omega) x0 x1 sv q ct dp we ok us fc ft fn fh fe fo di r g sl zs ch stp od rd ld sh wt F R.fl.cf R.fl.hF R.fl.g2 (fl_T R.fl R.lk.1) (rel_rename R (xs (i + 1)) (xs (i + 2))).1 ?_
  refine v_widen (c1 := 100 + 15 * (c + 1)) (s1 := 3000 + 400 * (c + 1)) (by omega) (by omega) ?_
  exact H N F x0 x1 sv q ct dp we ok us fc ft ((w_X6_rename_12 fc fn fe fo (xs (i + 1)) (xs (i + 2)))) fh fe ((w_X6_rename_15 fc fn fe fo (xs (i + 1)) (xs (i + 2)))) ((w_X6_rename_1_2 fc ft fn fh fe fo di (xs (i + 1)) (xs (i + 2)))) r ((w_X7_rename_1 g (xs (i + 1)) (xs (i + 2)) F)) sl zs ch stp od rd ld sh wt tl (Rl_B (rel_rename R (xs (i + 1)) (xs (i + 2))).2 (Nat.le_succ B)) (KP_B K (Nat.le_succ B))
theorem lp_move {Z : BX} {D : va_G} (E : EF Z D cL_law RL room_1 4) {b L : Nat} {xs : Nat → Int32} (SX : SXF Z b L xs) {B c i : Nat} (hi : i + 3 < L) (hc : c ≤ 520) (hB : B < 100000) (H : LPt Z D b (B + 1) (c + 1) i 856) : LPt Z D b B c i 389 := by
  intro N F x0 x1 sv q ct dp we ok us fc ft fn fh fe fo di r g sl zs ch stp od rd ld sh wt tl R K
  refine law_move E SX i hi (by omega) (by omega) x0 x1 sv q ct dp we ok us fc ft fn fh fe fo di r g sl zs ch stp od rd ld sh wt N F R.ct R.lk.1 R.fl.cf R.fl.hF R.g0 R.fl.g2 (fl_T R.fl R.lk.1) (rel_move R (xs (i + 1)) (xs (i + 2))).1 ?_
  refine v_widen (c1 := 100 + 15 * (c + 1)) (s1 := 3000 + 400 * (c + 1)) (by omega) (by omega) ?_
  exact H N F x0 x1 sv q ct dp we ok us fc ((w_X6_move_11 ct fc ft fe (xs (i + 1)) (xs (i + 2)))) fn fh fe fo ((w_X6_move_1_2 ct fc ft fh fe di (xs (i + 1)) (xs (i + 2)))) r ((w_X7_move_1 g (xs (i + 1)) (xs (i + 2)))) sl zs ch stp od rd ld sh wt tl (Rl_B (rel_move R (xs (i + 1)) (xs (i + 2))).2 (Nat.le_succ B)) (KP_B K (Nat.le_succ B))
theorem lp_deleteFile {Z : BX} {D : va_G} (E : EF Z D cL_law RL room_1 4) {b L : Nat} {xs : Nat → Int32} (SX : SXF Z b L xs) {B c i : Nat} (hi : i + 3 < L) (hc : c ≤ 520) (hB : B < 100000) (H : LPt Z D b (B + 1) (c + 1) i 856) : LPt Z D b B c i 422 := by
  intro N F x0 x1 sv q ct dp we ok us fc ft fn fh fe fo di r g sl zs ch stp od rd ld sh wt tl R K
  refine law_deleteFile E SX i hi (by omega) (by omega) x0 x1 sv q ct dp we ok us fc ft fn fh fe fo di r g sl zs ch stp od rd ld sh wt F R.fl.cf R.fl.hF R.fl.g2 (fl_T R.fl R.lk.1) (rel_deleteFile R (xs (i + 1))).1 ?_
  refine v_widen (c1 := 100 + 15 * (c + 1)) (s1 := 3000 + 400 * (c + 1)) (by omega) (by omega) ?_
  exact H N F x0 x1 sv q ct dp we ok us fc ft fn fh ((w_X6_deleteFile_14 fc fe (xs (i + 1)))) fo ((w_X6_deleteFile_1_2 fc ft fh fe di (xs (i + 1)))) r ((w_X7_deleteFile_1 g (xs (i + 1)))) sl zs ch stp od rd ld sh wt tl (Rl_B (rel_deleteFile R (xs (i + 1))).2 (Nat.le_succ B)) (KP_B K (Nat.le_succ B))
theorem lp_targetOf {Z : BX} {D : va_G} (E : EF Z D cL_law RL room_1 4) {b L : Nat} {xs : Nat → Int32} (SX : SXF Z b L xs) {B c i : Nat} (hi : i + 3 < L) (hc : c ≤ 520) (hB : B < 100000) (H : LPt Z D b (B + 1) (c + 1) i 856) : LPt Z D b B c i 445 := by
  intro N F x0 x1 sv q ct dp we ok us fc ft fn fh fe fo di r g sl zs ch stp od rd ld sh wt tl R K
  refine law_targetOf E SX i hi (by omega) (by omega) x0 x1 sv q ct dp we ok us fc ft fn fh fe fo di r g sl zs ch stp od rd ld sh wt F R.fl.cf R.fl.hF R.fl.g2 (rel_targetOf R (xs (i + 1))) ?_
  refine v_widen (c1 := 100 + 15 * (c + 1)) (s1 := 3000 + 400 * (c + 1)) (by omega) (by omega) ?_
  exact H N F x0 x1 sv q ct dp we ok us fc ft fn fh fe fo di r g sl zs ch stp od rd ld sh wt tl (Rl_B R (Nat.le_succ B)) (KP_B K (Nat.le_succ B))
theorem lp_nameOf {Z : BX} {D : va_G} (E : EF Z D cL_law RL room_1 4) {b L : Nat} {xs : Nat → Int32} (SX : SXF Z b L xs) {B c i : Nat} (hi : i + 3 < L) (hc : c ≤ 520) (hB : B < 100000) (H : LPt Z D b (B + 1) (c + 1) i 856) : LPt Z D b B c i 468 := by
  intro N F x0 x1 sv q ct dp we ok us fc ft fn fh fe fo di r g sl zs ch stp od rd ld sh wt tl R K
  refine law_nameOf E SX i hi (by omega) (by omega) x0 x1 sv q ct dp we ok us fc ft fn fh fe fo di r g sl zs ch stp od rd ld sh wt F R.fl.cf R.fl.hF R.fl.g2 (rel_nameOf R (xs (i + 1))) ?_
  refine v_widen (c1 := 100 + 15 * (c + 1)) (s1 := 3000 + 400 * (c + 1)) (by omega) (by omega) ?_
  exact H N F x0 x1 sv q ct dp we ok us fc ft fn fh fe fo di r g sl zs ch stp od rd ld sh wt tl (Rl_B R (Nat.le_succ B)) (KP_B K (Nat.le_succ B))
theorem lp_follow {Z : BX} {D : va_G} (E : EF Z D cL_law RL room_1 4) {b L : Nat} {xs : Nat → Int32} (SX : SXF Z b L xs) {B c i : Nat} (hi : i + 3 < L) (hc : c ≤ 520) (hB : B < 100000) (H : LPt Z D b (B + 1) (c + 1) i 856) : LPt Z D b B c i 491 := by
  intro N F x0 x1 sv q ct dp we ok us fc ft fn fh fe fo di r g sl zs ch stp od rd ld sh wt tl R K
  refine law_follow E SX i hi (by omega) (by omega) x0 x1 sv q ct dp we ok us fc ft fn fh fe fo di r g sl zs ch stp od rd ld sh wt F R.fl.cf R.fl.hF R.fl.g2 (rel_follow R (xs (i + 1))) ?_
  refine v_widen (c1 := 100 + 15 * (c + 1)) (s1 := 3000 + 400 * (c + 1)) (by omega) (by omega) ?_
  exact H N F x0 x1 sv q ct dp we ok us fc ft fn fh fe fo di r g sl zs ch stp od rd ld sh wt tl (Rl_B R (Nat.le_succ B)) (KP_B K (Nat.le_succ B))
theorem lp_clearChanges {Z : BX} {D : va_G} (E : EF Z D cL_law RL room_1 4) {b L : Nat} {xs : Nat → Int32} (SX : SXF Z b L xs) {B c i : Nat} (hi : i + 3 < L) (hc : c ≤ 520) (hB : B < 100000) (H : LPt Z D b (B + 1) (c + 1) i 856) : LPt Z D b B c i 514 := by
  intro N F x0 x1 sv q ct dp we ok us fc ft fn fh fe fo di r g sl zs ch stp od rd ld sh wt tl R K
  refine law_clearChanges E SX i hi (by omega) (by omega) x0 x1 sv q ct dp we ok us fc ft fn fh fe fo di r g sl zs ch stp od rd ld sh wt (rel_clearChanges R).1 ?_
  refine v_widen (c1 := 100 + 15 * (c + 1)) (s1 := 3000 + 400 * (c + 1)) (by omega) (by omega) ?_
  exact H N F x0 x1 sv q ct dp we ok us fc ft fn fh fe fo ((w_X6_clearChanges_1_2)) r ((w_X7_clearChanges_1 g)) sl zs ch stp od rd ld sh wt tl (Rl_B (rel_clearChanges R).2 (Nat.le_succ B)) (KP_B K (Nat.le_succ B))
theorem lp_directlyChanged {Z : BX} {D : va_G} (E : EF Z D cL_law RL room_1 4) {b L : Nat} {xs : Nat → Int32} (SX : SXF Z b L xs) {B c i : Nat} (hi : i + 3 < L) (hc : c ≤ 520) (hB : B < 100000) (H : LPt Z D b (B + 1) (c + 1) i 856) : LPt Z D b B c i 527 := by
  intro N F x0 x1 sv q ct dp we ok us fc ft fn fh fe fo di r g sl zs ch stp od rd ld sh wt tl R K
  refine law_directlyChanged E SX i hi (by omega) (by omega) x0 x1 sv q ct dp we ok us fc ft fn fh fe fo di r g sl zs ch stp od rd ld sh wt N R.g0 R.lk.1 (rel_directlyChanged R (xs (i + 1))) ?_
  refine v_widen (c1 := 100 + 15 * (c + 1)) (s1 := 3000 + 400 * (c + 1)) (by omega) (by omega) ?_
  exact H N F x0 x1 sv q ct dp we ok us fc ft fn fh fe fo di r g sl zs ch stp od rd ld sh wt tl (Rl_B R (Nat.le_succ B)) (KP_B K (Nat.le_succ B))
theorem lp_changed {Z : BX} {D : va_G} (E : EF Z D cL_law RL room_1 4) {b L : Nat} {xs : Nat → Int32} (SX : SXF Z b L xs) {B c i : Nat} (hi : i + 3 < L) (hc : c ≤ 520) (hB : B < 100000) (H : LPt Z D b (B + 1) (c + 1) i 856) : LPt Z D b B c i 550 := by
  intro N F x0 x1 sv q ct dp we ok us fc ft fn fh fe fo di r g sl zs ch stp od rd ld sh wt tl R K
  refine law_changed E SX i hi (by omega) (by omega) x0 x1 sv q ct dp we ok us fc ft fn fh fe fo di r g sl zs ch stp od rd ld sh wt N R.g0 R.lk.1 (fun ch => (refSpread R.lk.1 ch).1) (rel_changed R ch (xs (i + 1))) ?_
  refine v_widen (c1 := 100 + 15 * (c + 1)) (s1 := 3000 + 400 * (c + 1)) (by omega) (by omega) ?_
  exact H N F x0 x1 sv q ct dp we ok us fc ft fn fh fe fo di r g sl zs ((w_X7_changed_2 g ch (xs (i + 1)) N)) stp od rd ld sh wt tl (Rl_B R (Nat.le_succ B)) (KP_B K (Nat.le_succ B))
theorem lp_affectedTests {Z : BX} {D : va_G} (E : EF Z D cL_law RL room_1 4) {b L : Nat} {xs : Nat → Int32} (SX : SXF Z b L xs) {B c i : Nat} (hi : i + 3 < L) (hc : c ≤ 520) (hB : B < 100000) (H : LPt Z D b (B + 1) (c + 1) i 856) : LPt Z D b B c i 573 := by
  intro N F x0 x1 sv q ct dp we ok us fc ft fn fh fe fo di r g sl zs ch stp od rd ld sh wt tl R K
  refine law_affectedTests E SX i hi (by omega) (by omega) x0 x1 sv q ct dp we ok us fc ft fn fh fe fo di r g sl zs ch stp od rd ld sh wt N R.g0 R.lk.1 (fun ch => (refSpread R.lk.1 ch).1) (fun t wo => refReachT R.lk.1 t wo) (rel_affectedTests R ch) ?_
  refine v_widen (c1 := 100 + 15 * (c + 1)) (s1 := 3000 + 400 * (c + 1)) (by omega) (by omega) ?_
  exact H N F x0 x1 sv q ct dp we ok us fc ft fn fh fe fo di r g sl zs ((w_X7_affectedTests_2 g ch N)) stp od rd ld sh wt tl (Rl_B R (Nat.le_succ B)) (KP_B K (Nat.le_succ B))
theorem lp_chain {Z : BX} {D : va_G} (E : EF Z D cL_law RL room_1 4) {b L : Nat} {xs : Nat → Int32} (SX : SXF Z b L xs) {B c i : Nat} (hi : i + 3 < L) (hc : c ≤ 520) (hB : B < 100000) (H : LPt Z D b (B + 1) (c + 1) i 856) : LPt Z D b B c i 586 := by
  intro N F x0 x1 sv q ct dp we ok us fc ft fn fh fe fo di r g sl zs ch stp od rd ld sh wt tl R K
  refine law_chain E SX i hi (by omega) (by omega) x0 x1 sv q ct dp we ok us fc ft fn fh fe fo di r g sl zs ch stp od rd ld sh wt N R.g0 R.lk.1 (fun ch => (refSpread R.lk.1 ch).1) (eq_chain R.lk R.rd R.g0 ch stp (xs (i + 1)) (xs (i + 2)) (xs (i + 3))).2 (by rw [R.ct]; exact (eq_chain R.lk R.rd R.g0 ch stp (xs (i + 1)) (xs (i + 2)) (xs (i + 3))).1) ?_
  refine v_widen (c1 := 100 + 15 * (c + 1)) (s1 := 3000 + 400 * (c + 1)) (by omega) (by omega) ?_
  exact H N F x0 x1 sv q ct dp we ok us fc ft fn fh fe fo di r g sl zs ((w_X7_chain_2 g ch (xs (i + 1)) (xs (i + 2)) N)) ((w_X7_chain_3 g ch stp (xs (i + 1)) (xs (i + 2)) N)) od rd ld sh wt tl (Rl_B R (Nat.le_succ B)) (KP_B K (Nat.le_succ B))
theorem lp_impact {Z : BX} {D : va_G} (E : EF Z D cL_law RL room_1 4) {b L : Nat} {xs : Nat → Int32} (SX : SXF Z b L xs) {B c i : Nat} (hi : i + 3 < L) (hc : c ≤ 520) (hB : B < 100000) (H : LPt Z D b (B + 1) (c + 1) i 856) : LPt Z D b B c i 629 := by
  intro N F x0 x1 sv q ct dp we ok us fc ft fn fh fe fo di r g sl zs ch stp od rd ld sh wt tl R K
  refine law_impact E SX i hi (by omega) (by omega) x0 x1 sv q ct dp we ok us fc ft fn fh fe fo di r g sl zs ch stp od rd ld sh wt N R.g0 R.lk.1 (fun ch => (refSpread R.lk.1 ch).1) (rel_impact R ch (xs (i + 1)) (xs (i + 2))) ?_
  refine v_widen (c1 := 100 + 15 * (c + 1)) (s1 := 3000 + 400 * (c + 1)) (by omega) (by omega) ?_
  exact H N F x0 x1 sv q ct dp we ok us fc ft fn fh fe fo di r g sl zs ((w_X7_impact_2 g ch (xs (i + 1)) (xs (i + 2)) N)) stp od rd ld sh wt tl (Rl_B R (Nat.le_succ B)) (KP_B K (Nat.le_succ B))
theorem lp_mostCritical {Z : BX} {D : va_G} (E : EF Z D cL_law RL room_1 4) {b L : Nat} {xs : Nat → Int32} (SX : SXF Z b L xs) {B c i : Nat} (hi : i + 3 < L) (hc : c ≤ 520) (hB : B < 100000) (H : LPt Z D b (B + 1) (c + 1) i 856) : LPt Z D b B c i 662 := by
  intro N F x0 x1 sv q ct dp we ok us fc ft fn fh fe fo di r g sl zs ch stp od rd ld sh wt tl R K
  refine law_mostCritical E SX i hi (by omega) (by omega) x0 x1 sv q ct dp we ok us fc ft fn fh fe fo di r g sl zs ch stp od rd ld sh wt N R.ct R.lk.1 R.g0 (fun ch => (refSpread R.lk.1 ch).1) (rel_mostCritical R ch (xs (i + 1))) ?_
  refine v_widen (c1 := 100 + 15 * (c + 1)) (s1 := 3000 + 400 * (c + 1)) (by omega) (by omega) ?_
  exact H N F x0 x1 sv q ct dp we ok us fc ft fn fh fe fo di r g sl zs ((w_X7_mostCritical_2 g ch (xs (i + 1)) N)) stp od rd ld sh wt tl (Rl_B R (Nat.le_succ B)) (KP_B K (Nat.le_succ B))
theorem lp_rebuildOrder {Z : BX} {D : va_G} (E : EF Z D cL_law RL room_1 4) {b L : Nat} {xs : Nat → Int32} (SX : SXF Z b L xs) {B c i : Nat} (hi : i + 3 < L) (hc : c ≤ 520) (hB : B < 100000) (H : LPt Z D b (B + 1) (c + 1) i 856) : LPt Z D b B c i 685 := by
  intro N F x0 x1 sv q ct dp we ok us fc ft fn fh fe fo di r g sl zs ch stp od rd ld sh wt tl R K
  refine law_rebuildOrder E SX i hi (by omega) (by omega) x0 x1 sv q ct dp we ok us fc ft fn fh fe fo di r g sl zs ch stp od rd ld sh wt N R.g0 R.lk.1 (fun ch => (refSpread R.lk.1 ch).1) (rel_hWo R ch od) (rel_rebuildOrder R ch od (xs (i + 1))) ?_
  refine v_widen (c1 := 100 + 15 * (c + 1)) (s1 := 3000 + 400 * (c + 1)) (by omega) (by omega) ?_
  exact H N F x0 x1 sv q ct dp we ok us fc ft fn fh fe fo di r g sl zs ((w_X7_rebuildOrder_2 g ch N)) stp ((w_X7_rebuildOrder_3 g ch od N)) rd ld sh wt tl (Rl_B R (Nat.le_succ B)) (KP_B K (Nat.le_succ B))
theorem lp_rebuildTime {Z : BX} {D : va_G} (E : EF Z D cL_law RL room_1 4) {b L : Nat} {xs : Nat → Int32} (SX : SXF Z b L xs) {B c i : Nat} (hi : i + 3 < L) (hc : c ≤ 520) (hB : B < 100000) (H : LPt Z D b (B + 1) (c + 1) i 856) : LPt Z D b B c i 708 := by
  intro N F x0 x1 sv q ct dp we ok us fc ft fn fh fe fo di r g sl zs ch stp od rd ld sh wt tl R K
  refine law_rebuildTime E SX i hi (by omega) (by omega) x0 x1 sv q ct dp we ok us fc ft fn fh fe fo di r g sl zs ch stp od rd ld sh wt N R.g0 R.lk.1 (fun ch => (refSpread R.lk.1 ch).1) (rel_hWo R ch od) (rel_hOd R ch od) (rel_rebuildTime R ch od rd) ?_
  refine v_widen (c1 := 100 + 15 * (c + 1)) (s1 := 3000 + 400 * (c + 1)) (by omega) (by omega) ?_
  exact H N F x0 x1 sv q ct dp we ok us fc ft fn fh fe fo di r g sl zs ((w_X7_rebuildTime_2 g ch N)) stp ((w_X7_rebuildTime_3 g ch od N)) ((w_X7_rebuildTime_4 g ch od rd N)) ld sh wt tl (Rl_B R (Nat.le_succ B)) (KP_B K (Nat.le_succ B))
theorem lp_shardOf {Z : BX} {D : va_G} (E : EF Z D cL_law RL room_1 4) {b L : Nat} {xs : Nat → Int32} (SX : SXF Z b L xs) {B c i : Nat} (hi : i + 3 < L) (hc : c ≤ 520) (hB : B < 100000) (H : LPt Z D b (B + 1) (c + 1) i 856) : LPt Z D b B c i 721 := by
  intro N F x0 x1 sv q ct dp we ok us fc ft fn fh fe fo di r g sl zs ch stp od rd ld sh wt tl R K
  refine law_shardOf E SX i hi (by omega) (by omega) x0 x1 sv q ct dp we ok us fc ft fn fh fe fo di r g sl zs ch stp od rd ld sh wt N R.ct R.lk.1 R.g0 (fun ch => (refSpread R.lk.1 ch).1) (fun t wo => refReachT R.lk.1 t wo) (rel_hOk R ch) (fun S a b => shards_T R.lk R.rd R.rk R.rw (rel_hc R) ch ld sh S a b) (by rw [R.ct]; exact eq_shardOf R.lk R.rd R.rk R.rw R.g0 (rel_hc R) ch ld sh (xs (i + 1)) (xs (i + 2))) ?_
  refine v_widen (c1 := 100 + 15 * (c + 1)) (s1 := 3000 + 400 * (c + 1)) (by omega) (by omega) ?_
  exact H N F x0 x1 sv q ct dp we ok us fc ft fn fh fe fo di r g sl zs ((w_X7_shardOf_2 g ch (xs (i + 1)) (xs (i + 2)) N)) stp od rd ((w_X7_shardOf_3 g ch ld sh (xs (i + 1)) (xs (i + 2)) N)) ((w_X7_shardOf_4 g ch ld sh (xs (i + 1)) (xs (i + 2)) N)) wt tl (Rl_B R (Nat.le_succ B)) (KP_B K (Nat.le_succ B))
theorem lp_shardLoad {Z : BX} {D : va_G} (E : EF Z D cL_law RL room_1 4) {b L : Nat} {xs : Nat → Int32} (SX : SXF Z b L xs) {B c i : Nat} (hi : i + 3 < L) (hc : c ≤ 520) (hB : B < 100000) (H : LPt Z D b (B + 1) (c + 1) i 856) : LPt Z D b B c i 754 := by
  intro N F x0 x1 sv q ct dp we ok us fc ft fn fh fe fo di r g sl zs ch stp od rd ld sh wt tl R K
  refine law_shardLoad E SX i hi (by omega) (by omega) x0 x1 sv q ct dp we ok us fc ft fn fh fe fo di r g sl zs ch stp od rd ld sh wt N R.ct R.lk.1 R.g0 (fun ch => (refSpread R.lk.1 ch).1) (fun t wo => refReachT R.lk.1 t wo) (rel_hOk R ch) (fun S a b => shards_T R.lk R.rd R.rk R.rw (rel_hc R) ch ld sh S a b) (by rw [R.ct]; exact eq_shardLoad R.lk R.rd R.rk R.rw (rel_hc R) ch ld sh (xs (i + 1)) (xs (i + 2))) ?_
  refine v_widen (c1 := 100 + 15 * (c + 1)) (s1 := 3000 + 400 * (c + 1)) (by omega) (by omega) ?_
  exact H N F x0 x1 sv q ct dp we ok us fc ft fn fh fe fo di r g sl zs ((w_X7_shardLoad_2 g ch (xs (i + 1)) (xs (i + 2)) N)) stp od rd ((w_X7_shardLoad_3 g ch ld sh (xs (i + 1)) (xs (i + 2)) N)) ((w_X7_shardLoad_4 g ch ld sh (xs (i + 1)) (xs (i + 2)) N)) wt tl (Rl_B R (Nat.le_succ B)) (KP_B K (Nat.le_succ B))
theorem lp_bestGreatestLoad {Z : BX} {D : va_G} (E : EF Z D cL_law RL room_1 4) {b L : Nat} {xs : Nat → Int32} (SX : SXF Z b L xs) {B c i : Nat} (hi : i + 3 < L) (hc : c ≤ 520) (hB : B < 100000) (H : LPt Z D b (B + 1) (c + 1) i 856) : LPt Z D b B c i 787 := by
  intro N F x0 x1 sv q ct dp we ok us fc ft fn fh fe fo di r g sl zs ch stp od rd ld sh wt tl R K
  refine law_bestGreatestLoad E SX i hi (by omega) (by omega) x0 x1 sv q ct dp we ok us fc ft fn fh fe fo di r g sl zs ch stp od rd ld sh wt N R.ct R.lk.1 R.g0 (fun ch => (refSpread R.lk.1 ch).1) (fun t wo => refReachT R.lk.1 t wo) (rel_hC R ch) (by rw [R.ct]; exact eq_best R.lk R.rd R.rk R.rw (rel_hc R) ch ld wt (xs (i + 1))) ?_
  refine v_widen (c1 := 100 + 15 * (c + 1)) (s1 := 3000 + 400 * (c + 1)) (by omega) (by omega) ?_
  exact H N F x0 x1 sv q ct dp we ok us fc ft fn fh fe fo di r g sl zs ((w_X7_bestGreatestLoad_2 g ch (xs (i + 1)) N)) stp od rd ((w_X7_bestGreatestLoad_3 g ch ld wt (xs (i + 1)) N)) sh ((w_X7_bestGreatestLoad_4 g ch wt (xs (i + 1)) N)) tl (Rl_B R (Nat.le_succ B)) (KP_B K (Nat.le_succ B))
