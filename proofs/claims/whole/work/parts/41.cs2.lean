/-- a part of n shells, as the memory holds it -/
def pt_ (mr : MR_) (sh : SH_) (p n : Nat) : Prop := sh 4 p = some 10 ∧ mr 4 p 2 = some (21, p) ∧ sh 21 p = some n ∧ ∀ i, i < n → mr 21 p i = some (6, 6 * p + i) ∧ sh 6 (6 * p + i) = some 6
def ff_ (Y : MI_) (p n i : Nat) : Int32 := if i + 1 < n then (Y 6 (6 * p + i) 0 - Y 6 (6 * p + (i + 1)) 0) * Y 4 p 3 / 1000 else 0
def fo_ (Y : MI_) (p : Nat) (g : Int32) : Int32 := (g - Y 6 (6 * p) 0) * Y 4 p 4 / 1000
def mw_ (Y : MI_) (p n : Nat) (g : Int32) : Nat → MI_ × Int32
  | 0 => (Y, fo_ Y p g)
  | i + 1 => (u_3 (mw_ Y p n g i).1 6 (6 * p + i) 0 ((mw_ Y p n g i).1 6 (6 * p + i) 0 + ((mw_ Y p n g i).2 - ff_ (mw_ Y p n g i).1 p n i)), ff_ (mw_ Y p n g i).1 p n i)
def cl_ (Y : MI_) (p : Nat) : Nat → MI_
  | 0 => Y
  | i + 1 => cg_m (cl_ Y p i) (6 * p + i) (cl_ Y p i 4 p 5) (cl_ Y p i 4 p 6)
def sb_m (Y : MI_) (p n : Nat) (g : Int32) : MI_ := cl_ (mw_ Y p n g n).1 p n
def sb_l (Y : MI_) (T : ML_) (p : Nat) (g : Int32) : ML_ := u_3 T 4 p 7 (T 4 p 7 + (fo_ Y p g).toInt64)
def wa_l (Y : MI_) (T : ML_) (p : Nat) : Nat → Int64
  | 0 => -T 4 p 7
  | i + 1 => wa_l Y T p i + (Y 6 (6 * p + i) 0 - 200).toInt64
def dp_s (Y : MI_) (s : Nat) (h : Int64) : Nat → Int64
  | 0 => h
  | k + 1 => 31 * dp_s Y s h k + (te_ Y s k).toInt64
def dp_i (Y : MI_) (p : Nat) (h : Int64) : Nat → Int64
  | 0 => h
  | i + 1 => dp_s Y (6 * p + i) (dp_i Y p h i) 7
set_option maxHeartbeats 4000000 in
set_option maxRecDepth 100000 in
theorem c_X2_flowFrom {mi : MI_} {ml : ML_} {mr : MR_} {sh : SH_} {p n : Nat} (hp : pt_ mr sh p n) (h1 : 1 ≤ n) (h6 : n ≤ 6) (i : Nat) (hi : i < n) : hg_Det false yX2_flowFrom md_X2_flowFrom [hv_r (some (4, p)), hv_i (nI i)] (mi, ml, mr, sh) (some (hv_i (ff_ mi p n i))) (mi, ml, mr, sh) := by
  intro Q hQ
  refine hg_intro rfl rfl rfl (Nat.le_of_ble_eq_true rfl) rfl ?_
  refine hg_iload_n (n := 1) dX2_flowFrom_0 rfl rfl ?_
  refine hg_iconst (n := 2) (v := 1) dX2_flowFrom_1 rfl (by decide) ?_
  refine hg_iaddN (n := 3) (i) (1) dX2_flowFrom_2 rfl ?_
  refine hg_aload_n (n := 4) dX2_flowFrom_3 rfl rfl ?_
  refine hg_getR (n := 7) (r := some (21, p)) dX2_flowFrom_4 rfl fl_X2_32 rfl rfl hp.1 hp.2.1 ?_
  refine hg_alen (n := 8) (len := n) dX2_flowFrom_7 rfl (by decide) rfl hp.2.2.1 ?_
  refine hg_icmp_ltN (n := 11) (tgt := 13) (i + 1) (n) dX2_flowFrom_8 rfl (by decide) (by omega) (by omega) (fun h8 => ?_) (fun h8 => ?_)
  · refine hg_aload_n (n := 14) dX2_flowFrom_13 rfl rfl ?_
    refine hg_getR (n := 17) (r := some (21, p)) dX2_flowFrom_14 rfl fl_X2_32 rfl rfl hp.1 hp.2.1 ?_
    refine hg_iload_n (n := 18) dX2_flowFrom_17 rfl rfl ?_
    refine hg_aaload (n := 19) (len := n) (i) (r := some (6, 6 * p + i)) dX2_flowFrom_18 rfl (by decide) rfl rfl hp.2.2.1 rfl (by omega) (by omega) (hp.2.2.2 (i) (by omega)).1 ?_
    refine hg_getI (n := 22) dX2_flowFrom_19 rfl fl_X2_45 rfl rfl (hp.2.2.2 (i) (by omega)).2 ?_
    refine hg_aload_n (n := 23) dX2_flowFrom_22 rfl rfl ?_
    refine hg_getR (n := 26) (r := some (21, p)) dX2_flowFrom_23 rfl fl_X2_32 rfl rfl hp.1 hp.2.1 ?_
    refine hg_iload_n (n := 27) dX2_flowFrom_26 rfl rfl ?_
    refine hg_iconst (n := 28) (v := 1) dX2_flowFrom_27 rfl (by decide) ?_
    refine hg_iaddN (n := 29) (i) (1) dX2_flowFrom_28 rfl ?_
    refine hg_aaload (n := 30) (len := n) (i + 1) (r := some (6, 6 * p + (i + 1))) dX2_flowFrom_29 rfl (by decide) rfl rfl hp.2.2.1 rfl (by omega) (by omega) (hp.2.2.2 (i + 1) (by omega)).1 ?_
    refine hg_getI (n := 33) dX2_flowFrom_30 rfl fl_X2_45 rfl rfl (hp.2.2.2 ((i + 1)) (by omega)).2 ?_
    refine hg_isub (n := 34) dX2_flowFrom_33 rfl ?_
    refine hg_aload_n (n := 35) dX2_flowFrom_34 rfl rfl ?_
    refine hg_getI (n := 38) dX2_flowFrom_35 rfl fl_X2_18 rfl rfl hp.1 ?_
    refine hg_imul (n := 39) dX2_flowFrom_38 rfl ?_
    refine hg_sipush (n := 42) (v := 1000) dX2_flowFrom_39 rfl (by decide) ?_
    refine hg_idiv (n := 43) dX2_flowFrom_42 rfl (by decide) ?_
    refine hg_ireturn dX2_flowFrom_43 rfl ?_
    unfold ff_ at hQ
    rw [if_pos (by omega)] at hQ
    exact hQ
  · refine hg_iconst (n := 12) (v := 0) dX2_flowFrom_11 rfl (by decide) ?_
    refine hg_ireturn dX2_flowFrom_12 rfl ?_
    unfold ff_ at hQ
    rw [if_neg (by omega)] at hQ
    exact hQ

set_option maxHeartbeats 4000000 in
set_option maxRecDepth 100000 in
theorem c_X2_moveWarmth {mi : MI_} {ml : ML_} {mr : MR_} {sh : SH_} {p n : Nat} (hp : pt_ mr sh p n) (h1 : 1 ≤ n) (h6 : n ≤ 6) (g : Int32) : hg_Det false yX2_moveWarmth md_X2_moveWarmth [hv_r (some (4, p)), hv_i g] (mi, ml, mr, sh) none ((mw_ mi p n g n).1, sb_l mi ml p g, mr, sh) := by
  intro Q hQ
  refine hg_intro rfl rfl rfl (Nat.le_of_ble_eq_true rfl) rfl ?_
  have loop : ∀ m i, i + m = n → hg_G md_X2_moveWarmth false sh Q 0 0 34 [some (hv_r (some (4, p))), some (hv_i g), some (hv_i (mw_ mi p n g i).2), some (hv_i (nI i)), none] [] ((mw_ mi p n g i).1, sb_l mi ml p g, mr, sh) := by
    intro m
    induction m with
    | zero =>
      intro i hi
      refine hg_iload_n (n := 35) dX2_moveWarmth_34 rfl rfl ?_
      refine hg_aload_n (n := 36) dX2_moveWarmth_35 rfl rfl ?_
      refine hg_getR (n := 39) (r := some (21, p)) dX2_moveWarmth_36 rfl fl_X2_32 rfl rfl hp.1 hp.2.1 ?_
      refine hg_alen (n := 40) (len := n) dX2_moveWarmth_39 rfl (by decide) rfl hp.2.2.1 ?_
      refine hg_icmp_geN (n := 43) (tgt := 77) (i) (n) dX2_moveWarmth_40 rfl (by decide) (by omega) (by omega) (fun h40 => ?_) (fun h40 => ?_)
      · have e := show i = n by omega
        subst e
        refine hg_return dX2_moveWarmth_77 rfl ?_
        exact hQ
      · exact absurd h40 (by omega)
    | succ m ih =>
      intro i hi
      refine hg_iload_n (n := 35) dX2_moveWarmth_34 rfl rfl ?_
      refine hg_aload_n (n := 36) dX2_moveWarmth_35 rfl rfl ?_
      refine hg_getR (n := 39) (r := some (21, p)) dX2_moveWarmth_36 rfl fl_X2_32 rfl rfl hp.1 hp.2.1 ?_
      refine hg_alen (n := 40) (len := n) dX2_moveWarmth_39 rfl (by decide) rfl hp.2.2.1 ?_
      refine hg_icmp_geN (n := 43) (tgt := 77) (i) (n) dX2_moveWarmth_40 rfl (by decide) (by omega) (by omega) (fun h40 => ?_) (fun h40 => ?_)
      · exact absurd h40 (by omega)
      · refine hg_aload_n (n := 44) dX2_moveWarmth_43 rfl rfl ?_
        refine hg_iload_n (n := 45) dX2_moveWarmth_44 rfl rfl ?_
        refine hg_callVd (n := 48) (c_X2_flowFrom hp h1 h6 (i) (by omega)) dX2_moveWarmth_45 rfl mk_X2_52 yl_X2_flowFrom yv_X2_flowFrom rfl hp.1 (by decide) (by decide) rfl rfl (Nat.le_of_ble_eq_true rfl) (fun h => by cases h) ?_
        refine hg_istore (n := 50) dX2_moveWarmth_48 rfl (by decide) rfl rfl ?_
        refine hg_aload_n (n := 51) dX2_moveWarmth_50 rfl rfl ?_
        refine hg_getR (n := 54) (r := some (21, p)) dX2_moveWarmth_51 rfl fl_X2_32 rfl rfl hp.1 hp.2.1 ?_
        refine hg_iload_n (n := 55) dX2_moveWarmth_54 rfl rfl ?_
        refine hg_aaload (n := 56) (len := n) (i) (r := some (6, 6 * p + i)) dX2_moveWarmth_55 rfl (by decide) rfl rfl hp.2.2.1 rfl (by omega) (by omega) (hp.2.2.2 (i) (by omega)).1 ?_
        refine hg_dup (n := 57) dX2_moveWarmth_56 rfl rfl ?_
        refine hg_getI (n := 60) dX2_moveWarmth_57 rfl fl_X2_45 rfl rfl (hp.2.2.2 (i) (by omega)).2 ?_
        refine hg_iload_n (n := 61) dX2_moveWarmth_60 rfl rfl ?_
        refine hg_iload (n := 63) dX2_moveWarmth_61 rfl rfl ?_
        refine hg_isub (n := 64) dX2_moveWarmth_63 rfl ?_
        refine hg_iadd (n := 65) dX2_moveWarmth_64 rfl ?_
        refine hg_putI (n := 68) dX2_moveWarmth_65 rfl fl_X2_45 rfl rfl (hp.2.2.2 (i) (by omega)).2 ?_
        refine hg_iload (n := 70) dX2_moveWarmth_68 rfl rfl ?_
        refine hg_istore_n (n := 71) dX2_moveWarmth_70 rfl (by decide) rfl rfl ?_
        refine hg_iincN (n := 74) (i) 1 dX2_moveWarmth_71 rfl rfl (by decide) (by decide) rfl rfl ?_
        refine hg_goto (tgt := 34) dX2_moveWarmth_74 (by decide) ?_
        exact hg_ls (ih (i + 1) (by omega)) ⟨rfl, rfl, rfl, rfl, trivial⟩
  refine hg_iload_n (n := 1) dX2_moveWarmth_0 rfl rfl ?_
  refine hg_aload_n (n := 2) dX2_moveWarmth_1 rfl rfl ?_
  refine hg_getR (n := 5) (r := some (21, p)) dX2_moveWarmth_2 rfl fl_X2_32 rfl rfl hp.1 hp.2.1 ?_
  refine hg_iconst (n := 6) (v := 0) dX2_moveWarmth_5 rfl (by decide) ?_
  refine hg_aaload (n := 7) (len := n) (0) (r := some (6, 6 * p)) dX2_moveWarmth_6 rfl (by decide) rfl rfl hp.2.2.1 rfl (by omega) (by omega) (hp.2.2.2 (0) (by omega)).1 ?_
  refine hg_getI (n := 10) dX2_moveWarmth_7 rfl fl_X2_45 rfl rfl (hp.2.2.2 (0) (by omega)).2 ?_
  refine hg_isub (n := 11) dX2_moveWarmth_10 rfl ?_
  refine hg_aload_n (n := 12) dX2_moveWarmth_11 rfl rfl ?_
  refine hg_getI (n := 15) dX2_moveWarmth_12 rfl fl_X2_21 rfl rfl hp.1 ?_
  refine hg_imul (n := 16) dX2_moveWarmth_15 rfl ?_
  refine hg_sipush (n := 19) (v := 1000) dX2_moveWarmth_16 rfl (by decide) ?_
  refine hg_idiv (n := 20) dX2_moveWarmth_19 rfl (by decide) ?_
  refine hg_istore_n (n := 21) dX2_moveWarmth_20 rfl (by decide) rfl rfl ?_
  refine hg_aload_n (n := 22) dX2_moveWarmth_21 rfl rfl ?_
  refine hg_dup (n := 23) dX2_moveWarmth_22 rfl rfl ?_
  refine hg_getL (n := 26) dX2_moveWarmth_23 rfl fl_X2_48 rfl rfl hp.1 ?_
  refine hg_iload_n (n := 27) dX2_moveWarmth_26 rfl rfl ?_
  refine hg_i2l (n := 28) dX2_moveWarmth_27 rfl ?_
  refine hg_ladd (n := 29) dX2_moveWarmth_28 rfl ?_
  refine hg_putL (n := 32) dX2_moveWarmth_29 rfl fl_X2_48 rfl rfl hp.1 ?_
  refine hg_iconst (n := 33) (v := 0) dX2_moveWarmth_32 rfl (by decide) ?_
  refine hg_istore_n (n := 34) dX2_moveWarmth_33 rfl (by decide) rfl rfl ?_
  exact hg_ls (loop n 0 (by omega)) ⟨rfl, rfl, rfl, rfl, trivial⟩

set_option maxHeartbeats 4000000 in
set_option maxRecDepth 100000 in
theorem c_X2_stepBeside {mi : MI_} {ml : ML_} {mr : MR_} {sh : SH_} {p n : Nat} (hp : pt_ mr sh p n) (h1 : 1 ≤ n) (h6 : n ≤ 6) (g : Int32) : hg_Det false yX2_stepBeside md_X2_stepBeside [hv_r (some (4, p)), hv_i g] (mi, ml, mr, sh) none (sb_m mi p n g, sb_l mi ml p g, mr, sh) := by
  intro Q hQ
  refine hg_intro rfl rfl rfl (Nat.le_of_ble_eq_true rfl) rfl ?_
  have loop : ∀ m i, i + m = n → hg_G md_X2_stepBeside false sh Q 0 0 7 [some (hv_r (some (4, p))), some (hv_i g), some (hv_i (nI i))] [] (cl_ (mw_ mi p n g n).1 p i, sb_l mi ml p g, mr, sh) := by
    intro m
    induction m with
    | zero =>
      intro i hi
      refine hg_iload_n (n := 8) dX2_stepBeside_7 rfl rfl ?_
      refine hg_aload_n (n := 9) dX2_stepBeside_8 rfl rfl ?_
      refine hg_getR (n := 12) (r := some (21, p)) dX2_stepBeside_9 rfl fl_X2_32 rfl rfl hp.1 hp.2.1 ?_
      refine hg_alen (n := 13) (len := n) dX2_stepBeside_12 rfl (by decide) rfl hp.2.2.1 ?_
      refine hg_icmp_geN (n := 16) (tgt := 39) (i) (n) dX2_stepBeside_13 rfl (by decide) (by omega) (by omega) (fun h13 => ?_) (fun h13 => ?_)
      · have e := show i = n by omega
        subst e
        refine hg_return dX2_stepBeside_39 rfl ?_
        exact hQ
      · exact absurd h13 (by omega)
    | succ m ih =>
      intro i hi
      refine hg_iload_n (n := 8) dX2_stepBeside_7 rfl rfl ?_
      refine hg_aload_n (n := 9) dX2_stepBeside_8 rfl rfl ?_
      refine hg_getR (n := 12) (r := some (21, p)) dX2_stepBeside_9 rfl fl_X2_32 rfl rfl hp.1 hp.2.1 ?_
      refine hg_alen (n := 13) (len := n) dX2_stepBeside_12 rfl (by decide) rfl hp.2.2.1 ?_
      refine hg_icmp_geN (n := 16) (tgt := 39) (i) (n) dX2_stepBeside_13 rfl (by decide) (by omega) (by omega) (fun h13 => ?_) (fun h13 => ?_)
      · exact absurd h13 (by omega)
      · refine hg_aload_n (n := 17) dX2_stepBeside_16 rfl rfl ?_
        refine hg_getR (n := 20) (r := some (21, p)) dX2_stepBeside_17 rfl fl_X2_32 rfl rfl hp.1 hp.2.1 ?_
        refine hg_iload_n (n := 21) dX2_stepBeside_20 rfl rfl ?_
        refine hg_aaload (n := 22) (len := n) (i) (r := some (6, 6 * p + i)) dX2_stepBeside_21 rfl (by decide) rfl rfl hp.2.2.1 rfl (by omega) (by omega) (hp.2.2.2 (i) (by omega)).1 ?_
        refine hg_aload_n (n := 23) dX2_stepBeside_22 rfl rfl ?_
        refine hg_getI (n := 26) dX2_stepBeside_23 rfl fl_X2_24 rfl rfl hp.1 ?_
        refine hg_aload_n (n := 27) dX2_stepBeside_26 rfl rfl ?_
        refine hg_getI (n := 30) dX2_stepBeside_27 rfl fl_X2_27 rfl rfl hp.1 ?_
        refine hg_callVd (n := 33) (c_X4_change (hp.2.2.2 (i) (by omega)).2 _ _) dX2_stepBeside_30 rfl mk_X2_41 yl_X4_change yv_X4_change rfl (hp.2.2.2 (i) (by omega)).2 (by decide) (by decide) rfl rfl (Nat.le_of_ble_eq_true rfl) (fun h => by cases h) ?_
        refine hg_iincN (n := 36) (i) 1 dX2_stepBeside_33 rfl rfl (by decide) (by decide) rfl rfl ?_
        refine hg_goto (tgt := 7) dX2_stepBeside_36 (by decide) ?_
        exact ih (i + 1) (by omega)
  refine hg_aload_n (n := 1) dX2_stepBeside_0 rfl rfl ?_
  refine hg_iload_n (n := 2) dX2_stepBeside_1 rfl rfl ?_
  refine hg_callVd (n := 5) (c_X2_moveWarmth hp h1 h6 _) dX2_stepBeside_2 rfl mk_X2_37 yl_X2_moveWarmth yv_X2_moveWarmth rfl hp.1 (by decide) (by decide) rfl rfl (Nat.le_of_ble_eq_true rfl) (fun h => by cases h) ?_
  refine hg_iconst (n := 6) (v := 0) dX2_stepBeside_5 rfl (by decide) ?_
  refine hg_istore_n (n := 7) dX2_stepBeside_6 rfl (by decide) rfl rfl ?_
  exact loop n 0 (by omega)

set_option maxHeartbeats 4000000 in
set_option maxRecDepth 100000 in
theorem c_X2_innermostWarmth {mi : MI_} {ml : ML_} {mr : MR_} {sh : SH_} {p n : Nat} (hp : pt_ mr sh p n) (h1 : 1 ≤ n) (h6 : n ≤ 6)  : hg_Det false yX2_innermostWarmth md_X2_innermostWarmth [hv_r (some (4, p))] (mi, ml, mr, sh) (some (hv_i (mi 6 (6 * p + (n - 1)) 0))) (mi, ml, mr, sh) := by
  intro Q hQ
  refine hg_intro rfl rfl rfl (Nat.le_of_ble_eq_true rfl) rfl ?_
  refine hg_aload_n (n := 1) dX2_innermostWarmth_0 rfl rfl ?_
  refine hg_getR (n := 4) (r := some (21, p)) dX2_innermostWarmth_1 rfl fl_X2_32 rfl rfl hp.1 hp.2.1 ?_
  refine hg_aload_n (n := 5) dX2_innermostWarmth_4 rfl rfl ?_
  refine hg_getR (n := 8) (r := some (21, p)) dX2_innermostWarmth_5 rfl fl_X2_32 rfl rfl hp.1 hp.2.1 ?_
  refine hg_alen (n := 9) (len := n) dX2_innermostWarmth_8 rfl (by decide) rfl hp.2.2.1 ?_
  refine hg_iconst (n := 10) (v := 1) dX2_innermostWarmth_9 rfl (by decide) ?_
  refine hg_isubN (n := 11) (n) (1) dX2_innermostWarmth_10 rfl (by omega) ?_
  refine hg_aaload (n := 12) (len := n) (n - 1) (r := some (6, 6 * p + (n - 1))) dX2_innermostWarmth_11 rfl (by decide) rfl rfl hp.2.2.1 rfl (by omega) (by omega) (hp.2.2.2 (n - 1) (by omega)).1 ?_
  refine hg_getI (n := 15) dX2_innermostWarmth_12 rfl fl_X2_45 rfl rfl (hp.2.2.2 ((n - 1)) (by omega)).2 ?_
  refine hg_ireturn dX2_innermostWarmth_15 rfl ?_
  exact hQ

set_option maxHeartbeats 4000000 in
set_option maxRecDepth 100000 in
theorem c_X2_warmthAstray {mi : MI_} {ml : ML_} {mr : MR_} {sh : SH_} {p n : Nat} (hp : pt_ mr sh p n) (h1 : 1 ≤ n) (h6 : n ≤ 6)  : hg_Det false yX2_warmthAstray md_X2_warmthAstray [hv_r (some (4, p))] (mi, ml, mr, sh) (some (hv_l (wa_l mi ml p n))) (mi, ml, mr, sh) := by
  intro Q hQ
  refine hg_intro rfl rfl rfl (Nat.le_of_ble_eq_true rfl) rfl ?_
  have loop : ∀ m i, i + m = n → hg_G md_X2_warmthAstray false sh Q 0 0 8 [some (hv_r (some (4, p))), some (hv_l (wa_l mi ml p i)), none, some (hv_i (nI i))] [] (mi, ml, mr, sh) := by
    intro m
    induction m with
    | zero =>
      intro i hi
      refine hg_iload_n (n := 9) dX2_warmthAstray_8 rfl rfl ?_
      refine hg_aload_n (n := 10) dX2_warmthAstray_9 rfl rfl ?_
      refine hg_getR (n := 13) (r := some (21, p)) dX2_warmthAstray_10 rfl fl_X2_32 rfl rfl hp.1 hp.2.1 ?_
      refine hg_alen (n := 14) (len := n) dX2_warmthAstray_13 rfl (by decide) rfl hp.2.2.1 ?_
      refine hg_icmp_geN (n := 17) (tgt := 40) (i) (n) dX2_warmthAstray_14 rfl (by decide) (by omega) (by omega) (fun h14 => ?_) (fun h14 => ?_)
      · have e := show i = n by omega
        subst e
        refine hg_lload_n (n := 41) dX2_warmthAstray_40 rfl rfl ?_
        refine hg_lreturn dX2_warmthAstray_41 rfl ?_
        exact hQ
      · exact absurd h14 (by omega)
    | succ m ih =>
      intro i hi
      refine hg_iload_n (n := 9) dX2_warmthAstray_8 rfl rfl ?_
      refine hg_aload_n (n := 10) dX2_warmthAstray_9 rfl rfl ?_
      refine hg_getR (n := 13) (r := some (21, p)) dX2_warmthAstray_10 rfl fl_X2_32 rfl rfl hp.1 hp.2.1 ?_
      refine hg_alen (n := 14) (len := n) dX2_warmthAstray_13 rfl (by decide) rfl hp.2.2.1 ?_
      refine hg_icmp_geN (n := 17) (tgt := 40) (i) (n) dX2_warmthAstray_14 rfl (by decide) (by omega) (by omega) (fun h14 => ?_) (fun h14 => ?_)
      · exact absurd h14 (by omega)
      · refine hg_lload_n (n := 18) dX2_warmthAstray_17 rfl rfl ?_
        refine hg_aload_n (n := 19) dX2_warmthAstray_18 rfl rfl ?_
        refine hg_getR (n := 22) (r := some (21, p)) dX2_warmthAstray_19 rfl fl_X2_32 rfl rfl hp.1 hp.2.1 ?_
        refine hg_iload_n (n := 23) dX2_warmthAstray_22 rfl rfl ?_
        refine hg_aaload (n := 24) (len := n) (i) (r := some (6, 6 * p + i)) dX2_warmthAstray_23 rfl (by decide) rfl rfl hp.2.2.1 rfl (by omega) (by omega) (hp.2.2.2 (i) (by omega)).1 ?_
        refine hg_getI (n := 27) dX2_warmthAstray_24 rfl fl_X2_45 rfl rfl (hp.2.2.2 (i) (by omega)).2 ?_
        refine hg_sipush (n := 30) (v := 200) dX2_warmthAstray_27 rfl (by decide) ?_
        refine hg_isub (n := 31) dX2_warmthAstray_30 rfl ?_
        refine hg_i2l (n := 32) dX2_warmthAstray_31 rfl ?_
        refine hg_ladd (n := 33) dX2_warmthAstray_32 rfl ?_
        refine hg_lstore_n (n := 34) dX2_warmthAstray_33 rfl (by decide) rfl rfl ?_
        refine hg_iincN (n := 37) (i) 1 dX2_warmthAstray_34 rfl rfl (by decide) (by decide) rfl rfl ?_
        refine hg_goto (tgt := 8) dX2_warmthAstray_37 (by decide) ?_
        exact ih (i + 1) (by omega)
  refine hg_aload_n (n := 1) dX2_warmthAstray_0 rfl rfl ?_
  refine hg_getL (n := 4) dX2_warmthAstray_1 rfl fl_X2_48 rfl rfl hp.1 ?_
  refine hg_lneg (n := 5) dX2_warmthAstray_4 rfl ?_
  refine hg_lstore_n (n := 6) dX2_warmthAstray_5 rfl (by decide) rfl rfl ?_
  refine hg_iconst (n := 7) (v := 0) dX2_warmthAstray_6 rfl (by decide) ?_
  refine hg_istore_n (n := 8) dX2_warmthAstray_7 rfl (by decide) rfl rfl ?_
  exact loop n 0 (by omega)

set_option maxHeartbeats 4000000 in
set_option maxRecDepth 100000 in
theorem c_X2_digestFrom {mi : MI_} {ml : ML_} {mr : MR_} {sh : SH_} {p n : Nat} (hp : pt_ mr sh p n) (h1 : 1 ≤ n) (h6 : n ≤ 6) (h : Int64) : hg_Det false yX2_digestFrom md_X2_digestFrom [hv_r (some (4, p)), hv_l h] (mi, ml, mr, sh) (some (hv_l (dp_i mi p (31 * h + ml 4 p 7) n))) (mi, ml, mr, sh) := by
  intro Q hQ
  refine hg_intro rfl rfl rfl (Nat.le_of_ble_eq_true rfl) rfl ?_
  have l1 : ∀ m i, i + m = n → hg_G md_X2_digestFrom false sh Q 0 0 14 [some (hv_r (some (4, p))), some (hv_l h), none, some (hv_l (dp_i mi p (31 * h + ml 4 p 7) i)), none, some (hv_i (nI i)), none] [] (mi, ml, mr, sh) := by
    intro m
    induction m with
    | zero =>
      intro i hi
      refine hg_iload (n := 16) dX2_digestFrom_14 rfl rfl ?_
      refine hg_aload_n (n := 17) dX2_digestFrom_16 rfl rfl ?_
      refine hg_getR (n := 20) (r := some (21, p)) dX2_digestFrom_17 rfl fl_X2_32 rfl rfl hp.1 hp.2.1 ?_
      refine hg_alen (n := 21) (len := n) dX2_digestFrom_20 rfl (by decide) rfl hp.2.2.1 ?_
      refine hg_icmp_geN (n := 24) (tgt := 66) (i) (n) dX2_digestFrom_21 rfl (by decide) (by omega) (by omega) (fun h21 => ?_) (fun h21 => ?_)
      · have e := show i = n by omega
        subst e
        refine hg_lload_n (n := 67) dX2_digestFrom_66 rfl rfl ?_
        refine hg_lreturn dX2_digestFrom_67 rfl ?_
        exact hQ
      · exact absurd h21 (by omega)
    | succ m ih0 =>
      intro i hi
      have l2 : ∀ q k, k + q = 7 → hg_G md_X2_digestFrom false sh Q 0 0 27 [some (hv_r (some (4, p))), some (hv_l h), none, some (hv_l (dp_s mi (6 * p + i) (dp_i mi p (31 * h + ml 4 p 7) i) k)), none, some (hv_i (nI i)), some (hv_i (nI k))] [] (mi, ml, mr, sh) := by
        intro q
        induction q with
        | zero =>
          intro k hk
          refine hg_iload (n := 29) dX2_digestFrom_27 rfl rfl ?_
          refine hg_bipush (n := 31) (v := 6) dX2_digestFrom_29 rfl (by decide) ?_
          refine hg_icmp_gtN (n := 34) (tgt := 60) (k) (6) dX2_digestFrom_31 rfl (by decide) (by omega) (by omega) (fun h31 => ?_) (fun h31 => ?_)
          · have e := show k = 7 by omega
            subst e
            refine hg_iincN (n := 63) (i) 1 dX2_digestFrom_60 rfl rfl (by decide) (by decide) rfl rfl ?_
            refine hg_goto (tgt := 14) dX2_digestFrom_63 (by decide) ?_
            exact hg_ls (ih0 (i + 1) (by omega)) ⟨rfl, rfl, rfl, rfl, trivial⟩
          · exact absurd h31 (by omega)
        | succ q ih =>
          intro k hk
          refine hg_iload (n := 29) dX2_digestFrom_27 rfl rfl ?_
          refine hg_bipush (n := 31) (v := 6) dX2_digestFrom_29 rfl (by decide) ?_
          refine hg_icmp_gtN (n := 34) (tgt := 60) (k) (6) dX2_digestFrom_31 rfl (by decide) (by omega) (by omega) (fun h31 => ?_) (fun h31 => ?_)
          · exact absurd h31 (by omega)
          · refine hg_ldc2 (n := 37) dX2_digestFrom_34 rfl kc_X2_56 ?_
            refine hg_lload_n (n := 38) dX2_digestFrom_37 rfl rfl ?_
            refine hg_lmul (n := 39) dX2_digestFrom_38 rfl ?_
            refine hg_aload_n (n := 40) dX2_digestFrom_39 rfl rfl ?_
            refine hg_getR (n := 43) (r := some (21, p)) dX2_digestFrom_40 rfl fl_X2_32 rfl rfl hp.1 hp.2.1 ?_
            refine hg_iload (n := 45) dX2_digestFrom_43 rfl rfl ?_
            refine hg_aaload (n := 46) (len := n) (i) (r := some (6, 6 * p + i)) dX2_digestFrom_45 rfl (by decide) rfl rfl hp.2.2.1 rfl (by omega) (by omega) (hp.2.2.2 (i) (by omega)).1 ?_
            refine hg_iload (n := 48) dX2_digestFrom_46 rfl rfl ?_
            refine hg_callVd (n := 51) (c_X4_tell (hp.2.2.2 (i) (by omega)).2 (k) (by omega)) dX2_digestFrom_48 rfl mk_X2_58 yl_X4_tell yv_X4_tell rfl (hp.2.2.2 (i) (by omega)).2 (by decide) (by decide) rfl rfl (Nat.le_of_ble_eq_true rfl) (fun h => by cases h) ?_
            refine hg_i2l (n := 52) dX2_digestFrom_51 rfl ?_
            refine hg_ladd (n := 53) dX2_digestFrom_52 rfl ?_
            refine hg_lstore_n (n := 54) dX2_digestFrom_53 rfl (by decide) rfl rfl ?_
            refine hg_iincN (n := 57) (k) 1 dX2_digestFrom_54 rfl rfl (by decide) (by decide) rfl rfl ?_
            refine hg_goto (tgt := 27) dX2_digestFrom_57 (by decide) ?_
            exact ih (k + 1) (by omega)
      refine hg_iload (n := 16) dX2_digestFrom_14 rfl rfl ?_
      refine hg_aload_n (n := 17) dX2_digestFrom_16 rfl rfl ?_
      refine hg_getR (n := 20) (r := some (21, p)) dX2_digestFrom_17 rfl fl_X2_32 rfl rfl hp.1 hp.2.1 ?_
      refine hg_alen (n := 21) (len := n) dX2_digestFrom_20 rfl (by decide) rfl hp.2.2.1 ?_
      refine hg_icmp_geN (n := 24) (tgt := 66) (i) (n) dX2_digestFrom_21 rfl (by decide) (by omega) (by omega) (fun h21 => ?_) (fun h21 => ?_)
      · exact absurd h21 (by omega)
      · refine hg_iconst (n := 25) (v := 0) dX2_digestFrom_24 rfl (by decide) ?_
        refine hg_istore (n := 27) dX2_digestFrom_25 rfl (by decide) rfl rfl ?_
        exact l2 7 0 (by omega)
  refine hg_ldc2 (n := 3) dX2_digestFrom_0 rfl kc_X2_56 ?_
  refine hg_lload_n (n := 4) dX2_digestFrom_3 rfl rfl ?_
  refine hg_lmul (n := 5) dX2_digestFrom_4 rfl ?_
  refine hg_aload_n (n := 6) dX2_digestFrom_5 rfl rfl ?_
  refine hg_getL (n := 9) dX2_digestFrom_6 rfl fl_X2_48 rfl rfl hp.1 ?_
  refine hg_ladd (n := 10) dX2_digestFrom_9 rfl ?_
  refine hg_lstore_n (n := 11) dX2_digestFrom_10 rfl (by decide) rfl rfl ?_
  refine hg_iconst (n := 12) (v := 0) dX2_digestFrom_11 rfl (by decide) ?_
  refine hg_istore (n := 14) dX2_digestFrom_12 rfl (by decide) rfl rfl ?_
  exact hg_ls (l1 n 0 (by omega)) ⟨rfl, rfl, rfl, rfl, trivial⟩

set_option maxHeartbeats 4000000 in
set_option maxRecDepth 100000 in
theorem c_X3_init {mi : MI_} {ml : ML_} {mr : MR_} {sh : SH_} {r : Nat} (hr : sh 5 r = some 6) (f : Int32) : hg_Det false yX3_init md_X3_init [hv_r (some (5, r)), hv_i f] (mi, ml, mr, sh) none (u_3 mi 5 r 0 f, ml, mr, sh) := by
  intro Q hQ
  refine hg_intro rfl rfl rfl (Nat.le_of_ble_eq_true rfl) rfl ?_
  refine hg_aload_n (n := 1) dX3_init_0 rfl rfl ?_
  refine hg_objInit (n := 4) dX3_init_1 rfl mk_X3_3 oi_i oi_c (by decide) (Nat.le_of_ble_eq_true rfl) ?_
  refine hg_aload_n (n := 5) dX3_init_4 rfl rfl ?_
  refine hg_iload_n (n := 6) dX3_init_5 rfl rfl ?_
  refine hg_putIF (n := 9) dX3_init_6 rfl fl_X3_9 rfl rfl rfl rfl rfl hr ?_
  refine hg_return dX3_init_9 rfl ?_
  exact hQ

set_option maxHeartbeats 4000000 in
set_option maxRecDepth 100000 in
theorem c_X3_end {mi : MI_} {ml : ML_} {mr : MR_} {sh : SH_} {r : Nat} (hr : sh 5 r = some 6) (x : Int32) (hx : x = 0 ∨ x = 1) : hg_Det false yX3_end md_X3_end [hv_r (some (5, r)), hv_i x] (mi, ml, mr, sh) none (u_3 (u_3 mi 5 r 4 1) 5 r 5 x, ml, mr, sh) := by
  intro Q hQ
  refine hg_intro rfl rfl rfl (Nat.le_of_ble_eq_true rfl) rfl ?_
  refine hg_aload_n (n := 1) dX3_end_0 rfl rfl ?_
  refine hg_iconst (n := 2) (v := 1) dX3_end_1 rfl (by decide) ?_
  refine hg_putZ (n := 5) dX3_end_2 rfl fl_X3_15 rfl rfl (by decide) hr ?_
  refine hg_aload_n (n := 6) dX3_end_5 rfl rfl ?_
  refine hg_iload_n (n := 7) dX3_end_6 rfl rfl ?_
  refine hg_putZ (n := 10) dX3_end_7 rfl fl_X3_19 rfl rfl hx hr ?_
  refine hg_return dX3_end_10 rfl ?_
  exact hQ

def wc_ (Y : MI_) (r : Nat) : Int32 := if Y 5 r 5 = 0 then 0 else if Y 5 r 2 = 0 then 1 else 0
def rt_ (Y : MI_) (r w : Nat) : Int32 := if w = 0 then Y 5 r 0 else if w = 1 then (if Y 5 r 4 = 0 then 0 else 1) else if w = 2 then (if wc_ Y r = 0 then 0 else 1) else if w = 3 then (if Y 5 r 1 = 0 then 0 else 1) else Y 5 r 3
def dr_q (Y : MI_) (r : Nat) (h : Int64) : Nat → Int64
  | 0 => h
  | k + 1 => 31 * dr_q Y r h k + (rt_ Y r k).toInt64
set_option maxHeartbeats 4000000 in
set_option maxRecDepth 100000 in
theorem c_X3_isWell {mi : MI_} {ml : ML_} {mr : MR_} {sh : SH_} {r : Nat} (hr : sh 5 r = some 6)  : hg_Det false yX3_isWell md_X3_isWell [hv_r (some (5, r))] (mi, ml, mr, sh) (some (hv_i (wc_ mi r))) (mi, ml, mr, sh) := by
  intro Q hQ
  refine hg_intro rfl rfl rfl (Nat.le_of_ble_eq_true rfl) rfl ?_
  refine hg_aload_n (n := 1) dX3_isWell_0 rfl rfl ?_
  refine hg_getI (n := 4) dX3_isWell_1 rfl fl_X3_19 rfl rfl hr ?_
  refine hg_if_eq (n := 7) (tgt := 18) dX3_isWell_4 rfl (by decide) (fun h4 => ?_) (fun h4 => ?_)
  · refine hg_iconst (n := 19) (v := 0) dX3_isWell_18 rfl (by decide) ?_
    refine hg_zreturn dX3_isWell_19 rfl (by decide) ?_
    unfold wc_ at hQ
    rw [if_pos h4] at hQ
    exact hQ
  · refine hg_aload_n (n := 8) dX3_isWell_7 rfl rfl ?_
    refine hg_getI (n := 11) dX3_isWell_8 rfl fl_X3_22 rfl rfl hr ?_
    refine hg_if_ne (n := 14) (tgt := 18) dX3_isWell_11 rfl (by decide) (fun h11 => ?_) (fun h11 => ?_)
    · refine hg_iconst (n := 19) (v := 0) dX3_isWell_18 rfl (by decide) ?_
      refine hg_zreturn dX3_isWell_19 rfl (by decide) ?_
      unfold wc_ at hQ
      rw [if_neg h4, if_neg h11] at hQ
      exact hQ
    · refine hg_iconst (n := 15) (v := 1) dX3_isWell_14 rfl (by decide) ?_
      refine hg_goto (tgt := 19) dX3_isWell_15 (by decide) ?_
      refine hg_zreturn dX3_isWell_19 rfl (by decide) ?_
      unfold wc_ at hQ
      rw [if_neg h4, if_pos h11] at hQ
      exact hQ

set_option maxHeartbeats 4000000 in
set_option maxRecDepth 100000 in
theorem c_X3_tell {mi : MI_} {ml : ML_} {mr : MR_} {sh : SH_} {r : Nat} (hr : sh 5 r = some 6) (w : Nat) (hw : w ≤ 4) : hg_Det false yX3_tell md_X3_tell [hv_r (some (5, r)), hv_i (nI w)] (mi, ml, mr, sh) (some (hv_i (rt_ mi r w))) (mi, ml, mr, sh) := by
  intro Q hQ
  refine hg_intro rfl rfl rfl (Nat.le_of_ble_eq_true rfl) rfl ?_
  refine hg_iload_n (n := 1) dX3_tell_0 rfl rfl ?_
  rcases (show w = 0 ∨ w = 1 ∨ w = 2 ∨ w = 3 ∨ w = 4 by omega) with rfl | rfl | rfl | rfl | rfl
  · refine hg_tableIn (tgt := 32) (off := 31) dX3_tell_1 (by decide) (by decide) rfl (by decide) ?_
    refine hg_aload_n (n := 33) dX3_tell_32 rfl rfl ?_
    refine hg_getI (n := 36) dX3_tell_33 rfl fl_X3_9 rfl rfl hr ?_
    refine hg_ireturn dX3_tell_36 rfl ?_
    exact hQ
  · refine hg_tableIn (tgt := 37) (off := 36) dX3_tell_1 (by decide) (by decide) rfl (by decide) ?_
    refine hg_aload_n (n := 38) dX3_tell_37 rfl rfl ?_
    refine hg_getI (n := 41) dX3_tell_38 rfl fl_X3_15 rfl rfl hr ?_
    refine hg_callSNd (n := 44) (c_X5_truth _ _) dX3_tell_41 rfl mk_X3_25 yl_X5_truth ys_X5_truth (by decide) (by decide) rfl rfl (Nat.le_of_ble_eq_true rfl) (fun h => by cases h) ?_
    refine hg_ireturn dX3_tell_44 rfl ?_
    exact hQ
  · refine hg_tableIn (tgt := 45) (off := 44) dX3_tell_1 (by decide) (by decide) rfl (by decide) ?_
    refine hg_aload_n (n := 46) dX3_tell_45 rfl rfl ?_
    refine hg_callVd (n := 49) (c_X3_isWell hr) dX3_tell_46 rfl mk_X3_29 yl_X3_isWell yv_X3_isWell rfl hr (by decide) (by decide) rfl rfl (Nat.le_of_ble_eq_true rfl) (fun h => by cases h) ?_
    refine hg_callSNd (n := 52) (c_X5_truth _ _) dX3_tell_49 rfl mk_X3_25 yl_X5_truth ys_X5_truth (by decide) (by decide) rfl rfl (Nat.le_of_ble_eq_true rfl) (fun h => by cases h) ?_
    refine hg_ireturn dX3_tell_52 rfl ?_
    exact hQ
  · refine hg_tableIn (tgt := 53) (off := 52) dX3_tell_1 (by decide) (by decide) rfl (by decide) ?_
    refine hg_aload_n (n := 54) dX3_tell_53 rfl rfl ?_
    refine hg_getI (n := 57) dX3_tell_54 rfl fl_X3_33 rfl rfl hr ?_
    refine hg_callSNd (n := 60) (c_X5_truth _ _) dX3_tell_57 rfl mk_X3_25 yl_X5_truth ys_X5_truth (by decide) (by decide) rfl rfl (Nat.le_of_ble_eq_true rfl) (fun h => by cases h) ?_
    refine hg_ireturn dX3_tell_60 rfl ?_
    exact hQ
  · refine hg_tableOut (tgt := 61) dX3_tell_1 (Or.inr (by decide)) (by decide) ?_
    refine hg_aload_n (n := 62) dX3_tell_61 rfl rfl ?_
    refine hg_getI (n := 65) dX3_tell_62 rfl fl_X3_36 rfl rfl hr ?_
    refine hg_ireturn dX3_tell_65 rfl ?_
    exact hQ

set_option maxHeartbeats 4000000 in
set_option maxRecDepth 100000 in
theorem c_X3_digestFrom {mi : MI_} {ml : ML_} {mr : MR_} {sh : SH_} {r : Nat} (hr : sh 5 r = some 6) (h : Int64) : hg_Det false yX3_digestFrom md_X3_digestFrom [hv_r (some (5, r)), hv_l h] (mi, ml, mr, sh) (some (hv_l (dr_q mi r h 5))) (mi, ml, mr, sh) := by
  intro Q hQ
  refine hg_intro rfl rfl rfl (Nat.le_of_ble_eq_true rfl) rfl ?_
  have loop : ∀ m k, k + m = 5 → hg_G md_X3_digestFrom false sh Q 0 0 5 [some (hv_r (some (5, r))), some (hv_l h), none, some (hv_l (dr_q mi r h k)), none, some (hv_i (nI k))] [] (mi, ml, mr, sh) := by
    intro m
    induction m with
    | zero =>
      intro k hk
      refine hg_iload (n := 7) dX3_digestFrom_5 rfl rfl ?_
      refine hg_iconst (n := 8) (v := 4) dX3_digestFrom_7 rfl (by decide) ?_
      refine hg_icmp_gtN (n := 11) (tgt := 31) (k) (4) dX3_digestFrom_8 rfl (by decide) (by omega) (by omega) (fun h8 => ?_) (fun h8 => ?_)
      · have e := show k = 5 by omega
        subst e
        refine hg_lload_n (n := 32) dX3_digestFrom_31 rfl rfl ?_
        refine hg_lreturn dX3_digestFrom_32 rfl ?_
        exact hQ
      · exact absurd h8 (by omega)
    | succ m ih =>
      intro k hk
      refine hg_iload (n := 7) dX3_digestFrom_5 rfl rfl ?_
      refine hg_iconst (n := 8) (v := 4) dX3_digestFrom_7 rfl (by decide) ?_
      refine hg_icmp_gtN (n := 11) (tgt := 31) (k) (4) dX3_digestFrom_8 rfl (by decide) (by omega) (by omega) (fun h8 => ?_) (fun h8 => ?_)
      · exact absurd h8 (by omega)
      · refine hg_ldc2 (n := 14) dX3_digestFrom_11 rfl kc_X3_39 ?_
        refine hg_lload_n (n := 15) dX3_digestFrom_14 rfl rfl ?_
        refine hg_lmul (n := 16) dX3_digestFrom_15 rfl ?_
        refine hg_aload_n (n := 17) dX3_digestFrom_16 rfl rfl ?_
        refine hg_iload (n := 19) dX3_digestFrom_17 rfl rfl ?_
        refine hg_callVd (n := 22) (c_X3_tell hr (k) (by omega)) dX3_digestFrom_19 rfl mk_X3_41 yl_X3_tell yv_X3_tell rfl hr (by decide) (by decide) rfl rfl (Nat.le_of_ble_eq_true rfl) (fun h => by cases h) ?_
        refine hg_i2l (n := 23) dX3_digestFrom_22 rfl ?_
        refine hg_ladd (n := 24) dX3_digestFrom_23 rfl ?_
        refine hg_lstore_n (n := 25) dX3_digestFrom_24 rfl (by decide) rfl rfl ?_
        refine hg_iincN (n := 28) (k) 1 dX3_digestFrom_25 rfl rfl (by decide) (by decide) rfl rfl ?_
        refine hg_goto (tgt := 5) dX3_digestFrom_28 (by decide) ?_
        exact ih (k + 1) (by omega)
  refine hg_lload_n (n := 1) dX3_digestFrom_0 rfl rfl ?_
  refine hg_lstore_n (n := 2) dX3_digestFrom_1 rfl (by decide) rfl rfl ?_
  refine hg_iconst (n := 3) (v := 0) dX3_digestFrom_2 rfl (by decide) ?_
  refine hg_istore (n := 5) dX3_digestFrom_3 rfl (by decide) rfl rfl ?_
  exact loop 5 0 (by omega)

