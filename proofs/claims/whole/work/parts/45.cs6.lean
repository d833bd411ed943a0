def li_m (Y : MI_) (f r al o : Nat) (pl : Nat → Option Nat) (nn : Nat → Nat) : MI_ := if o = 0 then Y else if o = 1 then sk_m Y f r al pl nn else u_3 Y 3 f 11 (Y 3 f 11 + 1)
def li_v (Y : MI_) (f r al o : Nat) (pl : Nat → Option Nat) (nn : Nat → Nat) : Int32 := if o = 0 then (if Y 3 f 10 = Y 19 f al then 1 else 0) else (if li_m Y f r al o pl nn 3 f 11 < li_m Y f r al o pl nn 20 f al then 0 else 1)
theorem li_k {Y : MI_} {f r al o : Nat} {pl : Nat → Option Nat} {nn : Nat → Nat} {k a b : Nat} (h3 : ¬ (k = 3 ∧ a = f ∧ b = 11)) (h5 : ¬ (k = 5 ∧ a = r ∧ b = 2)) : li_m Y f r al o pl nn k a b = Y k a b := by
  unfold li_m
  split
  · rfl
  · split
    · exact sk_k h3 h5
    · exact u_3_ne _ _ h3
set_option maxHeartbeats 4000000 in
set_option maxRecDepth 100000 in
theorem c_X0_lineIsOver {mi : MI_} {ml : ML_} {mr : MR_} {sh : SH_} {f : Nat} (hF : fs_ mr sh f) {np : Nat} {pl : Nat → Option Nat} (hfp : fp_ mr f np pl) {nn : Nat → Nat} (hps : ps_ mr sh np nn) {r : Nat} (hr : sh 5 r = some 6) {al o : Nat} (hal : mi 3 f 7 = nI al) (hal8 : al < 8) (ho : mi 18 f al = nI o) (ho3 : o ≤ 3)  : hg_Det false yX0_lineIsOver md_X0_lineIsOver [hv_r (some (3, f)), hv_r (some (5, r))] (mi, ml, mr, sh) (some (hv_i (li_v mi f r al o pl nn))) (li_m mi f r al o pl nn, ml, mr, sh) := by
  intro Q hQ
  refine hg_intro rfl rfl rfl (Nat.le_of_ble_eq_true rfl) rfl ?_
  have s65 : ∀ X, X = li_m mi f r al o pl nn → o ≠ 0 → hg_G md_X0_lineIsOver false sh Q 0 0 65 [some (hv_r (some (3, f))), some (hv_r (some (5, r)))] [] (X, ml, mr, sh) := by
    intro X hX h0
    subst hX
    refine hg_aload_n (n := 66) dX0_lineIsOver_65 rfl rfl ?_
    refine hg_getI (n := 69) dX0_lineIsOver_66 rfl fl_X0_60 rfl rfl hF.1 ?_
    refine hg_aload_n (n := 70) dX0_lineIsOver_69 rfl rfl ?_
    refine hg_getR (n := 73) (r := some (20, f)) dX0_lineIsOver_70 rfl fl_X0_31 rfl rfl hF.1 (hF.2 5 (by decide)).1 ?_
    refine hg_aload_n (n := 74) dX0_lineIsOver_73 rfl rfl ?_
    refine hg_getN (n := 77) (al) dX0_lineIsOver_74 rfl fl_X0_48 rfl rfl hF.1 ((li_k (by omega) (by omega)).trans hal) ?_
    refine hg_iaload (n := 78) (len := 8) (al) dX0_lineIsOver_77 rfl (by decide) rfl (hF.2 5 (by decide)).2 rfl (by omega) (by decide) ?_
    refine hg_icmp_lt (n := 81) (tgt := 85) dX0_lineIsOver_78 rfl (by decide) (fun h78 => ?_) (fun h78 => ?_)
    · refine hg_iconst (n := 86) (v := 0) dX0_lineIsOver_85 rfl (by decide) ?_
      refine hg_zreturn dX0_lineIsOver_86 rfl (by decide) ?_
      unfold li_v at hQ
      rw [if_neg h0, if_pos h78] at hQ
      exact hQ
    · refine hg_iconst (n := 82) (v := 1) dX0_lineIsOver_81 rfl (by decide) ?_
      refine hg_goto (tgt := 86) dX0_lineIsOver_82 (by decide) ?_
      refine hg_zreturn dX0_lineIsOver_86 rfl (by decide) ?_
      unfold li_v at hQ
      rw [if_neg h0, if_neg h78] at hQ
      exact hQ
  refine hg_aload_n (n := 1) dX0_lineIsOver_0 rfl rfl ?_
  refine hg_getR (n := 4) (r := some (18, f)) dX0_lineIsOver_1 rfl fl_X0_25 rfl rfl hF.1 (hF.2 3 (by decide)).1 ?_
  refine hg_aload_n (n := 5) dX0_lineIsOver_4 rfl rfl ?_
  refine hg_getN (n := 8) (al) dX0_lineIsOver_5 rfl fl_X0_48 rfl rfl hF.1 hal ?_
  refine hg_ialoadN (n := 9) (len := 8) (o) (al) dX0_lineIsOver_8 rfl (by decide) rfl (hF.2 3 (by decide)).2 rfl (by omega) (by decide) ho ?_
  refine hg_if_neN (n := 12) (tgt := 34) (o) dX0_lineIsOver_9 rfl (by decide) (by omega) (fun h9 => ?_) (fun h9 => ?_)
  · refine hg_aload_n (n := 35) dX0_lineIsOver_34 rfl rfl ?_
    refine hg_getR (n := 38) (r := some (18, f)) dX0_lineIsOver_35 rfl fl_X0_25 rfl rfl hF.1 (hF.2 3 (by decide)).1 ?_
    refine hg_aload_n (n := 39) dX0_lineIsOver_38 rfl rfl ?_
    refine hg_getN (n := 42) (al) dX0_lineIsOver_39 rfl fl_X0_48 rfl rfl hF.1 hal ?_
    refine hg_ialoadN (n := 43) (len := 8) (o) (al) dX0_lineIsOver_42 rfl (by decide) rfl (hF.2 3 (by decide)).2 rfl (by omega) (by decide) ho ?_
    refine hg_iconst (n := 44) (v := 1) dX0_lineIsOver_43 rfl (by decide) ?_
    refine hg_icmp_neN (n := 47) (tgt := 55) (o) (1) dX0_lineIsOver_44 rfl (by decide) (by omega) (by omega) (fun h44 => ?_) (fun h44 => ?_)
    · refine hg_aload_n (n := 56) dX0_lineIsOver_55 rfl rfl ?_
      refine hg_dup (n := 57) dX0_lineIsOver_56 rfl rfl ?_
      refine hg_getI (n := 60) dX0_lineIsOver_57 rfl fl_X0_60 rfl rfl hF.1 ?_
      refine hg_iconst (n := 61) (v := 1) dX0_lineIsOver_60 rfl (by decide) ?_
      refine hg_iadd (n := 62) dX0_lineIsOver_61 rfl ?_
      refine hg_putI (n := 65) dX0_lineIsOver_62 rfl fl_X0_60 rfl rfl hF.1 ?_
      exact s65 _ (by unfold li_m; rw [if_neg h9, if_neg h44]) h9
    · refine hg_aload_n (n := 48) dX0_lineIsOver_47 rfl rfl ?_
      refine hg_aload_n (n := 49) dX0_lineIsOver_48 rfl rfl ?_
      refine hg_callVd (n := 52) (c_X0_countSoak hF hfp hps hr hal hal8) dX0_lineIsOver_49 rfl mk_X0_96 yl_X0_countSoak yv_X0_countSoak rfl hF.1 (by decide) (by decide) rfl rfl (Nat.le_of_ble_eq_true rfl) (fun h => by cases h) ?_
      refine hg_goto (tgt := 65) dX0_lineIsOver_52 (by decide) ?_
      exact s65 _ (by unfold li_m; rw [if_neg h9, if_pos h44]) h9
  · refine hg_aload_n (n := 13) dX0_lineIsOver_12 rfl rfl ?_
    refine hg_getI (n := 16) dX0_lineIsOver_13 rfl fl_X0_34 rfl rfl hF.1 ?_
    refine hg_aload_n (n := 17) dX0_lineIsOver_16 rfl rfl ?_
    refine hg_getR (n := 20) (r := some (19, f)) dX0_lineIsOver_17 rfl fl_X0_28 rfl rfl hF.1 (hF.2 4 (by decide)).1 ?_
    refine hg_aload_n (n := 21) dX0_lineIsOver_20 rfl rfl ?_
    refine hg_getN (n := 24) (al) dX0_lineIsOver_21 rfl fl_X0_48 rfl rfl hF.1 hal ?_
    refine hg_iaload (n := 25) (len := 8) (al) dX0_lineIsOver_24 rfl (by decide) rfl (hF.2 4 (by decide)).2 rfl (by omega) (by decide) ?_
    refine hg_icmp_ne (n := 28) (tgt := 32) dX0_lineIsOver_25 rfl (by decide) (fun h25 => ?_) (fun h25 => ?_)
    · refine hg_iconst (n := 33) (v := 0) dX0_lineIsOver_32 rfl (by decide) ?_
      refine hg_zreturn dX0_lineIsOver_33 rfl (by decide) ?_
      unfold li_v at hQ
      rw [if_pos h9, if_neg h25] at hQ
      rw [show li_m mi f r al o pl nn = mi from by unfold li_m; rw [if_pos h9]] at hQ
      exact hQ
    · refine hg_iconst (n := 29) (v := 1) dX0_lineIsOver_28 rfl (by decide) ?_
      refine hg_goto (tgt := 33) dX0_lineIsOver_29 (by decide) ?_
      refine hg_zreturn dX0_lineIsOver_33 rfl (by decide) ?_
      unfold li_v at hQ
      rw [if_pos h9, if_pos h25] at hQ
      rw [show li_m mi f r al o pl nn = mi from by unfold li_m; rw [if_pos h9]] at hQ
      exact hQ

def gt_m (Y : MI_) (f r : Nat) : MI_ := if gx_ Y f 3 f 7 < gx_ Y f 3 f 6 then gx_ Y f else en_m (gx_ Y f) f r 1
def gt_r (Y : MI_) (f : Nat) (R : MR_) : MR_ := if gx_ Y f 3 f 7 < gx_ Y f 3 f 6 then R else u_3 R 3 f 12 none
theorem c_X0_goToNextLine {mi : MI_} {ml : ML_} {mr : MR_} {sh : SH_} {f : Nat} (hF : fs_ mr sh f) {r : Nat} (hc : mr 3 f 12 = some (5, r)) (hr : sh 5 r = some 6) : hg_Det false yX0_goToNextLine md_X0_goToNextLine [hv_r (some (3, f))] (mi, ml, mr, sh) none (gt_m mi f r, ml, gt_r mi f mr, sh) := by
  intro Q hQ
  unfold gt_m gt_r at hQ
  by_cases h : gx_ mi f 3 f 7 < gx_ mi f 3 f 6
  · rw [if_pos h, if_pos h] at hQ
    exact c_X0_goToNextLine_m hF h Q hQ
  · rw [if_neg h, if_neg h] at hQ
    exact c_X0_goToNextLine_e hF hc hr h Q hQ
theorem bh_k {Y : MI_} {s : Nat} {c : Int32} {k a b : Nat} (h : k ≠ 6) : bh_m Y s c k a b = Y k a b := by
  unfold bh_m bh_c bh_b bh_a
  rw [u_3_k h, u_3_k h, u_3_k h, u_3_k h]
theorem bt_k {Y : MI_} {s t : Nat} {c : Int32} {k a b : Nat} (h : k ≠ 6) : bt_m Y s t c k a b = Y k a b := by
  unfold bt_m
  rw [u_3_k h, u_3_k h]
theorem cg_k {Y : MI_} {s : Nat} {p b : Int32} {k a c : Nat} (h : k ≠ 6) : cg_m Y s p b k a c = Y k a c := by
  have h1 : cg_a Y s p b k a c = Y k a c := by
    unfold cg_a bd_m
    split
    · split
      · split
        · split
          · rfl
          · exact bt_k h
        · exact bt_k h
      · exact bt_k h
    · exact bh_k h
  have h2 : dr_a (cg_a Y s p b) s k a c = Y k a c := by
    unfold dr_a
    split
    · exact h1
    · split
      · exact h1
      · rw [u_3_k h]; exact h1
  unfold cg_m dr_m
  split
  · exact h2
  · rw [u_3_k h]; exact h2
theorem mw_k {Y : MI_} {p n : Nat} {g : Int32} {k a b : Nat} (h : k ≠ 6) : ∀ i, (mw_ Y p n g i).1 k a b = Y k a b
  | 0 => rfl
  | i + 1 => (u_3_k h).trans (mw_k h i)
theorem cl_k {Y : MI_} {p k a b : Nat} (h : k ≠ 6) : ∀ i, cl_ Y p i k a b = Y k a b
  | 0 => rfl
  | i + 1 => (cg_k h).trans (cl_k h i)
theorem sb_k {Y : MI_} {p n : Nat} {g : Int32} {k a b : Nat} (h : k ≠ 6) : sb_m Y p n g k a b = Y k a b := (cl_k h n).trans (mw_k h n)
def ds_ (Y : MI_) (T : ML_) (f : Nat) (pl : Nat → Option Nat) (nn : Nat → Nat) : Nat → MI_ × ML_
  | 0 => (Y, T)
  | i + 1 => (pl i).elim (ds_ Y T f pl nn i) (fun p => (sb_m (ds_ Y T f pl nn i).1 p (nn p) ((ds_ Y T f pl nn i).1 3 f 10 + (ds_ Y T f pl nn i).1 3 f 8), sb_l (ds_ Y T f pl nn i).1 (ds_ Y T f pl nn i).2 p ((ds_ Y T f pl nn i).1 3 f 10 + (ds_ Y T f pl nn i).1 3 f 8)))
theorem ds_k {Y : MI_} {T : ML_} {f : Nat} {pl : Nat → Option Nat} {nn : Nat → Nat} {k a b : Nat} (h : k ≠ 6) : ∀ i, (ds_ Y T f pl nn i).1 k a b = Y k a b
  | 0 => rfl
  | i + 1 => by
    rw [ds_]
    cases pl i with
    | none => exact ds_k h i
    | some p => exact (sb_k h).trans (ds_k h i)
def dt_1 (Y : MI_) (f r al o : Nat) : MI_ := u_3 (u_3 Y 5 r 3 (Y 5 r 3 + 1)) 3 f 10 (gb_ (u_3 Y 5 r 3 (Y 5 r 3 + 1)) f al o)
def dt_3 (Y : MI_) (T : ML_) (f r al o : Nat) (pl : Nat → Option Nat) (nn : Nat → Nat) : MI_ × ML_ := ds_ (dt_1 Y f r al o) T f pl nn 4
def dt_4 (Y : MI_) (T : ML_) (f r al o : Nat) (pl : Nat → Option Nat) (nn : Nat → Nat) : MI_ := li_m (dt_3 Y T f r al o pl nn).1 f r al o pl nn
def dt_v (Y : MI_) (T : ML_) (f r al o : Nat) (pl : Nat → Option Nat) (nn : Nat → Nat) : Int32 := li_v (dt_3 Y T f r al o pl nn).1 f r al o pl nn
def dt_m (Y : MI_) (T : ML_) (f r al o : Nat) (pl : Nat → Option Nat) (nn : Nat → Nat) : MI_ := if dt_v Y T f r al o pl nn = 0 then dt_4 Y T f r al o pl nn else gt_m (dt_4 Y T f r al o pl nn) f r
def dt_r (Y : MI_) (T : ML_) (f r al o : Nat) (pl : Nat → Option Nat) (nn : Nat → Nat) (R : MR_) : MR_ := if dt_v Y T f r al o pl nn = 0 then R else gt_r (dt_4 Y T f r al o pl nn) f R
theorem dt_1k {Y : MI_} {f r al o k a b : Nat} (h3 : ¬ (k = 3 ∧ a = f ∧ b = 10)) (h5 : ¬ (k = 5 ∧ a = r ∧ b = 3)) : dt_1 Y f r al o k a b = Y k a b := by
  unfold dt_1
  rw [u_3_ne _ _ h3, u_3_ne _ _ h5]
set_option maxHeartbeats 4000000 in
set_option maxRecDepth 100000 in
theorem c_X0_doTick_0 {mi : MI_} {ml : ML_} {mr : MR_} {sh : SH_} {f : Nat} (hF : fs_ mr sh f) (hc : mr 3 f 12 = none) : hg_Det false yX0_doTick md_X0_doTick [hv_r (some (3, f))] (mi, ml, mr, sh) none (mi, ml, mr, sh) := by
  intro Q hQ
  refine hg_intro rfl rfl rfl (Nat.le_of_ble_eq_true rfl) rfl ?_
  refine hg_aload_n (n := 1) dX0_doTick_0 rfl rfl ?_
  refine hg_getR (n := 4) (r := none) dX0_doTick_1 rfl fl_X0_38 rfl rfl hF.1 hc ?_
  refine hg_ifnonnull (n := 7) (tgt := 8) dX0_doTick_4 rfl (by decide) (fun q4 h4 => ?_) (fun h4 => ?_)
  · cases h4
  · refine hg_return dX0_doTick_7 rfl ?_
    exact hQ

set_option maxHeartbeats 4000000 in
set_option maxRecDepth 100000 in
theorem c_X0_doTick {mi : MI_} {ml : ML_} {mr : MR_} {sh : SH_} {f : Nat} (hF : fs_ mr sh f) {np : Nat} {pl : Nat → Option Nat} (hfp : fp_ mr f np pl) {nn : Nat → Nat} (hps : ps_ mr sh np nn) {r : Nat} (hc : mr 3 f 12 = some (5, r)) (hr : sh 5 r = some 6) {al o : Nat} (hal : mi 3 f 7 = nI al) (hal8 : al < 8) (ho : mi 18 f al = nI o) (ho3 : o ≤ 3)  : hg_Det false yX0_doTick md_X0_doTick [hv_r (some (3, f))] (mi, ml, mr, sh) none (dt_m mi ml f r al o pl nn, (dt_3 mi ml f r al o pl nn).2, dt_r mi ml f r al o pl nn mr, sh) := by
  intro Q hQ
  refine hg_intro rfl rfl rfl (Nat.le_of_ble_eq_true rfl) rfl ?_
  have loop : ∀ m i, i + m = 4 → hg_G md_X0_doTick false sh Q 0 0 31 [some (hv_r (some (3, f))), some (hv_i (nI i))] [] ((ds_ (dt_1 mi f r al o) ml f pl nn i).1, (ds_ (dt_1 mi f r al o) ml f pl nn i).2, mr, sh) := by
    intro m
    induction m with
    | zero =>
      intro i hi
      refine hg_iload_n (n := 32) dX0_doTick_31 rfl rfl ?_
      refine hg_iconst (n := 33) (v := 4) dX0_doTick_32 rfl (by decide) ?_
      refine hg_icmp_geN (n := 36) (tgt := 69) (i) (4) dX0_doTick_33 rfl (by decide) (by omega) (by omega) (fun h33 => ?_) (fun h33 => ?_)
      · have e := show i = 4 by omega
        subst e
        refine hg_aload_n (n := 70) dX0_doTick_69 rfl rfl ?_
        refine hg_aload_n (n := 71) dX0_doTick_70 rfl rfl ?_
        refine hg_getR (n := 74) (r := some (5, r)) dX0_doTick_71 rfl fl_X0_38 rfl rfl hF.1 hc ?_
        refine hg_callVd (n := 77) (c_X0_lineIsOver hF hfp hps hr ((ds_k (by decide) 4).trans ((dt_1k (by omega) (by omega)).trans hal)) hal8 ((ds_k (by decide) 4).trans ((dt_1k (by omega) (by omega)).trans ho)) ho3) dX0_doTick_74 rfl mk_X0_77 yl_X0_lineIsOver yv_X0_lineIsOver rfl hF.1 (by decide) (by decide) rfl rfl (Nat.le_of_ble_eq_true rfl) (fun h => by cases h) ?_
        refine hg_if_eq (n := 80) (tgt := 84) dX0_doTick_77 rfl (by decide) (fun h77 => ?_) (fun h77 => ?_)
        · refine hg_return dX0_doTick_84 rfl ?_
          unfold dt_m dt_r dt_v dt_4 dt_3 at hQ
          rw [if_pos h77, if_pos h77] at hQ
          exact hQ
        · refine hg_aload_n (n := 81) dX0_doTick_80 rfl rfl ?_
          refine hg_callVd (n := 84) (c_X0_goToNextLine hF hc hr) dX0_doTick_81 rfl mk_X0_81 yl_X0_goToNextLine yv_X0_goToNextLine rfl hF.1 (by decide) (by decide) rfl rfl (Nat.le_of_ble_eq_true rfl) (fun h => by cases h) ?_
          refine hg_return dX0_doTick_84 rfl ?_
          unfold dt_m dt_r dt_v dt_4 dt_3 at hQ
          rw [if_neg h77, if_neg h77] at hQ
          exact hQ
      · exact absurd h33 (by omega)
    | succ m ih =>
      intro i hi
      cases hpi : pl i with
      | none =>
        refine hg_iload_n (n := 32) dX0_doTick_31 rfl rfl ?_
        refine hg_iconst (n := 33) (v := 4) dX0_doTick_32 rfl (by decide) ?_
        refine hg_icmp_geN (n := 36) (tgt := 69) (i) (4) dX0_doTick_33 rfl (by decide) (by omega) (by omega) (fun h33 => ?_) (fun h33 => ?_)
        · exact absurd h33 (by omega)
        · refine hg_aload_n (n := 37) dX0_doTick_36 rfl rfl ?_
          refine hg_getR (n := 40) (r := some (15, f)) dX0_doTick_37 rfl fl_X0_11 rfl rfl hF.1 (hF.2 0 (by decide)).1 ?_
          refine hg_iload_n (n := 41) dX0_doTick_40 rfl rfl ?_
          refine hg_aaload (n := 42) (len := 4) (i) (r := none) dX0_doTick_41 rfl (by decide) rfl rfl (hF.2 0 (by decide)).2 rfl (by omega) (by omega) ((hfp i (by omega)).1.trans (by rw [hpi]; rfl)) ?_
          refine hg_ifnull (n := 45) (tgt := 63) dX0_doTick_42 rfl (by decide) (fun h42 => ?_) (fun q42 h42 => ?_)
          · refine hg_iincN (n := 66) (i) 1 dX0_doTick_63 rfl rfl (by decide) (by decide) rfl rfl ?_
            refine hg_goto (tgt := 31) dX0_doTick_66 (by decide) ?_
            refine hg_memo ?_ (ih (i + 1) (by omega))
            rw [ds_, hpi]
            rfl
          · cases h42
      | some p =>
        have hp := (hfp i (by omega)).2 p hpi
        refine hg_iload_n (n := 32) dX0_doTick_31 rfl rfl ?_
        refine hg_iconst (n := 33) (v := 4) dX0_doTick_32 rfl (by decide) ?_
        refine hg_icmp_geN (n := 36) (tgt := 69) (i) (4) dX0_doTick_33 rfl (by decide) (by omega) (by omega) (fun h33 => ?_) (fun h33 => ?_)
        · exact absurd h33 (by omega)
        · refine hg_aload_n (n := 37) dX0_doTick_36 rfl rfl ?_
          refine hg_getR (n := 40) (r := some (15, f)) dX0_doTick_37 rfl fl_X0_11 rfl rfl hF.1 (hF.2 0 (by decide)).1 ?_
          refine hg_iload_n (n := 41) dX0_doTick_40 rfl rfl ?_
          refine hg_aaload (n := 42) (len := 4) (i) (r := some (4, p)) dX0_doTick_41 rfl (by decide) rfl rfl (hF.2 0 (by decide)).2 rfl (by omega) (by omega) ((hfp i (by omega)).1.trans (by rw [hpi]; rfl)) ?_
          refine hg_ifnull (n := 45) (tgt := 63) dX0_doTick_42 rfl (by decide) (fun h42 => ?_) (fun q42 h42 => ?_)
          · cases h42
          · refine hg_aload_n (n := 46) dX0_doTick_45 rfl rfl ?_
            refine hg_getR (n := 49) (r := some (15, f)) dX0_doTick_46 rfl fl_X0_11 rfl rfl hF.1 (hF.2 0 (by decide)).1 ?_
            refine hg_iload_n (n := 50) dX0_doTick_49 rfl rfl ?_
            refine hg_aaload (n := 51) (len := 4) (i) (r := some (4, p)) dX0_doTick_50 rfl (by decide) rfl rfl (hF.2 0 (by decide)).2 rfl (by omega) (by omega) ((hfp i (by omega)).1.trans (by rw [hpi]; rfl)) ?_
            refine hg_aload_n (n := 52) dX0_doTick_51 rfl rfl ?_
            refine hg_getI (n := 55) dX0_doTick_52 rfl fl_X0_34 rfl rfl hF.1 ?_
            refine hg_aload_n (n := 56) dX0_doTick_55 rfl rfl ?_
            refine hg_getI (n := 59) dX0_doTick_56 rfl fl_X0_70 rfl rfl hF.1 ?_
            refine hg_iadd (n := 60) dX0_doTick_59 rfl ?_
            refine hg_callVd (n := 63) (c_X2_stepBeside (hps p hp).1 (hps p hp).2.1 (hps p hp).2.2 _) dX0_doTick_60 rfl mk_X0_73 yl_X2_stepBeside yv_X2_stepBeside rfl (hps p hp).1.1 (by decide) (by decide) rfl rfl (Nat.le_of_ble_eq_true rfl) (fun h => by cases h) ?_
            refine hg_iincN (n := 66) (i) 1 dX0_doTick_63 rfl rfl (by decide) (by decide) rfl rfl ?_
            refine hg_goto (tgt := 31) dX0_doTick_66 (by decide) ?_
            refine hg_memo ?_ (ih (i + 1) (by omega))
            rw [ds_, hpi]
            rfl
  refine hg_aload_n (n := 1) dX0_doTick_0 rfl rfl ?_
  refine hg_getR (n := 4) (r := some (5, r)) dX0_doTick_1 rfl fl_X0_38 rfl rfl hF.1 hc ?_
  refine hg_ifnonnull (n := 7) (tgt := 8) dX0_doTick_4 rfl (by decide) (fun q4 h4 => ?_) (fun h4 => ?_)
  · refine hg_aload_n (n := 9) dX0_doTick_8 rfl rfl ?_
    refine hg_getR (n := 12) (r := some (5, r)) dX0_doTick_9 rfl fl_X0_38 rfl rfl hF.1 hc ?_
    refine hg_dup (n := 13) dX0_doTick_12 rfl rfl ?_
    refine hg_getI (n := 16) dX0_doTick_13 rfl fl_X0_63 rfl rfl hr ?_
    refine hg_iconst (n := 17) (v := 1) dX0_doTick_16 rfl (by decide) ?_
    refine hg_iadd (n := 18) dX0_doTick_17 rfl ?_
    refine hg_putI (n := 21) dX0_doTick_18 rfl fl_X0_63 rfl rfl hr ?_
    refine hg_aload_n (n := 22) dX0_doTick_21 rfl rfl ?_
    refine hg_aload_n (n := 23) dX0_doTick_22 rfl rfl ?_
    refine hg_callVd (n := 26) (c_X0_gasByLine hF ((u_3_k (by decide)).trans hal) hal8 ((u_3_k (by decide)).trans ho) ho3) dX0_doTick_23 rfl mk_X0_66 yl_X0_gasByLine yv_X0_gasByLine rfl hF.1 (by decide) (by decide) rfl rfl (Nat.le_of_ble_eq_true rfl) (fun h => by cases h) ?_
    refine hg_putI (n := 29) dX0_doTick_26 rfl fl_X0_34 rfl rfl hF.1 ?_
    refine hg_iconst (n := 30) (v := 0) dX0_doTick_29 rfl (by decide) ?_
    refine hg_istore_n (n := 31) dX0_doTick_30 rfl (by decide) rfl rfl ?_
    exact loop 4 0 (by omega)
  · cases h4

