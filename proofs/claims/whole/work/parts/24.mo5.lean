set_option maxHeartbeats 4000000 in
set_option maxRecDepth 100000 in
theorem c_X6_step_b {mi : MI_} {ml : ML_} {mr : MR_} {sh : SH_} (hM : mo_ mr sh) (x g z : Int32) (hb : z_in x 0 (mi 7 0 0 - 1) = 0 ∨ z_in g (-1000) 12000 = 0 ∨ z_in z 1 200 = 0) : hg_Det false yX6_step md_X6_step [hv_r (some (7, 0)), hv_i x, hv_i g, hv_i z] (mi, ml, mr, sh) (some (hv_i (-2))) (mi, ml, mr, sh) := by
  intro Q hQ
  refine hg_intro rfl rfl rfl (Nat.le_of_ble_eq_true rfl) rfl ?_
  refine hg_aload_n (n := 1) dX6_step_0 rfl rfl ?_
  refine hg_iload_n (n := 2) dX6_step_1 rfl rfl ?_
  refine hg_callVd (n := 5) (c_X6_isPart hM _) dX6_step_2 rfl mk_X6_60 yl_X6_isPart yv_X6_isPart rfl (mo_s hM) (by decide) (by decide) rfl rfl (Nat.le_of_ble_eq_true rfl) (fun h => by cases h) ?_
  refine hg_if_eq (n := 8) (tgt := 32) dX6_step_5 rfl (by decide) (fun h5 => ?_) (fun h5 => ?_)
  · refine hg_bipush (n := 34) (v := -2) dX6_step_32 rfl (by decide) ?_
    refine hg_ireturn dX6_step_34 rfl ?_
    exact hQ
  · refine hg_iload_n (n := 9) dX6_step_8 rfl rfl ?_
    refine hg_sipush (n := 12) (v := -1000) dX6_step_9 rfl (by decide) ?_
    refine hg_sipush (n := 15) (v := 12000) dX6_step_12 rfl (by decide) ?_
    refine hg_callSd (n := 18) (c_X6_in _ _ _ _) dX6_step_15 rfl mk_X6_1 yl_X6_in ys_X6_in (by decide) (by decide) rfl rfl (Nat.le_of_ble_eq_true rfl) (fun h => by cases h) ?_
    refine hg_if_eq (n := 21) (tgt := 32) dX6_step_18 rfl (by decide) (fun h18 => ?_) (fun h18 => ?_)
    · refine hg_bipush (n := 34) (v := -2) dX6_step_32 rfl (by decide) ?_
      refine hg_ireturn dX6_step_34 rfl ?_
      exact hQ
    · refine hg_iload_n (n := 22) dX6_step_21 rfl rfl ?_
      refine hg_iconst (n := 23) (v := 1) dX6_step_22 rfl (by decide) ?_
      refine hg_sipush (n := 26) (v := 200) dX6_step_23 rfl (by decide) ?_
      refine hg_callSd (n := 29) (c_X6_in _ _ _ _) dX6_step_26 rfl mk_X6_1 yl_X6_in ys_X6_in (by decide) (by decide) rfl rfl (Nat.le_of_ble_eq_true rfl) (fun h => by cases h) ?_
      refine hg_if_ne (n := 32) (tgt := 35) dX6_step_29 rfl (by decide) (fun h29 => ?_) (fun h29 => ?_)
      · exact absurd hb (by simp [h5, h18, h29])
      · refine hg_bipush (n := 34) (v := -2) dX6_step_32 rfl (by decide) ?_
        refine hg_ireturn dX6_step_34 rfl ?_
        exact hQ

set_option maxHeartbeats 4000000 in
set_option maxRecDepth 100000 in
theorem c_X6_step_n {mi : MI_} {ml : ML_} {mr : MR_} {sh : SH_} (hM : mo_ mr sh) (np : Nat) (hnp : mi 7 0 0 = nI np) (hn12 : np ≤ 12) (p : Nat) (hp : p < np) (g z : Int32) (hg : ¬ z_in g (-1000) 12000 = 0) (hz : ¬ z_in z 1 200 = 0) (hw : ¬ mi 38 0 p = -1) : hg_Det false yX6_step md_X6_step [hv_r (some (7, 0)), hv_i (nI p), hv_i g, hv_i z] (mi, ml, mr, sh) (some (hv_i (-3))) (mi, ml, mr, sh) := by
  intro Q hQ
  refine hg_intro rfl rfl rfl (Nat.le_of_ble_eq_true rfl) rfl ?_
  refine hg_aload_n (n := 1) dX6_step_0 rfl rfl ?_
  refine hg_iload_n (n := 2) dX6_step_1 rfl rfl ?_
  refine hg_callVd (n := 5) (c_X6_isPart hM _) dX6_step_2 rfl mk_X6_60 yl_X6_isPart yv_X6_isPart rfl (mo_s hM) (by decide) (by decide) rfl rfl (Nat.le_of_ble_eq_true rfl) (fun h => by cases h) ?_
  refine hg_if_eq (n := 8) (tgt := 32) dX6_step_5 rfl (by decide) (fun h5 => ?_) (fun h5 => ?_)
  · exact absurd h5 (by rw [hnp, z_ix2 (by omega) hp]; decide)
  · refine hg_iload_n (n := 9) dX6_step_8 rfl rfl ?_
    refine hg_sipush (n := 12) (v := -1000) dX6_step_9 rfl (by decide) ?_
    refine hg_sipush (n := 15) (v := 12000) dX6_step_12 rfl (by decide) ?_
    refine hg_callSd (n := 18) (c_X6_in _ _ _ _) dX6_step_15 rfl mk_X6_1 yl_X6_in ys_X6_in (by decide) (by decide) rfl rfl (Nat.le_of_ble_eq_true rfl) (fun h => by cases h) ?_
    refine hg_if_eq (n := 21) (tgt := 32) dX6_step_18 rfl (by decide) (fun h18 => ?_) (fun h18 => ?_)
    · exact absurd h18 hg
    · refine hg_iload_n (n := 22) dX6_step_21 rfl rfl ?_
      refine hg_iconst (n := 23) (v := 1) dX6_step_22 rfl (by decide) ?_
      refine hg_sipush (n := 26) (v := 200) dX6_step_23 rfl (by decide) ?_
      refine hg_callSd (n := 29) (c_X6_in _ _ _ _) dX6_step_26 rfl mk_X6_1 yl_X6_in ys_X6_in (by decide) (by decide) rfl rfl (Nat.le_of_ble_eq_true rfl) (fun h => by cases h) ?_
      refine hg_if_ne (n := 32) (tgt := 35) dX6_step_29 rfl (by decide) (fun h29 => ?_) (fun h29 => ?_)
      · refine hg_aload_n (n := 36) dX6_step_35 rfl rfl ?_
        refine hg_getR (n := 39) (r := some (38, 0)) dX6_step_36 rfl fl_X6_34 rfl rfl (mo_s hM) (mo_r hM 8 (by decide)) ?_
        refine hg_iload_n (n := 40) dX6_step_39 rfl rfl ?_
        refine hg_iaload (n := 41) (len := 12) (p) dX6_step_40 rfl (by decide) rfl (mo_a hM 8 (by decide)) rfl (by omega) (by decide) ?_
        refine hg_iconst (n := 42) (v := -1) dX6_step_41 rfl (by decide) ?_
        refine hg_icmp_eq (n := 45) (tgt := 48) dX6_step_42 rfl (by decide) (fun h42 => ?_) (fun h42 => ?_)
        · exact absurd h42 hw
        · refine hg_bipush (n := 47) (v := -3) dX6_step_45 rfl (by decide) ?_
          refine hg_ireturn dX6_step_47 rfl ?_
          exact hQ
      · exact absurd h29 hz

set_option maxHeartbeats 4000000 in
set_option maxRecDepth 100000 in
theorem c_X6_step {mi : MI_} {ml : ML_} {mr : MR_} {sh : SH_} (hM : mo_ mr sh) (np : Nat) (hnp : mi 7 0 0 = nI np) (hn12 : np ≤ 12) (p : Nat) (hp : p < np) (n : Nat) (hn : mi 31 0 p = nI n) (h1 : 1 ≤ n) (h6 : n ≤ 6) (g : Int32) (z : Nat) (hz9 : z ≤ 200) (hg : ¬ z_in g (-1000) 12000 = 0) (hz : ¬ z_in (nI z) 1 200 = 0) (hw : mi 38 0 p = -1) : hg_Det false yX6_step md_X6_step [hv_r (some (7, 0)), hv_i (nI p), hv_i g, hv_i (nI z)] (mi, ml, mr, sh) (some (hv_i ((sn_ mi ml p n g z).1 40 0 (6 * p + n - 1)))) ((sn_ mi ml p n g z).1, (sn_ mi ml p n g z).2, mr, sh) := by
  intro Q hQ
  refine hg_intro rfl rfl rfl (Nat.le_of_ble_eq_true rfl) rfl ?_
  have loop : ∀ m i, i + m = z → hg_G md_X6_step false sh Q 0 0 51 [some (hv_r (some (7, 0))), some (hv_i (nI p)), some (hv_i g), some (hv_i (nI z)), some (hv_i (nI i))] [] ((sn_ mi ml p n g i).1, (sn_ mi ml p n g i).2, mr, sh) := by
    intro m
    induction m with
    | zero =>
      intro i hi
      refine hg_iload (n := 53) dX6_step_51 rfl rfl ?_
      refine hg_iload_n (n := 54) dX6_step_53 rfl rfl ?_
      refine hg_icmp_geN (n := 57) (tgt := 69) (i) (z) dX6_step_54 rfl (by decide) (by omega) (by omega) (fun h54 => ?_) (fun h54 => ?_)
      · have e := show i = z by omega
        subst e
        refine hg_aload_n (n := 70) dX6_step_69 rfl rfl ?_
        refine hg_iload_n (n := 71) dX6_step_70 rfl rfl ?_
        refine hg_callVd (n := 74) (c_X6_innermost hM (p) n (by omega) ((sn_k (by decide) i).trans hn) (by omega) (by omega)) dX6_step_71 rfl mk_X6_67 yl_X6_innermost yv_X6_innermost rfl (mo_s hM) (by decide) (by decide) rfl rfl (Nat.le_of_ble_eq_true rfl) (fun h => by cases h) ?_
        refine hg_ireturn dX6_step_74 rfl ?_
        exact hQ
      · exact absurd h54 (by omega)
    | succ m ih =>
      intro i hi
      refine hg_iload (n := 53) dX6_step_51 rfl rfl ?_
      refine hg_iload_n (n := 54) dX6_step_53 rfl rfl ?_
      refine hg_icmp_geN (n := 57) (tgt := 69) (i) (z) dX6_step_54 rfl (by decide) (by omega) (by omega) (fun h54 => ?_) (fun h54 => ?_)
      · exact absurd h54 (by omega)
      · refine hg_aload_n (n := 58) dX6_step_57 rfl rfl ?_
        refine hg_iload_n (n := 59) dX6_step_58 rfl rfl ?_
        refine hg_iload_n (n := 60) dX6_step_59 rfl rfl ?_
        refine hg_callVd (n := 63) (c_X6_steps hM (p) n _ (by omega) ((sn_k (by decide) i).trans hn) (by omega) (by omega)) dX6_step_60 rfl mk_X6_64 yl_X6_steps yv_X6_steps rfl (mo_s hM) (by decide) (by decide) rfl rfl (Nat.le_of_ble_eq_true rfl) (fun h => by cases h) ?_
        refine hg_iincN (n := 66) (i) 1 dX6_step_63 rfl rfl (by decide) (by decide) rfl rfl ?_
        refine hg_goto (tgt := 51) dX6_step_66 (by decide) ?_
        exact ih (i + 1) (by omega)
  refine hg_aload_n (n := 1) dX6_step_0 rfl rfl ?_
  refine hg_iload_n (n := 2) dX6_step_1 rfl rfl ?_
  refine hg_callVd (n := 5) (c_X6_isPart hM _) dX6_step_2 rfl mk_X6_60 yl_X6_isPart yv_X6_isPart rfl (mo_s hM) (by decide) (by decide) rfl rfl (Nat.le_of_ble_eq_true rfl) (fun h => by cases h) ?_
  refine hg_if_eq (n := 8) (tgt := 32) dX6_step_5 rfl (by decide) (fun h5 => ?_) (fun h5 => ?_)
  · exact absurd h5 (by rw [hnp, z_ix2 (by omega) hp]; decide)
  · refine hg_iload_n (n := 9) dX6_step_8 rfl rfl ?_
    refine hg_sipush (n := 12) (v := -1000) dX6_step_9 rfl (by decide) ?_
    refine hg_sipush (n := 15) (v := 12000) dX6_step_12 rfl (by decide) ?_
    refine hg_callSd (n := 18) (c_X6_in _ _ _ _) dX6_step_15 rfl mk_X6_1 yl_X6_in ys_X6_in (by decide) (by decide) rfl rfl (Nat.le_of_ble_eq_true rfl) (fun h => by cases h) ?_
    refine hg_if_eq (n := 21) (tgt := 32) dX6_step_18 rfl (by decide) (fun h18 => ?_) (fun h18 => ?_)
    · exact absurd h18 hg
    · refine hg_iload_n (n := 22) dX6_step_21 rfl rfl ?_
      refine hg_iconst (n := 23) (v := 1) dX6_step_22 rfl (by decide) ?_
      refine hg_sipush (n := 26) (v := 200) dX6_step_23 rfl (by decide) ?_
      refine hg_callSd (n := 29) (c_X6_in _ _ _ _) dX6_step_26 rfl mk_X6_1 yl_X6_in ys_X6_in (by decide) (by decide) rfl rfl (Nat.le_of_ble_eq_true rfl) (fun h => by cases h) ?_
      refine hg_if_ne (n := 32) (tgt := 35) dX6_step_29 rfl (by decide) (fun h29 => ?_) (fun h29 => ?_)
      · refine hg_aload_n (n := 36) dX6_step_35 rfl rfl ?_
        refine hg_getR (n := 39) (r := some (38, 0)) dX6_step_36 rfl fl_X6_34 rfl rfl (mo_s hM) (mo_r hM 8 (by decide)) ?_
        refine hg_iload_n (n := 40) dX6_step_39 rfl rfl ?_
        refine hg_iaload (n := 41) (len := 12) (p) dX6_step_40 rfl (by decide) rfl (mo_a hM 8 (by decide)) rfl (by omega) (by decide) ?_
        refine hg_iconst (n := 42) (v := -1) dX6_step_41 rfl (by decide) ?_
        refine hg_icmp_eq (n := 45) (tgt := 48) dX6_step_42 rfl (by decide) (fun h42 => ?_) (fun h42 => ?_)
        · refine hg_iconst (n := 49) (v := 0) dX6_step_48 rfl (by decide) ?_
          refine hg_istore (n := 51) dX6_step_49 rfl (by decide) rfl rfl ?_
          exact loop z 0 (by omega)
        · exact absurd hw h42
      · exact absurd h29 hz

set_option maxHeartbeats 4000000 in
set_option maxRecDepth 100000 in
theorem c_X6_shell_b {mi : MI_} {ml : ML_} {mr : MR_} {sh : SH_} (hM : mo_ mr sh) (x i w : Int32) (hb : z_in x 0 (mi 7 0 0 - 1) = 0) : hg_Det false yX6_shell md_X6_shell [hv_r (some (7, 0)), hv_i x, hv_i i, hv_i w] (mi, ml, mr, sh) (some (hv_i (-100000))) (mi, ml, mr, sh) := by
  intro Q hQ
  refine hg_intro rfl rfl rfl (Nat.le_of_ble_eq_true rfl) rfl ?_
  refine hg_aload_n (n := 1) dX6_shell_0 rfl rfl ?_
  refine hg_iload_n (n := 2) dX6_shell_1 rfl rfl ?_
  refine hg_callVd (n := 5) (c_X6_isPart hM _) dX6_shell_2 rfl mk_X6_60 yl_X6_isPart yv_X6_isPart rfl (mo_s hM) (by decide) (by decide) rfl rfl (Nat.le_of_ble_eq_true rfl) (fun h => by cases h) ?_
  refine hg_if_eq (n := 8) (tgt := 34) dX6_shell_5 rfl (by decide) (fun h5 => ?_) (fun h5 => ?_)
  · refine hg_ldc (n := 36) dX6_shell_34 rfl kc_X6_71 ?_
    refine hg_ireturn dX6_shell_36 rfl ?_
    exact hQ
  · exact absurd hb h5

set_option maxHeartbeats 4000000 in
set_option maxRecDepth 100000 in
theorem c_X6_shell_c {mi : MI_} {ml : ML_} {mr : MR_} {sh : SH_} (hM : mo_ mr sh) (np : Nat) (hnp : mi 7 0 0 = nI np) (hn12 : np ≤ 12) (p : Nat) (hp : p < np) (n : Nat) (hn : mi 31 0 p = nI n) (h1 : 1 ≤ n) (h6 : n ≤ 6) (i w : Int32) (hb : z_in i 0 (nI (n - 1)) = 0 ∨ z_in w 0 6 = 0) : hg_Det false yX6_shell md_X6_shell [hv_r (some (7, 0)), hv_i (nI p), hv_i i, hv_i w] (mi, ml, mr, sh) (some (hv_i (-100000))) (mi, ml, mr, sh) := by
  intro Q hQ
  refine hg_intro rfl rfl rfl (Nat.le_of_ble_eq_true rfl) rfl ?_
  refine hg_aload_n (n := 1) dX6_shell_0 rfl rfl ?_
  refine hg_iload_n (n := 2) dX6_shell_1 rfl rfl ?_
  refine hg_callVd (n := 5) (c_X6_isPart hM _) dX6_shell_2 rfl mk_X6_60 yl_X6_isPart yv_X6_isPart rfl (mo_s hM) (by decide) (by decide) rfl rfl (Nat.le_of_ble_eq_true rfl) (fun h => by cases h) ?_
  refine hg_if_eq (n := 8) (tgt := 34) dX6_shell_5 rfl (by decide) (fun h5 => ?_) (fun h5 => ?_)
  · exact absurd h5 (by rw [hnp, z_ix2 (by omega) hp]; decide)
  · refine hg_iload_n (n := 9) dX6_shell_8 rfl rfl ?_
    refine hg_iconst (n := 10) (v := 0) dX6_shell_9 rfl (by decide) ?_
    refine hg_aload_n (n := 11) dX6_shell_10 rfl rfl ?_
    refine hg_getR (n := 14) (r := some (31, 0)) dX6_shell_11 rfl fl_X6_11 rfl rfl (mo_s hM) (mo_r hM 1 (by decide)) ?_
    refine hg_iload_n (n := 15) dX6_shell_14 rfl rfl ?_
    refine hg_ialoadN (n := 16) (len := 12) (n) (p) dX6_shell_15 rfl (by decide) rfl (mo_a hM 1 (by decide)) rfl (by omega) (by decide) hn ?_
    refine hg_iconst (n := 17) (v := 1) dX6_shell_16 rfl (by decide) ?_
    refine hg_isubN (n := 18) (n) (1) dX6_shell_17 rfl (by omega) ?_
    refine hg_callSd (n := 21) (c_X6_in _ _ _ _) dX6_shell_18 rfl mk_X6_1 yl_X6_in ys_X6_in (by decide) (by decide) rfl rfl (Nat.le_of_ble_eq_true rfl) (fun h => by cases h) ?_
    refine hg_if_eq (n := 24) (tgt := 34) dX6_shell_21 rfl (by decide) (fun h21 => ?_) (fun h21 => ?_)
    · refine hg_ldc (n := 36) dX6_shell_34 rfl kc_X6_71 ?_
      refine hg_ireturn dX6_shell_36 rfl ?_
      exact hQ
    · refine hg_iload_n (n := 25) dX6_shell_24 rfl rfl ?_
      refine hg_iconst (n := 26) (v := 0) dX6_shell_25 rfl (by decide) ?_
      refine hg_bipush (n := 28) (v := 6) dX6_shell_26 rfl (by decide) ?_
      refine hg_callSd (n := 31) (c_X6_in _ _ _ _) dX6_shell_28 rfl mk_X6_1 yl_X6_in ys_X6_in (by decide) (by decide) rfl rfl (Nat.le_of_ble_eq_true rfl) (fun h => by cases h) ?_
      refine hg_if_ne (n := 34) (tgt := 37) dX6_shell_31 rfl (by decide) (fun h31 => ?_) (fun h31 => ?_)
      · exact absurd hb (by simp [h21, h31])
      · refine hg_ldc (n := 36) dX6_shell_34 rfl kc_X6_71 ?_
        refine hg_ireturn dX6_shell_36 rfl ?_
        exact hQ

def sv_ (X : MI_) (s w : Nat) : Int32 := if w = 0 then X 40 0 s else if 5 ≤ w then (if w = 5 then X 42 0 s else ha_ X s) else X 41 0 (4 * s + w - 1)
set_option maxHeartbeats 4000000 in
set_option maxRecDepth 100000 in
theorem c_X6_shell {mi : MI_} {ml : ML_} {mr : MR_} {sh : SH_} (hM : mo_ mr sh) (np : Nat) (hnp : mi 7 0 0 = nI np) (hn12 : np ≤ 12) (p : Nat) (hp : p < np) (n : Nat) (hn : mi 31 0 p = nI n) (h1 : 1 ≤ n) (h6 : n ≤ 6) (i w : Nat) (hi : i < n) (hw : w ≤ 6) : hg_Det false yX6_shell md_X6_shell [hv_r (some (7, 0)), hv_i (nI p), hv_i (nI i), hv_i (nI w)] (mi, ml, mr, sh) (some (hv_i (sv_ mi (6 * p + i) w))) (mi, ml, mr, sh) := by
  intro Q hQ
  refine hg_intro rfl rfl rfl (Nat.le_of_ble_eq_true rfl) rfl ?_
  refine hg_aload_n (n := 1) dX6_shell_0 rfl rfl ?_
  refine hg_iload_n (n := 2) dX6_shell_1 rfl rfl ?_
  refine hg_callVd (n := 5) (c_X6_isPart hM _) dX6_shell_2 rfl mk_X6_60 yl_X6_isPart yv_X6_isPart rfl (mo_s hM) (by decide) (by decide) rfl rfl (Nat.le_of_ble_eq_true rfl) (fun h => by cases h) ?_
  refine hg_if_eq (n := 8) (tgt := 34) dX6_shell_5 rfl (by decide) (fun h5 => ?_) (fun h5 => ?_)
  · exact absurd h5 (by rw [hnp, z_ix2 (by omega) hp]; decide)
  · refine hg_iload_n (n := 9) dX6_shell_8 rfl rfl ?_
    refine hg_iconst (n := 10) (v := 0) dX6_shell_9 rfl (by decide) ?_
    refine hg_aload_n (n := 11) dX6_shell_10 rfl rfl ?_
    refine hg_getR (n := 14) (r := some (31, 0)) dX6_shell_11 rfl fl_X6_11 rfl rfl (mo_s hM) (mo_r hM 1 (by decide)) ?_
    refine hg_iload_n (n := 15) dX6_shell_14 rfl rfl ?_
    refine hg_ialoadN (n := 16) (len := 12) (n) (p) dX6_shell_15 rfl (by decide) rfl (mo_a hM 1 (by decide)) rfl (by omega) (by decide) hn ?_
    refine hg_iconst (n := 17) (v := 1) dX6_shell_16 rfl (by decide) ?_
    refine hg_isubN (n := 18) (n) (1) dX6_shell_17 rfl (by omega) ?_
    refine hg_callSd (n := 21) (c_X6_in _ _ _ _) dX6_shell_18 rfl mk_X6_1 yl_X6_in ys_X6_in (by decide) (by decide) rfl rfl (Nat.le_of_ble_eq_true rfl) (fun h => by cases h) ?_
    refine hg_if_eq (n := 24) (tgt := 34) dX6_shell_21 rfl (by decide) (fun h21 => ?_) (fun h21 => ?_)
    · exact absurd h21 (z_nat3 (a := 0) (by omega) (by omega) (by omega))
    · refine hg_iload_n (n := 25) dX6_shell_24 rfl rfl ?_
      refine hg_iconst (n := 26) (v := 0) dX6_shell_25 rfl (by decide) ?_
      refine hg_bipush (n := 28) (v := 6) dX6_shell_26 rfl (by decide) ?_
      refine hg_callSd (n := 31) (c_X6_in _ _ _ _) dX6_shell_28 rfl mk_X6_1 yl_X6_in ys_X6_in (by decide) (by decide) rfl rfl (Nat.le_of_ble_eq_true rfl) (fun h => by cases h) ?_
      refine hg_if_ne (n := 34) (tgt := 37) dX6_shell_31 rfl (by decide) (fun h31 => ?_) (fun h31 => ?_)
      · refine hg_bipush (n := 39) (v := 6) dX6_shell_37 rfl (by decide) ?_
        refine hg_iload_n (n := 40) dX6_shell_39 rfl rfl ?_
        refine hg_imulN (n := 41) (6) (p) dX6_shell_40 rfl ?_
        refine hg_iload_n (n := 42) dX6_shell_41 rfl rfl ?_
        refine hg_iaddN (n := 43) (6 * p) (i) dX6_shell_42 rfl ?_
        refine hg_istore (n := 45) dX6_shell_43 rfl (by decide) rfl rfl ?_
        refine hg_iload_n (n := 46) dX6_shell_45 rfl rfl ?_
        refine hg_if_neN (n := 49) (tgt := 59) (w) dX6_shell_46 rfl (by decide) (by omega) (fun h46 => ?_) (fun h46 => ?_)
        · refine hg_iload_n (n := 60) dX6_shell_59 rfl rfl ?_
          refine hg_iconst (n := 61) (v := 5) dX6_shell_60 rfl (by decide) ?_
          refine hg_icmp_geN (n := 64) (tgt := 80) (w) (5) dX6_shell_61 rfl (by decide) (by omega) (by omega) (fun h61 => ?_) (fun h61 => ?_)
          · refine hg_iload_n (n := 81) dX6_shell_80 rfl rfl ?_
            refine hg_iconst (n := 82) (v := 5) dX6_shell_81 rfl (by decide) ?_
            refine hg_icmp_neN (n := 85) (tgt := 95) (w) (5) dX6_shell_82 rfl (by decide) (by omega) (by omega) (fun h82 => ?_) (fun h82 => ?_)
            · refine hg_aload_n (n := 96) dX6_shell_95 rfl rfl ?_
              refine hg_iload (n := 98) dX6_shell_96 rfl rfl ?_
              refine hg_callVd (n := 101) (c_X6_hardness hM ((6 * p) + i) (by omega)) dX6_shell_98 rfl mk_X6_72 yl_X6_hardness yv_X6_hardness rfl (mo_s hM) (by decide) (by decide) rfl rfl (Nat.le_of_ble_eq_true rfl) (fun h => by cases h) ?_
              refine hg_ireturn dX6_shell_101 rfl ?_
              unfold sv_ at hQ
              rw [if_neg h46, if_pos (by omega), if_neg h82] at hQ
              exact hQ
            · refine hg_aload_n (n := 86) dX6_shell_85 rfl rfl ?_
              refine hg_getR (n := 89) (r := some (42, 0)) dX6_shell_86 rfl fl_X6_43 rfl rfl (mo_s hM) (mo_r hM 12 (by decide)) ?_
              refine hg_iload (n := 91) dX6_shell_89 rfl rfl ?_
              refine hg_iaload (n := 92) (len := 72) ((6 * p) + i) dX6_shell_91 rfl (by decide) rfl (mo_a hM 12 (by decide)) rfl (by omega) (by decide) ?_
              refine hg_goto (tgt := 101) dX6_shell_92 (by decide) ?_
              refine hg_ireturn dX6_shell_101 rfl ?_
              unfold sv_ at hQ
              rw [if_neg h46, if_pos (by omega), if_pos h82] at hQ
              exact hQ
          · refine hg_aload_n (n := 65) dX6_shell_64 rfl rfl ?_
            refine hg_getR (n := 68) (r := some (41, 0)) dX6_shell_65 rfl fl_X6_46 rfl rfl (mo_s hM) (mo_r hM 11 (by decide)) ?_
            refine hg_iconst (n := 69) (v := 4) dX6_shell_68 rfl (by decide) ?_
            refine hg_iload (n := 71) dX6_shell_69 rfl rfl ?_
            refine hg_imulN (n := 72) (4) ((6 * p) + i) dX6_shell_71 rfl ?_
            refine hg_iload_n (n := 73) dX6_shell_72 rfl rfl ?_
            refine hg_iaddN (n := 74) (4 * ((6 * p) + i)) (w) dX6_shell_73 rfl ?_
            refine hg_iconst (n := 75) (v := 1) dX6_shell_74 rfl (by decide) ?_
            refine hg_isubN (n := 76) ((4 * ((6 * p) + i)) + w) (1) dX6_shell_75 rfl (by omega) ?_
            refine hg_iaload (n := 77) (len := 288) (((4 * ((6 * p) + i)) + w) - 1) dX6_shell_76 rfl (by decide) rfl (mo_a hM 11 (by decide)) rfl (by omega) (by decide) ?_
            refine hg_goto (tgt := 101) dX6_shell_77 (by decide) ?_
            refine hg_ireturn dX6_shell_101 rfl ?_
            unfold sv_ at hQ
            rw [if_neg h46, if_neg (by omega)] at hQ
            exact hQ
        · refine hg_aload_n (n := 50) dX6_shell_49 rfl rfl ?_
          refine hg_getR (n := 53) (r := some (40, 0)) dX6_shell_50 rfl fl_X6_40 rfl rfl (mo_s hM) (mo_r hM 10 (by decide)) ?_
          refine hg_iload (n := 55) dX6_shell_53 rfl rfl ?_
          refine hg_iaload (n := 56) (len := 72) ((6 * p) + i) dX6_shell_55 rfl (by decide) rfl (mo_a hM 10 (by decide)) rfl (by omega) (by decide) ?_
          refine hg_goto (tgt := 101) dX6_shell_56 (by decide) ?_
          refine hg_ireturn dX6_shell_101 rfl ?_
          unfold sv_ at hQ
          rw [if_pos h46] at hQ
          exact hQ
      · exact absurd h31 (z_nat3 (a := 0) (b := 6) (by omega) (by omega) (by omega))

set_option maxHeartbeats 4000000 in
set_option maxRecDepth 100000 in
theorem c_X6_taken_b {mi : MI_} {ml : ML_} {mr : MR_} {sh : SH_} (hM : mo_ mr sh) (x : Int32) (hb : z_in x 0 (mi 7 0 0 - 1) = 0) : hg_Det false yX6_taken md_X6_taken [hv_r (some (7, 0)), hv_i x] (mi, ml, mr, sh) (some (hv_l (-9999999999))) (mi, ml, mr, sh) := by
  intro Q hQ
  refine hg_intro rfl rfl rfl (Nat.le_of_ble_eq_true rfl) rfl ?_
  refine hg_aload_n (n := 1) dX6_taken_0 rfl rfl ?_
  refine hg_iload_n (n := 2) dX6_taken_1 rfl rfl ?_
  refine hg_callVd (n := 5) (c_X6_isPart hM _) dX6_taken_2 rfl mk_X6_60 yl_X6_isPart yv_X6_isPart rfl (mo_s hM) (by decide) (by decide) rfl rfl (Nat.le_of_ble_eq_true rfl) (fun h => by cases h) ?_
  refine hg_if_eq (n := 8) (tgt := 17) dX6_taken_5 rfl (by decide) (fun h5 => ?_) (fun h5 => ?_)
  · refine hg_ldc2 (n := 20) dX6_taken_17 rfl kc_X6_75 ?_
    refine hg_lreturn dX6_taken_20 rfl ?_
    exact hQ
  · exact absurd hb h5

set_option maxHeartbeats 4000000 in
set_option maxRecDepth 100000 in
theorem c_X6_taken {mi : MI_} {ml : ML_} {mr : MR_} {sh : SH_} (hM : mo_ mr sh) (np : Nat) (hnp : mi 7 0 0 = nI np) (hn12 : np ≤ 12) (p : Nat) (hp : p < np)  : hg_Det false yX6_taken md_X6_taken [hv_r (some (7, 0)), hv_i (nI p)] (mi, ml, mr, sh) (some (hv_l (ml 37 0 p))) (mi, ml, mr, sh) := by
  intro Q hQ
  refine hg_intro rfl rfl rfl (Nat.le_of_ble_eq_true rfl) rfl ?_
  refine hg_aload_n (n := 1) dX6_taken_0 rfl rfl ?_
  refine hg_iload_n (n := 2) dX6_taken_1 rfl rfl ?_
  refine hg_callVd (n := 5) (c_X6_isPart hM _) dX6_taken_2 rfl mk_X6_60 yl_X6_isPart yv_X6_isPart rfl (mo_s hM) (by decide) (by decide) rfl rfl (Nat.le_of_ble_eq_true rfl) (fun h => by cases h) ?_
  refine hg_if_eq (n := 8) (tgt := 17) dX6_taken_5 rfl (by decide) (fun h5 => ?_) (fun h5 => ?_)
  · exact absurd h5 (by rw [hnp, z_ix2 (by omega) hp]; decide)
  · refine hg_aload_n (n := 9) dX6_taken_8 rfl rfl ?_
    refine hg_getR (n := 12) (r := some (37, 0)) dX6_taken_9 rfl fl_X6_30 rfl rfl (mo_s hM) (mo_r hM 7 (by decide)) ?_
    refine hg_iload_n (n := 13) dX6_taken_12 rfl rfl ?_
    refine hg_laload (n := 14) (len := 12) (p) dX6_taken_13 rfl (by decide) rfl (mo_a hM 7 (by decide)) rfl (by omega) (by decide) ?_
    refine hg_goto (tgt := 20) dX6_taken_14 (by decide) ?_
    refine hg_lreturn dX6_taken_20 rfl ?_
    exact hQ

set_option maxHeartbeats 4000000 in
set_option maxRecDepth 100000 in
theorem c_X6_kept_b {mi : MI_} {ml : ML_} {mr : MR_} {sh : SH_} (hM : mo_ mr sh) (x : Int32) (hb : z_in x 0 (mi 7 0 0 - 1) = 0) : hg_Det false yX6_kept md_X6_kept [hv_r (some (7, 0)), hv_i x] (mi, ml, mr, sh) (some (hv_l 1)) (mi, ml, mr, sh) := by
  intro Q hQ
  refine hg_intro rfl rfl rfl (Nat.le_of_ble_eq_true rfl) rfl ?_
  refine hg_aload_n (n := 1) dX6_kept_0 rfl rfl ?_
  refine hg_iload_n (n := 2) dX6_kept_1 rfl rfl ?_
  refine hg_callVd (n := 5) (c_X6_isPart hM _) dX6_kept_2 rfl mk_X6_60 yl_X6_isPart yv_X6_isPart rfl (mo_s hM) (by decide) (by decide) rfl rfl (Nat.le_of_ble_eq_true rfl) (fun h => by cases h) ?_
  refine hg_if_ne (n := 8) (tgt := 10) dX6_kept_5 rfl (by decide) (fun h5 => ?_) (fun h5 => ?_)
  · exact absurd hb h5
  · refine hg_lconst (n := 9) (v := 1) dX6_kept_8 rfl (by decide) ?_
    refine hg_lreturn dX6_kept_9 rfl ?_
    exact hQ

def kp_ (X : MI_) (T : ML_) (p : Nat) : Nat → Int64
  | 0 => 0 - T 37 0 p
  | i + 1 => kp_ X T p i + (X 40 0 (6 * p + i) - 200).toInt64
set_option maxHeartbeats 4000000 in
set_option maxRecDepth 100000 in
theorem c_X6_kept {mi : MI_} {ml : ML_} {mr : MR_} {sh : SH_} (hM : mo_ mr sh) (np : Nat) (hnp : mi 7 0 0 = nI np) (hn12 : np ≤ 12) (p : Nat) (hp : p < np) (n : Nat) (hn : mi 31 0 p = nI n) (h1 : 1 ≤ n) (h6 : n ≤ 6)  : hg_Det false yX6_kept md_X6_kept [hv_r (some (7, 0)), hv_i (nI p)] (mi, ml, mr, sh) (some (hv_l (kp_ mi ml p n))) (mi, ml, mr, sh) := by
  intro Q hQ
  refine hg_intro rfl rfl rfl (Nat.le_of_ble_eq_true rfl) rfl ?_
  have loop : ∀ m i, i + m = n → hg_G md_X6_kept false sh Q 0 0 22 [some (hv_r (some (7, 0))), some (hv_i (nI p)), some (hv_l (kp_ mi ml p i)), none, some (hv_i (nI i))] [] (mi, ml, mr, sh) := by
    intro m
    induction m with
    | zero =>
      intro i hi
      refine hg_iload (n := 24) dX6_kept_22 rfl rfl ?_
      refine hg_aload_n (n := 25) dX6_kept_24 rfl rfl ?_
      refine hg_getR (n := 28) (r := some (31, 0)) dX6_kept_25 rfl fl_X6_11 rfl rfl (mo_s hM) (mo_r hM 1 (by decide)) ?_
      refine hg_iload_n (n := 29) dX6_kept_28 rfl rfl ?_
      refine hg_ialoadN (n := 30) (len := 12) (n) (p) dX6_kept_29 rfl (by decide) rfl (mo_a hM 1 (by decide)) rfl (by omega) (by decide) hn ?_
      refine hg_icmp_geN (n := 33) (tgt := 59) (i) (n) dX6_kept_30 rfl (by decide) (by omega) (by omega) (fun h30 => ?_) (fun h30 => ?_)
      · have e := show i = n by omega
        subst e
        refine hg_lload_n (n := 60) dX6_kept_59 rfl rfl ?_
        refine hg_lreturn dX6_kept_60 rfl ?_
        exact hQ
      · exact absurd h30 (by omega)
    | succ m ih =>
      intro i hi
      refine hg_iload (n := 24) dX6_kept_22 rfl rfl ?_
      refine hg_aload_n (n := 25) dX6_kept_24 rfl rfl ?_
      refine hg_getR (n := 28) (r := some (31, 0)) dX6_kept_25 rfl fl_X6_11 rfl rfl (mo_s hM) (mo_r hM 1 (by decide)) ?_
      refine hg_iload_n (n := 29) dX6_kept_28 rfl rfl ?_
      refine hg_ialoadN (n := 30) (len := 12) (n) (p) dX6_kept_29 rfl (by decide) rfl (mo_a hM 1 (by decide)) rfl (by omega) (by decide) hn ?_
      refine hg_icmp_geN (n := 33) (tgt := 59) (i) (n) dX6_kept_30 rfl (by decide) (by omega) (by omega) (fun h30 => ?_) (fun h30 => ?_)
      · exact absurd h30 (by omega)
      · refine hg_lload_n (n := 34) dX6_kept_33 rfl rfl ?_
        refine hg_aload_n (n := 35) dX6_kept_34 rfl rfl ?_
        refine hg_getR (n := 38) (r := some (40, 0)) dX6_kept_35 rfl fl_X6_40 rfl rfl (mo_s hM) (mo_r hM 10 (by decide)) ?_
        refine hg_bipush (n := 40) (v := 6) dX6_kept_38 rfl (by decide) ?_
        refine hg_iload_n (n := 41) dX6_kept_40 rfl rfl ?_
        refine hg_imulN (n := 42) (6) (p) dX6_kept_41 rfl ?_
        refine hg_iload (n := 44) dX6_kept_42 rfl rfl ?_
        refine hg_iaddN (n := 45) (6 * p) (i) dX6_kept_44 rfl ?_
        refine hg_iaload (n := 46) (len := 72) ((6 * p) + i) dX6_kept_45 rfl (by decide) rfl (mo_a hM 10 (by decide)) rfl (by omega) (by decide) ?_
        refine hg_sipush (n := 49) (v := 200) dX6_kept_46 rfl (by decide) ?_
        refine hg_isub (n := 50) dX6_kept_49 rfl ?_
        refine hg_i2l (n := 51) dX6_kept_50 rfl ?_
        refine hg_ladd (n := 52) dX6_kept_51 rfl ?_
        refine hg_lstore_n (n := 53) dX6_kept_52 rfl (by decide) rfl rfl ?_
        refine hg_iincN (n := 56) (i) 1 dX6_kept_53 rfl rfl (by decide) (by decide) rfl rfl ?_
        refine hg_goto (tgt := 22) dX6_kept_56 (by decide) ?_
        exact ih (i + 1) (by omega)
  refine hg_aload_n (n := 1) dX6_kept_0 rfl rfl ?_
  refine hg_iload_n (n := 2) dX6_kept_1 rfl rfl ?_
  refine hg_callVd (n := 5) (c_X6_isPart hM _) dX6_kept_2 rfl mk_X6_60 yl_X6_isPart yv_X6_isPart rfl (mo_s hM) (by decide) (by decide) rfl rfl (Nat.le_of_ble_eq_true rfl) (fun h => by cases h) ?_
  refine hg_if_ne (n := 8) (tgt := 10) dX6_kept_5 rfl (by decide) (fun h5 => ?_) (fun h5 => ?_)
  · refine hg_lconst (n := 11) (v := 0) dX6_kept_10 rfl (by decide) ?_
    refine hg_aload_n (n := 12) dX6_kept_11 rfl rfl ?_
    refine hg_getR (n := 15) (r := some (37, 0)) dX6_kept_12 rfl fl_X6_30 rfl rfl (mo_s hM) (mo_r hM 7 (by decide)) ?_
    refine hg_iload_n (n := 16) dX6_kept_15 rfl rfl ?_
    refine hg_laload (n := 17) (len := 12) (p) dX6_kept_16 rfl (by decide) rfl (mo_a hM 7 (by decide)) rfl (by omega) (by decide) ?_
    refine hg_lsub (n := 18) dX6_kept_17 rfl ?_
    refine hg_lstore_n (n := 19) dX6_kept_18 rfl (by decide) rfl rfl ?_
    refine hg_iconst (n := 20) (v := 0) dX6_kept_19 rfl (by decide) ?_
    refine hg_istore (n := 22) dX6_kept_20 rfl (by decide) rfl rfl ?_
    exact loop n 0 (by omega)
  · exact absurd h5 (by rw [hnp, z_ix2 (by omega) hp]; decide)

