/-- the shop, as the memory holds it -/
def hs_ (mr : MR_) (sh : SH_) (np nr : Nat) (nn : Nat → Nat) : Prop :=
  sh 1 0 = some 6 ∧ (mr 1 0 0 = some (8, 0) ∧ mr 1 0 1 = some (9, 0) ∧ mr 1 0 2 = some (10, 0) ∧ mr 1 0 3 = some (2, 0)) ∧ sh 8 0 = some 12 ∧ sh 9 0 = some 3 ∧ sh 10 0 = some 100 ∧ jl_ mr sh ∧ (∀ f, f < 3 → fs_ mr sh f ∧ mr 9 0 f = some (3, f)) ∧ (ps_ mr sh np nn ∧ ∀ p, p < np → mr 8 0 p = some (4, p)) ∧ (∀ r, r < nr → sh 5 r = some 6 ∧ mr 10 0 r = some (5, r))
theorem hs_F {mr : MR_} {sh : SH_} {np nr : Nat} {nn : Nat → Nat} (h : hs_ mr sh np nr nn) {f : Nat} (hf : f < 3) : fs_ mr sh f := (h.2.2.2.2.2.2.1 f hf).1
theorem hs_fA {mr : MR_} {sh : SH_} {np nr : Nat} {nn : Nat → Nat} (h : hs_ mr sh np nr nn) {f : Nat} (hf : f < 3) : mr 9 0 f = some (3, f) := (h.2.2.2.2.2.2.1 f hf).2
theorem hs_P {mr : MR_} {sh : SH_} {np nr : Nat} {nn : Nat → Nat} (h : hs_ mr sh np nr nn) : ps_ mr sh np nn := h.2.2.2.2.2.2.2.1.1
theorem hs_pA {mr : MR_} {sh : SH_} {np nr : Nat} {nn : Nat → Nat} (h : hs_ mr sh np nr nn) {p : Nat} (hp : p < np) : mr 8 0 p = some (4, p) := h.2.2.2.2.2.2.2.1.2 p hp
theorem hs_J {mr : MR_} {sh : SH_} {np nr : Nat} {nn : Nat → Nat} (h : hs_ mr sh np nr nn) : jl_ mr sh := h.2.2.2.2.2.1
theorem hs_R {mr : MR_} {sh : SH_} {np nr : Nat} {nn : Nat → Nat} (h : hs_ mr sh np nr nn) {r : Nat} (hr : r < nr) : sh 5 r = some 6 := (h.2.2.2.2.2.2.2.2 r hr).1
theorem hs_rA {mr : MR_} {sh : SH_} {np nr : Nat} {nn : Nat → Nat} (h : hs_ mr sh np nr nn) {r : Nat} (hr : r < nr) : mr 10 0 r = some (5, r) := (h.2.2.2.2.2.2.2.2 r hr).2
set_option maxHeartbeats 4000000 in
set_option maxRecDepth 100000 in
theorem c_X5_partAt_b {mi : MI_} {ml : ML_} {mr : MR_} {sh : SH_} {np nr : Nat} {nn : Nat → Nat} (hH : hs_ mr sh np nr nn) (x : Int32) (hb : z_in x 0 (mi 1 0 4 - 1) = 0) : hg_Det false yX5_partAt md_X5_partAt [hv_r (some (1, 0)), hv_i x] (mi, ml, mr, sh) (some (hv_r none)) (mi, ml, mr, sh) := by
  intro Q hQ
  refine hg_intro rfl rfl rfl (Nat.le_of_ble_eq_true rfl) rfl ?_
  refine hg_iload_n (n := 1) dX5_partAt_0 rfl rfl ?_
  refine hg_iconst (n := 2) (v := 0) dX5_partAt_1 rfl (by decide) ?_
  refine hg_aload_n (n := 3) dX5_partAt_2 rfl rfl ?_
  refine hg_getI (n := 6) dX5_partAt_3 rfl fl_X5_39 rfl rfl hH.1 ?_
  refine hg_iconst (n := 7) (v := 1) dX5_partAt_6 rfl (by decide) ?_
  refine hg_isub (n := 8) dX5_partAt_7 rfl ?_
  refine hg_callSd (n := 11) (c_X5_within _ _ _ _) dX5_partAt_8 rfl mk_X5_35 yl_X5_within ys_X5_within (by decide) (by decide) rfl rfl (Nat.le_of_ble_eq_true rfl) (fun h => by cases h) ?_
  refine hg_if_eq (n := 14) (tgt := 23) dX5_partAt_11 rfl (by decide) (fun h11 => ?_) (fun h11 => ?_)
  · refine hg_null (n := 24) dX5_partAt_23 rfl ?_
    refine hg_areturn dX5_partAt_24 rfl ?_
    exact hQ
  · exact absurd hb h11

set_option maxHeartbeats 4000000 in
set_option maxRecDepth 100000 in
theorem c_X5_partAt {mi : MI_} {ml : ML_} {mr : MR_} {sh : SH_} {np nr : Nat} {nn : Nat → Nat} (hH : hs_ mr sh np nr nn) (hnp : mi 1 0 4 = nI np) (hn12 : np ≤ 12) (p : Nat) (hp : p < np)  : hg_Det false yX5_partAt md_X5_partAt [hv_r (some (1, 0)), hv_i (nI p)] (mi, ml, mr, sh) (some (hv_r (some (4, p)))) (mi, ml, mr, sh) := by
  intro Q hQ
  refine hg_intro rfl rfl rfl (Nat.le_of_ble_eq_true rfl) rfl ?_
  refine hg_iload_n (n := 1) dX5_partAt_0 rfl rfl ?_
  refine hg_iconst (n := 2) (v := 0) dX5_partAt_1 rfl (by decide) ?_
  refine hg_aload_n (n := 3) dX5_partAt_2 rfl rfl ?_
  refine hg_getI (n := 6) dX5_partAt_3 rfl fl_X5_39 rfl rfl hH.1 ?_
  refine hg_iconst (n := 7) (v := 1) dX5_partAt_6 rfl (by decide) ?_
  refine hg_isub (n := 8) dX5_partAt_7 rfl ?_
  refine hg_callSd (n := 11) (c_X5_within _ _ _ _) dX5_partAt_8 rfl mk_X5_35 yl_X5_within ys_X5_within (by decide) (by decide) rfl rfl (Nat.le_of_ble_eq_true rfl) (fun h => by cases h) ?_
  refine hg_if_eq (n := 14) (tgt := 23) dX5_partAt_11 rfl (by decide) (fun h11 => ?_) (fun h11 => ?_)
  · exact absurd h11 (by rw [hnp, z_ix2 (by omega) hp]; decide)
  · refine hg_aload_n (n := 15) dX5_partAt_14 rfl rfl ?_
    refine hg_getR (n := 18) (r := some (8, 0)) dX5_partAt_15 rfl fl_X5_11 rfl rfl hH.1 hH.2.1.1 ?_
    refine hg_iload_n (n := 19) dX5_partAt_18 rfl rfl ?_
    refine hg_aaload (n := 20) (len := 12) (p) (r := some (4, p)) dX5_partAt_19 rfl (by decide) rfl rfl hH.2.2.1 rfl (by omega) (by omega) (hs_pA hH hp) ?_
    refine hg_goto (tgt := 24) dX5_partAt_20 (by decide) ?_
    refine hg_areturn dX5_partAt_24 rfl ?_
    exact hQ

set_option maxHeartbeats 4000000 in
set_option maxRecDepth 100000 in
theorem c_X5_furnaceAt_b {mi : MI_} {ml : ML_} {mr : MR_} {sh : SH_} {np nr : Nat} {nn : Nat → Nat} (hH : hs_ mr sh np nr nn) (x : Int32) (hb : z_in x 0 2 = 0) : hg_Det false yX5_furnaceAt md_X5_furnaceAt [hv_r (some (1, 0)), hv_i x] (mi, ml, mr, sh) (some (hv_r none)) (mi, ml, mr, sh) := by
  intro Q hQ
  refine hg_intro rfl rfl rfl (Nat.le_of_ble_eq_true rfl) rfl ?_
  refine hg_iload_n (n := 1) dX5_furnaceAt_0 rfl rfl ?_
  refine hg_iconst (n := 2) (v := 0) dX5_furnaceAt_1 rfl (by decide) ?_
  refine hg_iconst (n := 3) (v := 2) dX5_furnaceAt_2 rfl (by decide) ?_
  refine hg_callSd (n := 6) (c_X5_within _ _ _ _) dX5_furnaceAt_3 rfl mk_X5_35 yl_X5_within ys_X5_within (by decide) (by decide) rfl rfl (Nat.le_of_ble_eq_true rfl) (fun h => by cases h) ?_
  refine hg_if_eq (n := 9) (tgt := 18) dX5_furnaceAt_6 rfl (by decide) (fun h6 => ?_) (fun h6 => ?_)
  · refine hg_null (n := 19) dX5_furnaceAt_18 rfl ?_
    refine hg_areturn dX5_furnaceAt_19 rfl ?_
    exact hQ
  · exact absurd hb h6

set_option maxHeartbeats 4000000 in
set_option maxRecDepth 100000 in
theorem c_X5_furnaceAt {mi : MI_} {ml : ML_} {mr : MR_} {sh : SH_} {np nr : Nat} {nn : Nat → Nat} (hH : hs_ mr sh np nr nn) (f : Nat) (hf : f < 3)  : hg_Det false yX5_furnaceAt md_X5_furnaceAt [hv_r (some (1, 0)), hv_i (nI f)] (mi, ml, mr, sh) (some (hv_r (some (3, f)))) (mi, ml, mr, sh) := by
  intro Q hQ
  refine hg_intro rfl rfl rfl (Nat.le_of_ble_eq_true rfl) rfl ?_
  refine hg_iload_n (n := 1) dX5_furnaceAt_0 rfl rfl ?_
  refine hg_iconst (n := 2) (v := 0) dX5_furnaceAt_1 rfl (by decide) ?_
  refine hg_iconst (n := 3) (v := 2) dX5_furnaceAt_2 rfl (by decide) ?_
  refine hg_callSd (n := 6) (c_X5_within _ _ _ _) dX5_furnaceAt_3 rfl mk_X5_35 yl_X5_within ys_X5_within (by decide) (by decide) rfl rfl (Nat.le_of_ble_eq_true rfl) (fun h => by cases h) ?_
  refine hg_if_eq (n := 9) (tgt := 18) dX5_furnaceAt_6 rfl (by decide) (fun h6 => ?_) (fun h6 => ?_)
  · exact absurd h6 (z_nat3 (a := 0) (b := 2) (by omega) (by omega) (by omega))
  · refine hg_aload_n (n := 10) dX5_furnaceAt_9 rfl rfl ?_
    refine hg_getR (n := 13) (r := some (9, 0)) dX5_furnaceAt_10 rfl fl_X5_17 rfl rfl hH.1 hH.2.1.2.1 ?_
    refine hg_iload_n (n := 14) dX5_furnaceAt_13 rfl rfl ?_
    refine hg_aaload (n := 15) (len := 3) (f) (r := some (3, f)) dX5_furnaceAt_14 rfl (by decide) rfl rfl hH.2.2.2.1 rfl (by omega) (by omega) (hs_fA hH hf) ?_
    refine hg_goto (tgt := 19) dX5_furnaceAt_15 (by decide) ?_
    refine hg_areturn dX5_furnaceAt_19 rfl ?_
    exact hQ

set_option maxHeartbeats 4000000 in
set_option maxRecDepth 100000 in
theorem c_X5_step_b {mi : MI_} {ml : ML_} {mr : MR_} {sh : SH_} {np nr : Nat} {nn : Nat → Nat} (hH : hs_ mr sh np nr nn) (x : Int32) (hb : z_in x 0 (mi 1 0 4 - 1) = 0) (g z : Int32) : hg_Det false yX5_step md_X5_step [hv_r (some (1, 0)), hv_i x, hv_i g, hv_i z] (mi, ml, mr, sh) (some (hv_i (-2))) (mi, ml, mr, sh) := by
  intro Q hQ
  refine hg_intro rfl rfl rfl (Nat.le_of_ble_eq_true rfl) rfl ?_
  refine hg_aload_n (n := 1) dX5_step_0 rfl rfl ?_
  refine hg_iload_n (n := 2) dX5_step_1 rfl rfl ?_
  refine hg_callVd (n := 5) (c_X5_partAt_b hH _ hb) dX5_step_2 rfl mk_X5_46 yl_X5_partAt yv_X5_partAt rfl hH.1 (by decide) (by decide) rfl rfl (Nat.le_of_ble_eq_true rfl) (fun h => by cases h) ?_
  refine hg_astore (n := 7) dX5_step_5 rfl (by decide) rfl rfl ?_
  refine hg_aload (n := 9) dX5_step_7 rfl rfl ?_
  refine hg_ifnull (n := 12) (tgt := 36) dX5_step_9 rfl (by decide) (fun h9 => ?_) (fun q9 h9 => ?_)
  · refine hg_bipush (n := 38) (v := -2) dX5_step_36 rfl (by decide) ?_
    refine hg_ireturn dX5_step_38 rfl ?_
    exact hQ
  · cases h9

set_option maxHeartbeats 4000000 in
set_option maxRecDepth 100000 in
theorem c_X5_step_c {mi : MI_} {ml : ML_} {mr : MR_} {sh : SH_} {np nr : Nat} {nn : Nat → Nat} (hH : hs_ mr sh np nr nn) (hnp : mi 1 0 4 = nI np) (hn12 : np ≤ 12) (p : Nat) (hp : p < np) (g z : Int32) (hb : z_in g (-1000) 12000 = 0 ∨ z_in z 1 200 = 0) : hg_Det false yX5_step md_X5_step [hv_r (some (1, 0)), hv_i (nI p), hv_i g, hv_i z] (mi, ml, mr, sh) (some (hv_i (-2))) (mi, ml, mr, sh) := by
  intro Q hQ
  refine hg_intro rfl rfl rfl (Nat.le_of_ble_eq_true rfl) rfl ?_
  refine hg_aload_n (n := 1) dX5_step_0 rfl rfl ?_
  refine hg_iload_n (n := 2) dX5_step_1 rfl rfl ?_
  refine hg_callVd (n := 5) (c_X5_partAt hH hnp hn12 p hp) dX5_step_2 rfl mk_X5_46 yl_X5_partAt yv_X5_partAt rfl hH.1 (by decide) (by decide) rfl rfl (Nat.le_of_ble_eq_true rfl) (fun h => by cases h) ?_
  refine hg_astore (n := 7) dX5_step_5 rfl (by decide) rfl rfl ?_
  refine hg_aload (n := 9) dX5_step_7 rfl rfl ?_
  refine hg_ifnull (n := 12) (tgt := 36) dX5_step_9 rfl (by decide) (fun h9 => ?_) (fun q9 h9 => ?_)
  · cases h9
  · refine hg_iload_n (n := 13) dX5_step_12 rfl rfl ?_
    refine hg_sipush (n := 16) (v := -1000) dX5_step_13 rfl (by decide) ?_
    refine hg_sipush (n := 19) (v := 12000) dX5_step_16 rfl (by decide) ?_
    refine hg_callSd (n := 22) (c_X5_within _ _ _ _) dX5_step_19 rfl mk_X5_35 yl_X5_within ys_X5_within (by decide) (by decide) rfl rfl (Nat.le_of_ble_eq_true rfl) (fun h => by cases h) ?_
    refine hg_if_eq (n := 25) (tgt := 36) dX5_step_22 rfl (by decide) (fun h22 => ?_) (fun h22 => ?_)
    · refine hg_bipush (n := 38) (v := -2) dX5_step_36 rfl (by decide) ?_
      refine hg_ireturn dX5_step_38 rfl ?_
      exact hQ
    · refine hg_iload_n (n := 26) dX5_step_25 rfl rfl ?_
      refine hg_iconst (n := 27) (v := 1) dX5_step_26 rfl (by decide) ?_
      refine hg_sipush (n := 30) (v := 200) dX5_step_27 rfl (by decide) ?_
      refine hg_callSd (n := 33) (c_X5_within _ _ _ _) dX5_step_30 rfl mk_X5_35 yl_X5_within ys_X5_within (by decide) (by decide) rfl rfl (Nat.le_of_ble_eq_true rfl) (fun h => by cases h) ?_
      refine hg_if_ne (n := 36) (tgt := 39) dX5_step_33 rfl (by decide) (fun h33 => ?_) (fun h33 => ?_)
      · exact absurd hb (by simp [h22, h33])
      · refine hg_bipush (n := 38) (v := -2) dX5_step_36 rfl (by decide) ?_
        refine hg_ireturn dX5_step_38 rfl ?_
        exact hQ

set_option maxHeartbeats 4000000 in
set_option maxRecDepth 100000 in
theorem c_X5_step_n {mi : MI_} {ml : ML_} {mr : MR_} {sh : SH_} {np nr : Nat} {nn : Nat → Nat} (hH : hs_ mr sh np nr nn) (hnp : mi 1 0 4 = nI np) (hn12 : np ≤ 12) (p : Nat) (hp : p < np) (g z : Int32) (hg : ¬ z_in g (-1000) 12000 = 0) (hz : ¬ z_in z 1 200 = 0) (hw : ¬ mi 4 p 8 = 0) : hg_Det false yX5_step md_X5_step [hv_r (some (1, 0)), hv_i (nI p), hv_i g, hv_i z] (mi, ml, mr, sh) (some (hv_i (-3))) (mi, ml, mr, sh) := by
  intro Q hQ
  refine hg_intro rfl rfl rfl (Nat.le_of_ble_eq_true rfl) rfl ?_
  refine hg_aload_n (n := 1) dX5_step_0 rfl rfl ?_
  refine hg_iload_n (n := 2) dX5_step_1 rfl rfl ?_
  refine hg_callVd (n := 5) (c_X5_partAt hH hnp hn12 p hp) dX5_step_2 rfl mk_X5_46 yl_X5_partAt yv_X5_partAt rfl hH.1 (by decide) (by decide) rfl rfl (Nat.le_of_ble_eq_true rfl) (fun h => by cases h) ?_
  refine hg_astore (n := 7) dX5_step_5 rfl (by decide) rfl rfl ?_
  refine hg_aload (n := 9) dX5_step_7 rfl rfl ?_
  refine hg_ifnull (n := 12) (tgt := 36) dX5_step_9 rfl (by decide) (fun h9 => ?_) (fun q9 h9 => ?_)
  · cases h9
  · refine hg_iload_n (n := 13) dX5_step_12 rfl rfl ?_
    refine hg_sipush (n := 16) (v := -1000) dX5_step_13 rfl (by decide) ?_
    refine hg_sipush (n := 19) (v := 12000) dX5_step_16 rfl (by decide) ?_
    refine hg_callSd (n := 22) (c_X5_within _ _ _ _) dX5_step_19 rfl mk_X5_35 yl_X5_within ys_X5_within (by decide) (by decide) rfl rfl (Nat.le_of_ble_eq_true rfl) (fun h => by cases h) ?_
    refine hg_if_eq (n := 25) (tgt := 36) dX5_step_22 rfl (by decide) (fun h22 => ?_) (fun h22 => ?_)
    · exact absurd h22 hg
    · refine hg_iload_n (n := 26) dX5_step_25 rfl rfl ?_
      refine hg_iconst (n := 27) (v := 1) dX5_step_26 rfl (by decide) ?_
      refine hg_sipush (n := 30) (v := 200) dX5_step_27 rfl (by decide) ?_
      refine hg_callSd (n := 33) (c_X5_within _ _ _ _) dX5_step_30 rfl mk_X5_35 yl_X5_within ys_X5_within (by decide) (by decide) rfl rfl (Nat.le_of_ble_eq_true rfl) (fun h => by cases h) ?_
      refine hg_if_ne (n := 36) (tgt := 39) dX5_step_33 rfl (by decide) (fun h33 => ?_) (fun h33 => ?_)
      · refine hg_aload (n := 41) dX5_step_39 rfl rfl ?_
        refine hg_getI (n := 44) dX5_step_41 rfl fl_X5_50 rfl rfl (hs_P hH p hp).1.1 ?_
        refine hg_if_eq (n := 47) (tgt := 50) dX5_step_44 rfl (by decide) (fun h44 => ?_) (fun h44 => ?_)
        · exact absurd h44 hw
        · refine hg_bipush (n := 49) (v := -3) dX5_step_47 rfl (by decide) ?_
          refine hg_ireturn dX5_step_49 rfl ?_
          exact hQ
      · exact absurd h33 hz

def sn_c (Y : MI_) (T : ML_) (p n : Nat) (g : Int32) : Nat → MI_ × ML_
  | 0 => (Y, T)
  | k + 1 => (sb_m (sn_c Y T p n g k).1 p n g, sb_l (sn_c Y T p n g k).1 (sn_c Y T p n g k).2 p g)
set_option maxHeartbeats 4000000 in
set_option maxRecDepth 100000 in
theorem c_X5_step {mi : MI_} {ml : ML_} {mr : MR_} {sh : SH_} {np nr : Nat} {nn : Nat → Nat} (hH : hs_ mr sh np nr nn) (hnp : mi 1 0 4 = nI np) (hn12 : np ≤ 12) (p : Nat) (hp : p < np) (g : Int32) (z : Nat) (hz9 : z ≤ 200) (hg : ¬ z_in g (-1000) 12000 = 0) (hz : ¬ z_in (nI z) 1 200 = 0) (hw : mi 4 p 8 = 0) : hg_Det false yX5_step md_X5_step [hv_r (some (1, 0)), hv_i (nI p), hv_i g, hv_i (nI z)] (mi, ml, mr, sh) (some (hv_i ((sn_c mi ml p (nn p) g z).1 6 (6 * p + (nn p - 1)) 0))) ((sn_c mi ml p (nn p) g z).1, (sn_c mi ml p (nn p) g z).2, mr, sh) := by
  intro Q hQ
  refine hg_intro rfl rfl rfl (Nat.le_of_ble_eq_true rfl) rfl ?_
  have loop : ∀ m k, k + m = z → hg_G md_X5_step false sh Q 0 0 53 [some (hv_r (some (1, 0))), some (hv_i (nI p)), some (hv_i g), some (hv_i (nI z)), some (hv_r (some (4, p))), some (hv_i (nI k))] [] ((sn_c mi ml p (nn p) g k).1, (sn_c mi ml p (nn p) g k).2, mr, sh) := by
    intro m
    induction m with
    | zero =>
      intro k hk
      refine hg_iload (n := 55) dX5_step_53 rfl rfl ?_
      refine hg_iload_n (n := 56) dX5_step_55 rfl rfl ?_
      refine hg_icmp_geN (n := 59) (tgt := 71) (k) (z) dX5_step_56 rfl (by decide) (by omega) (by omega) (fun h56 => ?_) (fun h56 => ?_)
      · have e := show k = z by omega
        subst e
        refine hg_aload (n := 73) dX5_step_71 rfl rfl ?_
        refine hg_callVd (n := 76) (c_X2_innermostWarmth (hs_P hH p hp).1 (hs_P hH p hp).2.1 (hs_P hH p hp).2.2) dX5_step_73 rfl mk_X5_58 yl_X2_innermostWarmth yv_X2_innermostWarmth rfl (hs_P hH p hp).1.1 (by decide) (by decide) rfl rfl (Nat.le_of_ble_eq_true rfl) (fun h => by cases h) ?_
        refine hg_ireturn dX5_step_76 rfl ?_
        exact hQ
      · exact absurd h56 (by omega)
    | succ m ih =>
      intro k hk
      refine hg_iload (n := 55) dX5_step_53 rfl rfl ?_
      refine hg_iload_n (n := 56) dX5_step_55 rfl rfl ?_
      refine hg_icmp_geN (n := 59) (tgt := 71) (k) (z) dX5_step_56 rfl (by decide) (by omega) (by omega) (fun h56 => ?_) (fun h56 => ?_)
      · exact absurd h56 (by omega)
      · refine hg_aload (n := 61) dX5_step_59 rfl rfl ?_
        refine hg_iload_n (n := 62) dX5_step_61 rfl rfl ?_
        refine hg_callVd (n := 65) (c_X2_stepBeside (hs_P hH p hp).1 (hs_P hH p hp).2.1 (hs_P hH p hp).2.2 _) dX5_step_62 rfl mk_X5_54 yl_X2_stepBeside yv_X2_stepBeside rfl (hs_P hH p hp).1.1 (by decide) (by decide) rfl rfl (Nat.le_of_ble_eq_true rfl) (fun h => by cases h) ?_
        refine hg_iincN (n := 68) (k) 1 dX5_step_65 rfl rfl (by decide) (by decide) rfl rfl ?_
        refine hg_goto (tgt := 53) dX5_step_68 (by decide) ?_
        exact ih (k + 1) (by omega)
  refine hg_aload_n (n := 1) dX5_step_0 rfl rfl ?_
  refine hg_iload_n (n := 2) dX5_step_1 rfl rfl ?_
  refine hg_callVd (n := 5) (c_X5_partAt hH hnp hn12 p hp) dX5_step_2 rfl mk_X5_46 yl_X5_partAt yv_X5_partAt rfl hH.1 (by decide) (by decide) rfl rfl (Nat.le_of_ble_eq_true rfl) (fun h => by cases h) ?_
  refine hg_astore (n := 7) dX5_step_5 rfl (by decide) rfl rfl ?_
  refine hg_aload (n := 9) dX5_step_7 rfl rfl ?_
  refine hg_ifnull (n := 12) (tgt := 36) dX5_step_9 rfl (by decide) (fun h9 => ?_) (fun q9 h9 => ?_)
  · cases h9
  · refine hg_iload_n (n := 13) dX5_step_12 rfl rfl ?_
    refine hg_sipush (n := 16) (v := -1000) dX5_step_13 rfl (by decide) ?_
    refine hg_sipush (n := 19) (v := 12000) dX5_step_16 rfl (by decide) ?_
    refine hg_callSd (n := 22) (c_X5_within _ _ _ _) dX5_step_19 rfl mk_X5_35 yl_X5_within ys_X5_within (by decide) (by decide) rfl rfl (Nat.le_of_ble_eq_true rfl) (fun h => by cases h) ?_
    refine hg_if_eq (n := 25) (tgt := 36) dX5_step_22 rfl (by decide) (fun h22 => ?_) (fun h22 => ?_)
    · exact absurd h22 hg
    · refine hg_iload_n (n := 26) dX5_step_25 rfl rfl ?_
      refine hg_iconst (n := 27) (v := 1) dX5_step_26 rfl (by decide) ?_
      refine hg_sipush (n := 30) (v := 200) dX5_step_27 rfl (by decide) ?_
      refine hg_callSd (n := 33) (c_X5_within _ _ _ _) dX5_step_30 rfl mk_X5_35 yl_X5_within ys_X5_within (by decide) (by decide) rfl rfl (Nat.le_of_ble_eq_true rfl) (fun h => by cases h) ?_
      refine hg_if_ne (n := 36) (tgt := 39) dX5_step_33 rfl (by decide) (fun h33 => ?_) (fun h33 => ?_)
      · refine hg_aload (n := 41) dX5_step_39 rfl rfl ?_
        refine hg_getI (n := 44) dX5_step_41 rfl fl_X5_50 rfl rfl (hs_P hH p hp).1.1 ?_
        refine hg_if_eq (n := 47) (tgt := 50) dX5_step_44 rfl (by decide) (fun h44 => ?_) (fun h44 => ?_)
        · refine hg_iconst (n := 51) (v := 0) dX5_step_50 rfl (by decide) ?_
          refine hg_istore (n := 53) dX5_step_51 rfl (by decide) rfl rfl ?_
          exact loop z 0 (by omega)
        · exact absurd hw h44
      · exact absurd h33 hz

set_option maxHeartbeats 4000000 in
set_option maxRecDepth 100000 in
theorem c_X5_shell_b {mi : MI_} {ml : ML_} {mr : MR_} {sh : SH_} {np nr : Nat} {nn : Nat → Nat} (hH : hs_ mr sh np nr nn) (x : Int32) (hb : z_in x 0 (mi 1 0 4 - 1) = 0) (i w : Int32) : hg_Det false yX5_shell md_X5_shell [hv_r (some (1, 0)), hv_i x, hv_i i, hv_i w] (mi, ml, mr, sh) (some (hv_i (-100000))) (mi, ml, mr, sh) := by
  intro Q hQ
  refine hg_intro rfl rfl rfl (Nat.le_of_ble_eq_true rfl) rfl ?_
  refine hg_aload_n (n := 1) dX5_shell_0 rfl rfl ?_
  refine hg_iload_n (n := 2) dX5_shell_1 rfl rfl ?_
  refine hg_callVd (n := 5) (c_X5_partAt_b hH _ hb) dX5_shell_2 rfl mk_X5_46 yl_X5_partAt yv_X5_partAt rfl hH.1 (by decide) (by decide) rfl rfl (Nat.le_of_ble_eq_true rfl) (fun h => by cases h) ?_
  refine hg_astore (n := 7) dX5_shell_5 rfl (by decide) rfl rfl ?_
  refine hg_aload (n := 9) dX5_shell_7 rfl rfl ?_
  refine hg_ifnull (n := 12) (tgt := 38) dX5_shell_9 rfl (by decide) (fun h9 => ?_) (fun q9 h9 => ?_)
  · refine hg_ldc (n := 40) dX5_shell_38 rfl kc_X5_66 ?_
    refine hg_ireturn dX5_shell_40 rfl ?_
    exact hQ
  · cases h9

set_option maxHeartbeats 4000000 in
set_option maxRecDepth 100000 in
theorem c_X5_shell_c {mi : MI_} {ml : ML_} {mr : MR_} {sh : SH_} {np nr : Nat} {nn : Nat → Nat} (hH : hs_ mr sh np nr nn) (hnp : mi 1 0 4 = nI np) (hn12 : np ≤ 12) (p : Nat) (hp : p < np) (i w : Int32) (hb : z_in i 0 (nI (nn p - 1)) = 0 ∨ z_in w 0 6 = 0) : hg_Det false yX5_shell md_X5_shell [hv_r (some (1, 0)), hv_i (nI p), hv_i i, hv_i w] (mi, ml, mr, sh) (some (hv_i (-100000))) (mi, ml, mr, sh) := by
  intro Q hQ
  refine hg_intro rfl rfl rfl (Nat.le_of_ble_eq_true rfl) rfl ?_
  have h1 := (hs_P hH p hp).2.1
  have h6 := (hs_P hH p hp).2.2
  refine hg_aload_n (n := 1) dX5_shell_0 rfl rfl ?_
  refine hg_iload_n (n := 2) dX5_shell_1 rfl rfl ?_
  refine hg_callVd (n := 5) (c_X5_partAt hH hnp hn12 p hp) dX5_shell_2 rfl mk_X5_46 yl_X5_partAt yv_X5_partAt rfl hH.1 (by decide) (by decide) rfl rfl (Nat.le_of_ble_eq_true rfl) (fun h => by cases h) ?_
  refine hg_astore (n := 7) dX5_shell_5 rfl (by decide) rfl rfl ?_
  refine hg_aload (n := 9) dX5_shell_7 rfl rfl ?_
  refine hg_ifnull (n := 12) (tgt := 38) dX5_shell_9 rfl (by decide) (fun h9 => ?_) (fun q9 h9 => ?_)
  · cases h9
  · refine hg_iload_n (n := 13) dX5_shell_12 rfl rfl ?_
    refine hg_iconst (n := 14) (v := 0) dX5_shell_13 rfl (by decide) ?_
    refine hg_aload (n := 16) dX5_shell_14 rfl rfl ?_
    refine hg_getR (n := 19) (r := some (21, p)) dX5_shell_16 rfl fl_X5_62 rfl rfl (hs_P hH p hp).1.1 (hs_P hH p hp).1.2.1 ?_
    refine hg_alen (n := 20) (len := nn p) dX5_shell_19 rfl (by decide) rfl (hs_P hH p hp).1.2.2.1 ?_
    refine hg_iconst (n := 21) (v := 1) dX5_shell_20 rfl (by decide) ?_
    refine hg_isubN (n := 22) (nn p) (1) dX5_shell_21 rfl (by omega) ?_
    refine hg_callSd (n := 25) (c_X5_within _ _ _ _) dX5_shell_22 rfl mk_X5_35 yl_X5_within ys_X5_within (by decide) (by decide) rfl rfl (Nat.le_of_ble_eq_true rfl) (fun h => by cases h) ?_
    refine hg_if_eq (n := 28) (tgt := 38) dX5_shell_25 rfl (by decide) (fun h25 => ?_) (fun h25 => ?_)
    · refine hg_ldc (n := 40) dX5_shell_38 rfl kc_X5_66 ?_
      refine hg_ireturn dX5_shell_40 rfl ?_
      exact hQ
    · refine hg_iload_n (n := 29) dX5_shell_28 rfl rfl ?_
      refine hg_iconst (n := 30) (v := 0) dX5_shell_29 rfl (by decide) ?_
      refine hg_bipush (n := 32) (v := 6) dX5_shell_30 rfl (by decide) ?_
      refine hg_callSd (n := 35) (c_X5_within _ _ _ _) dX5_shell_32 rfl mk_X5_35 yl_X5_within ys_X5_within (by decide) (by decide) rfl rfl (Nat.le_of_ble_eq_true rfl) (fun h => by cases h) ?_
      refine hg_if_ne (n := 38) (tgt := 41) dX5_shell_35 rfl (by decide) (fun h35 => ?_) (fun h35 => ?_)
      · exact absurd hb (by simp [h25, h35])
      · refine hg_ldc (n := 40) dX5_shell_38 rfl kc_X5_66 ?_
        refine hg_ireturn dX5_shell_40 rfl ?_
        exact hQ

set_option maxHeartbeats 4000000 in
set_option maxRecDepth 100000 in
theorem c_X5_shell {mi : MI_} {ml : ML_} {mr : MR_} {sh : SH_} {np nr : Nat} {nn : Nat → Nat} (hH : hs_ mr sh np nr nn) (hnp : mi 1 0 4 = nI np) (hn12 : np ≤ 12) (p : Nat) (hp : p < np) (i w : Nat) (hi : i < nn p) (hw : w ≤ 6) : hg_Det false yX5_shell md_X5_shell [hv_r (some (1, 0)), hv_i (nI p), hv_i (nI i), hv_i (nI w)] (mi, ml, mr, sh) (some (hv_i (te_ mi (6 * p + i) w))) (mi, ml, mr, sh) := by
  intro Q hQ
  refine hg_intro rfl rfl rfl (Nat.le_of_ble_eq_true rfl) rfl ?_
  have h1 := (hs_P hH p hp).2.1
  have h6 := (hs_P hH p hp).2.2
  refine hg_aload_n (n := 1) dX5_shell_0 rfl rfl ?_
  refine hg_iload_n (n := 2) dX5_shell_1 rfl rfl ?_
  refine hg_callVd (n := 5) (c_X5_partAt hH hnp hn12 p hp) dX5_shell_2 rfl mk_X5_46 yl_X5_partAt yv_X5_partAt rfl hH.1 (by decide) (by decide) rfl rfl (Nat.le_of_ble_eq_true rfl) (fun h => by cases h) ?_
  refine hg_astore (n := 7) dX5_shell_5 rfl (by decide) rfl rfl ?_
  refine hg_aload (n := 9) dX5_shell_7 rfl rfl ?_
  refine hg_ifnull (n := 12) (tgt := 38) dX5_shell_9 rfl (by decide) (fun h9 => ?_) (fun q9 h9 => ?_)
  · cases h9
  · refine hg_iload_n (n := 13) dX5_shell_12 rfl rfl ?_
    refine hg_iconst (n := 14) (v := 0) dX5_shell_13 rfl (by decide) ?_
    refine hg_aload (n := 16) dX5_shell_14 rfl rfl ?_
    refine hg_getR (n := 19) (r := some (21, p)) dX5_shell_16 rfl fl_X5_62 rfl rfl (hs_P hH p hp).1.1 (hs_P hH p hp).1.2.1 ?_
    refine hg_alen (n := 20) (len := nn p) dX5_shell_19 rfl (by decide) rfl (hs_P hH p hp).1.2.2.1 ?_
    refine hg_iconst (n := 21) (v := 1) dX5_shell_20 rfl (by decide) ?_
    refine hg_isubN (n := 22) (nn p) (1) dX5_shell_21 rfl (by omega) ?_
    refine hg_callSd (n := 25) (c_X5_within _ _ _ _) dX5_shell_22 rfl mk_X5_35 yl_X5_within ys_X5_within (by decide) (by decide) rfl rfl (Nat.le_of_ble_eq_true rfl) (fun h => by cases h) ?_
    refine hg_if_eq (n := 28) (tgt := 38) dX5_shell_25 rfl (by decide) (fun h25 => ?_) (fun h25 => ?_)
    · exact absurd h25 (z_nat3 (a := 0) (by omega) (by omega) (by omega))
    · refine hg_iload_n (n := 29) dX5_shell_28 rfl rfl ?_
      refine hg_iconst (n := 30) (v := 0) dX5_shell_29 rfl (by decide) ?_
      refine hg_bipush (n := 32) (v := 6) dX5_shell_30 rfl (by decide) ?_
      refine hg_callSd (n := 35) (c_X5_within _ _ _ _) dX5_shell_32 rfl mk_X5_35 yl_X5_within ys_X5_within (by decide) (by decide) rfl rfl (Nat.le_of_ble_eq_true rfl) (fun h => by cases h) ?_
      refine hg_if_ne (n := 38) (tgt := 41) dX5_shell_35 rfl (by decide) (fun h35 => ?_) (fun h35 => ?_)
      · refine hg_aload (n := 43) dX5_shell_41 rfl rfl ?_
        refine hg_getR (n := 46) (r := some (21, p)) dX5_shell_43 rfl fl_X5_62 rfl rfl (hs_P hH p hp).1.1 (hs_P hH p hp).1.2.1 ?_
        refine hg_iload_n (n := 47) dX5_shell_46 rfl rfl ?_
        refine hg_aaload (n := 48) (len := nn p) (i) (r := some (6, 6 * p + i)) dX5_shell_47 rfl (by decide) rfl rfl (hs_P hH p hp).1.2.2.1 rfl (by omega) (by omega) ((hs_P hH p hp).1.2.2.2 i hi).1 ?_
        refine hg_iload_n (n := 49) dX5_shell_48 rfl rfl ?_
        refine hg_callVd (n := 52) (c_X4_tell ((hs_P hH p hp).1.2.2.2 i hi).2 (w) (by omega)) dX5_shell_49 rfl mk_X5_67 yl_X4_tell yv_X4_tell rfl ((hs_P hH p hp).1.2.2.2 i hi).2 (by decide) (by decide) rfl rfl (Nat.le_of_ble_eq_true rfl) (fun h => by cases h) ?_
        refine hg_ireturn dX5_shell_52 rfl ?_
        exact hQ
      · exact absurd h35 (z_nat3 (a := 0) (b := 6) (by omega) (by omega) (by omega))

set_option maxHeartbeats 4000000 in
set_option maxRecDepth 100000 in
theorem c_X5_taken_b {mi : MI_} {ml : ML_} {mr : MR_} {sh : SH_} {np nr : Nat} {nn : Nat → Nat} (hH : hs_ mr sh np nr nn) (x : Int32) (hb : z_in x 0 (mi 1 0 4 - 1) = 0)  : hg_Det false yX5_taken md_X5_taken [hv_r (some (1, 0)), hv_i x] (mi, ml, mr, sh) (some (hv_l (-9999999999))) (mi, ml, mr, sh) := by
  intro Q hQ
  refine hg_intro rfl rfl rfl (Nat.le_of_ble_eq_true rfl) rfl ?_
  refine hg_aload_n (n := 1) dX5_taken_0 rfl rfl ?_
  refine hg_iload_n (n := 2) dX5_taken_1 rfl rfl ?_
  refine hg_callVd (n := 5) (c_X5_partAt_b hH _ hb) dX5_taken_2 rfl mk_X5_46 yl_X5_partAt yv_X5_partAt rfl hH.1 (by decide) (by decide) rfl rfl (Nat.le_of_ble_eq_true rfl) (fun h => by cases h) ?_
  refine hg_astore_n (n := 6) dX5_taken_5 rfl (by decide) rfl rfl ?_
  refine hg_aload_n (n := 7) dX5_taken_6 rfl rfl ?_
  refine hg_ifnonnull (n := 10) (tgt := 16) dX5_taken_7 rfl (by decide) (fun q7 h7 => ?_) (fun h7 => ?_)
  · cases h7
  · refine hg_ldc2 (n := 13) dX5_taken_10 rfl kc_X5_73 ?_
    refine hg_goto (tgt := 20) dX5_taken_13 (by decide) ?_
    refine hg_lreturn dX5_taken_20 rfl ?_
    exact hQ

set_option maxHeartbeats 4000000 in
set_option maxRecDepth 100000 in
theorem c_X5_taken {mi : MI_} {ml : ML_} {mr : MR_} {sh : SH_} {np nr : Nat} {nn : Nat → Nat} (hH : hs_ mr sh np nr nn) (hnp : mi 1 0 4 = nI np) (hn12 : np ≤ 12) (p : Nat) (hp : p < np)  : hg_Det false yX5_taken md_X5_taken [hv_r (some (1, 0)), hv_i (nI p)] (mi, ml, mr, sh) (some (hv_l (ml 4 p 7))) (mi, ml, mr, sh) := by
  intro Q hQ
  refine hg_intro rfl rfl rfl (Nat.le_of_ble_eq_true rfl) rfl ?_
  refine hg_aload_n (n := 1) dX5_taken_0 rfl rfl ?_
  refine hg_iload_n (n := 2) dX5_taken_1 rfl rfl ?_
  refine hg_callVd (n := 5) (c_X5_partAt hH hnp hn12 p hp) dX5_taken_2 rfl mk_X5_46 yl_X5_partAt yv_X5_partAt rfl hH.1 (by decide) (by decide) rfl rfl (Nat.le_of_ble_eq_true rfl) (fun h => by cases h) ?_
  refine hg_astore_n (n := 6) dX5_taken_5 rfl (by decide) rfl rfl ?_
  refine hg_aload_n (n := 7) dX5_taken_6 rfl rfl ?_
  refine hg_ifnonnull (n := 10) (tgt := 16) dX5_taken_7 rfl (by decide) (fun q7 h7 => ?_) (fun h7 => ?_)
  · refine hg_aload_n (n := 17) dX5_taken_16 rfl rfl ?_
    refine hg_getL (n := 20) dX5_taken_17 rfl fl_X5_75 rfl rfl (hs_P hH p hp).1.1 ?_
    refine hg_lreturn dX5_taken_20 rfl ?_
    exact hQ
  · cases h7

set_option maxHeartbeats 4000000 in
set_option maxRecDepth 100000 in
theorem c_X5_kept_b {mi : MI_} {ml : ML_} {mr : MR_} {sh : SH_} {np nr : Nat} {nn : Nat → Nat} (hH : hs_ mr sh np nr nn) (x : Int32) (hb : z_in x 0 (mi 1 0 4 - 1) = 0)  : hg_Det false yX5_kept md_X5_kept [hv_r (some (1, 0)), hv_i x] (mi, ml, mr, sh) (some (hv_l 1)) (mi, ml, mr, sh) := by
  intro Q hQ
  refine hg_intro rfl rfl rfl (Nat.le_of_ble_eq_true rfl) rfl ?_
  refine hg_aload_n (n := 1) dX5_kept_0 rfl rfl ?_
  refine hg_iload_n (n := 2) dX5_kept_1 rfl rfl ?_
  refine hg_callVd (n := 5) (c_X5_partAt_b hH _ hb) dX5_kept_2 rfl mk_X5_46 yl_X5_partAt yv_X5_partAt rfl hH.1 (by decide) (by decide) rfl rfl (Nat.le_of_ble_eq_true rfl) (fun h => by cases h) ?_
  refine hg_astore_n (n := 6) dX5_kept_5 rfl (by decide) rfl rfl ?_
  refine hg_aload_n (n := 7) dX5_kept_6 rfl rfl ?_
  refine hg_ifnonnull (n := 10) (tgt := 14) dX5_kept_7 rfl (by decide) (fun q7 h7 => ?_) (fun h7 => ?_)
  · cases h7
  · refine hg_lconst (n := 11) (v := 1) dX5_kept_10 rfl (by decide) ?_
    refine hg_goto (tgt := 18) dX5_kept_11 (by decide) ?_
    refine hg_lreturn dX5_kept_18 rfl ?_
    exact hQ

set_option maxHeartbeats 4000000 in
set_option maxRecDepth 100000 in
theorem c_X5_kept {mi : MI_} {ml : ML_} {mr : MR_} {sh : SH_} {np nr : Nat} {nn : Nat → Nat} (hH : hs_ mr sh np nr nn) (hnp : mi 1 0 4 = nI np) (hn12 : np ≤ 12) (p : Nat) (hp : p < np)  : hg_Det false yX5_kept md_X5_kept [hv_r (some (1, 0)), hv_i (nI p)] (mi, ml, mr, sh) (some (hv_l (wa_l mi ml p (nn p)))) (mi, ml, mr, sh) := by
  intro Q hQ
  refine hg_intro rfl rfl rfl (Nat.le_of_ble_eq_true rfl) rfl ?_
  refine hg_aload_n (n := 1) dX5_kept_0 rfl rfl ?_
  refine hg_iload_n (n := 2) dX5_kept_1 rfl rfl ?_
  refine hg_callVd (n := 5) (c_X5_partAt hH hnp hn12 p hp) dX5_kept_2 rfl mk_X5_46 yl_X5_partAt yv_X5_partAt rfl hH.1 (by decide) (by decide) rfl rfl (Nat.le_of_ble_eq_true rfl) (fun h => by cases h) ?_
  refine hg_astore_n (n := 6) dX5_kept_5 rfl (by decide) rfl rfl ?_
  refine hg_aload_n (n := 7) dX5_kept_6 rfl rfl ?_
  refine hg_ifnonnull (n := 10) (tgt := 14) dX5_kept_7 rfl (by decide) (fun q7 h7 => ?_) (fun h7 => ?_)
  · refine hg_aload_n (n := 15) dX5_kept_14 rfl rfl ?_
    refine hg_callVd (n := 18) (c_X2_warmthAstray (hs_P hH p hp).1 (hs_P hH p hp).2.1 (hs_P hH p hp).2.2) dX5_kept_15 rfl mk_X5_79 yl_X2_warmthAstray yv_X2_warmthAstray rfl (hs_P hH p hp).1.1 (by decide) (by decide) rfl rfl (Nat.le_of_ble_eq_true rfl) (fun h => by cases h) ?_
    refine hg_lreturn dX5_kept_18 rfl ?_
    exact hQ
  · cases h7

def lt_z (o a b : Int32) : Int32 := if z_in o 0 3 = 0 then 0 else if ¬ o = 3 ∧ z_in a 200 11000 = 0 then 0 else if z_in b 1 (if o = 0 then 1000 else 500) = 0 then 0 else 1
set_option maxHeartbeats 4000000 in
set_option maxRecDepth 100000 in
theorem c_X5_lineIsAsTold (o a b : Int32) {mi : MI_} {ml : ML_} {mr : MR_} {sh : SH_} : hg_Det false yX5_lineIsAsTold md_X5_lineIsAsTold [hv_i o, hv_i a, hv_i b] (mi, ml, mr, sh) (some (hv_i (lt_z o a b))) (mi, ml, mr, sh) := by
  intro Q hQ
  refine hg_intro rfl rfl rfl (Nat.le_of_ble_eq_true rfl) rfl ?_
  have s42 : ∀ x, x = (if o = 0 then 1000 else 500) → ¬ z_in o 0 3 = 0 → ¬ (¬ o = 3 ∧ z_in a 200 11000 = 0) → hg_G md_X5_lineIsAsTold false sh Q 0 0 42 [some (hv_i o), some (hv_i a), some (hv_i b)] [hv_i x, hv_i 1, hv_i b] (mi, ml, mr, sh) := by
    intro x hx h1 h2
    refine hg_callSd (n := 45) (c_X5_within _ _ _ _) dX5_lineIsAsTold_42 rfl mk_X5_35 yl_X5_within ys_X5_within (by decide) (by decide) rfl rfl (Nat.le_of_ble_eq_true rfl) (fun h => by cases h) ?_
    refine hg_if_eq (n := 48) (tgt := 52) dX5_lineIsAsTold_45 rfl (by decide) (fun h45 => ?_) (fun h45 => ?_)
    · refine hg_iconst (n := 53) (v := 0) dX5_lineIsAsTold_52 rfl (by decide) ?_
      refine hg_zreturn dX5_lineIsAsTold_53 rfl (by decide) ?_
      rw [show lt_z o a b = 0 by unfold lt_z; rw [if_neg h1, if_neg h2, if_pos (by rw [← hx]; exact h45)]] at hQ
      exact hQ
    · refine hg_iconst (n := 49) (v := 1) dX5_lineIsAsTold_48 rfl (by decide) ?_
      refine hg_goto (tgt := 53) dX5_lineIsAsTold_49 (by decide) ?_
      refine hg_zreturn dX5_lineIsAsTold_53 rfl (by decide) ?_
      rw [show lt_z o a b = 1 by unfold lt_z; rw [if_neg h1, if_neg h2, if_neg (by rw [← hx]; exact h45)]] at hQ
      exact hQ
  have s27 : ¬ z_in o 0 3 = 0 → ¬ (¬ o = 3 ∧ z_in a 200 11000 = 0) → hg_G md_X5_lineIsAsTold false sh Q 0 0 27 [some (hv_i o), some (hv_i a), some (hv_i b)] [] (mi, ml, mr, sh) := by
    intro h1 h2
    refine hg_iload_n (n := 28) dX5_lineIsAsTold_27 rfl rfl ?_
    refine hg_iconst (n := 29) (v := 1) dX5_lineIsAsTold_28 rfl (by decide) ?_
    refine hg_iload_n (n := 30) dX5_lineIsAsTold_29 rfl rfl ?_
    refine hg_if_ne (n := 33) (tgt := 39) dX5_lineIsAsTold_30 rfl (by decide) (fun h30 => ?_) (fun h30 => ?_)
    · refine hg_sipush (n := 42) (v := 500) dX5_lineIsAsTold_39 rfl (by decide) ?_
      exact s42 _ (by rw [if_neg h30]) h1 h2
    · refine hg_sipush (n := 36) (v := 1000) dX5_lineIsAsTold_33 rfl (by decide) ?_
      refine hg_goto (tgt := 42) dX5_lineIsAsTold_36 (by decide) ?_
      exact s42 _ (by rw [if_pos h30]) h1 h2
  refine hg_iload_n (n := 1) dX5_lineIsAsTold_0 rfl rfl ?_
  refine hg_iconst (n := 2) (v := 0) dX5_lineIsAsTold_1 rfl (by decide) ?_
  refine hg_iconst (n := 3) (v := 3) dX5_lineIsAsTold_2 rfl (by decide) ?_
  refine hg_callSd (n := 6) (c_X5_within _ _ _ _) dX5_lineIsAsTold_3 rfl mk_X5_35 yl_X5_within ys_X5_within (by decide) (by decide) rfl rfl (Nat.le_of_ble_eq_true rfl) (fun h => by cases h) ?_
  refine hg_if_eq (n := 9) (tgt := 52) dX5_lineIsAsTold_6 rfl (by decide) (fun h6 => ?_) (fun h6 => ?_)
  · refine hg_iconst (n := 53) (v := 0) dX5_lineIsAsTold_52 rfl (by decide) ?_
    refine hg_zreturn dX5_lineIsAsTold_53 rfl (by decide) ?_
    rw [show lt_z o a b = 0 by unfold lt_z; simp_all] at hQ
    exact hQ
  · refine hg_iload_n (n := 10) dX5_lineIsAsTold_9 rfl rfl ?_
    refine hg_iconst (n := 11) (v := 3) dX5_lineIsAsTold_10 rfl (by decide) ?_
    refine hg_icmp_eq (n := 14) (tgt := 27) dX5_lineIsAsTold_11 rfl (by decide) (fun h11 => ?_) (fun h11 => ?_)
    · exact s27 h6 (by simp_all)
    · refine hg_iload_n (n := 15) dX5_lineIsAsTold_14 rfl rfl ?_
      refine hg_sipush (n := 18) (v := 200) dX5_lineIsAsTold_15 rfl (by decide) ?_
      refine hg_sipush (n := 21) (v := 11000) dX5_lineIsAsTold_18 rfl (by decide) ?_
      refine hg_callSd (n := 24) (c_X5_within _ _ _ _) dX5_lineIsAsTold_21 rfl mk_X5_35 yl_X5_within ys_X5_within (by decide) (by decide) rfl rfl (Nat.le_of_ble_eq_true rfl) (fun h => by cases h) ?_
      refine hg_if_eq (n := 27) (tgt := 52) dX5_lineIsAsTold_24 rfl (by decide) (fun h24 => ?_) (fun h24 => ?_)
      · refine hg_iconst (n := 53) (v := 0) dX5_lineIsAsTold_52 rfl (by decide) ?_
        refine hg_zreturn dX5_lineIsAsTold_53 rfl (by decide) ?_
        rw [show lt_z o a b = 0 by unfold lt_z; simp_all] at hQ
        exact hQ
      · exact s27 h6 (by simp_all)

set_option maxHeartbeats 4000000 in
set_option maxRecDepth 100000 in
theorem c_X5_line_b {mi : MI_} {ml : ML_} {mr : MR_} {sh : SH_} {np nr : Nat} {nn : Nat → Nat} (hH : hs_ mr sh np nr nn) (x : Int32) (hb : z_in x 0 2 = 0) (o a b : Int32) : hg_Det false yX5_line md_X5_line [hv_r (some (1, 0)), hv_i x, hv_i o, hv_i a, hv_i b] (mi, ml, mr, sh) (some (hv_i (-2))) (mi, ml, mr, sh) := by
  intro Q hQ
  refine hg_intro rfl rfl rfl (Nat.le_of_ble_eq_true rfl) rfl ?_
  refine hg_aload_n (n := 1) dX5_line_0 rfl rfl ?_
  refine hg_iload_n (n := 2) dX5_line_1 rfl rfl ?_
  refine hg_callVd (n := 5) (c_X5_furnaceAt_b hH _ hb) dX5_line_2 rfl mk_X5_83 yl_X5_furnaceAt yv_X5_furnaceAt rfl hH.1 (by decide) (by decide) rfl rfl (Nat.le_of_ble_eq_true rfl) (fun h => by cases h) ?_
  refine hg_astore (n := 7) dX5_line_5 rfl (by decide) rfl rfl ?_
  refine hg_aload (n := 9) dX5_line_7 rfl rfl ?_
  refine hg_ifnull (n := 12) (tgt := 22) dX5_line_9 rfl (by decide) (fun h9 => ?_) (fun q9 h9 => ?_)
  · refine hg_bipush (n := 24) (v := -2) dX5_line_22 rfl (by decide) ?_
    refine hg_ireturn dX5_line_24 rfl ?_
    exact hQ
  · cases h9

set_option maxHeartbeats 4000000 in
set_option maxRecDepth 100000 in
theorem c_X5_line_c {mi : MI_} {ml : ML_} {mr : MR_} {sh : SH_} {np nr : Nat} {nn : Nat → Nat} (hH : hs_ mr sh np nr nn) (f : Nat) (hf : f < 3) (o a b : Int32) (hb : lt_z o a b = 0) : hg_Det false yX5_line md_X5_line [hv_r (some (1, 0)), hv_i (nI f), hv_i o, hv_i a, hv_i b] (mi, ml, mr, sh) (some (hv_i (-2))) (mi, ml, mr, sh) := by
  intro Q hQ
  refine hg_intro rfl rfl rfl (Nat.le_of_ble_eq_true rfl) rfl ?_
  refine hg_aload_n (n := 1) dX5_line_0 rfl rfl ?_
  refine hg_iload_n (n := 2) dX5_line_1 rfl rfl ?_
  refine hg_callVd (n := 5) (c_X5_furnaceAt hH f hf) dX5_line_2 rfl mk_X5_83 yl_X5_furnaceAt yv_X5_furnaceAt rfl hH.1 (by decide) (by decide) rfl rfl (Nat.le_of_ble_eq_true rfl) (fun h => by cases h) ?_
  refine hg_astore (n := 7) dX5_line_5 rfl (by decide) rfl rfl ?_
  refine hg_aload (n := 9) dX5_line_7 rfl rfl ?_
  refine hg_ifnull (n := 12) (tgt := 22) dX5_line_9 rfl (by decide) (fun h9 => ?_) (fun q9 h9 => ?_)
  · cases h9
  · refine hg_iload_n (n := 13) dX5_line_12 rfl rfl ?_
    refine hg_iload_n (n := 14) dX5_line_13 rfl rfl ?_
    refine hg_iload (n := 16) dX5_line_14 rfl rfl ?_
    refine hg_callSd (n := 19) (c_X5_lineIsAsTold _ _ _) dX5_line_16 rfl mk_X5_87 yl_X5_lineIsAsTold ys_X5_lineIsAsTold (by decide) (by decide) rfl rfl (Nat.le_of_ble_eq_true rfl) (fun h => by cases h) ?_
    refine hg_if_ne (n := 22) (tgt := 25) dX5_line_19 rfl (by decide) (fun h19 => ?_) (fun h19 => ?_)
    · exact absurd hb h19
    · refine hg_bipush (n := 24) (v := -2) dX5_line_22 rfl (by decide) ?_
      refine hg_ireturn dX5_line_24 rfl ?_
      exact hQ

set_option maxHeartbeats 4000000 in
set_option maxRecDepth 100000 in
theorem c_X5_line_n {mi : MI_} {ml : ML_} {mr : MR_} {sh : SH_} {np nr : Nat} {nn : Nat → Nat} (hH : hs_ mr sh np nr nn) (f : Nat) (hf : f < 3) {cu : Option Nat} (hc : fc_ mr sh f cu) (o a b : Int32) (hb : ¬ lt_z o a b = 0) (hr : ¬ ir_ cu = 0) : hg_Det false yX5_line md_X5_line [hv_r (some (1, 0)), hv_i (nI f), hv_i o, hv_i a, hv_i b] (mi, ml, mr, sh) (some (hv_i (-3))) (mi, ml, mr, sh) := by
  intro Q hQ
  refine hg_intro rfl rfl rfl (Nat.le_of_ble_eq_true rfl) rfl ?_
  refine hg_aload_n (n := 1) dX5_line_0 rfl rfl ?_
  refine hg_iload_n (n := 2) dX5_line_1 rfl rfl ?_
  refine hg_callVd (n := 5) (c_X5_furnaceAt hH f hf) dX5_line_2 rfl mk_X5_83 yl_X5_furnaceAt yv_X5_furnaceAt rfl hH.1 (by decide) (by decide) rfl rfl (Nat.le_of_ble_eq_true rfl) (fun h => by cases h) ?_
  refine hg_astore (n := 7) dX5_line_5 rfl (by decide) rfl rfl ?_
  refine hg_aload (n := 9) dX5_line_7 rfl rfl ?_
  refine hg_ifnull (n := 12) (tgt := 22) dX5_line_9 rfl (by decide) (fun h9 => ?_) (fun q9 h9 => ?_)
  · cases h9
  · refine hg_iload_n (n := 13) dX5_line_12 rfl rfl ?_
    refine hg_iload_n (n := 14) dX5_line_13 rfl rfl ?_
    refine hg_iload (n := 16) dX5_line_14 rfl rfl ?_
    refine hg_callSd (n := 19) (c_X5_lineIsAsTold _ _ _) dX5_line_16 rfl mk_X5_87 yl_X5_lineIsAsTold ys_X5_lineIsAsTold (by decide) (by decide) rfl rfl (Nat.le_of_ble_eq_true rfl) (fun h => by cases h) ?_
    refine hg_if_ne (n := 22) (tgt := 25) dX5_line_19 rfl (by decide) (fun h19 => ?_) (fun h19 => ?_)
    · refine hg_aload (n := 27) dX5_line_25 rfl rfl ?_
      refine hg_callVd (n := 30) (c_X0_isRunning (hs_F hH hf) hc) dX5_line_27 rfl mk_X5_90 yl_X0_isRunning yv_X0_isRunning rfl (hs_F hH hf).1 (by decide) (by decide) rfl rfl (Nat.le_of_ble_eq_true rfl) (fun h => by cases h) ?_
      refine hg_if_eq (n := 33) (tgt := 36) dX5_line_30 rfl (by decide) (fun h30 => ?_) (fun h30 => ?_)
      · exact absurd h30 hr
      · refine hg_bipush (n := 35) (v := -3) dX5_line_33 rfl (by decide) ?_
        refine hg_ireturn dX5_line_35 rfl ?_
        exact hQ
    · exact absurd h19 hb

set_option maxHeartbeats 4000000 in
set_option maxRecDepth 100000 in
theorem c_X5_line_f {mi : MI_} {ml : ML_} {mr : MR_} {sh : SH_} {np nr : Nat} {nn : Nat → Nat} (hH : hs_ mr sh np nr nn) (f : Nat) (hf : f < 3) {cu : Option Nat} (hc : fc_ mr sh f cu) (o a b : Int32) (hb : ¬ lt_z o a b = 0) (hr : ir_ cu = 0) (nl : Nat) (hl : mi 3 f 6 = nI nl) (h8 : nl = 8) : hg_Det false yX5_line md_X5_line [hv_r (some (1, 0)), hv_i (nI f), hv_i o, hv_i a, hv_i b] (mi, ml, mr, sh) (some (hv_i (-4))) (mi, ml, mr, sh) := by
  intro Q hQ
  refine hg_intro rfl rfl rfl (Nat.le_of_ble_eq_true rfl) rfl ?_
  refine hg_aload_n (n := 1) dX5_line_0 rfl rfl ?_
  refine hg_iload_n (n := 2) dX5_line_1 rfl rfl ?_
  refine hg_callVd (n := 5) (c_X5_furnaceAt hH f hf) dX5_line_2 rfl mk_X5_83 yl_X5_furnaceAt yv_X5_furnaceAt rfl hH.1 (by decide) (by decide) rfl rfl (Nat.le_of_ble_eq_true rfl) (fun h => by cases h) ?_
  refine hg_astore (n := 7) dX5_line_5 rfl (by decide) rfl rfl ?_
  refine hg_aload (n := 9) dX5_line_7 rfl rfl ?_
  refine hg_ifnull (n := 12) (tgt := 22) dX5_line_9 rfl (by decide) (fun h9 => ?_) (fun q9 h9 => ?_)
  · cases h9
  · refine hg_iload_n (n := 13) dX5_line_12 rfl rfl ?_
    refine hg_iload_n (n := 14) dX5_line_13 rfl rfl ?_
    refine hg_iload (n := 16) dX5_line_14 rfl rfl ?_
    refine hg_callSd (n := 19) (c_X5_lineIsAsTold _ _ _) dX5_line_16 rfl mk_X5_87 yl_X5_lineIsAsTold ys_X5_lineIsAsTold (by decide) (by decide) rfl rfl (Nat.le_of_ble_eq_true rfl) (fun h => by cases h) ?_
    refine hg_if_ne (n := 22) (tgt := 25) dX5_line_19 rfl (by decide) (fun h19 => ?_) (fun h19 => ?_)
    · refine hg_aload (n := 27) dX5_line_25 rfl rfl ?_
      refine hg_callVd (n := 30) (c_X0_isRunning (hs_F hH hf) hc) dX5_line_27 rfl mk_X5_90 yl_X0_isRunning yv_X0_isRunning rfl (hs_F hH hf).1 (by decide) (by decide) rfl rfl (Nat.le_of_ble_eq_true rfl) (fun h => by cases h) ?_
      refine hg_if_eq (n := 33) (tgt := 36) dX5_line_30 rfl (by decide) (fun h30 => ?_) (fun h30 => ?_)
      · refine hg_aload (n := 38) dX5_line_36 rfl rfl ?_
        refine hg_iload_n (n := 39) dX5_line_38 rfl rfl ?_
        refine hg_iload_n (n := 40) dX5_line_39 rfl rfl ?_
        refine hg_iload (n := 42) dX5_line_40 rfl rfl ?_
        refine hg_callVd (n := 45) (c_X0_addLine_f (hs_F hH hf) _ _ _ nl hl h8) dX5_line_42 rfl mk_X5_94 yl_X0_addLine yv_X0_addLine rfl (hs_F hH hf).1 (by decide) (by decide) rfl rfl (Nat.le_of_ble_eq_true rfl) (fun h => by cases h) ?_
        refine hg_ireturn dX5_line_45 rfl ?_
        exact hQ
      · exact absurd hr h30
    · exact absurd h19 hb

set_option maxHeartbeats 4000000 in
set_option maxRecDepth 100000 in
theorem c_X5_line {mi : MI_} {ml : ML_} {mr : MR_} {sh : SH_} {np nr : Nat} {nn : Nat → Nat} (hH : hs_ mr sh np nr nn) (f : Nat) (hf : f < 3) {cu : Option Nat} (hc : fc_ mr sh f cu) (o a b : Int32) (hb : ¬ lt_z o a b = 0) (hr : ir_ cu = 0) (nl : Nat) (hl : mi 3 f 6 = nI nl) (h8 : nl < 8) : hg_Det false yX5_line md_X5_line [hv_r (some (1, 0)), hv_i (nI f), hv_i o, hv_i a, hv_i b] (mi, ml, mr, sh) (some (hv_i (nI (nl + 1)))) (al_m mi f nl o a b, ml, mr, sh) := by
  intro Q hQ
  refine hg_intro rfl rfl rfl (Nat.le_of_ble_eq_true rfl) rfl ?_
  refine hg_aload_n (n := 1) dX5_line_0 rfl rfl ?_
  refine hg_iload_n (n := 2) dX5_line_1 rfl rfl ?_
  refine hg_callVd (n := 5) (c_X5_furnaceAt hH f hf) dX5_line_2 rfl mk_X5_83 yl_X5_furnaceAt yv_X5_furnaceAt rfl hH.1 (by decide) (by decide) rfl rfl (Nat.le_of_ble_eq_true rfl) (fun h => by cases h) ?_
  refine hg_astore (n := 7) dX5_line_5 rfl (by decide) rfl rfl ?_
  refine hg_aload (n := 9) dX5_line_7 rfl rfl ?_
  refine hg_ifnull (n := 12) (tgt := 22) dX5_line_9 rfl (by decide) (fun h9 => ?_) (fun q9 h9 => ?_)
  · cases h9
  · refine hg_iload_n (n := 13) dX5_line_12 rfl rfl ?_
    refine hg_iload_n (n := 14) dX5_line_13 rfl rfl ?_
    refine hg_iload (n := 16) dX5_line_14 rfl rfl ?_
    refine hg_callSd (n := 19) (c_X5_lineIsAsTold _ _ _) dX5_line_16 rfl mk_X5_87 yl_X5_lineIsAsTold ys_X5_lineIsAsTold (by decide) (by decide) rfl rfl (Nat.le_of_ble_eq_true rfl) (fun h => by cases h) ?_
    refine hg_if_ne (n := 22) (tgt := 25) dX5_line_19 rfl (by decide) (fun h19 => ?_) (fun h19 => ?_)
    · refine hg_aload (n := 27) dX5_line_25 rfl rfl ?_
      refine hg_callVd (n := 30) (c_X0_isRunning (hs_F hH hf) hc) dX5_line_27 rfl mk_X5_90 yl_X0_isRunning yv_X0_isRunning rfl (hs_F hH hf).1 (by decide) (by decide) rfl rfl (Nat.le_of_ble_eq_true rfl) (fun h => by cases h) ?_
      refine hg_if_eq (n := 33) (tgt := 36) dX5_line_30 rfl (by decide) (fun h30 => ?_) (fun h30 => ?_)
      · refine hg_aload (n := 38) dX5_line_36 rfl rfl ?_
        refine hg_iload_n (n := 39) dX5_line_38 rfl rfl ?_
        refine hg_iload_n (n := 40) dX5_line_39 rfl rfl ?_
        refine hg_iload (n := 42) dX5_line_40 rfl rfl ?_
        refine hg_callVd (n := 45) (c_X0_addLine (hs_F hH hf) _ _ _ nl hl h8) dX5_line_42 rfl mk_X5_94 yl_X0_addLine yv_X0_addLine rfl (hs_F hH hf).1 (by decide) (by decide) rfl rfl (Nat.le_of_ble_eq_true rfl) (fun h => by cases h) ?_
        refine hg_ireturn dX5_line_45 rfl ?_
        exact hQ
      · exact absurd hr h30
    · exact absurd h19 hb

set_option maxHeartbeats 4000000 in
set_option maxRecDepth 100000 in
theorem c_X5_clear_b {mi : MI_} {ml : ML_} {mr : MR_} {sh : SH_} {np nr : Nat} {nn : Nat → Nat} (hH : hs_ mr sh np nr nn) (x : Int32) (hb : z_in x 0 2 = 0)  : hg_Det false yX5_clear md_X5_clear [hv_r (some (1, 0)), hv_i x] (mi, ml, mr, sh) (some (hv_i (-2))) (mi, ml, mr, sh) := by
  intro Q hQ
  refine hg_intro rfl rfl rfl (Nat.le_of_ble_eq_true rfl) rfl ?_
  refine hg_aload_n (n := 1) dX5_clear_0 rfl rfl ?_
  refine hg_iload_n (n := 2) dX5_clear_1 rfl rfl ?_
  refine hg_callVd (n := 5) (c_X5_furnaceAt_b hH _ hb) dX5_clear_2 rfl mk_X5_83 yl_X5_furnaceAt yv_X5_furnaceAt rfl hH.1 (by decide) (by decide) rfl rfl (Nat.le_of_ble_eq_true rfl) (fun h => by cases h) ?_
  refine hg_astore_n (n := 6) dX5_clear_5 rfl (by decide) rfl rfl ?_
  refine hg_aload_n (n := 7) dX5_clear_6 rfl rfl ?_
  refine hg_ifnonnull (n := 10) (tgt := 13) dX5_clear_7 rfl (by decide) (fun q7 h7 => ?_) (fun h7 => ?_)
  · cases h7
  · refine hg_bipush (n := 12) (v := -2) dX5_clear_10 rfl (by decide) ?_
    refine hg_ireturn dX5_clear_12 rfl ?_
    exact hQ

set_option maxHeartbeats 4000000 in
set_option maxRecDepth 100000 in
theorem c_X5_clear_n {mi : MI_} {ml : ML_} {mr : MR_} {sh : SH_} {np nr : Nat} {nn : Nat → Nat} (hH : hs_ mr sh np nr nn) (f : Nat) (hf : f < 3) {cu : Option Nat} (hc : fc_ mr sh f cu) (hr : ¬ ir_ cu = 0) : hg_Det false yX5_clear md_X5_clear [hv_r (some (1, 0)), hv_i (nI f)] (mi, ml, mr, sh) (some (hv_i (-3))) (mi, ml, mr, sh) := by
  intro Q hQ
  refine hg_intro rfl rfl rfl (Nat.le_of_ble_eq_true rfl) rfl ?_
  refine hg_aload_n (n := 1) dX5_clear_0 rfl rfl ?_
  refine hg_iload_n (n := 2) dX5_clear_1 rfl rfl ?_
  refine hg_callVd (n := 5) (c_X5_furnaceAt hH f hf) dX5_clear_2 rfl mk_X5_83 yl_X5_furnaceAt yv_X5_furnaceAt rfl hH.1 (by decide) (by decide) rfl rfl (Nat.le_of_ble_eq_true rfl) (fun h => by cases h) ?_
  refine hg_astore_n (n := 6) dX5_clear_5 rfl (by decide) rfl rfl ?_
  refine hg_aload_n (n := 7) dX5_clear_6 rfl rfl ?_
  refine hg_ifnonnull (n := 10) (tgt := 13) dX5_clear_7 rfl (by decide) (fun q7 h7 => ?_) (fun h7 => ?_)
  · refine hg_aload_n (n := 14) dX5_clear_13 rfl rfl ?_
    refine hg_callVd (n := 17) (c_X0_isRunning (hs_F hH hf) hc) dX5_clear_14 rfl mk_X5_90 yl_X0_isRunning yv_X0_isRunning rfl (hs_F hH hf).1 (by decide) (by decide) rfl rfl (Nat.le_of_ble_eq_true rfl) (fun h => by cases h) ?_
    refine hg_if_eq (n := 20) (tgt := 23) dX5_clear_17 rfl (by decide) (fun h17 => ?_) (fun h17 => ?_)
    · exact absurd h17 hr
    · refine hg_bipush (n := 22) (v := -3) dX5_clear_20 rfl (by decide) ?_
      refine hg_ireturn dX5_clear_22 rfl ?_
      exact hQ
  · cases h7

set_option maxHeartbeats 4000000 in
set_option maxRecDepth 100000 in
theorem c_X5_clear {mi : MI_} {ml : ML_} {mr : MR_} {sh : SH_} {np nr : Nat} {nn : Nat → Nat} (hH : hs_ mr sh np nr nn) (f : Nat) (hf : f < 3) {cu : Option Nat} (hc : fc_ mr sh f cu) (hr : ir_ cu = 0) : hg_Det false yX5_clear md_X5_clear [hv_r (some (1, 0)), hv_i (nI f)] (mi, ml, mr, sh) (some (hv_i (mi 3 f 6))) (u_3 mi 3 f 6 0, ml, mr, sh) := by
  intro Q hQ
  refine hg_intro rfl rfl rfl (Nat.le_of_ble_eq_true rfl) rfl ?_
  refine hg_aload_n (n := 1) dX5_clear_0 rfl rfl ?_
  refine hg_iload_n (n := 2) dX5_clear_1 rfl rfl ?_
  refine hg_callVd (n := 5) (c_X5_furnaceAt hH f hf) dX5_clear_2 rfl mk_X5_83 yl_X5_furnaceAt yv_X5_furnaceAt rfl hH.1 (by decide) (by decide) rfl rfl (Nat.le_of_ble_eq_true rfl) (fun h => by cases h) ?_
  refine hg_astore_n (n := 6) dX5_clear_5 rfl (by decide) rfl rfl ?_
  refine hg_aload_n (n := 7) dX5_clear_6 rfl rfl ?_
  refine hg_ifnonnull (n := 10) (tgt := 13) dX5_clear_7 rfl (by decide) (fun q7 h7 => ?_) (fun h7 => ?_)
  · refine hg_aload_n (n := 14) dX5_clear_13 rfl rfl ?_
    refine hg_callVd (n := 17) (c_X0_isRunning (hs_F hH hf) hc) dX5_clear_14 rfl mk_X5_90 yl_X0_isRunning yv_X0_isRunning rfl (hs_F hH hf).1 (by decide) (by decide) rfl rfl (Nat.le_of_ble_eq_true rfl) (fun h => by cases h) ?_
    refine hg_if_eq (n := 20) (tgt := 23) dX5_clear_17 rfl (by decide) (fun h17 => ?_) (fun h17 => ?_)
    · refine hg_aload_n (n := 24) dX5_clear_23 rfl rfl ?_
      refine hg_getI (n := 27) dX5_clear_24 rfl fl_X5_98 rfl rfl (hs_F hH hf).1 ?_
      refine hg_istore_n (n := 28) dX5_clear_27 rfl (by decide) rfl rfl ?_
      refine hg_aload_n (n := 29) dX5_clear_28 rfl rfl ?_
      refine hg_iconst (n := 30) (v := 0) dX5_clear_29 rfl (by decide) ?_
      refine hg_putI (n := 33) dX5_clear_30 rfl fl_X5_98 rfl rfl (hs_F hH hf).1 ?_
      refine hg_iload_n (n := 34) dX5_clear_33 rfl rfl ?_
      refine hg_ireturn dX5_clear_34 rfl ?_
      exact hQ
    · exact absurd hr h17
  · cases h7

