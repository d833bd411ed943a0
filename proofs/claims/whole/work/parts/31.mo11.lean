set_option maxHeartbeats 4000000 in
set_option maxRecDepth 100000 in
theorem c_X6_job_b {mi : MI_} {ml : ML_} {mr : MR_} {sh : SH_} (hM : mo_ mr sh) (a b : Int32) (hb : z_in a 1 1000 = 0 ∨ z_in b 0 10000 = 0) : hg_Det false yX6_job md_X6_job [hv_r (some (7, 0)), hv_i a, hv_i b] (mi, ml, mr, sh) (some (hv_i (-2))) (mi, ml, mr, sh) := by
  intro Q hQ
  refine hg_intro rfl rfl rfl (Nat.le_of_ble_eq_true rfl) rfl ?_
  refine hg_iload_n (n := 1) dX6_job_0 rfl rfl ?_
  refine hg_iconst (n := 2) (v := 1) dX6_job_1 rfl (by decide) ?_
  refine hg_sipush (n := 5) (v := 1000) dX6_job_2 rfl (by decide) ?_
  refine hg_callSd (n := 8) (c_X6_in _ _ _ _) dX6_job_5 rfl mk_X6_1 yl_X6_in ys_X6_in (by decide) (by decide) rfl rfl (Nat.le_of_ble_eq_true rfl) (fun h => by cases h) ?_
  refine hg_if_eq (n := 11) (tgt := 22) dX6_job_8 rfl (by decide) (fun h8 => ?_) (fun h8 => ?_)
  · refine hg_bipush (n := 24) (v := -2) dX6_job_22 rfl (by decide) ?_
    refine hg_ireturn dX6_job_24 rfl ?_
    exact hQ
  · refine hg_iload_n (n := 12) dX6_job_11 rfl rfl ?_
    refine hg_iconst (n := 13) (v := 0) dX6_job_12 rfl (by decide) ?_
    refine hg_sipush (n := 16) (v := 10000) dX6_job_13 rfl (by decide) ?_
    refine hg_callSd (n := 19) (c_X6_in _ _ _ _) dX6_job_16 rfl mk_X6_1 yl_X6_in ys_X6_in (by decide) (by decide) rfl rfl (Nat.le_of_ble_eq_true rfl) (fun h => by cases h) ?_
    refine hg_if_ne (n := 22) (tgt := 25) dX6_job_19 rfl (by decide) (fun h19 => ?_) (fun h19 => ?_)
    · exact absurd hb (by simp [h8, h19])
    · refine hg_bipush (n := 24) (v := -2) dX6_job_22 rfl (by decide) ?_
      refine hg_ireturn dX6_job_24 rfl ?_
      exact hQ

set_option maxHeartbeats 4000000 in
set_option maxRecDepth 100000 in
theorem c_X6_job_f {mi : MI_} {ml : ML_} {mr : MR_} {sh : SH_} (hM : mo_ mr sh) (a b : Int32) (hb : ¬ (z_in a 1 1000 = 0 ∨ z_in b 0 10000 = 0)) (h7 : mi 7 0 35 = 7) : hg_Det false yX6_job md_X6_job [hv_r (some (7, 0)), hv_i a, hv_i b] (mi, ml, mr, sh) (some (hv_i (-4))) (mi, ml, mr, sh) := by
  intro Q hQ
  refine hg_intro rfl rfl rfl (Nat.le_of_ble_eq_true rfl) rfl ?_
  refine hg_iload_n (n := 1) dX6_job_0 rfl rfl ?_
  refine hg_iconst (n := 2) (v := 1) dX6_job_1 rfl (by decide) ?_
  refine hg_sipush (n := 5) (v := 1000) dX6_job_2 rfl (by decide) ?_
  refine hg_callSd (n := 8) (c_X6_in _ _ _ _) dX6_job_5 rfl mk_X6_1 yl_X6_in ys_X6_in (by decide) (by decide) rfl rfl (Nat.le_of_ble_eq_true rfl) (fun h => by cases h) ?_
  refine hg_if_eq (n := 11) (tgt := 22) dX6_job_8 rfl (by decide) (fun h8 => ?_) (fun h8 => ?_)
  · exact absurd (Or.inl h8) hb
  · refine hg_iload_n (n := 12) dX6_job_11 rfl rfl ?_
    refine hg_iconst (n := 13) (v := 0) dX6_job_12 rfl (by decide) ?_
    refine hg_sipush (n := 16) (v := 10000) dX6_job_13 rfl (by decide) ?_
    refine hg_callSd (n := 19) (c_X6_in _ _ _ _) dX6_job_16 rfl mk_X6_1 yl_X6_in ys_X6_in (by decide) (by decide) rfl rfl (Nat.le_of_ble_eq_true rfl) (fun h => by cases h) ?_
    refine hg_if_ne (n := 22) (tgt := 25) dX6_job_19 rfl (by decide) (fun h19 => ?_) (fun h19 => ?_)
    · refine hg_aload_n (n := 26) dX6_job_25 rfl rfl ?_
      refine hg_getI (n := 29) dX6_job_26 rfl fl_X6_183 rfl rfl (mo_s hM) ?_
      refine hg_bipush (n := 31) (v := 7) dX6_job_29 rfl (by decide) ?_
      refine hg_icmp_ne (n := 34) (tgt := 37) dX6_job_31 rfl (by decide) (fun h31 => ?_) (fun h31 => ?_)
      · exact absurd h7 h31
      · refine hg_bipush (n := 36) (v := -4) dX6_job_34 rfl (by decide) ?_
        refine hg_ireturn dX6_job_36 rfl ?_
        exact hQ
    · exact absurd (Or.inr h19) hb

def jb_2 (X : MI_) (nj : Nat) (a b : Int32) : MI_ := u_3 (u_3 X 66 0 nj a) 67 0 nj b
def jb_m (X : MI_) (nj : Nat) (a b : Int32) : MI_ := u_3 (jb_2 X nj a b) 7 0 35 (jb_2 X nj a b 7 0 35 + 1)
set_option maxHeartbeats 4000000 in
set_option maxRecDepth 100000 in
theorem c_X6_job {mi : MI_} {ml : ML_} {mr : MR_} {sh : SH_} (hM : mo_ mr sh) (a b : Int32) (hb : ¬ (z_in a 1 1000 = 0 ∨ z_in b 0 10000 = 0)) (nj : Nat) (hnj : mi 7 0 35 = nI nj) (h7 : nj < 7) : hg_Det false yX6_job md_X6_job [hv_r (some (7, 0)), hv_i a, hv_i b] (mi, ml, mr, sh) (some (hv_i (jb_m mi nj a b 7 0 35 - 1))) (jb_m mi nj a b, ml, mr, sh) := by
  intro Q hQ
  refine hg_intro rfl rfl rfl (Nat.le_of_ble_eq_true rfl) rfl ?_
  refine hg_iload_n (n := 1) dX6_job_0 rfl rfl ?_
  refine hg_iconst (n := 2) (v := 1) dX6_job_1 rfl (by decide) ?_
  refine hg_sipush (n := 5) (v := 1000) dX6_job_2 rfl (by decide) ?_
  refine hg_callSd (n := 8) (c_X6_in _ _ _ _) dX6_job_5 rfl mk_X6_1 yl_X6_in ys_X6_in (by decide) (by decide) rfl rfl (Nat.le_of_ble_eq_true rfl) (fun h => by cases h) ?_
  refine hg_if_eq (n := 11) (tgt := 22) dX6_job_8 rfl (by decide) (fun h8 => ?_) (fun h8 => ?_)
  · exact absurd (Or.inl h8) hb
  · refine hg_iload_n (n := 12) dX6_job_11 rfl rfl ?_
    refine hg_iconst (n := 13) (v := 0) dX6_job_12 rfl (by decide) ?_
    refine hg_sipush (n := 16) (v := 10000) dX6_job_13 rfl (by decide) ?_
    refine hg_callSd (n := 19) (c_X6_in _ _ _ _) dX6_job_16 rfl mk_X6_1 yl_X6_in ys_X6_in (by decide) (by decide) rfl rfl (Nat.le_of_ble_eq_true rfl) (fun h => by cases h) ?_
    refine hg_if_ne (n := 22) (tgt := 25) dX6_job_19 rfl (by decide) (fun h19 => ?_) (fun h19 => ?_)
    · refine hg_aload_n (n := 26) dX6_job_25 rfl rfl ?_
      refine hg_getN (n := 29) (nj) dX6_job_26 rfl fl_X6_183 rfl rfl (mo_s hM) hnj ?_
      refine hg_bipush (n := 31) (v := 7) dX6_job_29 rfl (by decide) ?_
      refine hg_icmp_neN (n := 34) (tgt := 37) (nj) (7) dX6_job_31 rfl (by decide) (by omega) (by omega) (fun h31 => ?_) (fun h31 => ?_)
      · refine hg_aload_n (n := 38) dX6_job_37 rfl rfl ?_
        refine hg_getR (n := 41) (r := some (66, 0)) dX6_job_38 rfl fl_X6_144 rfl rfl (mo_s hM) (mo_r hM 36 (by decide)) ?_
        refine hg_aload_n (n := 42) dX6_job_41 rfl rfl ?_
        refine hg_getN (n := 45) (nj) dX6_job_42 rfl fl_X6_183 rfl rfl (mo_s hM) hnj ?_
        refine hg_iload_n (n := 46) dX6_job_45 rfl rfl ?_
        refine hg_iastore (n := 47) (len := 7) (nj) dX6_job_46 rfl (by decide) rfl (mo_a hM 36 (by decide)) rfl (by omega) (by decide) ?_
        refine hg_aload_n (n := 48) dX6_job_47 rfl rfl ?_
        refine hg_getR (n := 51) (r := some (67, 0)) dX6_job_48 rfl fl_X6_147 rfl rfl (mo_s hM) (mo_r hM 37 (by decide)) ?_
        refine hg_aload_n (n := 52) dX6_job_51 rfl rfl ?_
        refine hg_getN (n := 55) (nj) dX6_job_52 rfl fl_X6_183 rfl rfl (mo_s hM) ((u_3_k (by decide)).trans hnj) ?_
        refine hg_iload_n (n := 56) dX6_job_55 rfl rfl ?_
        refine hg_iastore (n := 57) (len := 7) (nj) dX6_job_56 rfl (by decide) rfl (mo_a hM 37 (by decide)) rfl (by omega) (by decide) ?_
        refine hg_aload_n (n := 58) dX6_job_57 rfl rfl ?_
        refine hg_dup (n := 59) dX6_job_58 rfl rfl ?_
        refine hg_getI (n := 62) dX6_job_59 rfl fl_X6_183 rfl rfl (mo_s hM) ?_
        refine hg_iconst (n := 63) (v := 1) dX6_job_62 rfl (by decide) ?_
        refine hg_iadd (n := 64) dX6_job_63 rfl ?_
        refine hg_putI (n := 67) dX6_job_64 rfl fl_X6_183 rfl rfl (mo_s hM) ?_
        refine hg_aload_n (n := 68) dX6_job_67 rfl rfl ?_
        refine hg_getI (n := 71) dX6_job_68 rfl fl_X6_183 rfl rfl (mo_s hM) ?_
        refine hg_iconst (n := 72) (v := 1) dX6_job_71 rfl (by decide) ?_
        refine hg_isub (n := 73) dX6_job_72 rfl ?_
        refine hg_ireturn dX6_job_73 rfl ?_
        exact hQ
      · exact absurd h31 (by omega)
    · exact absurd (Or.inr h19) hb

set_option maxHeartbeats 4000000 in
set_option maxRecDepth 100000 in
theorem c_X6_clearJobs {mi : MI_} {ml : ML_} {mr : MR_} {sh : SH_} (hM : mo_ mr sh)  : hg_Det false yX6_clearJobs md_X6_clearJobs [hv_r (some (7, 0))] (mi, ml, mr, sh) (some (hv_i (mi 7 0 35))) (u_3 mi 7 0 35 0, ml, mr, sh) := by
  intro Q hQ
  refine hg_intro rfl rfl rfl (Nat.le_of_ble_eq_true rfl) rfl ?_
  refine hg_aload_n (n := 1) dX6_clearJobs_0 rfl rfl ?_
  refine hg_getI (n := 4) dX6_clearJobs_1 rfl fl_X6_183 rfl rfl (mo_s hM) ?_
  refine hg_istore_n (n := 5) dX6_clearJobs_4 rfl (by decide) rfl rfl ?_
  refine hg_aload_n (n := 6) dX6_clearJobs_5 rfl rfl ?_
  refine hg_iconst (n := 7) (v := 0) dX6_clearJobs_6 rfl (by decide) ?_
  refine hg_putI (n := 10) dX6_clearJobs_7 rfl fl_X6_183 rfl rfl (mo_s hM) ?_
  refine hg_iload_n (n := 11) dX6_clearJobs_10 rfl rfl ?_
  refine hg_ireturn dX6_clearJobs_11 rfl ?_
  exact hQ

def en_ (X : MI_) (d k : Nat) : Nat → Int32
  | 0 => X 66 0 k
  | c + 1 => en_ X d k c + (if d / 2 ^ c % 2 = 1 then X 66 0 c else 0)
def lb_ (X : MI_) (nj d k : Nat) : Int32 := if en_ X d k nj ≤ X 67 0 k then 0 else en_ X d k nj - X 67 0 k
set_option maxHeartbeats 4000000 in
set_option maxRecDepth 100000 in
theorem c_X6_lateBy {mi : MI_} {ml : ML_} {mr : MR_} {sh : SH_} (hM : mo_ mr sh) (nj : Nat) (hnj : mi 7 0 35 = nI nj) (hnj7 : nj ≤ 7) (d k : Nat) (hd : d < 128) (hk : k < 7) : hg_Det false yX6_lateBy md_X6_lateBy [hv_r (some (7, 0)), hv_i (nI d), hv_i (nI k)] (mi, ml, mr, sh) (some (hv_i (lb_ mi nj d k))) (mi, ml, mr, sh) := by
  intro Q hQ
  refine hg_intro rfl rfl rfl (Nat.le_of_ble_eq_true rfl) rfl ?_
  have loop : ∀ m c, c + m = nj → hg_G md_X6_lateBy false sh Q 0 0 10 [some (hv_r (some (7, 0))), some (hv_i (nI d)), some (hv_i (nI k)), some (hv_i (en_ mi d k c)), some (hv_i (nI c))] [] (mi, ml, mr, sh) := by
    intro m
    induction m with
    | zero =>
      intro c hc
      refine hg_iload (n := 12) dX6_lateBy_10 rfl rfl ?_
      refine hg_aload_n (n := 13) dX6_lateBy_12 rfl rfl ?_
      refine hg_getN (n := 16) (nj) dX6_lateBy_13 rfl fl_X6_183 rfl rfl (mo_s hM) hnj ?_
      refine hg_icmp_geN (n := 19) (tgt := 49) (c) (nj) dX6_lateBy_16 rfl (by decide) (by omega) (by omega) (fun h16 => ?_) (fun h16 => ?_)
      · have e := show c = nj by omega
        subst e
        refine hg_iload_n (n := 50) dX6_lateBy_49 rfl rfl ?_
        refine hg_aload_n (n := 51) dX6_lateBy_50 rfl rfl ?_
        refine hg_getR (n := 54) (r := some (67, 0)) dX6_lateBy_51 rfl fl_X6_147 rfl rfl (mo_s hM) (mo_r hM 37 (by decide)) ?_
        refine hg_iload_n (n := 55) dX6_lateBy_54 rfl rfl ?_
        refine hg_iaload (n := 56) (len := 7) (k) dX6_lateBy_55 rfl (by decide) rfl (mo_a hM 37 (by decide)) rfl (by omega) (by decide) ?_
        refine hg_icmp_le (n := 59) (tgt := 70) dX6_lateBy_56 rfl (by decide) (fun h56 => ?_) (fun h56 => ?_)
        · refine hg_iconst (n := 71) (v := 0) dX6_lateBy_70 rfl (by decide) ?_
          refine hg_ireturn dX6_lateBy_71 rfl ?_
          unfold lb_ at hQ
          rw [if_pos h56] at hQ
          exact hQ
        · refine hg_iload_n (n := 60) dX6_lateBy_59 rfl rfl ?_
          refine hg_aload_n (n := 61) dX6_lateBy_60 rfl rfl ?_
          refine hg_getR (n := 64) (r := some (67, 0)) dX6_lateBy_61 rfl fl_X6_147 rfl rfl (mo_s hM) (mo_r hM 37 (by decide)) ?_
          refine hg_iload_n (n := 65) dX6_lateBy_64 rfl rfl ?_
          refine hg_iaload (n := 66) (len := 7) (k) dX6_lateBy_65 rfl (by decide) rfl (mo_a hM 37 (by decide)) rfl (by omega) (by decide) ?_
          refine hg_isub (n := 67) dX6_lateBy_66 rfl ?_
          refine hg_goto (tgt := 71) dX6_lateBy_67 (by decide) ?_
          refine hg_ireturn dX6_lateBy_71 rfl ?_
          unfold lb_ at hQ
          rw [if_neg h56] at hQ
          exact hQ
      · exact absurd h16 (by omega)
    | succ m ih =>
      intro c hc
      have hdc := q_div (k := c) hd
      refine hg_iload (n := 12) dX6_lateBy_10 rfl rfl ?_
      refine hg_aload_n (n := 13) dX6_lateBy_12 rfl rfl ?_
      refine hg_getN (n := 16) (nj) dX6_lateBy_13 rfl fl_X6_183 rfl rfl (mo_s hM) hnj ?_
      refine hg_icmp_geN (n := 19) (tgt := 49) (c) (nj) dX6_lateBy_16 rfl (by decide) (by omega) (by omega) (fun h16 => ?_) (fun h16 => ?_)
      · exact absurd h16 (by omega)
      · refine hg_iload_n (n := 20) dX6_lateBy_19 rfl rfl ?_
        refine hg_iload_n (n := 21) dX6_lateBy_20 rfl rfl ?_
        refine hg_iload (n := 23) dX6_lateBy_21 rfl rfl ?_
        refine hg_ishrN (n := 24) (d) (c) dX6_lateBy_23 rfl (by omega) (by omega) ?_
        refine hg_iconst (n := 25) (v := 1) dX6_lateBy_24 rfl (by decide) ?_
        refine hg_iand1N (n := 26) (d / 2 ^ c) dX6_lateBy_25 rfl (by omega) ?_
        refine hg_iconst (n := 27) (v := 1) dX6_lateBy_26 rfl (by decide) ?_
        refine hg_icmp_neN (n := 30) (tgt := 40) (d / 2 ^ c % 2) (1) dX6_lateBy_27 rfl (by decide) (by omega) (by omega) (fun h27 => ?_) (fun h27 => ?_)
        · refine hg_iconst (n := 41) (v := 0) dX6_lateBy_40 rfl (by decide) ?_
          refine hg_iadd (n := 42) dX6_lateBy_41 rfl ?_
          refine hg_topI (z := en_ mi d k (c + 1)) (by rw [en_, if_neg h27]) ?_
          refine hg_istore_n (n := 43) dX6_lateBy_42 rfl (by decide) rfl rfl ?_
          refine hg_iincN (n := 46) (c) 1 dX6_lateBy_43 rfl rfl (by decide) (by decide) rfl rfl ?_
          refine hg_goto (tgt := 10) dX6_lateBy_46 (by decide) ?_
          exact ih (c + 1) (by omega)
        · refine hg_aload_n (n := 31) dX6_lateBy_30 rfl rfl ?_
          refine hg_getR (n := 34) (r := some (66, 0)) dX6_lateBy_31 rfl fl_X6_144 rfl rfl (mo_s hM) (mo_r hM 36 (by decide)) ?_
          refine hg_iload (n := 36) dX6_lateBy_34 rfl rfl ?_
          refine hg_iaload (n := 37) (len := 7) (c) dX6_lateBy_36 rfl (by decide) rfl (mo_a hM 36 (by decide)) rfl (by omega) (by decide) ?_
          refine hg_goto (tgt := 41) dX6_lateBy_37 (by decide) ?_
          refine hg_iadd (n := 42) dX6_lateBy_41 rfl ?_
          refine hg_topI (z := en_ mi d k (c + 1)) (by rw [en_, if_pos h27]) ?_
          refine hg_istore_n (n := 43) dX6_lateBy_42 rfl (by decide) rfl rfl ?_
          refine hg_iincN (n := 46) (c) 1 dX6_lateBy_43 rfl rfl (by decide) (by decide) rfl rfl ?_
          refine hg_goto (tgt := 10) dX6_lateBy_46 (by decide) ?_
          exact ih (c + 1) (by omega)
  refine hg_aload_n (n := 1) dX6_lateBy_0 rfl rfl ?_
  refine hg_getR (n := 4) (r := some (66, 0)) dX6_lateBy_1 rfl fl_X6_144 rfl rfl (mo_s hM) (mo_r hM 36 (by decide)) ?_
  refine hg_iload_n (n := 5) dX6_lateBy_4 rfl rfl ?_
  refine hg_iaload (n := 6) (len := 7) (k) dX6_lateBy_5 rfl (by decide) rfl (mo_a hM 36 (by decide)) rfl (by omega) (by decide) ?_
  refine hg_istore_n (n := 7) dX6_lateBy_6 rfl (by decide) rfl rfl ?_
  refine hg_iconst (n := 8) (v := 0) dX6_lateBy_7 rfl (by decide) ?_
  refine hg_istore (n := 10) dX6_lateBy_8 rfl (by decide) rfl rfl ?_
  exact loop nj 0 (by omega)

def by_ (X : MI_) (nj d k : Nat) : Int32 := if d / 2 ^ k % 2 = 1 then 1000000 else lb_ X nj d k + X 68 0 (d ||| 2 ^ k)
def wk_ (X : MI_) (nj d : Nat) : Nat → MI_
  | 0 => X
  | k + 1 => u_3 (wk_ X nj d k) 68 0 d (if wk_ X nj d k 68 0 d ≤ by_ (wk_ X nj d k) nj d k then wk_ X nj d k 68 0 d else by_ (wk_ X nj d k) nj d k)
def wg_ (X : MI_) (nj : Nat) : Nat → MI_
  | 0 => X
  | c + 1 => wk_ (u_3 (wg_ X nj c) 68 0 (2 ^ nj - 1 - c) (if c = 0 then 0 else 1000000)) nj (2 ^ nj - 1 - c) nj
theorem wk_k {X : MI_} {nj d k i j : Nat} (h : k ≠ 68) : ∀ c, wk_ X nj d c k i j = X k i j
  | 0 => rfl
  | c + 1 => (u_3_k h).trans (wk_k h c)
theorem wg_k {X : MI_} {nj k i j : Nat} (h : k ≠ 68) : ∀ c, wg_ X nj c k i j = X k i j
  | 0 => rfl
  | c + 1 => by rw [wg_, wk_k h, u_3_k h, wg_k h c]
set_option maxHeartbeats 4000000 in
set_option maxRecDepth 100000 in
theorem c_X6_weigh {mi : MI_} {ml : ML_} {mr : MR_} {sh : SH_} (hM : mo_ mr sh) (nj : Nat) (hnj : mi 7 0 35 = nI nj) (hnj7 : nj ≤ 7)  : hg_Det false yX6_weigh md_X6_weigh [hv_r (some (7, 0))] (mi, ml, mr, sh) none (wg_ mi nj (2 ^ nj), ml, mr, sh) := by
  intro Q hQ
  refine hg_intro rfl rfl rfl (Nat.le_of_ble_eq_true rfl) rfl ?_
  have l1 : ∀ m c, m + c = 2 ^ nj → hg_G md_X6_weigh false sh Q 0 0 11 [some (hv_r (some (7, 0))), some (hv_i (nI (2 ^ nj - 1))), some (hv_i (nI m + (-1))), none, none] [] (wg_ mi nj c, ml, mr, sh) := by
    intro m
    induction m with
    | zero =>
      intro c hc
      refine hg_iload_n (n := 12) dX6_weigh_11 rfl rfl ?_
      refine hg_if_lt (n := 15) (tgt := 115) dX6_weigh_12 rfl (by decide) (fun h12 => ?_) (fun h12 => ?_)
      · refine hg_return dX6_weigh_115 rfl ?_
        have e := show c = 2 ^ nj by omega
        subst e
        exact hQ
      · exact absurd (by decide) h12
    | succ m ih0 =>
      intro c hc
      have hp7 := q_pow hnj7
      have hm9 : 2 ^ nj - 1 - c = m := by omega
      rw [pk_m1]
      have l2 : ∀ r k, k + r = nj → hg_G md_X6_weigh false sh Q 0 0 34 [some (hv_r (some (7, 0))), some (hv_i (nI (2 ^ nj - 1))), some (hv_i (nI m)), some (hv_i (nI k)), none] [] (wk_ (u_3 (wg_ mi nj c) 68 0 m (if c = 0 then 0 else 1000000)) nj m k, ml, mr, sh) := by
        intro r
        induction r with
        | zero =>
          intro k hk
          refine hg_iload_n (n := 35) dX6_weigh_34 rfl rfl ?_
          refine hg_aload_n (n := 36) dX6_weigh_35 rfl rfl ?_
          refine hg_getN (n := 39) (nj) dX6_weigh_36 rfl fl_X6_183 rfl rfl (mo_s hM) ((wk_k (by decide) k).trans ((u_3_k (by decide)).trans ((wg_k (by decide) c).trans hnj))) ?_
          refine hg_icmp_geN (n := 42) (tgt := 109) (k) (nj) dX6_weigh_39 rfl (by decide) (by omega) (by omega) (fun h39 => ?_) (fun h39 => ?_)
          · have e := show k = nj by omega
            subst e
            refine hg_iincI (n := 112) (-1) dX6_weigh_109 rfl rfl (by decide) (by decide) rfl rfl ?_
            refine hg_goto (tgt := 11) dX6_weigh_112 (by decide) ?_
            refine hg_ls (hg_memo ?_ (ih0 (c + 1) (by omega))) ⟨rfl, rfl, rfl, trivial⟩
            rw [wg_, hm9]
          · exact absurd h39 (by omega)
        | succ r ih =>
          intro k hk
          have hdk := q_div (k := k) (show m < 128 by omega)
          have s75 : hg_G md_X6_weigh false sh Q 0 0 75 [some (hv_r (some (7, 0))), some (hv_i (nI (2 ^ nj - 1))), some (hv_i (nI m)), some (hv_i (nI k)), some (hv_i (by_ (wk_ (u_3 (wg_ mi nj c) 68 0 m (if c = 0 then 0 else 1000000)) nj m k) nj m k))] [] (wk_ (u_3 (wg_ mi nj c) 68 0 m (if c = 0 then 0 else 1000000)) nj m k, ml, mr, sh) := by
            refine hg_aload_n (n := 76) dX6_weigh_75 rfl rfl ?_
            refine hg_getR (n := 79) (r := some (68, 0)) dX6_weigh_76 rfl fl_X6_150 rfl rfl (mo_s hM) (mo_r hM 38 (by decide)) ?_
            refine hg_iload_n (n := 80) dX6_weigh_79 rfl rfl ?_
            refine hg_iload (n := 82) dX6_weigh_80 rfl rfl ?_
            refine hg_aload_n (n := 83) dX6_weigh_82 rfl rfl ?_
            refine hg_getR (n := 86) (r := some (68, 0)) dX6_weigh_83 rfl fl_X6_150 rfl rfl (mo_s hM) (mo_r hM 38 (by decide)) ?_
            refine hg_iload_n (n := 87) dX6_weigh_86 rfl rfl ?_
            refine hg_iaload (n := 88) (len := 128) (m) dX6_weigh_87 rfl (by decide) rfl (mo_a hM 38 (by decide)) rfl (by omega) (by decide) ?_
            refine hg_icmp_ge (n := 91) (tgt := 96) dX6_weigh_88 rfl (by decide) (fun h88 => ?_) (fun h88 => ?_)
            · refine hg_aload_n (n := 97) dX6_weigh_96 rfl rfl ?_
              refine hg_getR (n := 100) (r := some (68, 0)) dX6_weigh_97 rfl fl_X6_150 rfl rfl (mo_s hM) (mo_r hM 38 (by decide)) ?_
              refine hg_iload_n (n := 101) dX6_weigh_100 rfl rfl ?_
              refine hg_iaload (n := 102) (len := 128) (m) dX6_weigh_101 rfl (by decide) rfl (mo_a hM 38 (by decide)) rfl (by omega) (by decide) ?_
              refine hg_topI (z := (if wk_ (u_3 (wg_ mi nj c) 68 0 m (if c = 0 then 0 else 1000000)) nj m k 68 0 m ≤ by_ (wk_ (u_3 (wg_ mi nj c) 68 0 m (if c = 0 then 0 else 1000000)) nj m k) nj m k then wk_ (u_3 (wg_ mi nj c) 68 0 m (if c = 0 then 0 else 1000000)) nj m k 68 0 m else by_ (wk_ (u_3 (wg_ mi nj c) 68 0 m (if c = 0 then 0 else 1000000)) nj m k) nj m k)) (by rw [if_pos h88]) ?_
              refine hg_iastore (n := 103) (len := 128) (m) dX6_weigh_102 rfl (by decide) rfl (mo_a hM 38 (by decide)) rfl (by omega) (by decide) ?_
              refine hg_iincN (n := 106) (k) 1 dX6_weigh_103 rfl rfl (by decide) (by decide) rfl rfl ?_
              refine hg_goto (tgt := 34) dX6_weigh_106 (by decide) ?_
              exact hg_ls (ih (k + 1) (by omega)) ⟨rfl, rfl, rfl, rfl, trivial⟩
            · refine hg_iload (n := 93) dX6_weigh_91 rfl rfl ?_
              refine hg_goto (tgt := 102) dX6_weigh_93 (by decide) ?_
              refine hg_topI (z := (if wk_ (u_3 (wg_ mi nj c) 68 0 m (if c = 0 then 0 else 1000000)) nj m k 68 0 m ≤ by_ (wk_ (u_3 (wg_ mi nj c) 68 0 m (if c = 0 then 0 else 1000000)) nj m k) nj m k then wk_ (u_3 (wg_ mi nj c) 68 0 m (if c = 0 then 0 else 1000000)) nj m k 68 0 m else by_ (wk_ (u_3 (wg_ mi nj c) 68 0 m (if c = 0 then 0 else 1000000)) nj m k) nj m k)) (by rw [if_neg h88]) ?_
              refine hg_iastore (n := 103) (len := 128) (m) dX6_weigh_102 rfl (by decide) rfl (mo_a hM 38 (by decide)) rfl (by omega) (by decide) ?_
              refine hg_iincN (n := 106) (k) 1 dX6_weigh_103 rfl rfl (by decide) (by decide) rfl rfl ?_
              refine hg_goto (tgt := 34) dX6_weigh_106 (by decide) ?_
              exact hg_ls (ih (k + 1) (by omega)) ⟨rfl, rfl, rfl, rfl, trivial⟩
          refine hg_iload_n (n := 35) dX6_weigh_34 rfl rfl ?_
          refine hg_aload_n (n := 36) dX6_weigh_35 rfl rfl ?_
          refine hg_getN (n := 39) (nj) dX6_weigh_36 rfl fl_X6_183 rfl rfl (mo_s hM) ((wk_k (by decide) k).trans ((u_3_k (by decide)).trans ((wg_k (by decide) c).trans hnj))) ?_
          refine hg_icmp_geN (n := 42) (tgt := 109) (k) (nj) dX6_weigh_39 rfl (by decide) (by omega) (by omega) (fun h39 => ?_) (fun h39 => ?_)
          · exact absurd h39 (by omega)
          · refine hg_iload_n (n := 43) dX6_weigh_42 rfl rfl ?_
            refine hg_iload_n (n := 44) dX6_weigh_43 rfl rfl ?_
            refine hg_ishrN (n := 45) (m) (k) dX6_weigh_44 rfl (by omega) (by omega) ?_
            refine hg_iconst (n := 46) (v := 1) dX6_weigh_45 rfl (by decide) ?_
            refine hg_iand1N (n := 47) (m / 2 ^ k) dX6_weigh_46 rfl (by omega) ?_
            refine hg_iconst (n := 48) (v := 1) dX6_weigh_47 rfl (by decide) ?_
            refine hg_icmp_neN (n := 51) (tgt := 56) (m / 2 ^ k % 2) (1) dX6_weigh_48 rfl (by decide) (by omega) (by omega) (fun h48 => ?_) (fun h48 => ?_)
            · refine hg_aload_n (n := 57) dX6_weigh_56 rfl rfl ?_
              refine hg_iload_n (n := 58) dX6_weigh_57 rfl rfl ?_
              refine hg_iload_n (n := 59) dX6_weigh_58 rfl rfl ?_
              refine hg_callVd (n := 62) (c_X6_lateBy hM nj ((wk_k (by decide) k).trans ((u_3_k (by decide)).trans ((wg_k (by decide) c).trans hnj))) hnj7 (m) (k) (by omega) (by omega)) dX6_weigh_59 rfl mk_X6_187 yl_X6_lateBy yv_X6_lateBy rfl (mo_s hM) (by decide) (by decide) rfl rfl (Nat.le_of_ble_eq_true rfl) (fun h => by cases h) ?_
              refine hg_aload_n (n := 63) dX6_weigh_62 rfl rfl ?_
              refine hg_getR (n := 66) (r := some (68, 0)) dX6_weigh_63 rfl fl_X6_150 rfl rfl (mo_s hM) (mo_r hM 38 (by decide)) ?_
              refine hg_iload_n (n := 67) dX6_weigh_66 rfl rfl ?_
              refine hg_iconst (n := 68) (v := 1) dX6_weigh_67 rfl (by decide) ?_
              refine hg_iload_n (n := 69) dX6_weigh_68 rfl rfl ?_
              refine hg_ishl1 (n := 70) (k) dX6_weigh_69 rfl (by omega) ?_
              refine hg_iorN (n := 71) (m) (2 ^ (k)) dX6_weigh_70 rfl ?_
              refine hg_iaload (n := 72) (len := 128) (m ||| 2 ^ (k)) dX6_weigh_71 rfl (by decide) rfl (mo_a hM 38 (by decide)) rfl (or_lt7 (by omega) (by omega)) (by decide) ?_
              refine hg_iadd (n := 73) dX6_weigh_72 rfl ?_
              refine hg_topI (z := by_ (wk_ (u_3 (wg_ mi nj c) 68 0 m (if c = 0 then 0 else 1000000)) nj m k) nj m k) (by unfold by_; rw [if_neg h48]) ?_
              refine hg_istore (n := 75) dX6_weigh_73 rfl (by decide) rfl rfl ?_
              exact s75
            · refine hg_ldc (n := 53) dX6_weigh_51 rfl kc_X6_186 ?_
              refine hg_goto (tgt := 73) dX6_weigh_53 (by decide) ?_
              refine hg_topI (z := by_ (wk_ (u_3 (wg_ mi nj c) 68 0 m (if c = 0 then 0 else 1000000)) nj m k) nj m k) (by unfold by_; rw [if_pos h48]) ?_
              refine hg_istore (n := 75) dX6_weigh_73 rfl (by decide) rfl rfl ?_
              exact s75
      have s31 : ∀ x, x = (if c = 0 then 0 else 1000000) → hg_G md_X6_weigh false sh Q 0 0 31 [some (hv_r (some (7, 0))), some (hv_i (nI (2 ^ nj - 1))), some (hv_i (nI m)), none, none] [hv_i x, hv_i (nI m), hv_r (some (68, 0))] (wg_ mi nj c, ml, mr, sh) := by
        intro x hx
        subst hx
        refine hg_iastore (n := 32) (len := 128) (m) dX6_weigh_31 rfl (by decide) rfl (mo_a hM 38 (by decide)) rfl (by omega) (by decide) ?_
        refine hg_iconst (n := 33) (v := 0) dX6_weigh_32 rfl (by decide) ?_
        refine hg_istore_n (n := 34) dX6_weigh_33 rfl (by decide) rfl rfl ?_
        exact l2 nj 0 (by omega)
      refine hg_iload_n (n := 12) dX6_weigh_11 rfl rfl ?_
      refine hg_if_ltN (n := 15) (tgt := 115) (m) dX6_weigh_12 rfl (by omega) ?_ (by decide)
      refine hg_aload_n (n := 16) dX6_weigh_15 rfl rfl ?_
      refine hg_getR (n := 19) (r := some (68, 0)) dX6_weigh_16 rfl fl_X6_150 rfl rfl (mo_s hM) (mo_r hM 38 (by decide)) ?_
      refine hg_iload_n (n := 20) dX6_weigh_19 rfl rfl ?_
      refine hg_iload_n (n := 21) dX6_weigh_20 rfl rfl ?_
      refine hg_iload_n (n := 22) dX6_weigh_21 rfl rfl ?_
      refine hg_icmp_neN (n := 25) (tgt := 29) (m) (2 ^ nj - 1) dX6_weigh_22 rfl (by decide) (by omega) (by omega) (fun h22 => ?_) (fun h22 => ?_)
      · refine hg_ldc (n := 31) dX6_weigh_29 rfl kc_X6_186 ?_
        exact s31 _ (by rw [if_neg (by omega)])
      · refine hg_iconst (n := 26) (v := 0) dX6_weigh_25 rfl (by decide) ?_
        refine hg_goto (tgt := 31) dX6_weigh_26 (by decide) ?_
        exact s31 _ (by rw [if_pos (by omega)])
  have hp1 := q_pow1 nj
  refine hg_iconst (n := 1) (v := 1) dX6_weigh_0 rfl (by decide) ?_
  refine hg_aload_n (n := 2) dX6_weigh_1 rfl rfl ?_
  refine hg_getN (n := 5) (nj) dX6_weigh_2 rfl fl_X6_183 rfl rfl (mo_s hM) hnj ?_
  refine hg_ishl1 (n := 6) (nj) dX6_weigh_5 rfl (by omega) ?_
  refine hg_iconst (n := 7) (v := 1) dX6_weigh_6 rfl (by decide) ?_
  refine hg_isubN (n := 8) (2 ^ (nj)) (1) dX6_weigh_7 rfl (by omega) ?_
  refine hg_istore_n (n := 9) dX6_weigh_8 rfl (by decide) rfl rfl ?_
  refine hg_iload_n (n := 10) dX6_weigh_9 rfl rfl ?_
  refine hg_istore_n (n := 11) dX6_weigh_10 rfl (by decide) rfl rfl ?_
  refine hg_ls (hg_memo rfl (l1 (2 ^ nj) 0 (by omega))) ?_
  refine ⟨rfl, rfl, ?_, trivial⟩
  rw [show nI (2 ^ nj) + (-1) = nI (2 ^ nj - 1) from sb_m1 (q_pow1 nj)]

set_option maxHeartbeats 4000000 in
set_option maxRecDepth 100000 in
theorem c_X6_lateness {mi : MI_} {ml : ML_} {mr : MR_} {sh : SH_} (hM : mo_ mr sh) (nj : Nat) (hnj : mi 7 0 35 = nI nj) (hnj7 : nj ≤ 7)  : hg_Det false yX6_lateness md_X6_lateness [hv_r (some (7, 0))] (mi, ml, mr, sh) (some (hv_i (wg_ mi nj (2 ^ nj) 68 0 0))) (wg_ mi nj (2 ^ nj), ml, mr, sh) := by
  intro Q hQ
  refine hg_intro rfl rfl rfl (Nat.le_of_ble_eq_true rfl) rfl ?_
  refine hg_aload_n (n := 1) dX6_lateness_0 rfl rfl ?_
  refine hg_callVd (n := 4) (c_X6_weigh hM nj hnj hnj7) dX6_lateness_1 rfl mk_X6_190 yl_X6_weigh yv_X6_weigh rfl (mo_s hM) (by decide) (by decide) rfl rfl (Nat.le_of_ble_eq_true rfl) (fun h => by cases h) ?_
  refine hg_aload_n (n := 5) dX6_lateness_4 rfl rfl ?_
  refine hg_getR (n := 8) (r := some (68, 0)) dX6_lateness_5 rfl fl_X6_150 rfl rfl (mo_s hM) (mo_r hM 38 (by decide)) ?_
  refine hg_iconst (n := 9) (v := 0) dX6_lateness_8 rfl (by decide) ?_
  refine hg_iaload (n := 10) (len := 128) (0) dX6_lateness_9 rfl (by decide) rfl (mo_a hM 38 (by decide)) rfl (by omega) (by decide) ?_
  refine hg_ireturn dX6_lateness_10 rfl ?_
  exact hQ

