theorem nI_m1 {p : Nat} (h : p < 2 ^ 31) : ¬ nI p = -1 := by
  intro e
  have h1 := nI_toInt h
  rw [e] at h1
  have : (-1 : Int32).toInt = -1 := by decide
  omega
/-- what stands in a place: nothing, or one of np parts -/
def pl_ (X : MI_) (np : Nat) : Prop := ∀ j, j < 12 → ¬ X 50 0 j = -1 → ∃ p, p < np ∧ X 50 0 j = nI p
def ma_ (X : MI_) (f : Nat) : Nat → Int32
  | 0 => 0
  | i + 1 => ma_ X f i + (if X 50 0 (4 * f + i) = -1 then 0 else X 32 0 (X 50 0 (4 * f + i)).toNatClampNeg)
def lo_ (X : MI_) (f : Nat) : Nat → Int32
  | 0 => 0
  | i + 1 => lo_ X f i + (if X 50 0 (4 * f + i) = -1 then 0 else 1)
set_option maxHeartbeats 4000000 in
set_option maxRecDepth 100000 in
theorem c_X6_massOf {mi : MI_} {ml : ML_} {mr : MR_} {sh : SH_} (hM : mo_ mr sh) (np : Nat) (hn12 : np ≤ 12) (hpl : pl_ mi np) (f : Nat) (hf : f < 3) : hg_Det false yX6_massOf md_X6_massOf [hv_r (some (7, 0)), hv_i (nI f)] (mi, ml, mr, sh) (some (hv_i (ma_ mi f 4))) (mi, ml, mr, sh) := by
  intro Q hQ
  refine hg_intro rfl rfl rfl (Nat.le_of_ble_eq_true rfl) rfl ?_
  have loop : ∀ m i, i + m = 4 → hg_G md_X6_massOf false sh Q 0 0 4 [some (hv_r (some (7, 0))), some (hv_i (nI f)), some (hv_i (ma_ mi f i)), some (hv_i (nI i))] [] (mi, ml, mr, sh) := by
    intro m
    induction m with
    | zero =>
      intro i hi
      refine hg_iload_n (n := 5) dX6_massOf_4 rfl rfl ?_
      refine hg_iconst (n := 6) (v := 4) dX6_massOf_5 rfl (by decide) ?_
      refine hg_icmp_geN (n := 9) (tgt := 51) (i) (4) dX6_massOf_6 rfl (by decide) (by omega) (by omega) (fun h6 => ?_) (fun h6 => ?_)
      · have e := show i = 4 by omega
        subst e
        refine hg_iload_n (n := 52) dX6_massOf_51 rfl rfl ?_
        refine hg_ireturn dX6_massOf_52 rfl ?_
        exact hQ
      · exact absurd h6 (by omega)
    | succ m ih =>
      intro i hi
      refine hg_iload_n (n := 5) dX6_massOf_4 rfl rfl ?_
      refine hg_iconst (n := 6) (v := 4) dX6_massOf_5 rfl (by decide) ?_
      refine hg_icmp_geN (n := 9) (tgt := 51) (i) (4) dX6_massOf_6 rfl (by decide) (by omega) (by omega) (fun h6 => ?_) (fun h6 => ?_)
      · exact absurd h6 (by omega)
      · refine hg_iload_n (n := 10) dX6_massOf_9 rfl rfl ?_
        refine hg_aload_n (n := 11) dX6_massOf_10 rfl rfl ?_
        refine hg_getR (n := 14) (r := some (50, 0)) dX6_massOf_11 rfl fl_X6_101 rfl rfl (mo_s hM) (mo_r hM 20 (by decide)) ?_
        refine hg_iconst (n := 15) (v := 4) dX6_massOf_14 rfl (by decide) ?_
        refine hg_iload_n (n := 16) dX6_massOf_15 rfl rfl ?_
        refine hg_imulN (n := 17) (4) (f) dX6_massOf_16 rfl ?_
        refine hg_iload_n (n := 18) dX6_massOf_17 rfl rfl ?_
        refine hg_iaddN (n := 19) (4 * f) (i) dX6_massOf_18 rfl ?_
        refine hg_iaload (n := 20) (len := 12) ((4 * f) + i) dX6_massOf_19 rfl (by decide) rfl (mo_a hM 20 (by decide)) rfl (by omega) (by decide) ?_
        refine hg_iconst (n := 21) (v := -1) dX6_massOf_20 rfl (by decide) ?_
        refine hg_icmp_ne (n := 24) (tgt := 28) dX6_massOf_21 rfl (by decide) (fun h21 => ?_) (fun h21 => ?_)
        · obtain ⟨p, hp, hpj⟩ := hpl (4 * f + i) (by omega) h21
          refine hg_aload_n (n := 29) dX6_massOf_28 rfl rfl ?_
          refine hg_getR (n := 32) (r := some (32, 0)) dX6_massOf_29 rfl fl_X6_15 rfl rfl (mo_s hM) (mo_r hM 2 (by decide)) ?_
          refine hg_aload_n (n := 33) dX6_massOf_32 rfl rfl ?_
          refine hg_getR (n := 36) (r := some (50, 0)) dX6_massOf_33 rfl fl_X6_101 rfl rfl (mo_s hM) (mo_r hM 20 (by decide)) ?_
          refine hg_iconst (n := 37) (v := 4) dX6_massOf_36 rfl (by decide) ?_
          refine hg_iload_n (n := 38) dX6_massOf_37 rfl rfl ?_
          refine hg_imulN (n := 39) (4) (f) dX6_massOf_38 rfl ?_
          refine hg_iload_n (n := 40) dX6_massOf_39 rfl rfl ?_
          refine hg_iaddN (n := 41) (4 * f) (i) dX6_massOf_40 rfl ?_
          refine hg_ialoadN (n := 42) (len := 12) (p) ((4 * f) + i) dX6_massOf_41 rfl (by decide) rfl (mo_a hM 20 (by decide)) rfl (by omega) (by decide) hpj ?_
          refine hg_iaload (n := 43) (len := 12) (p) dX6_massOf_42 rfl (by decide) rfl (mo_a hM 2 (by decide)) rfl (by omega) (by decide) ?_
          refine hg_iadd (n := 44) dX6_massOf_43 rfl ?_
          refine hg_topI (z := ma_ mi f (i + 1)) (by rw [ma_, if_neg h21, hpj, nI_clamp (by omega)]) ?_
          refine hg_istore_n (n := 45) dX6_massOf_44 rfl (by decide) rfl rfl ?_
          refine hg_iincN (n := 48) (i) 1 dX6_massOf_45 rfl rfl (by decide) (by decide) rfl rfl ?_
          refine hg_goto (tgt := 4) dX6_massOf_48 (by decide) ?_
          exact ih (i + 1) (by omega)
        · refine hg_iconst (n := 25) (v := 0) dX6_massOf_24 rfl (by decide) ?_
          refine hg_goto (tgt := 43) dX6_massOf_25 (by decide) ?_
          refine hg_iadd (n := 44) dX6_massOf_43 rfl ?_
          refine hg_topI (z := ma_ mi f (i + 1)) (by rw [ma_, if_pos h21]) ?_
          refine hg_istore_n (n := 45) dX6_massOf_44 rfl (by decide) rfl rfl ?_
          refine hg_iincN (n := 48) (i) 1 dX6_massOf_45 rfl rfl (by decide) (by decide) rfl rfl ?_
          refine hg_goto (tgt := 4) dX6_massOf_48 (by decide) ?_
          exact ih (i + 1) (by omega)
  refine hg_iconst (n := 1) (v := 0) dX6_massOf_0 rfl (by decide) ?_
  refine hg_istore_n (n := 2) dX6_massOf_1 rfl (by decide) rfl rfl ?_
  refine hg_iconst (n := 3) (v := 0) dX6_massOf_2 rfl (by decide) ?_
  refine hg_istore_n (n := 4) dX6_massOf_3 rfl (by decide) rfl rfl ?_
  exact loop 4 0 (by omega)

set_option maxHeartbeats 4000000 in
set_option maxRecDepth 100000 in
theorem c_X6_loadOf {mi : MI_} {ml : ML_} {mr : MR_} {sh : SH_} (hM : mo_ mr sh) (f : Nat) (hf : f < 3) : hg_Det false yX6_loadOf md_X6_loadOf [hv_r (some (7, 0)), hv_i (nI f)] (mi, ml, mr, sh) (some (hv_i (lo_ mi f 4))) (mi, ml, mr, sh) := by
  intro Q hQ
  refine hg_intro rfl rfl rfl (Nat.le_of_ble_eq_true rfl) rfl ?_
  have loop : ∀ m i, i + m = 4 → hg_G md_X6_loadOf false sh Q 0 0 4 [some (hv_r (some (7, 0))), some (hv_i (nI f)), some (hv_i (lo_ mi f i)), some (hv_i (nI i))] [] (mi, ml, mr, sh) := by
    intro m
    induction m with
    | zero =>
      intro i hi
      refine hg_iload_n (n := 5) dX6_loadOf_4 rfl rfl ?_
      refine hg_iconst (n := 6) (v := 4) dX6_loadOf_5 rfl (by decide) ?_
      refine hg_icmp_geN (n := 9) (tgt := 37) (i) (4) dX6_loadOf_6 rfl (by decide) (by omega) (by omega) (fun h6 => ?_) (fun h6 => ?_)
      · have e := show i = 4 by omega
        subst e
        refine hg_iload_n (n := 38) dX6_loadOf_37 rfl rfl ?_
        refine hg_ireturn dX6_loadOf_38 rfl ?_
        exact hQ
      · exact absurd h6 (by omega)
    | succ m ih =>
      intro i hi
      refine hg_iload_n (n := 5) dX6_loadOf_4 rfl rfl ?_
      refine hg_iconst (n := 6) (v := 4) dX6_loadOf_5 rfl (by decide) ?_
      refine hg_icmp_geN (n := 9) (tgt := 37) (i) (4) dX6_loadOf_6 rfl (by decide) (by omega) (by omega) (fun h6 => ?_) (fun h6 => ?_)
      · exact absurd h6 (by omega)
      · refine hg_iload_n (n := 10) dX6_loadOf_9 rfl rfl ?_
        refine hg_aload_n (n := 11) dX6_loadOf_10 rfl rfl ?_
        refine hg_getR (n := 14) (r := some (50, 0)) dX6_loadOf_11 rfl fl_X6_101 rfl rfl (mo_s hM) (mo_r hM 20 (by decide)) ?_
        refine hg_iconst (n := 15) (v := 4) dX6_loadOf_14 rfl (by decide) ?_
        refine hg_iload_n (n := 16) dX6_loadOf_15 rfl rfl ?_
        refine hg_imulN (n := 17) (4) (f) dX6_loadOf_16 rfl ?_
        refine hg_iload_n (n := 18) dX6_loadOf_17 rfl rfl ?_
        refine hg_iaddN (n := 19) (4 * f) (i) dX6_loadOf_18 rfl ?_
        refine hg_iaload (n := 20) (len := 12) ((4 * f) + i) dX6_loadOf_19 rfl (by decide) rfl (mo_a hM 20 (by decide)) rfl (by omega) (by decide) ?_
        refine hg_iconst (n := 21) (v := -1) dX6_loadOf_20 rfl (by decide) ?_
        refine hg_icmp_ne (n := 24) (tgt := 28) dX6_loadOf_21 rfl (by decide) (fun h21 => ?_) (fun h21 => ?_)
        · refine hg_iconst (n := 29) (v := 1) dX6_loadOf_28 rfl (by decide) ?_
          refine hg_iadd (n := 30) dX6_loadOf_29 rfl ?_
          refine hg_topI (z := lo_ mi f (i + 1)) (by rw [lo_, if_neg h21]) ?_
          refine hg_istore_n (n := 31) dX6_loadOf_30 rfl (by decide) rfl rfl ?_
          refine hg_iincN (n := 34) (i) 1 dX6_loadOf_31 rfl rfl (by decide) (by decide) rfl rfl ?_
          refine hg_goto (tgt := 4) dX6_loadOf_34 (by decide) ?_
          exact ih (i + 1) (by omega)
        · refine hg_iconst (n := 25) (v := 0) dX6_loadOf_24 rfl (by decide) ?_
          refine hg_goto (tgt := 29) dX6_loadOf_25 (by decide) ?_
          refine hg_iadd (n := 30) dX6_loadOf_29 rfl ?_
          refine hg_topI (z := lo_ mi f (i + 1)) (by rw [lo_, if_pos h21]) ?_
          refine hg_istore_n (n := 31) dX6_loadOf_30 rfl (by decide) rfl rfl ?_
          refine hg_iincN (n := 34) (i) 1 dX6_loadOf_31 rfl rfl (by decide) (by decide) rfl rfl ?_
          refine hg_goto (tgt := 4) dX6_loadOf_34 (by decide) ?_
          exact ih (i + 1) (by omega)
  refine hg_iconst (n := 1) (v := 0) dX6_loadOf_0 rfl (by decide) ?_
  refine hg_istore_n (n := 2) dX6_loadOf_1 rfl (by decide) rfl rfl ?_
  refine hg_iconst (n := 3) (v := 0) dX6_loadOf_2 rfl (by decide) ?_
  refine hg_istore_n (n := 4) dX6_loadOf_3 rfl (by decide) rfl rfl ?_
  exact loop 4 0 (by omega)

def li_b (f o a b : Int32) : Prop := z_in f 0 2 = 0 ∨ z_in o 0 3 = 0 ∨ (¬ o = 3 ∧ z_in a 200 11000 = 0) ∨ z_in b 1 (if o = 0 then 1000 else 500) = 0
set_option maxHeartbeats 4000000 in
set_option maxRecDepth 100000 in
theorem c_X6_line_b {mi : MI_} {ml : ML_} {mr : MR_} {sh : SH_} (hM : mo_ mr sh) (f o a b : Int32) (hb : li_b f o a b) : hg_Det false yX6_line md_X6_line [hv_r (some (7, 0)), hv_i f, hv_i o, hv_i a, hv_i b] (mi, ml, mr, sh) (some (hv_i (-2))) (mi, ml, mr, sh) := by
  intro Q hQ
  refine hg_intro rfl rfl rfl (Nat.le_of_ble_eq_true rfl) rfl ?_
  have s5 : ∀ x, x = (if o = 0 then 1000 else 500) → (z_in b 1 (if o = 0 then 1000 else 500) = 0) → hg_G md_X6_line false sh Q 0 0 50 [some (hv_r (some (7, 0))), some (hv_i f), some (hv_i o), some (hv_i a), some (hv_i b), none] [hv_i x, hv_i 1, hv_i b] (mi, ml, mr, sh) := by
    intro x hx hc
    refine hg_callSd (n := 53) (c_X6_in _ _ _ _) dX6_line_50 rfl mk_X6_1 yl_X6_in ys_X6_in (by decide) (by decide) rfl rfl (Nat.le_of_ble_eq_true rfl) (fun h => by cases h) ?_
    refine hg_if_ne (n := 56) (tgt := 59) dX6_line_53 rfl (by decide) (fun h53 => ?_) (fun h53 => ?_)
    · exact absurd (by rw [hx]; exact hc) h53
    · refine hg_bipush (n := 58) (v := -2) dX6_line_56 rfl (by decide) ?_
      refine hg_ireturn dX6_line_58 rfl ?_
      exact hQ
  have s3 : (z_in b 1 (if o = 0 then 1000 else 500) = 0) → hg_G md_X6_line false sh Q 0 0 34 [some (hv_r (some (7, 0))), some (hv_i f), some (hv_i o), some (hv_i a), some (hv_i b), none] [] (mi, ml, mr, sh) := by
    intro hc
    refine hg_iload (n := 36) dX6_line_34 rfl rfl ?_
    refine hg_iconst (n := 37) (v := 1) dX6_line_36 rfl (by decide) ?_
    refine hg_iload_n (n := 38) dX6_line_37 rfl rfl ?_
    refine hg_if_ne (n := 41) (tgt := 47) dX6_line_38 rfl (by decide) (fun h38 => ?_) (fun h38 => ?_)
    · refine hg_sipush (n := 50) (v := 500) dX6_line_47 rfl (by decide) ?_
      exact s5 _ (by rw [if_neg h38]) hc
    · refine hg_sipush (n := 44) (v := 1000) dX6_line_41 rfl (by decide) ?_
      refine hg_goto (tgt := 50) dX6_line_44 (by decide) ?_
      exact s5 _ (by rw [if_pos h38]) hc
  refine hg_iload_n (n := 1) dX6_line_0 rfl rfl ?_
  refine hg_callSd (n := 4) (c_X6_isFurnace _ _) dX6_line_1 rfl mk_X6_153 yl_X6_isFurnace ys_X6_isFurnace (by decide) (by decide) rfl rfl (Nat.le_of_ble_eq_true rfl) (fun h => by cases h) ?_
  refine hg_if_eq (n := 7) (tgt := 56) dX6_line_4 rfl (by decide) (fun h4 => ?_) (fun h4 => ?_)
  · refine hg_bipush (n := 58) (v := -2) dX6_line_56 rfl (by decide) ?_
    refine hg_ireturn dX6_line_58 rfl ?_
    exact hQ
  · refine hg_iload_n (n := 8) dX6_line_7 rfl rfl ?_
    refine hg_iconst (n := 9) (v := 0) dX6_line_8 rfl (by decide) ?_
    refine hg_iconst (n := 10) (v := 3) dX6_line_9 rfl (by decide) ?_
    refine hg_callSd (n := 13) (c_X6_in _ _ _ _) dX6_line_10 rfl mk_X6_1 yl_X6_in ys_X6_in (by decide) (by decide) rfl rfl (Nat.le_of_ble_eq_true rfl) (fun h => by cases h) ?_
    refine hg_if_eq (n := 16) (tgt := 56) dX6_line_13 rfl (by decide) (fun h13 => ?_) (fun h13 => ?_)
    · refine hg_bipush (n := 58) (v := -2) dX6_line_56 rfl (by decide) ?_
      refine hg_ireturn dX6_line_58 rfl ?_
      exact hQ
    · refine hg_iload_n (n := 17) dX6_line_16 rfl rfl ?_
      refine hg_iconst (n := 18) (v := 3) dX6_line_17 rfl (by decide) ?_
      refine hg_icmp_eq (n := 21) (tgt := 34) dX6_line_18 rfl (by decide) (fun h18 => ?_) (fun h18 => ?_)
      · exact s3 (by unfold li_b at hb; simp_all)
      · refine hg_iload_n (n := 22) dX6_line_21 rfl rfl ?_
        refine hg_sipush (n := 25) (v := 200) dX6_line_22 rfl (by decide) ?_
        refine hg_sipush (n := 28) (v := 11000) dX6_line_25 rfl (by decide) ?_
        refine hg_callSd (n := 31) (c_X6_in _ _ _ _) dX6_line_28 rfl mk_X6_1 yl_X6_in ys_X6_in (by decide) (by decide) rfl rfl (Nat.le_of_ble_eq_true rfl) (fun h => by cases h) ?_
        refine hg_if_eq (n := 34) (tgt := 56) dX6_line_31 rfl (by decide) (fun h31 => ?_) (fun h31 => ?_)
        · refine hg_bipush (n := 58) (v := -2) dX6_line_56 rfl (by decide) ?_
          refine hg_ireturn dX6_line_58 rfl ?_
          exact hQ
        · exact s3 (by unfold li_b at hb; simp_all)

set_option maxHeartbeats 4000000 in
set_option maxRecDepth 100000 in
theorem c_X6_line_n {mi : MI_} {ml : ML_} {mr : MR_} {sh : SH_} (hM : mo_ mr sh) (f : Nat) (hf : f < 3) (o a b : Int32) (hb : ¬ li_b (nI f) o a b) (hr : ¬ mi 53 0 f = 0) : hg_Det false yX6_line md_X6_line [hv_r (some (7, 0)), hv_i (nI f), hv_i o, hv_i a, hv_i b] (mi, ml, mr, sh) (some (hv_i (-3))) (mi, ml, mr, sh) := by
  intro Q hQ
  refine hg_intro rfl rfl rfl (Nat.le_of_ble_eq_true rfl) rfl ?_
  have s5 : ∀ x, x = (if o = 0 then 1000 else 500) → hg_G md_X6_line false sh Q 0 0 50 [some (hv_r (some (7, 0))), some (hv_i (nI f)), some (hv_i o), some (hv_i a), some (hv_i b), none] [hv_i x, hv_i 1, hv_i b] (mi, ml, mr, sh) := by
    intro x hx
    refine hg_callSd (n := 53) (c_X6_in _ _ _ _) dX6_line_50 rfl mk_X6_1 yl_X6_in ys_X6_in (by decide) (by decide) rfl rfl (Nat.le_of_ble_eq_true rfl) (fun h => by cases h) ?_
    refine hg_if_ne (n := 56) (tgt := 59) dX6_line_53 rfl (by decide) (fun h53 => ?_) (fun h53 => ?_)
    · refine hg_aload_n (n := 60) dX6_line_59 rfl rfl ?_
      refine hg_getR (n := 63) (r := some (53, 0)) dX6_line_60 rfl fl_X6_111 rfl rfl (mo_s hM) (mo_r hM 23 (by decide)) ?_
      refine hg_iload_n (n := 64) dX6_line_63 rfl rfl ?_
      refine hg_baload (n := 65) (len := 3) (f) dX6_line_64 rfl (by decide) rfl (mo_a hM 23 (by decide)) rfl (by omega) (by decide) ?_
      refine hg_if_eq (n := 68) (tgt := 71) dX6_line_65 rfl (by decide) (fun h65 => ?_) (fun h65 => ?_)
      · exact absurd h65 hr
      · refine hg_bipush (n := 70) (v := -3) dX6_line_68 rfl (by decide) ?_
        refine hg_ireturn dX6_line_70 rfl ?_
        exact hQ
    · exact absurd h53 (by rw [hx]; exact fun q => hb (Or.inr (Or.inr (Or.inr q))))
  have s3 : hg_G md_X6_line false sh Q 0 0 34 [some (hv_r (some (7, 0))), some (hv_i (nI f)), some (hv_i o), some (hv_i a), some (hv_i b), none] [] (mi, ml, mr, sh) := by
    refine hg_iload (n := 36) dX6_line_34 rfl rfl ?_
    refine hg_iconst (n := 37) (v := 1) dX6_line_36 rfl (by decide) ?_
    refine hg_iload_n (n := 38) dX6_line_37 rfl rfl ?_
    refine hg_if_ne (n := 41) (tgt := 47) dX6_line_38 rfl (by decide) (fun h38 => ?_) (fun h38 => ?_)
    · refine hg_sipush (n := 50) (v := 500) dX6_line_47 rfl (by decide) ?_
      exact s5 _ (by rw [if_neg h38])
    · refine hg_sipush (n := 44) (v := 1000) dX6_line_41 rfl (by decide) ?_
      refine hg_goto (tgt := 50) dX6_line_44 (by decide) ?_
      exact s5 _ (by rw [if_pos h38])
  refine hg_iload_n (n := 1) dX6_line_0 rfl rfl ?_
  refine hg_callSd (n := 4) (c_X6_isFurnace _ _) dX6_line_1 rfl mk_X6_153 yl_X6_isFurnace ys_X6_isFurnace (by decide) (by decide) rfl rfl (Nat.le_of_ble_eq_true rfl) (fun h => by cases h) ?_
  refine hg_if_eq (n := 7) (tgt := 56) dX6_line_4 rfl (by decide) (fun h4 => ?_) (fun h4 => ?_)
  · exact absurd h4 (z_nat3 (a := 0) (b := 2) (by omega) (by omega) (by omega))
  · refine hg_iload_n (n := 8) dX6_line_7 rfl rfl ?_
    refine hg_iconst (n := 9) (v := 0) dX6_line_8 rfl (by decide) ?_
    refine hg_iconst (n := 10) (v := 3) dX6_line_9 rfl (by decide) ?_
    refine hg_callSd (n := 13) (c_X6_in _ _ _ _) dX6_line_10 rfl mk_X6_1 yl_X6_in ys_X6_in (by decide) (by decide) rfl rfl (Nat.le_of_ble_eq_true rfl) (fun h => by cases h) ?_
    refine hg_if_eq (n := 16) (tgt := 56) dX6_line_13 rfl (by decide) (fun h13 => ?_) (fun h13 => ?_)
    · exact absurd h13 (fun q => hb (Or.inr (Or.inl q)))
    · refine hg_iload_n (n := 17) dX6_line_16 rfl rfl ?_
      refine hg_iconst (n := 18) (v := 3) dX6_line_17 rfl (by decide) ?_
      refine hg_icmp_eq (n := 21) (tgt := 34) dX6_line_18 rfl (by decide) (fun h18 => ?_) (fun h18 => ?_)
      · exact s3
      · refine hg_iload_n (n := 22) dX6_line_21 rfl rfl ?_
        refine hg_sipush (n := 25) (v := 200) dX6_line_22 rfl (by decide) ?_
        refine hg_sipush (n := 28) (v := 11000) dX6_line_25 rfl (by decide) ?_
        refine hg_callSd (n := 31) (c_X6_in _ _ _ _) dX6_line_28 rfl mk_X6_1 yl_X6_in ys_X6_in (by decide) (by decide) rfl rfl (Nat.le_of_ble_eq_true rfl) (fun h => by cases h) ?_
        refine hg_if_eq (n := 34) (tgt := 56) dX6_line_31 rfl (by decide) (fun h31 => ?_) (fun h31 => ?_)
        · exact absurd h31 (fun q => hb (Or.inr (Or.inr (Or.inl ⟨h18, q⟩))))
        · exact s3

set_option maxHeartbeats 4000000 in
set_option maxRecDepth 100000 in
theorem c_X6_line_f {mi : MI_} {ml : ML_} {mr : MR_} {sh : SH_} (hM : mo_ mr sh) (f : Nat) (hf : f < 3) (o a b : Int32) (hb : ¬ li_b (nI f) o a b) (hr : mi 53 0 f = 0) (hl : mi 46 0 f = 8) : hg_Det false yX6_line md_X6_line [hv_r (some (7, 0)), hv_i (nI f), hv_i o, hv_i a, hv_i b] (mi, ml, mr, sh) (some (hv_i (-4))) (mi, ml, mr, sh) := by
  intro Q hQ
  refine hg_intro rfl rfl rfl (Nat.le_of_ble_eq_true rfl) rfl ?_
  have s5 : ∀ x, x = (if o = 0 then 1000 else 500) → hg_G md_X6_line false sh Q 0 0 50 [some (hv_r (some (7, 0))), some (hv_i (nI f)), some (hv_i o), some (hv_i a), some (hv_i b), none] [hv_i x, hv_i 1, hv_i b] (mi, ml, mr, sh) := by
    intro x hx
    refine hg_callSd (n := 53) (c_X6_in _ _ _ _) dX6_line_50 rfl mk_X6_1 yl_X6_in ys_X6_in (by decide) (by decide) rfl rfl (Nat.le_of_ble_eq_true rfl) (fun h => by cases h) ?_
    refine hg_if_ne (n := 56) (tgt := 59) dX6_line_53 rfl (by decide) (fun h53 => ?_) (fun h53 => ?_)
    · refine hg_aload_n (n := 60) dX6_line_59 rfl rfl ?_
      refine hg_getR (n := 63) (r := some (53, 0)) dX6_line_60 rfl fl_X6_111 rfl rfl (mo_s hM) (mo_r hM 23 (by decide)) ?_
      refine hg_iload_n (n := 64) dX6_line_63 rfl rfl ?_
      refine hg_baload (n := 65) (len := 3) (f) dX6_line_64 rfl (by decide) rfl (mo_a hM 23 (by decide)) rfl (by omega) (by decide) ?_
      refine hg_if_eq (n := 68) (tgt := 71) dX6_line_65 rfl (by decide) (fun h65 => ?_) (fun h65 => ?_)
      · refine hg_aload_n (n := 72) dX6_line_71 rfl rfl ?_
        refine hg_getR (n := 75) (r := some (46, 0)) dX6_line_72 rfl fl_X6_89 rfl rfl (mo_s hM) (mo_r hM 16 (by decide)) ?_
        refine hg_iload_n (n := 76) dX6_line_75 rfl rfl ?_
        refine hg_iaload (n := 77) (len := 3) (f) dX6_line_76 rfl (by decide) rfl (mo_a hM 16 (by decide)) rfl (by omega) (by decide) ?_
        refine hg_bipush (n := 79) (v := 8) dX6_line_77 rfl (by decide) ?_
        refine hg_icmp_ne (n := 82) (tgt := 85) dX6_line_79 rfl (by decide) (fun h79 => ?_) (fun h79 => ?_)
        · exact absurd hl h79
        · refine hg_bipush (n := 84) (v := -4) dX6_line_82 rfl (by decide) ?_
          refine hg_ireturn dX6_line_84 rfl ?_
          exact hQ
      · exact absurd hr h65
    · exact absurd h53 (by rw [hx]; exact fun q => hb (Or.inr (Or.inr (Or.inr q))))
  have s3 : hg_G md_X6_line false sh Q 0 0 34 [some (hv_r (some (7, 0))), some (hv_i (nI f)), some (hv_i o), some (hv_i a), some (hv_i b), none] [] (mi, ml, mr, sh) := by
    refine hg_iload (n := 36) dX6_line_34 rfl rfl ?_
    refine hg_iconst (n := 37) (v := 1) dX6_line_36 rfl (by decide) ?_
    refine hg_iload_n (n := 38) dX6_line_37 rfl rfl ?_
    refine hg_if_ne (n := 41) (tgt := 47) dX6_line_38 rfl (by decide) (fun h38 => ?_) (fun h38 => ?_)
    · refine hg_sipush (n := 50) (v := 500) dX6_line_47 rfl (by decide) ?_
      exact s5 _ (by rw [if_neg h38])
    · refine hg_sipush (n := 44) (v := 1000) dX6_line_41 rfl (by decide) ?_
      refine hg_goto (tgt := 50) dX6_line_44 (by decide) ?_
      exact s5 _ (by rw [if_pos h38])
  refine hg_iload_n (n := 1) dX6_line_0 rfl rfl ?_
  refine hg_callSd (n := 4) (c_X6_isFurnace _ _) dX6_line_1 rfl mk_X6_153 yl_X6_isFurnace ys_X6_isFurnace (by decide) (by decide) rfl rfl (Nat.le_of_ble_eq_true rfl) (fun h => by cases h) ?_
  refine hg_if_eq (n := 7) (tgt := 56) dX6_line_4 rfl (by decide) (fun h4 => ?_) (fun h4 => ?_)
  · exact absurd h4 (z_nat3 (a := 0) (b := 2) (by omega) (by omega) (by omega))
  · refine hg_iload_n (n := 8) dX6_line_7 rfl rfl ?_
    refine hg_iconst (n := 9) (v := 0) dX6_line_8 rfl (by decide) ?_
    refine hg_iconst (n := 10) (v := 3) dX6_line_9 rfl (by decide) ?_
    refine hg_callSd (n := 13) (c_X6_in _ _ _ _) dX6_line_10 rfl mk_X6_1 yl_X6_in ys_X6_in (by decide) (by decide) rfl rfl (Nat.le_of_ble_eq_true rfl) (fun h => by cases h) ?_
    refine hg_if_eq (n := 16) (tgt := 56) dX6_line_13 rfl (by decide) (fun h13 => ?_) (fun h13 => ?_)
    · exact absurd h13 (fun q => hb (Or.inr (Or.inl q)))
    · refine hg_iload_n (n := 17) dX6_line_16 rfl rfl ?_
      refine hg_iconst (n := 18) (v := 3) dX6_line_17 rfl (by decide) ?_
      refine hg_icmp_eq (n := 21) (tgt := 34) dX6_line_18 rfl (by decide) (fun h18 => ?_) (fun h18 => ?_)
      · exact s3
      · refine hg_iload_n (n := 22) dX6_line_21 rfl rfl ?_
        refine hg_sipush (n := 25) (v := 200) dX6_line_22 rfl (by decide) ?_
        refine hg_sipush (n := 28) (v := 11000) dX6_line_25 rfl (by decide) ?_
        refine hg_callSd (n := 31) (c_X6_in _ _ _ _) dX6_line_28 rfl mk_X6_1 yl_X6_in ys_X6_in (by decide) (by decide) rfl rfl (Nat.le_of_ble_eq_true rfl) (fun h => by cases h) ?_
        refine hg_if_eq (n := 34) (tgt := 56) dX6_line_31 rfl (by decide) (fun h31 => ?_) (fun h31 => ?_)
        · exact absurd h31 (fun q => hb (Or.inr (Or.inr (Or.inl ⟨h18, q⟩))))
        · exact s3

def ln_m (X : MI_) (f nl : Nat) (o a b : Int32) : MI_ := u_3 (u_3 (u_3 (u_3 X 47 0 (8 * f + nl) o) 48 0 (8 * f + nl) a) 49 0 (8 * f + nl) b) 46 0 f (u_3 (u_3 (u_3 X 47 0 (8 * f + nl) o) 48 0 (8 * f + nl) a) 49 0 (8 * f + nl) b 46 0 f + 1)
set_option maxHeartbeats 4000000 in
set_option maxRecDepth 100000 in
theorem c_X6_line {mi : MI_} {ml : ML_} {mr : MR_} {sh : SH_} (hM : mo_ mr sh) (f : Nat) (hf : f < 3) (o a b : Int32) (hb : ¬ li_b (nI f) o a b) (hr : mi 53 0 f = 0) (nl : Nat) (hl : mi 46 0 f = nI nl) (hl8 : nl < 8) : hg_Det false yX6_line md_X6_line [hv_r (some (7, 0)), hv_i (nI f), hv_i o, hv_i a, hv_i b] (mi, ml, mr, sh) (some (hv_i (ln_m mi f nl o a b 46 0 f))) (ln_m mi f nl o a b, ml, mr, sh) := by
  intro Q hQ
  refine hg_intro rfl rfl rfl (Nat.le_of_ble_eq_true rfl) rfl ?_
  have s5 : ∀ x, x = (if o = 0 then 1000 else 500) → hg_G md_X6_line false sh Q 0 0 50 [some (hv_r (some (7, 0))), some (hv_i (nI f)), some (hv_i o), some (hv_i a), some (hv_i b), none] [hv_i x, hv_i 1, hv_i b] (mi, ml, mr, sh) := by
    intro x hx
    refine hg_callSd (n := 53) (c_X6_in _ _ _ _) dX6_line_50 rfl mk_X6_1 yl_X6_in ys_X6_in (by decide) (by decide) rfl rfl (Nat.le_of_ble_eq_true rfl) (fun h => by cases h) ?_
    refine hg_if_ne (n := 56) (tgt := 59) dX6_line_53 rfl (by decide) (fun h53 => ?_) (fun h53 => ?_)
    · refine hg_aload_n (n := 60) dX6_line_59 rfl rfl ?_
      refine hg_getR (n := 63) (r := some (53, 0)) dX6_line_60 rfl fl_X6_111 rfl rfl (mo_s hM) (mo_r hM 23 (by decide)) ?_
      refine hg_iload_n (n := 64) dX6_line_63 rfl rfl ?_
      refine hg_baload (n := 65) (len := 3) (f) dX6_line_64 rfl (by decide) rfl (mo_a hM 23 (by decide)) rfl (by omega) (by decide) ?_
      refine hg_if_eq (n := 68) (tgt := 71) dX6_line_65 rfl (by decide) (fun h65 => ?_) (fun h65 => ?_)
      · refine hg_aload_n (n := 72) dX6_line_71 rfl rfl ?_
        refine hg_getR (n := 75) (r := some (46, 0)) dX6_line_72 rfl fl_X6_89 rfl rfl (mo_s hM) (mo_r hM 16 (by decide)) ?_
        refine hg_iload_n (n := 76) dX6_line_75 rfl rfl ?_
        refine hg_ialoadN (n := 77) (len := 3) (nl) (f) dX6_line_76 rfl (by decide) rfl (mo_a hM 16 (by decide)) rfl (by omega) (by decide) hl ?_
        refine hg_bipush (n := 79) (v := 8) dX6_line_77 rfl (by decide) ?_
        refine hg_icmp_neN (n := 82) (tgt := 85) (nl) (8) dX6_line_79 rfl (by decide) (by omega) (by omega) (fun h79 => ?_) (fun h79 => ?_)
        · refine hg_bipush (n := 87) (v := 8) dX6_line_85 rfl (by decide) ?_
          refine hg_iload_n (n := 88) dX6_line_87 rfl rfl ?_
          refine hg_imulN (n := 89) (8) (f) dX6_line_88 rfl ?_
          refine hg_aload_n (n := 90) dX6_line_89 rfl rfl ?_
          refine hg_getR (n := 93) (r := some (46, 0)) dX6_line_90 rfl fl_X6_89 rfl rfl (mo_s hM) (mo_r hM 16 (by decide)) ?_
          refine hg_iload_n (n := 94) dX6_line_93 rfl rfl ?_
          refine hg_ialoadN (n := 95) (len := 3) (nl) (f) dX6_line_94 rfl (by decide) rfl (mo_a hM 16 (by decide)) rfl (by omega) (by decide) hl ?_
          refine hg_iaddN (n := 96) (8 * f) (nl) dX6_line_95 rfl ?_
          refine hg_istore (n := 98) dX6_line_96 rfl (by decide) rfl rfl ?_
          refine hg_aload_n (n := 99) dX6_line_98 rfl rfl ?_
          refine hg_getR (n := 102) (r := some (47, 0)) dX6_line_99 rfl fl_X6_92 rfl rfl (mo_s hM) (mo_r hM 17 (by decide)) ?_
          refine hg_iload (n := 104) dX6_line_102 rfl rfl ?_
          refine hg_iload_n (n := 105) dX6_line_104 rfl rfl ?_
          refine hg_iastore (n := 106) (len := 24) ((8 * f) + nl) dX6_line_105 rfl (by decide) rfl (mo_a hM 17 (by decide)) rfl (by omega) (by decide) ?_
          refine hg_aload_n (n := 107) dX6_line_106 rfl rfl ?_
          refine hg_getR (n := 110) (r := some (48, 0)) dX6_line_107 rfl fl_X6_95 rfl rfl (mo_s hM) (mo_r hM 18 (by decide)) ?_
          refine hg_iload (n := 112) dX6_line_110 rfl rfl ?_
          refine hg_iload_n (n := 113) dX6_line_112 rfl rfl ?_
          refine hg_iastore (n := 114) (len := 24) ((8 * f) + nl) dX6_line_113 rfl (by decide) rfl (mo_a hM 18 (by decide)) rfl (by omega) (by decide) ?_
          refine hg_aload_n (n := 115) dX6_line_114 rfl rfl ?_
          refine hg_getR (n := 118) (r := some (49, 0)) dX6_line_115 rfl fl_X6_98 rfl rfl (mo_s hM) (mo_r hM 19 (by decide)) ?_
          refine hg_iload (n := 120) dX6_line_118 rfl rfl ?_
          refine hg_iload (n := 122) dX6_line_120 rfl rfl ?_
          refine hg_iastore (n := 123) (len := 24) ((8 * f) + nl) dX6_line_122 rfl (by decide) rfl (mo_a hM 19 (by decide)) rfl (by omega) (by decide) ?_
          refine hg_aload_n (n := 124) dX6_line_123 rfl rfl ?_
          refine hg_getR (n := 127) (r := some (46, 0)) dX6_line_124 rfl fl_X6_89 rfl rfl (mo_s hM) (mo_r hM 16 (by decide)) ?_
          refine hg_iload_n (n := 128) dX6_line_127 rfl rfl ?_
          refine hg_dup2 (n := 129) dX6_line_128 rfl rfl rfl ?_
          refine hg_iaload (n := 130) (len := 3) (f) dX6_line_129 rfl (by decide) rfl (mo_a hM 16 (by decide)) rfl (by omega) (by decide) ?_
          refine hg_iconst (n := 131) (v := 1) dX6_line_130 rfl (by decide) ?_
          refine hg_iadd (n := 132) dX6_line_131 rfl ?_
          refine hg_iastore (n := 133) (len := 3) (f) dX6_line_132 rfl (by decide) rfl (mo_a hM 16 (by decide)) rfl (by omega) (by decide) ?_
          refine hg_aload_n (n := 134) dX6_line_133 rfl rfl ?_
          refine hg_getR (n := 137) (r := some (46, 0)) dX6_line_134 rfl fl_X6_89 rfl rfl (mo_s hM) (mo_r hM 16 (by decide)) ?_
          refine hg_iload_n (n := 138) dX6_line_137 rfl rfl ?_
          refine hg_iaload (n := 139) (len := 3) (f) dX6_line_138 rfl (by decide) rfl (mo_a hM 16 (by decide)) rfl (by omega) (by decide) ?_
          refine hg_ireturn dX6_line_139 rfl ?_
          exact hQ
        · exact absurd h79 (by omega)
      · exact absurd hr h65
    · exact absurd h53 (by rw [hx]; exact fun q => hb (Or.inr (Or.inr (Or.inr q))))
  have s3 : hg_G md_X6_line false sh Q 0 0 34 [some (hv_r (some (7, 0))), some (hv_i (nI f)), some (hv_i o), some (hv_i a), some (hv_i b), none] [] (mi, ml, mr, sh) := by
    refine hg_iload (n := 36) dX6_line_34 rfl rfl ?_
    refine hg_iconst (n := 37) (v := 1) dX6_line_36 rfl (by decide) ?_
    refine hg_iload_n (n := 38) dX6_line_37 rfl rfl ?_
    refine hg_if_ne (n := 41) (tgt := 47) dX6_line_38 rfl (by decide) (fun h38 => ?_) (fun h38 => ?_)
    · refine hg_sipush (n := 50) (v := 500) dX6_line_47 rfl (by decide) ?_
      exact s5 _ (by rw [if_neg h38])
    · refine hg_sipush (n := 44) (v := 1000) dX6_line_41 rfl (by decide) ?_
      refine hg_goto (tgt := 50) dX6_line_44 (by decide) ?_
      exact s5 _ (by rw [if_pos h38])
  refine hg_iload_n (n := 1) dX6_line_0 rfl rfl ?_
  refine hg_callSd (n := 4) (c_X6_isFurnace _ _) dX6_line_1 rfl mk_X6_153 yl_X6_isFurnace ys_X6_isFurnace (by decide) (by decide) rfl rfl (Nat.le_of_ble_eq_true rfl) (fun h => by cases h) ?_
  refine hg_if_eq (n := 7) (tgt := 56) dX6_line_4 rfl (by decide) (fun h4 => ?_) (fun h4 => ?_)
  · exact absurd h4 (z_nat3 (a := 0) (b := 2) (by omega) (by omega) (by omega))
  · refine hg_iload_n (n := 8) dX6_line_7 rfl rfl ?_
    refine hg_iconst (n := 9) (v := 0) dX6_line_8 rfl (by decide) ?_
    refine hg_iconst (n := 10) (v := 3) dX6_line_9 rfl (by decide) ?_
    refine hg_callSd (n := 13) (c_X6_in _ _ _ _) dX6_line_10 rfl mk_X6_1 yl_X6_in ys_X6_in (by decide) (by decide) rfl rfl (Nat.le_of_ble_eq_true rfl) (fun h => by cases h) ?_
    refine hg_if_eq (n := 16) (tgt := 56) dX6_line_13 rfl (by decide) (fun h13 => ?_) (fun h13 => ?_)
    · exact absurd h13 (fun q => hb (Or.inr (Or.inl q)))
    · refine hg_iload_n (n := 17) dX6_line_16 rfl rfl ?_
      refine hg_iconst (n := 18) (v := 3) dX6_line_17 rfl (by decide) ?_
      refine hg_icmp_eq (n := 21) (tgt := 34) dX6_line_18 rfl (by decide) (fun h18 => ?_) (fun h18 => ?_)
      · exact s3
      · refine hg_iload_n (n := 22) dX6_line_21 rfl rfl ?_
        refine hg_sipush (n := 25) (v := 200) dX6_line_22 rfl (by decide) ?_
        refine hg_sipush (n := 28) (v := 11000) dX6_line_25 rfl (by decide) ?_
        refine hg_callSd (n := 31) (c_X6_in _ _ _ _) dX6_line_28 rfl mk_X6_1 yl_X6_in ys_X6_in (by decide) (by decide) rfl rfl (Nat.le_of_ble_eq_true rfl) (fun h => by cases h) ?_
        refine hg_if_eq (n := 34) (tgt := 56) dX6_line_31 rfl (by decide) (fun h31 => ?_) (fun h31 => ?_)
        · exact absurd h31 (fun q => hb (Or.inr (Or.inr (Or.inl ⟨h18, q⟩))))
        · exact s3

set_option maxHeartbeats 4000000 in
set_option maxRecDepth 100000 in
theorem c_X6_clear_b {mi : MI_} {ml : ML_} {mr : MR_} {sh : SH_} (hM : mo_ mr sh) (f : Int32) (hb : z_in f 0 2 = 0) : hg_Det false yX6_clear md_X6_clear [hv_r (some (7, 0)), hv_i f] (mi, ml, mr, sh) (some (hv_i (-2))) (mi, ml, mr, sh) := by
  intro Q hQ
  refine hg_intro rfl rfl rfl (Nat.le_of_ble_eq_true rfl) rfl ?_
  refine hg_iload_n (n := 1) dX6_clear_0 rfl rfl ?_
  refine hg_callSd (n := 4) (c_X6_isFurnace _ _) dX6_clear_1 rfl mk_X6_153 yl_X6_isFurnace ys_X6_isFurnace (by decide) (by decide) rfl rfl (Nat.le_of_ble_eq_true rfl) (fun h => by cases h) ?_
  refine hg_if_ne (n := 7) (tgt := 10) dX6_clear_4 rfl (by decide) (fun h4 => ?_) (fun h4 => ?_)
  · exact absurd hb h4
  · refine hg_bipush (n := 9) (v := -2) dX6_clear_7 rfl (by decide) ?_
    refine hg_ireturn dX6_clear_9 rfl ?_
    exact hQ

set_option maxHeartbeats 4000000 in
set_option maxRecDepth 100000 in
theorem c_X6_clear_n {mi : MI_} {ml : ML_} {mr : MR_} {sh : SH_} (hM : mo_ mr sh) (f : Nat) (hf : f < 3) (hr : ¬ mi 53 0 f = 0) : hg_Det false yX6_clear md_X6_clear [hv_r (some (7, 0)), hv_i (nI f)] (mi, ml, mr, sh) (some (hv_i (-3))) (mi, ml, mr, sh) := by
  intro Q hQ
  refine hg_intro rfl rfl rfl (Nat.le_of_ble_eq_true rfl) rfl ?_
  refine hg_iload_n (n := 1) dX6_clear_0 rfl rfl ?_
  refine hg_callSd (n := 4) (c_X6_isFurnace _ _) dX6_clear_1 rfl mk_X6_153 yl_X6_isFurnace ys_X6_isFurnace (by decide) (by decide) rfl rfl (Nat.le_of_ble_eq_true rfl) (fun h => by cases h) ?_
  refine hg_if_ne (n := 7) (tgt := 10) dX6_clear_4 rfl (by decide) (fun h4 => ?_) (fun h4 => ?_)
  · refine hg_aload_n (n := 11) dX6_clear_10 rfl rfl ?_
    refine hg_getR (n := 14) (r := some (53, 0)) dX6_clear_11 rfl fl_X6_111 rfl rfl (mo_s hM) (mo_r hM 23 (by decide)) ?_
    refine hg_iload_n (n := 15) dX6_clear_14 rfl rfl ?_
    refine hg_baload (n := 16) (len := 3) (f) dX6_clear_15 rfl (by decide) rfl (mo_a hM 23 (by decide)) rfl (by omega) (by decide) ?_
    refine hg_if_eq (n := 19) (tgt := 22) dX6_clear_16 rfl (by decide) (fun h16 => ?_) (fun h16 => ?_)
    · exact absurd h16 hr
    · refine hg_bipush (n := 21) (v := -3) dX6_clear_19 rfl (by decide) ?_
      refine hg_ireturn dX6_clear_21 rfl ?_
      exact hQ
  · exact absurd h4 (z_nat3 (a := 0) (b := 2) (by omega) (by omega) (by omega))

set_option maxHeartbeats 4000000 in
set_option maxRecDepth 100000 in
theorem c_X6_clear {mi : MI_} {ml : ML_} {mr : MR_} {sh : SH_} (hM : mo_ mr sh) (f : Nat) (hf : f < 3) (hr : mi 53 0 f = 0) : hg_Det false yX6_clear md_X6_clear [hv_r (some (7, 0)), hv_i (nI f)] (mi, ml, mr, sh) (some (hv_i (mi 46 0 f))) (u_3 mi 46 0 f 0, ml, mr, sh) := by
  intro Q hQ
  refine hg_intro rfl rfl rfl (Nat.le_of_ble_eq_true rfl) rfl ?_
  refine hg_iload_n (n := 1) dX6_clear_0 rfl rfl ?_
  refine hg_callSd (n := 4) (c_X6_isFurnace _ _) dX6_clear_1 rfl mk_X6_153 yl_X6_isFurnace ys_X6_isFurnace (by decide) (by decide) rfl rfl (Nat.le_of_ble_eq_true rfl) (fun h => by cases h) ?_
  refine hg_if_ne (n := 7) (tgt := 10) dX6_clear_4 rfl (by decide) (fun h4 => ?_) (fun h4 => ?_)
  · refine hg_aload_n (n := 11) dX6_clear_10 rfl rfl ?_
    refine hg_getR (n := 14) (r := some (53, 0)) dX6_clear_11 rfl fl_X6_111 rfl rfl (mo_s hM) (mo_r hM 23 (by decide)) ?_
    refine hg_iload_n (n := 15) dX6_clear_14 rfl rfl ?_
    refine hg_baload (n := 16) (len := 3) (f) dX6_clear_15 rfl (by decide) rfl (mo_a hM 23 (by decide)) rfl (by omega) (by decide) ?_
    refine hg_if_eq (n := 19) (tgt := 22) dX6_clear_16 rfl (by decide) (fun h16 => ?_) (fun h16 => ?_)
    · refine hg_aload_n (n := 23) dX6_clear_22 rfl rfl ?_
      refine hg_getR (n := 26) (r := some (46, 0)) dX6_clear_23 rfl fl_X6_89 rfl rfl (mo_s hM) (mo_r hM 16 (by decide)) ?_
      refine hg_iload_n (n := 27) dX6_clear_26 rfl rfl ?_
      refine hg_iaload (n := 28) (len := 3) (f) dX6_clear_27 rfl (by decide) rfl (mo_a hM 16 (by decide)) rfl (by omega) (by decide) ?_
      refine hg_istore_n (n := 29) dX6_clear_28 rfl (by decide) rfl rfl ?_
      refine hg_aload_n (n := 30) dX6_clear_29 rfl rfl ?_
      refine hg_getR (n := 33) (r := some (46, 0)) dX6_clear_30 rfl fl_X6_89 rfl rfl (mo_s hM) (mo_r hM 16 (by decide)) ?_
      refine hg_iload_n (n := 34) dX6_clear_33 rfl rfl ?_
      refine hg_iconst (n := 35) (v := 0) dX6_clear_34 rfl (by decide) ?_
      refine hg_iastore (n := 36) (len := 3) (f) dX6_clear_35 rfl (by decide) rfl (mo_a hM 16 (by decide)) rfl (by omega) (by decide) ?_
      refine hg_iload_n (n := 37) dX6_clear_36 rfl rfl ?_
      refine hg_ireturn dX6_clear_37 rfl ?_
      exact hQ
    · exact absurd hr h16
  · exact absurd h4 (z_nat3 (a := 0) (b := 2) (by omega) (by omega) (by omega))

set_option maxHeartbeats 4000000 in
set_option maxRecDepth 100000 in
theorem c_X6_load_b {mi : MI_} {ml : ML_} {mr : MR_} {sh : SH_} (hM : mo_ mr sh) (f l x : Int32) (hb : z_in f 0 2 = 0 ∨ z_in l 0 3 = 0 ∨ z_in x 0 (mi 7 0 0 - 1) = 0) : hg_Det false yX6_load md_X6_load [hv_r (some (7, 0)), hv_i f, hv_i l, hv_i x] (mi, ml, mr, sh) (some (hv_i (-2))) (mi, ml, mr, sh) := by
  intro Q hQ
  refine hg_intro rfl rfl rfl (Nat.le_of_ble_eq_true rfl) rfl ?_
  refine hg_iload_n (n := 1) dX6_load_0 rfl rfl ?_
  refine hg_callSd (n := 4) (c_X6_isFurnace _ _) dX6_load_1 rfl mk_X6_153 yl_X6_isFurnace ys_X6_isFurnace (by decide) (by decide) rfl rfl (Nat.le_of_ble_eq_true rfl) (fun h => by cases h) ?_
  refine hg_if_eq (n := 7) (tgt := 22) dX6_load_4 rfl (by decide) (fun h4 => ?_) (fun h4 => ?_)
  · refine hg_bipush (n := 24) (v := -2) dX6_load_22 rfl (by decide) ?_
    refine hg_ireturn dX6_load_24 rfl ?_
    exact hQ
  · refine hg_iload_n (n := 8) dX6_load_7 rfl rfl ?_
    refine hg_callSd (n := 11) (c_X6_isPlace _ _) dX6_load_8 rfl mk_X6_156 yl_X6_isPlace ys_X6_isPlace (by decide) (by decide) rfl rfl (Nat.le_of_ble_eq_true rfl) (fun h => by cases h) ?_
    refine hg_if_eq (n := 14) (tgt := 22) dX6_load_11 rfl (by decide) (fun h11 => ?_) (fun h11 => ?_)
    · refine hg_bipush (n := 24) (v := -2) dX6_load_22 rfl (by decide) ?_
      refine hg_ireturn dX6_load_24 rfl ?_
      exact hQ
    · refine hg_aload_n (n := 15) dX6_load_14 rfl rfl ?_
      refine hg_iload_n (n := 16) dX6_load_15 rfl rfl ?_
      refine hg_callVd (n := 19) (c_X6_isPart hM _) dX6_load_16 rfl mk_X6_60 yl_X6_isPart yv_X6_isPart rfl (mo_s hM) (by decide) (by decide) rfl rfl (Nat.le_of_ble_eq_true rfl) (fun h => by cases h) ?_
      refine hg_if_ne (n := 22) (tgt := 25) dX6_load_19 rfl (by decide) (fun h19 => ?_) (fun h19 => ?_)
      · exact absurd hb (by simp [h4, h11, h19])
      · refine hg_bipush (n := 24) (v := -2) dX6_load_22 rfl (by decide) ?_
        refine hg_ireturn dX6_load_24 rfl ?_
        exact hQ

def ld_n (X : MI_) (f l p : Nat) : Prop := ¬ X 38 0 p = -1 ∨ ¬ X 50 0 (4 * f + l) = -1 ∨ ¬ X 53 0 f = 0
def ld_m (X : MI_) (f p : Nat) : Prop := ¬ ma_ X f 4 + X 32 0 p ≤ 1000
set_option maxHeartbeats 4000000 in
set_option maxRecDepth 100000 in
theorem c_X6_load_n {mi : MI_} {ml : ML_} {mr : MR_} {sh : SH_} (hM : mo_ mr sh) (np : Nat) (hnp : mi 7 0 0 = nI np) (hn12 : np ≤ 12) (hpl : pl_ mi np) (f : Nat) (hf : f < 3) (l : Nat) (hl : l < 4) (p : Nat) (hp : p < np) (hno : ld_n mi f l p ∨ ld_m mi f p) : hg_Det false yX6_load md_X6_load [hv_r (some (7, 0)), hv_i (nI f), hv_i (nI l), hv_i (nI p)] (mi, ml, mr, sh) (some (hv_i (-3))) (mi, ml, mr, sh) := by
  intro Q hQ
  refine hg_intro rfl rfl rfl (Nat.le_of_ble_eq_true rfl) rfl ?_
  have s0 : ld_m mi f p → hg_G md_X6_load false sh Q 0 0 63 [some (hv_r (some (7, 0))), some (hv_i (nI f)), some (hv_i (nI l)), some (hv_i (nI p)), none] [hv_i 0] (mi, ml, mr, sh) := by
    intro hm
    refine hg_istore (n := 65) dX6_load_63 rfl (by decide) rfl rfl ?_
    refine hg_iload (n := 67) dX6_load_65 rfl rfl ?_
    refine hg_if_ne (n := 70) (tgt := 88) dX6_load_67 rfl (by decide) (fun h67 => ?_) (fun h67 => ?_)
    · exact absurd rfl h67
    · refine hg_aload_n (n := 71) dX6_load_70 rfl rfl ?_
      refine hg_iload_n (n := 72) dX6_load_71 rfl rfl ?_
      refine hg_callVd (n := 75) (c_X6_massOf hM np hn12 hpl (f) (by omega)) dX6_load_72 rfl mk_X6_159 yl_X6_massOf yv_X6_massOf rfl (mo_s hM) (by decide) (by decide) rfl rfl (Nat.le_of_ble_eq_true rfl) (fun h => by cases h) ?_
      refine hg_aload_n (n := 76) dX6_load_75 rfl rfl ?_
      refine hg_getR (n := 79) (r := some (32, 0)) dX6_load_76 rfl fl_X6_15 rfl rfl (mo_s hM) (mo_r hM 2 (by decide)) ?_
      refine hg_iload_n (n := 80) dX6_load_79 rfl rfl ?_
      refine hg_iaload (n := 81) (len := 12) (p) dX6_load_80 rfl (by decide) rfl (mo_a hM 2 (by decide)) rfl (by omega) (by decide) ?_
      refine hg_iadd (n := 82) dX6_load_81 rfl ?_
      refine hg_sipush (n := 85) (v := 1000) dX6_load_82 rfl (by decide) ?_
      refine hg_icmp_le (n := 88) (tgt := 91) dX6_load_85 rfl (by decide) (fun h85 => ?_) (fun h85 => ?_)
      · exact absurd h85 hm
      · refine hg_bipush (n := 90) (v := -3) dX6_load_88 rfl (by decide) ?_
        refine hg_ireturn dX6_load_90 rfl ?_
        exact hQ
  have s1 : hg_G md_X6_load false sh Q 0 0 63 [some (hv_r (some (7, 0))), some (hv_i (nI f)), some (hv_i (nI l)), some (hv_i (nI p)), none] [hv_i 1] (mi, ml, mr, sh) := by
    refine hg_istore (n := 65) dX6_load_63 rfl (by decide) rfl rfl ?_
    refine hg_iload (n := 67) dX6_load_65 rfl rfl ?_
    refine hg_if_ne (n := 70) (tgt := 88) dX6_load_67 rfl (by decide) (fun h67 => ?_) (fun h67 => ?_)
    · refine hg_bipush (n := 90) (v := -3) dX6_load_88 rfl (by decide) ?_
      refine hg_ireturn dX6_load_90 rfl ?_
      exact hQ
    · exact absurd h67 (by decide)
  refine hg_iload_n (n := 1) dX6_load_0 rfl rfl ?_
  refine hg_callSd (n := 4) (c_X6_isFurnace _ _) dX6_load_1 rfl mk_X6_153 yl_X6_isFurnace ys_X6_isFurnace (by decide) (by decide) rfl rfl (Nat.le_of_ble_eq_true rfl) (fun h => by cases h) ?_
  refine hg_if_eq (n := 7) (tgt := 22) dX6_load_4 rfl (by decide) (fun h4 => ?_) (fun h4 => ?_)
  · exact absurd h4 (z_nat3 (a := 0) (b := 2) (by omega) (by omega) (by omega))
  · refine hg_iload_n (n := 8) dX6_load_7 rfl rfl ?_
    refine hg_callSd (n := 11) (c_X6_isPlace _ _) dX6_load_8 rfl mk_X6_156 yl_X6_isPlace ys_X6_isPlace (by decide) (by decide) rfl rfl (Nat.le_of_ble_eq_true rfl) (fun h => by cases h) ?_
    refine hg_if_eq (n := 14) (tgt := 22) dX6_load_11 rfl (by decide) (fun h11 => ?_) (fun h11 => ?_)
    · exact absurd h11 (z_nat3 (a := 0) (b := 3) (by omega) (by omega) (by omega))
    · refine hg_aload_n (n := 15) dX6_load_14 rfl rfl ?_
      refine hg_iload_n (n := 16) dX6_load_15 rfl rfl ?_
      refine hg_callVd (n := 19) (c_X6_isPart hM _) dX6_load_16 rfl mk_X6_60 yl_X6_isPart yv_X6_isPart rfl (mo_s hM) (by decide) (by decide) rfl rfl (Nat.le_of_ble_eq_true rfl) (fun h => by cases h) ?_
      refine hg_if_ne (n := 22) (tgt := 25) dX6_load_19 rfl (by decide) (fun h19 => ?_) (fun h19 => ?_)
      · refine hg_aload_n (n := 26) dX6_load_25 rfl rfl ?_
        refine hg_getR (n := 29) (r := some (38, 0)) dX6_load_26 rfl fl_X6_34 rfl rfl (mo_s hM) (mo_r hM 8 (by decide)) ?_
        refine hg_iload_n (n := 30) dX6_load_29 rfl rfl ?_
        refine hg_iaload (n := 31) (len := 12) (p) dX6_load_30 rfl (by decide) rfl (mo_a hM 8 (by decide)) rfl (by omega) (by decide) ?_
        refine hg_iconst (n := 32) (v := -1) dX6_load_31 rfl (by decide) ?_
        refine hg_icmp_ne (n := 35) (tgt := 58) dX6_load_32 rfl (by decide) (fun h32 => ?_) (fun h32 => ?_)
        · refine hg_iconst (n := 59) (v := 1) dX6_load_58 rfl (by decide) ?_
          refine hg_goto (tgt := 63) dX6_load_59 (by decide) ?_
          exact s1
        · refine hg_aload_n (n := 36) dX6_load_35 rfl rfl ?_
          refine hg_getR (n := 39) (r := some (50, 0)) dX6_load_36 rfl fl_X6_101 rfl rfl (mo_s hM) (mo_r hM 20 (by decide)) ?_
          refine hg_iconst (n := 40) (v := 4) dX6_load_39 rfl (by decide) ?_
          refine hg_iload_n (n := 41) dX6_load_40 rfl rfl ?_
          refine hg_imulN (n := 42) (4) (f) dX6_load_41 rfl ?_
          refine hg_iload_n (n := 43) dX6_load_42 rfl rfl ?_
          refine hg_iaddN (n := 44) (4 * f) (l) dX6_load_43 rfl ?_
          refine hg_iaload (n := 45) (len := 12) ((4 * f) + l) dX6_load_44 rfl (by decide) rfl (mo_a hM 20 (by decide)) rfl (by omega) (by decide) ?_
          refine hg_iconst (n := 46) (v := -1) dX6_load_45 rfl (by decide) ?_
          refine hg_icmp_ne (n := 49) (tgt := 58) dX6_load_46 rfl (by decide) (fun h46 => ?_) (fun h46 => ?_)
          · refine hg_iconst (n := 59) (v := 1) dX6_load_58 rfl (by decide) ?_
            refine hg_goto (tgt := 63) dX6_load_59 (by decide) ?_
            exact s1
          · refine hg_aload_n (n := 50) dX6_load_49 rfl rfl ?_
            refine hg_getR (n := 53) (r := some (53, 0)) dX6_load_50 rfl fl_X6_111 rfl rfl (mo_s hM) (mo_r hM 23 (by decide)) ?_
            refine hg_iload_n (n := 54) dX6_load_53 rfl rfl ?_
            refine hg_baload (n := 55) (len := 3) (f) dX6_load_54 rfl (by decide) rfl (mo_a hM 23 (by decide)) rfl (by omega) (by decide) ?_
            refine hg_if_eq (n := 58) (tgt := 62) dX6_load_55 rfl (by decide) (fun h55 => ?_) (fun h55 => ?_)
            · refine hg_iconst (n := 63) (v := 0) dX6_load_62 rfl (by decide) ?_
              exact s0 (hno.resolve_left (by unfold ld_n; simp_all))
            · refine hg_iconst (n := 59) (v := 1) dX6_load_58 rfl (by decide) ?_
              refine hg_goto (tgt := 63) dX6_load_59 (by decide) ?_
              exact s1
      · exact absurd h19 (by rw [hnp, z_ix2 (by omega) hp]; decide)

set_option maxHeartbeats 4000000 in
set_option maxRecDepth 100000 in
theorem c_X6_load {mi : MI_} {ml : ML_} {mr : MR_} {sh : SH_} (hM : mo_ mr sh) (np : Nat) (hnp : mi 7 0 0 = nI np) (hn12 : np ≤ 12) (hpl : pl_ mi np) (f : Nat) (hf : f < 3) (l : Nat) (hl : l < 4) (p : Nat) (hp : p < np) (h1 : ¬ ld_n mi f l p) (h2 : ¬ ld_m mi f p) : hg_Det false yX6_load md_X6_load [hv_r (some (7, 0)), hv_i (nI f), hv_i (nI l), hv_i (nI p)] (mi, ml, mr, sh) (some (hv_i 1)) (u_3 (u_3 mi 50 0 (4 * f + l) (nI p)) 38 0 p (nI f), ml, mr, sh) := by
  intro Q hQ
  refine hg_intro rfl rfl rfl (Nat.le_of_ble_eq_true rfl) rfl ?_
  have s0 : hg_G md_X6_load false sh Q 0 0 63 [some (hv_r (some (7, 0))), some (hv_i (nI f)), some (hv_i (nI l)), some (hv_i (nI p)), none] [hv_i 0] (mi, ml, mr, sh) := by
    refine hg_istore (n := 65) dX6_load_63 rfl (by decide) rfl rfl ?_
    refine hg_iload (n := 67) dX6_load_65 rfl rfl ?_
    refine hg_if_ne (n := 70) (tgt := 88) dX6_load_67 rfl (by decide) (fun h67 => ?_) (fun h67 => ?_)
    · exact absurd rfl h67
    · refine hg_aload_n (n := 71) dX6_load_70 rfl rfl ?_
      refine hg_iload_n (n := 72) dX6_load_71 rfl rfl ?_
      refine hg_callVd (n := 75) (c_X6_massOf hM np hn12 hpl (f) (by omega)) dX6_load_72 rfl mk_X6_159 yl_X6_massOf yv_X6_massOf rfl (mo_s hM) (by decide) (by decide) rfl rfl (Nat.le_of_ble_eq_true rfl) (fun h => by cases h) ?_
      refine hg_aload_n (n := 76) dX6_load_75 rfl rfl ?_
      refine hg_getR (n := 79) (r := some (32, 0)) dX6_load_76 rfl fl_X6_15 rfl rfl (mo_s hM) (mo_r hM 2 (by decide)) ?_
      refine hg_iload_n (n := 80) dX6_load_79 rfl rfl ?_
      refine hg_iaload (n := 81) (len := 12) (p) dX6_load_80 rfl (by decide) rfl (mo_a hM 2 (by decide)) rfl (by omega) (by decide) ?_
      refine hg_iadd (n := 82) dX6_load_81 rfl ?_
      refine hg_sipush (n := 85) (v := 1000) dX6_load_82 rfl (by decide) ?_
      refine hg_icmp_le (n := 88) (tgt := 91) dX6_load_85 rfl (by decide) (fun h85 => ?_) (fun h85 => ?_)
      · refine hg_aload_n (n := 92) dX6_load_91 rfl rfl ?_
        refine hg_getR (n := 95) (r := some (50, 0)) dX6_load_92 rfl fl_X6_101 rfl rfl (mo_s hM) (mo_r hM 20 (by decide)) ?_
        refine hg_iconst (n := 96) (v := 4) dX6_load_95 rfl (by decide) ?_
        refine hg_iload_n (n := 97) dX6_load_96 rfl rfl ?_
        refine hg_imulN (n := 98) (4) (f) dX6_load_97 rfl ?_
        refine hg_iload_n (n := 99) dX6_load_98 rfl rfl ?_
        refine hg_iaddN (n := 100) (4 * f) (l) dX6_load_99 rfl ?_
        refine hg_iload_n (n := 101) dX6_load_100 rfl rfl ?_
        refine hg_iastore (n := 102) (len := 12) ((4 * f) + l) dX6_load_101 rfl (by decide) rfl (mo_a hM 20 (by decide)) rfl (by omega) (by decide) ?_
        refine hg_aload_n (n := 103) dX6_load_102 rfl rfl ?_
        refine hg_getR (n := 106) (r := some (38, 0)) dX6_load_103 rfl fl_X6_34 rfl rfl (mo_s hM) (mo_r hM 8 (by decide)) ?_
        refine hg_iload_n (n := 107) dX6_load_106 rfl rfl ?_
        refine hg_iload_n (n := 108) dX6_load_107 rfl rfl ?_
        refine hg_iastore (n := 109) (len := 12) (p) dX6_load_108 rfl (by decide) rfl (mo_a hM 8 (by decide)) rfl (by omega) (by decide) ?_
        refine hg_iconst (n := 110) (v := 1) dX6_load_109 rfl (by decide) ?_
        refine hg_ireturn dX6_load_110 rfl ?_
        exact hQ
      · exact absurd h85 h2
  refine hg_iload_n (n := 1) dX6_load_0 rfl rfl ?_
  refine hg_callSd (n := 4) (c_X6_isFurnace _ _) dX6_load_1 rfl mk_X6_153 yl_X6_isFurnace ys_X6_isFurnace (by decide) (by decide) rfl rfl (Nat.le_of_ble_eq_true rfl) (fun h => by cases h) ?_
  refine hg_if_eq (n := 7) (tgt := 22) dX6_load_4 rfl (by decide) (fun h4 => ?_) (fun h4 => ?_)
  · exact absurd h4 (z_nat3 (a := 0) (b := 2) (by omega) (by omega) (by omega))
  · refine hg_iload_n (n := 8) dX6_load_7 rfl rfl ?_
    refine hg_callSd (n := 11) (c_X6_isPlace _ _) dX6_load_8 rfl mk_X6_156 yl_X6_isPlace ys_X6_isPlace (by decide) (by decide) rfl rfl (Nat.le_of_ble_eq_true rfl) (fun h => by cases h) ?_
    refine hg_if_eq (n := 14) (tgt := 22) dX6_load_11 rfl (by decide) (fun h11 => ?_) (fun h11 => ?_)
    · exact absurd h11 (z_nat3 (a := 0) (b := 3) (by omega) (by omega) (by omega))
    · refine hg_aload_n (n := 15) dX6_load_14 rfl rfl ?_
      refine hg_iload_n (n := 16) dX6_load_15 rfl rfl ?_
      refine hg_callVd (n := 19) (c_X6_isPart hM _) dX6_load_16 rfl mk_X6_60 yl_X6_isPart yv_X6_isPart rfl (mo_s hM) (by decide) (by decide) rfl rfl (Nat.le_of_ble_eq_true rfl) (fun h => by cases h) ?_
      refine hg_if_ne (n := 22) (tgt := 25) dX6_load_19 rfl (by decide) (fun h19 => ?_) (fun h19 => ?_)
      · refine hg_aload_n (n := 26) dX6_load_25 rfl rfl ?_
        refine hg_getR (n := 29) (r := some (38, 0)) dX6_load_26 rfl fl_X6_34 rfl rfl (mo_s hM) (mo_r hM 8 (by decide)) ?_
        refine hg_iload_n (n := 30) dX6_load_29 rfl rfl ?_
        refine hg_iaload (n := 31) (len := 12) (p) dX6_load_30 rfl (by decide) rfl (mo_a hM 8 (by decide)) rfl (by omega) (by decide) ?_
        refine hg_iconst (n := 32) (v := -1) dX6_load_31 rfl (by decide) ?_
        refine hg_icmp_ne (n := 35) (tgt := 58) dX6_load_32 rfl (by decide) (fun h32 => ?_) (fun h32 => ?_)
        · refine hg_iconst (n := 59) (v := 1) dX6_load_58 rfl (by decide) ?_
          refine hg_goto (tgt := 63) dX6_load_59 (by decide) ?_
          exact absurd h1 (by unfold ld_n; simp_all)
        · refine hg_aload_n (n := 36) dX6_load_35 rfl rfl ?_
          refine hg_getR (n := 39) (r := some (50, 0)) dX6_load_36 rfl fl_X6_101 rfl rfl (mo_s hM) (mo_r hM 20 (by decide)) ?_
          refine hg_iconst (n := 40) (v := 4) dX6_load_39 rfl (by decide) ?_
          refine hg_iload_n (n := 41) dX6_load_40 rfl rfl ?_
          refine hg_imulN (n := 42) (4) (f) dX6_load_41 rfl ?_
          refine hg_iload_n (n := 43) dX6_load_42 rfl rfl ?_
          refine hg_iaddN (n := 44) (4 * f) (l) dX6_load_43 rfl ?_
          refine hg_iaload (n := 45) (len := 12) ((4 * f) + l) dX6_load_44 rfl (by decide) rfl (mo_a hM 20 (by decide)) rfl (by omega) (by decide) ?_
          refine hg_iconst (n := 46) (v := -1) dX6_load_45 rfl (by decide) ?_
          refine hg_icmp_ne (n := 49) (tgt := 58) dX6_load_46 rfl (by decide) (fun h46 => ?_) (fun h46 => ?_)
          · refine hg_iconst (n := 59) (v := 1) dX6_load_58 rfl (by decide) ?_
            refine hg_goto (tgt := 63) dX6_load_59 (by decide) ?_
            exact absurd h1 (by unfold ld_n; simp_all)
          · refine hg_aload_n (n := 50) dX6_load_49 rfl rfl ?_
            refine hg_getR (n := 53) (r := some (53, 0)) dX6_load_50 rfl fl_X6_111 rfl rfl (mo_s hM) (mo_r hM 23 (by decide)) ?_
            refine hg_iload_n (n := 54) dX6_load_53 rfl rfl ?_
            refine hg_baload (n := 55) (len := 3) (f) dX6_load_54 rfl (by decide) rfl (mo_a hM 23 (by decide)) rfl (by omega) (by decide) ?_
            refine hg_if_eq (n := 58) (tgt := 62) dX6_load_55 rfl (by decide) (fun h55 => ?_) (fun h55 => ?_)
            · refine hg_iconst (n := 63) (v := 0) dX6_load_62 rfl (by decide) ?_
              exact s0
            · refine hg_iconst (n := 59) (v := 1) dX6_load_58 rfl (by decide) ?_
              refine hg_goto (tgt := 63) dX6_load_59 (by decide) ?_
              exact absurd h1 (by unfold ld_n; simp_all)
      · exact absurd h19 (by rw [hnp, z_ix2 (by omega) hp]; decide)

set_option maxHeartbeats 4000000 in
set_option maxRecDepth 100000 in
theorem c_X6_unload_b {mi : MI_} {ml : ML_} {mr : MR_} {sh : SH_} (hM : mo_ mr sh) (f l : Int32) (hb : z_in f 0 2 = 0 ∨ z_in l 0 3 = 0) : hg_Det false yX6_unload md_X6_unload [hv_r (some (7, 0)), hv_i f, hv_i l] (mi, ml, mr, sh) (some (hv_i (-2))) (mi, ml, mr, sh) := by
  intro Q hQ
  refine hg_intro rfl rfl rfl (Nat.le_of_ble_eq_true rfl) rfl ?_
  refine hg_iload_n (n := 1) dX6_unload_0 rfl rfl ?_
  refine hg_callSd (n := 4) (c_X6_isFurnace _ _) dX6_unload_1 rfl mk_X6_153 yl_X6_isFurnace ys_X6_isFurnace (by decide) (by decide) rfl rfl (Nat.le_of_ble_eq_true rfl) (fun h => by cases h) ?_
  refine hg_if_eq (n := 7) (tgt := 14) dX6_unload_4 rfl (by decide) (fun h4 => ?_) (fun h4 => ?_)
  · refine hg_bipush (n := 16) (v := -2) dX6_unload_14 rfl (by decide) ?_
    refine hg_ireturn dX6_unload_16 rfl ?_
    exact hQ
  · refine hg_iload_n (n := 8) dX6_unload_7 rfl rfl ?_
    refine hg_callSd (n := 11) (c_X6_isPlace _ _) dX6_unload_8 rfl mk_X6_156 yl_X6_isPlace ys_X6_isPlace (by decide) (by decide) rfl rfl (Nat.le_of_ble_eq_true rfl) (fun h => by cases h) ?_
    refine hg_if_ne (n := 14) (tgt := 17) dX6_unload_11 rfl (by decide) (fun h11 => ?_) (fun h11 => ?_)
    · exact absurd hb (by simp [h4, h11])
    · refine hg_bipush (n := 16) (v := -2) dX6_unload_14 rfl (by decide) ?_
      refine hg_ireturn dX6_unload_16 rfl ?_
      exact hQ

set_option maxHeartbeats 4000000 in
set_option maxRecDepth 100000 in
theorem c_X6_unload_n {mi : MI_} {ml : ML_} {mr : MR_} {sh : SH_} (hM : mo_ mr sh) (f : Nat) (hf : f < 3) (l : Nat) (hl : l < 4) (hno : mi 50 0 (4 * f + l) = -1 ∨ ¬ mi 53 0 f = 0) : hg_Det false yX6_unload md_X6_unload [hv_r (some (7, 0)), hv_i (nI f), hv_i (nI l)] (mi, ml, mr, sh) (some (hv_i (-3))) (mi, ml, mr, sh) := by
  intro Q hQ
  refine hg_intro rfl rfl rfl (Nat.le_of_ble_eq_true rfl) rfl ?_
  refine hg_iload_n (n := 1) dX6_unload_0 rfl rfl ?_
  refine hg_callSd (n := 4) (c_X6_isFurnace _ _) dX6_unload_1 rfl mk_X6_153 yl_X6_isFurnace ys_X6_isFurnace (by decide) (by decide) rfl rfl (Nat.le_of_ble_eq_true rfl) (fun h => by cases h) ?_
  refine hg_if_eq (n := 7) (tgt := 14) dX6_unload_4 rfl (by decide) (fun h4 => ?_) (fun h4 => ?_)
  · exact absurd h4 (z_nat3 (a := 0) (b := 2) (by omega) (by omega) (by omega))
  · refine hg_iload_n (n := 8) dX6_unload_7 rfl rfl ?_
    refine hg_callSd (n := 11) (c_X6_isPlace _ _) dX6_unload_8 rfl mk_X6_156 yl_X6_isPlace ys_X6_isPlace (by decide) (by decide) rfl rfl (Nat.le_of_ble_eq_true rfl) (fun h => by cases h) ?_
    refine hg_if_ne (n := 14) (tgt := 17) dX6_unload_11 rfl (by decide) (fun h11 => ?_) (fun h11 => ?_)
    · refine hg_aload_n (n := 18) dX6_unload_17 rfl rfl ?_
      refine hg_getR (n := 21) (r := some (50, 0)) dX6_unload_18 rfl fl_X6_101 rfl rfl (mo_s hM) (mo_r hM 20 (by decide)) ?_
      refine hg_iconst (n := 22) (v := 4) dX6_unload_21 rfl (by decide) ?_
      refine hg_iload_n (n := 23) dX6_unload_22 rfl rfl ?_
      refine hg_imulN (n := 24) (4) (f) dX6_unload_23 rfl ?_
      refine hg_iload_n (n := 25) dX6_unload_24 rfl rfl ?_
      refine hg_iaddN (n := 26) (4 * f) (l) dX6_unload_25 rfl ?_
      refine hg_iaload (n := 27) (len := 12) ((4 * f) + l) dX6_unload_26 rfl (by decide) rfl (mo_a hM 20 (by decide)) rfl (by omega) (by decide) ?_
      refine hg_istore_n (n := 28) dX6_unload_27 rfl (by decide) rfl rfl ?_
      refine hg_iload_n (n := 29) dX6_unload_28 rfl rfl ?_
      refine hg_iconst (n := 30) (v := -1) dX6_unload_29 rfl (by decide) ?_
      refine hg_icmp_eq (n := 33) (tgt := 42) dX6_unload_30 rfl (by decide) (fun h30 => ?_) (fun h30 => ?_)
      · refine hg_bipush (n := 44) (v := -3) dX6_unload_42 rfl (by decide) ?_
        refine hg_ireturn dX6_unload_44 rfl ?_
        exact hQ
      · refine hg_aload_n (n := 34) dX6_unload_33 rfl rfl ?_
        refine hg_getR (n := 37) (r := some (53, 0)) dX6_unload_34 rfl fl_X6_111 rfl rfl (mo_s hM) (mo_r hM 23 (by decide)) ?_
        refine hg_iload_n (n := 38) dX6_unload_37 rfl rfl ?_
        refine hg_baload (n := 39) (len := 3) (f) dX6_unload_38 rfl (by decide) rfl (mo_a hM 23 (by decide)) rfl (by omega) (by decide) ?_
        refine hg_if_eq (n := 42) (tgt := 45) dX6_unload_39 rfl (by decide) (fun h39 => ?_) (fun h39 => ?_)
        · exact absurd hno (by simp [h30, h39])
        · refine hg_bipush (n := 44) (v := -3) dX6_unload_42 rfl (by decide) ?_
          refine hg_ireturn dX6_unload_44 rfl ?_
          exact hQ
    · exact absurd h11 (z_nat3 (a := 0) (b := 3) (by omega) (by omega) (by omega))

set_option maxHeartbeats 4000000 in
set_option maxRecDepth 100000 in
theorem c_X6_unload {mi : MI_} {ml : ML_} {mr : MR_} {sh : SH_} (hM : mo_ mr sh) (f : Nat) (hf : f < 3) (l : Nat) (hl : l < 4) (p : Nat) (hp : p < 12) (hpj : mi 50 0 (4 * f + l) = nI p) (hr : mi 53 0 f = 0) : hg_Det false yX6_unload md_X6_unload [hv_r (some (7, 0)), hv_i (nI f), hv_i (nI l)] (mi, ml, mr, sh) (some (hv_i (nI p))) (u_3 (u_3 mi 50 0 (4 * f + l) (-1)) 38 0 p (-1), ml, mr, sh) := by
  intro Q hQ
  refine hg_intro rfl rfl rfl (Nat.le_of_ble_eq_true rfl) rfl ?_
  refine hg_iload_n (n := 1) dX6_unload_0 rfl rfl ?_
  refine hg_callSd (n := 4) (c_X6_isFurnace _ _) dX6_unload_1 rfl mk_X6_153 yl_X6_isFurnace ys_X6_isFurnace (by decide) (by decide) rfl rfl (Nat.le_of_ble_eq_true rfl) (fun h => by cases h) ?_
  refine hg_if_eq (n := 7) (tgt := 14) dX6_unload_4 rfl (by decide) (fun h4 => ?_) (fun h4 => ?_)
  · exact absurd h4 (z_nat3 (a := 0) (b := 2) (by omega) (by omega) (by omega))
  · refine hg_iload_n (n := 8) dX6_unload_7 rfl rfl ?_
    refine hg_callSd (n := 11) (c_X6_isPlace _ _) dX6_unload_8 rfl mk_X6_156 yl_X6_isPlace ys_X6_isPlace (by decide) (by decide) rfl rfl (Nat.le_of_ble_eq_true rfl) (fun h => by cases h) ?_
    refine hg_if_ne (n := 14) (tgt := 17) dX6_unload_11 rfl (by decide) (fun h11 => ?_) (fun h11 => ?_)
    · refine hg_aload_n (n := 18) dX6_unload_17 rfl rfl ?_
      refine hg_getR (n := 21) (r := some (50, 0)) dX6_unload_18 rfl fl_X6_101 rfl rfl (mo_s hM) (mo_r hM 20 (by decide)) ?_
      refine hg_iconst (n := 22) (v := 4) dX6_unload_21 rfl (by decide) ?_
      refine hg_iload_n (n := 23) dX6_unload_22 rfl rfl ?_
      refine hg_imulN (n := 24) (4) (f) dX6_unload_23 rfl ?_
      refine hg_iload_n (n := 25) dX6_unload_24 rfl rfl ?_
      refine hg_iaddN (n := 26) (4 * f) (l) dX6_unload_25 rfl ?_
      refine hg_ialoadN (n := 27) (len := 12) (p) ((4 * f) + l) dX6_unload_26 rfl (by decide) rfl (mo_a hM 20 (by decide)) rfl (by omega) (by decide) hpj ?_
      refine hg_istore_n (n := 28) dX6_unload_27 rfl (by decide) rfl rfl ?_
      refine hg_iload_n (n := 29) dX6_unload_28 rfl rfl ?_
      refine hg_iconst (n := 30) (v := -1) dX6_unload_29 rfl (by decide) ?_
      refine hg_icmp_eq (n := 33) (tgt := 42) dX6_unload_30 rfl (by decide) (fun h30 => ?_) (fun h30 => ?_)
      · exact absurd h30 (nI_m1 (by omega))
      · refine hg_aload_n (n := 34) dX6_unload_33 rfl rfl ?_
        refine hg_getR (n := 37) (r := some (53, 0)) dX6_unload_34 rfl fl_X6_111 rfl rfl (mo_s hM) (mo_r hM 23 (by decide)) ?_
        refine hg_iload_n (n := 38) dX6_unload_37 rfl rfl ?_
        refine hg_baload (n := 39) (len := 3) (f) dX6_unload_38 rfl (by decide) rfl (mo_a hM 23 (by decide)) rfl (by omega) (by decide) ?_
        refine hg_if_eq (n := 42) (tgt := 45) dX6_unload_39 rfl (by decide) (fun h39 => ?_) (fun h39 => ?_)
        · refine hg_aload_n (n := 46) dX6_unload_45 rfl rfl ?_
          refine hg_getR (n := 49) (r := some (50, 0)) dX6_unload_46 rfl fl_X6_101 rfl rfl (mo_s hM) (mo_r hM 20 (by decide)) ?_
          refine hg_iconst (n := 50) (v := 4) dX6_unload_49 rfl (by decide) ?_
          refine hg_iload_n (n := 51) dX6_unload_50 rfl rfl ?_
          refine hg_imulN (n := 52) (4) (f) dX6_unload_51 rfl ?_
          refine hg_iload_n (n := 53) dX6_unload_52 rfl rfl ?_
          refine hg_iaddN (n := 54) (4 * f) (l) dX6_unload_53 rfl ?_
          refine hg_iconst (n := 55) (v := -1) dX6_unload_54 rfl (by decide) ?_
          refine hg_iastore (n := 56) (len := 12) ((4 * f) + l) dX6_unload_55 rfl (by decide) rfl (mo_a hM 20 (by decide)) rfl (by omega) (by decide) ?_
          refine hg_aload_n (n := 57) dX6_unload_56 rfl rfl ?_
          refine hg_getR (n := 60) (r := some (38, 0)) dX6_unload_57 rfl fl_X6_34 rfl rfl (mo_s hM) (mo_r hM 8 (by decide)) ?_
          refine hg_iload_n (n := 61) dX6_unload_60 rfl rfl ?_
          refine hg_iconst (n := 62) (v := -1) dX6_unload_61 rfl (by decide) ?_
          refine hg_iastore (n := 63) (len := 12) (p) dX6_unload_62 rfl (by decide) rfl (mo_a hM 8 (by decide)) rfl (by omega) (by decide) ?_
          refine hg_iload_n (n := 64) dX6_unload_63 rfl rfl ?_
          refine hg_ireturn dX6_unload_64 rfl ?_
          exact hQ
        · exact absurd hr h39
    · exact absurd h11 (z_nat3 (a := 0) (b := 3) (by omega) (by omega) (by omega))

set_option maxHeartbeats 4000000 in
set_option maxRecDepth 100000 in
theorem c_X6_probe_b {mi : MI_} {ml : ML_} {mr : MR_} {sh : SH_} (hM : mo_ mr sh) (f l y d : Int32) (hb : z_in f 0 2 = 0 ∨ z_in l 0 3 = 0 ∨ z_in d (-500) 500 = 0) : hg_Det false yX6_probe md_X6_probe [hv_r (some (7, 0)), hv_i f, hv_i l, hv_i y, hv_i d] (mi, ml, mr, sh) (some (hv_i (-2))) (mi, ml, mr, sh) := by
  intro Q hQ
  refine hg_intro rfl rfl rfl (Nat.le_of_ble_eq_true rfl) rfl ?_
  refine hg_iload_n (n := 1) dX6_probe_0 rfl rfl ?_
  refine hg_callSd (n := 4) (c_X6_isFurnace _ _) dX6_probe_1 rfl mk_X6_153 yl_X6_isFurnace ys_X6_isFurnace (by decide) (by decide) rfl rfl (Nat.le_of_ble_eq_true rfl) (fun h => by cases h) ?_
  refine hg_if_eq (n := 7) (tgt := 28) dX6_probe_4 rfl (by decide) (fun h4 => ?_) (fun h4 => ?_)
  · refine hg_bipush (n := 30) (v := -2) dX6_probe_28 rfl (by decide) ?_
    refine hg_ireturn dX6_probe_30 rfl ?_
    exact hQ
  · refine hg_iload_n (n := 8) dX6_probe_7 rfl rfl ?_
    refine hg_callSd (n := 11) (c_X6_isPlace _ _) dX6_probe_8 rfl mk_X6_156 yl_X6_isPlace ys_X6_isPlace (by decide) (by decide) rfl rfl (Nat.le_of_ble_eq_true rfl) (fun h => by cases h) ?_
    refine hg_if_eq (n := 14) (tgt := 28) dX6_probe_11 rfl (by decide) (fun h11 => ?_) (fun h11 => ?_)
    · refine hg_bipush (n := 30) (v := -2) dX6_probe_28 rfl (by decide) ?_
      refine hg_ireturn dX6_probe_30 rfl ?_
      exact hQ
    · refine hg_iload (n := 16) dX6_probe_14 rfl rfl ?_
      refine hg_sipush (n := 19) (v := -500) dX6_probe_16 rfl (by decide) ?_
      refine hg_sipush (n := 22) (v := 500) dX6_probe_19 rfl (by decide) ?_
      refine hg_callSd (n := 25) (c_X6_in _ _ _ _) dX6_probe_22 rfl mk_X6_1 yl_X6_in ys_X6_in (by decide) (by decide) rfl rfl (Nat.le_of_ble_eq_true rfl) (fun h => by cases h) ?_
      refine hg_if_ne (n := 28) (tgt := 31) dX6_probe_25 rfl (by decide) (fun h25 => ?_) (fun h25 => ?_)
      · exact absurd hb (by simp [h4, h11, h25])
      · refine hg_bipush (n := 30) (v := -2) dX6_probe_28 rfl (by decide) ?_
        refine hg_ireturn dX6_probe_30 rfl ?_
        exact hQ

set_option maxHeartbeats 4000000 in
set_option maxRecDepth 100000 in
theorem c_X6_probe {mi : MI_} {ml : ML_} {mr : MR_} {sh : SH_} (hM : mo_ mr sh) (f : Nat) (hf : f < 3) (l : Nat) (hl : l < 4) (y d : Int32) (hy : y = 0 ∨ y = 1) (hd : ¬ z_in d (-500) 500 = 0) : hg_Det false yX6_probe md_X6_probe [hv_r (some (7, 0)), hv_i (nI f), hv_i (nI l), hv_i y, hv_i d] (mi, ml, mr, sh) (some (hv_i 1)) (u_3 (u_3 mi 51 0 (4 * f + l) y) 52 0 (4 * f + l) d, ml, mr, sh) := by
  intro Q hQ
  refine hg_intro rfl rfl rfl (Nat.le_of_ble_eq_true rfl) rfl ?_
  refine hg_iload_n (n := 1) dX6_probe_0 rfl rfl ?_
  refine hg_callSd (n := 4) (c_X6_isFurnace _ _) dX6_probe_1 rfl mk_X6_153 yl_X6_isFurnace ys_X6_isFurnace (by decide) (by decide) rfl rfl (Nat.le_of_ble_eq_true rfl) (fun h => by cases h) ?_
  refine hg_if_eq (n := 7) (tgt := 28) dX6_probe_4 rfl (by decide) (fun h4 => ?_) (fun h4 => ?_)
  · exact absurd h4 (z_nat3 (a := 0) (b := 2) (by omega) (by omega) (by omega))
  · refine hg_iload_n (n := 8) dX6_probe_7 rfl rfl ?_
    refine hg_callSd (n := 11) (c_X6_isPlace _ _) dX6_probe_8 rfl mk_X6_156 yl_X6_isPlace ys_X6_isPlace (by decide) (by decide) rfl rfl (Nat.le_of_ble_eq_true rfl) (fun h => by cases h) ?_
    refine hg_if_eq (n := 14) (tgt := 28) dX6_probe_11 rfl (by decide) (fun h11 => ?_) (fun h11 => ?_)
    · exact absurd h11 (z_nat3 (a := 0) (b := 3) (by omega) (by omega) (by omega))
    · refine hg_iload (n := 16) dX6_probe_14 rfl rfl ?_
      refine hg_sipush (n := 19) (v := -500) dX6_probe_16 rfl (by decide) ?_
      refine hg_sipush (n := 22) (v := 500) dX6_probe_19 rfl (by decide) ?_
      refine hg_callSd (n := 25) (c_X6_in _ _ _ _) dX6_probe_22 rfl mk_X6_1 yl_X6_in ys_X6_in (by decide) (by decide) rfl rfl (Nat.le_of_ble_eq_true rfl) (fun h => by cases h) ?_
      refine hg_if_ne (n := 28) (tgt := 31) dX6_probe_25 rfl (by decide) (fun h25 => ?_) (fun h25 => ?_)
      · refine hg_aload_n (n := 32) dX6_probe_31 rfl rfl ?_
        refine hg_getR (n := 35) (r := some (51, 0)) dX6_probe_32 rfl fl_X6_104 rfl rfl (mo_s hM) (mo_r hM 21 (by decide)) ?_
        refine hg_iconst (n := 36) (v := 4) dX6_probe_35 rfl (by decide) ?_
        refine hg_iload_n (n := 37) dX6_probe_36 rfl rfl ?_
        refine hg_imulN (n := 38) (4) (f) dX6_probe_37 rfl ?_
        refine hg_iload_n (n := 39) dX6_probe_38 rfl rfl ?_
        refine hg_iaddN (n := 40) (4 * f) (l) dX6_probe_39 rfl ?_
        refine hg_iload_n (n := 41) dX6_probe_40 rfl rfl ?_
        refine hg_bastore (n := 42) (len := 12) ((4 * f) + l) dX6_probe_41 rfl (by decide) rfl hy (mo_a hM 21 (by decide)) rfl (by omega) (by decide) ?_
        refine hg_aload_n (n := 43) dX6_probe_42 rfl rfl ?_
        refine hg_getR (n := 46) (r := some (52, 0)) dX6_probe_43 rfl fl_X6_108 rfl rfl (mo_s hM) (mo_r hM 22 (by decide)) ?_
        refine hg_iconst (n := 47) (v := 4) dX6_probe_46 rfl (by decide) ?_
        refine hg_iload_n (n := 48) dX6_probe_47 rfl rfl ?_
        refine hg_imulN (n := 49) (4) (f) dX6_probe_48 rfl ?_
        refine hg_iload_n (n := 50) dX6_probe_49 rfl rfl ?_
        refine hg_iaddN (n := 51) (4 * f) (l) dX6_probe_50 rfl ?_
        refine hg_iload (n := 53) dX6_probe_51 rfl rfl ?_
        refine hg_iastore (n := 54) (len := 12) ((4 * f) + l) dX6_probe_53 rfl (by decide) rfl (mo_a hM 22 (by decide)) rfl (by omega) (by decide) ?_
        refine hg_iconst (n := 55) (v := 1) dX6_probe_54 rfl (by decide) ?_
        refine hg_ireturn dX6_probe_55 rfl ?_
        exact hQ
      · exact absurd h25 hd

