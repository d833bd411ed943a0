def tf_ (X : MI_) (T : ML_) : Nat → MI_ × ML_
  | 0 => (X, T)
  | f + 1 => if (tf_ X T f).1 53 0 f = 0 then tf_ X T f else (tk_m (tf_ X T f).1 (tf_ X T f).2 f ((tf_ X T f).1 54 0 f).toNatClampNeg ((tf_ X T f).1 56 0 f).toNatClampNeg, tk_l (tf_ X T f).1 (tf_ X T f).2 f ((tf_ X T f).1 54 0 f).toNatClampNeg)
def tz_ (X : MI_) (T : ML_) : Nat → MI_ × ML_
  | 0 => (X, T)
  | k + 1 => tf_ (tz_ X T k).1 (tz_ X T k).2 3
/-- what a tick needs of the furnaces that run -/
def tJ_1 (J : MI_ → ML_ → Prop) (np : Nat) : Prop := ∀ X T, J X T → pl_ X np ∧ sh_ X np ∧ ∀ f, f < 3 → ¬ X 53 0 f = 0 → ∃ al r, al < 8 ∧ X 54 0 f = nI al ∧ r < 100 ∧ X 56 0 f = nI r
def tJ_2 (J : MI_ → ML_ → Prop) : Prop := ∀ X T f al r, J X T → f < 3 → ¬ X 53 0 f = 0 → X 54 0 f = nI al → X 56 0 f = nI r → al < 8 → r < 100 → J (tk_m X T f al r) (tk_l X T f al)
theorem tf_J {J : MI_ → ML_ → Prop} {np : Nat} (h1 : tJ_1 J np) (h2 : tJ_2 J) {X : MI_} {T : ML_} (h : J X T) : ∀ f, f ≤ 3 → J (tf_ X T f).1 (tf_ X T f).2
  | 0, _ => h
  | f + 1, hf => by
    have ih := tf_J h1 h2 h f (by omega)
    rw [tf_]
    split
    · exact ih
    · rename_i hr
      obtain ⟨al, r, a1, a2, a3, a4⟩ := (h1 _ _ ih).2.2 f (by omega) hr
      rw [a2, a4, nI_clamp (by omega), nI_clamp (by omega)]
      exact h2 _ _ f al r ih (by omega) hr a2 a4 a1 a3
theorem tz_J {J : MI_ → ML_ → Prop} {np : Nat} (h1 : tJ_1 J np) (h2 : tJ_2 J) {X : MI_} {T : ML_} (h : J X T) : ∀ k, J (tz_ X T k).1 (tz_ X T k).2
  | 0 => h
  | k + 1 => tf_J h1 h2 (tz_J h1 h2 h k) 3 (by omega)
set_option maxHeartbeats 4000000 in
set_option maxRecDepth 100000 in
theorem c_X6_tick_b {mi : MI_} {ml : ML_} {mr : MR_} {sh : SH_} (hM : mo_ mr sh) (z : Int32) (hb : z_in z 1 200 = 0) : hg_Det false yX6_tick md_X6_tick [hv_r (some (7, 0)), hv_i z] (mi, ml, mr, sh) (some (hv_i (-2))) (mi, ml, mr, sh) := by
  intro Q hQ
  refine hg_intro rfl rfl rfl (Nat.le_of_ble_eq_true rfl) rfl ?_
  refine hg_iload_n (n := 1) dX6_tick_0 rfl rfl ?_
  refine hg_iconst (n := 2) (v := 1) dX6_tick_1 rfl (by decide) ?_
  refine hg_sipush (n := 5) (v := 200) dX6_tick_2 rfl (by decide) ?_
  refine hg_callSd (n := 8) (c_X6_in _ _ _ _) dX6_tick_5 rfl mk_X6_1 yl_X6_in ys_X6_in (by decide) (by decide) rfl rfl (Nat.le_of_ble_eq_true rfl) (fun h => by cases h) ?_
  refine hg_if_ne (n := 11) (tgt := 14) dX6_tick_8 rfl (by decide) (fun h8 => ?_) (fun h8 => ?_)
  · exact absurd hb h8
  · refine hg_bipush (n := 13) (v := -2) dX6_tick_11 rfl (by decide) ?_
    refine hg_ireturn dX6_tick_13 rfl ?_
    exact hQ

set_option maxHeartbeats 4000000 in
set_option maxRecDepth 100000 in
theorem c_X6_tick {mi : MI_} {ml : ML_} {mr : MR_} {sh : SH_} (hM : mo_ mr sh) (np : Nat) (hn12 : np ≤ 12) {J : MI_ → ML_ → Prop} (h0 : J mi ml) (h1 : tJ_1 J np) (h2 : tJ_2 J) (z : Nat) (hz9 : z ≤ 200) (hz : ¬ z_in (nI z) 1 200 = 0) : hg_Det false yX6_tick md_X6_tick [hv_r (some (7, 0)), hv_i (nI z)] (mi, ml, mr, sh) (some (hv_i (rg_ (tz_ mi ml z).1 3))) ((tz_ mi ml z).1, (tz_ mi ml z).2, mr, sh) := by
  intro Q hQ
  refine hg_intro rfl rfl rfl (Nat.le_of_ble_eq_true rfl) rfl ?_
  have l1 : ∀ j k, k + j = z → hg_G md_X6_tick false sh Q 0 0 16 [some (hv_r (some (7, 0))), some (hv_i (nI z)), some (hv_i (nI k)), none] [] ((tz_ mi ml k).1, (tz_ mi ml k).2, mr, sh) := by
    intro j
    induction j with
    | zero =>
      intro k hk
      refine hg_iload_n (n := 17) dX6_tick_16 rfl rfl ?_
      refine hg_iload_n (n := 18) dX6_tick_17 rfl rfl ?_
      refine hg_icmp_geN (n := 21) (tgt := 54) (k) (z) dX6_tick_18 rfl (by decide) (by omega) (by omega) (fun h18 => ?_) (fun h18 => ?_)
      · have e := show k = z by omega
        subst e
        refine hg_aload_n (n := 55) dX6_tick_54 rfl rfl ?_
        refine hg_callVd (n := 58) (c_X6_running hM) dX6_tick_55 rfl mk_X6_176 yl_X6_running yv_X6_running rfl (mo_s hM) (by decide) (by decide) rfl rfl (Nat.le_of_ble_eq_true rfl) (fun h => by cases h) ?_
        refine hg_ireturn dX6_tick_58 rfl ?_
        exact hQ
      · exact absurd h18 (by omega)
    | succ j ih0 =>
      intro k hk
      have l2 : ∀ m f, f + m = 3 → hg_G md_X6_tick false sh Q 0 0 23 [some (hv_r (some (7, 0))), some (hv_i (nI z)), some (hv_i (nI k)), some (hv_i (nI f))] [] ((tf_ (tz_ mi ml k).1 (tz_ mi ml k).2 f).1, (tf_ (tz_ mi ml k).1 (tz_ mi ml k).2 f).2, mr, sh) := by
        intro m
        induction m with
        | zero =>
          intro f hf
          refine hg_iload_n (n := 24) dX6_tick_23 rfl rfl ?_
          refine hg_iconst (n := 25) (v := 3) dX6_tick_24 rfl (by decide) ?_
          refine hg_icmp_geN (n := 28) (tgt := 48) (f) (3) dX6_tick_25 rfl (by decide) (by omega) (by omega) (fun h25 => ?_) (fun h25 => ?_)
          · have e := show f = 3 by omega
            subst e
            refine hg_iincN (n := 51) (k) 1 dX6_tick_48 rfl rfl (by decide) (by decide) rfl rfl ?_
            refine hg_goto (tgt := 16) dX6_tick_51 (by decide) ?_
            exact hg_ls (ih0 (k + 1) (by omega)) ⟨rfl, rfl, rfl, trivial⟩
          · exact absurd h25 (by omega)
        | succ m ih =>
          intro f hf
          refine hg_iload_n (n := 24) dX6_tick_23 rfl rfl ?_
          refine hg_iconst (n := 25) (v := 3) dX6_tick_24 rfl (by decide) ?_
          refine hg_icmp_geN (n := 28) (tgt := 48) (f) (3) dX6_tick_25 rfl (by decide) (by omega) (by omega) (fun h25 => ?_) (fun h25 => ?_)
          · exact absurd h25 (by omega)
          · refine hg_aload_n (n := 29) dX6_tick_28 rfl rfl ?_
            refine hg_getR (n := 32) (r := some (53, 0)) dX6_tick_29 rfl fl_X6_111 rfl rfl (mo_s hM) (mo_r hM 23 (by decide)) ?_
            refine hg_iload_n (n := 33) dX6_tick_32 rfl rfl ?_
            refine hg_baload (n := 34) (len := 3) (f) dX6_tick_33 rfl (by decide) rfl (mo_a hM 23 (by decide)) rfl (by omega) (by decide) ?_
            refine hg_if_eq (n := 37) (tgt := 42) dX6_tick_34 rfl (by decide) (fun h34 => ?_) (fun h34 => ?_)
            · refine hg_iincN (n := 45) (f) 1 dX6_tick_42 rfl rfl (by decide) (by decide) rfl rfl ?_
              refine hg_goto (tgt := 23) dX6_tick_45 (by decide) ?_
              refine hg_memo ?_ (ih (f + 1) (by omega))
              rw [tf_, if_pos h34]
            · obtain ⟨hpl, hsh, hrr⟩ := h1 _ _ (tf_J h1 h2 (tz_J h1 h2 h0 k) f (by omega))
              obtain ⟨al, r, a1, a2, a3, a4⟩ := hrr f (by omega) h34
              refine hg_aload_n (n := 38) dX6_tick_37 rfl rfl ?_
              refine hg_iload_n (n := 39) dX6_tick_38 rfl rfl ?_
              refine hg_callVd (n := 42) (c_X6_ticks hM np hn12 hpl hsh (f) (by omega) al r a2 a1 a4 a3) dX6_tick_39 rfl mk_X6_172 yl_X6_ticks yv_X6_ticks rfl (mo_s hM) (by decide) (by decide) rfl rfl (Nat.le_of_ble_eq_true rfl) (fun h => by cases h) ?_
              refine hg_iincN (n := 45) (f) 1 dX6_tick_42 rfl rfl (by decide) (by decide) rfl rfl ?_
              refine hg_goto (tgt := 23) dX6_tick_45 (by decide) ?_
              refine hg_memo ?_ (ih (f + 1) (by omega))
              rw [tf_, if_neg h34, a2, a4, nI_clamp (by omega), nI_clamp (by omega)]
      refine hg_iload_n (n := 17) dX6_tick_16 rfl rfl ?_
      refine hg_iload_n (n := 18) dX6_tick_17 rfl rfl ?_
      refine hg_icmp_geN (n := 21) (tgt := 54) (k) (z) dX6_tick_18 rfl (by decide) (by omega) (by omega) (fun h18 => ?_) (fun h18 => ?_)
      · exact absurd h18 (by omega)
      · refine hg_iconst (n := 22) (v := 0) dX6_tick_21 rfl (by decide) ?_
        refine hg_istore_n (n := 23) dX6_tick_22 rfl (by decide) rfl rfl ?_
        exact l2 3 0 (by omega)
  refine hg_iload_n (n := 1) dX6_tick_0 rfl rfl ?_
  refine hg_iconst (n := 2) (v := 1) dX6_tick_1 rfl (by decide) ?_
  refine hg_sipush (n := 5) (v := 200) dX6_tick_2 rfl (by decide) ?_
  refine hg_callSd (n := 8) (c_X6_in _ _ _ _) dX6_tick_5 rfl mk_X6_1 yl_X6_in ys_X6_in (by decide) (by decide) rfl rfl (Nat.le_of_ble_eq_true rfl) (fun h => by cases h) ?_
  refine hg_if_ne (n := 11) (tgt := 14) dX6_tick_8 rfl (by decide) (fun h8 => ?_) (fun h8 => ?_)
  · refine hg_iconst (n := 15) (v := 0) dX6_tick_14 rfl (by decide) ?_
    refine hg_istore_n (n := 16) dX6_tick_15 rfl (by decide) rfl rfl ?_
    exact l1 z 0 (by omega)
  · exact absurd h8 hz

set_option maxHeartbeats 4000000 in
set_option maxRecDepth 100000 in
theorem c_X6_survey_b {mi : MI_} {ml : ML_} {mr : MR_} {sh : SH_} (hM : mo_ mr sh) (f e : Int32) (hb : z_in f 0 2 = 0 ∨ z_in e (-500) 500 = 0) : hg_Det false yX6_survey md_X6_survey [hv_r (some (7, 0)), hv_i f, hv_i e] (mi, ml, mr, sh) (some (hv_i (-2))) (mi, ml, mr, sh) := by
  intro Q hQ
  refine hg_intro rfl rfl rfl (Nat.le_of_ble_eq_true rfl) rfl ?_
  refine hg_iload_n (n := 1) dX6_survey_0 rfl rfl ?_
  refine hg_callSd (n := 4) (c_X6_isFurnace _ _) dX6_survey_1 rfl mk_X6_153 yl_X6_isFurnace ys_X6_isFurnace (by decide) (by decide) rfl rfl (Nat.le_of_ble_eq_true rfl) (fun h => by cases h) ?_
  refine hg_if_eq (n := 7) (tgt := 20) dX6_survey_4 rfl (by decide) (fun h4 => ?_) (fun h4 => ?_)
  · refine hg_bipush (n := 22) (v := -2) dX6_survey_20 rfl (by decide) ?_
    refine hg_ireturn dX6_survey_22 rfl ?_
    exact hQ
  · refine hg_iload_n (n := 8) dX6_survey_7 rfl rfl ?_
    refine hg_sipush (n := 11) (v := -500) dX6_survey_8 rfl (by decide) ?_
    refine hg_sipush (n := 14) (v := 500) dX6_survey_11 rfl (by decide) ?_
    refine hg_callSd (n := 17) (c_X6_in _ _ _ _) dX6_survey_14 rfl mk_X6_1 yl_X6_in ys_X6_in (by decide) (by decide) rfl rfl (Nat.le_of_ble_eq_true rfl) (fun h => by cases h) ?_
    refine hg_if_ne (n := 20) (tgt := 23) dX6_survey_17 rfl (by decide) (fun h17 => ?_) (fun h17 => ?_)
    · exact absurd hb (by simp [h4, h17])
    · refine hg_bipush (n := 22) (v := -2) dX6_survey_20 rfl (by decide) ?_
      refine hg_ireturn dX6_survey_22 rfl ?_
      exact hQ

set_option maxHeartbeats 4000000 in
set_option maxRecDepth 100000 in
theorem c_X6_survey_n {mi : MI_} {ml : ML_} {mr : MR_} {sh : SH_} (hM : mo_ mr sh) (f : Nat) (hf : f < 3) (e : Int32) (he : ¬ z_in e (-500) 500 = 0) (hr : ¬ mi 53 0 f = 0) : hg_Det false yX6_survey md_X6_survey [hv_r (some (7, 0)), hv_i (nI f), hv_i e] (mi, ml, mr, sh) (some (hv_i (-3))) (mi, ml, mr, sh) := by
  intro Q hQ
  refine hg_intro rfl rfl rfl (Nat.le_of_ble_eq_true rfl) rfl ?_
  refine hg_iload_n (n := 1) dX6_survey_0 rfl rfl ?_
  refine hg_callSd (n := 4) (c_X6_isFurnace _ _) dX6_survey_1 rfl mk_X6_153 yl_X6_isFurnace ys_X6_isFurnace (by decide) (by decide) rfl rfl (Nat.le_of_ble_eq_true rfl) (fun h => by cases h) ?_
  refine hg_if_eq (n := 7) (tgt := 20) dX6_survey_4 rfl (by decide) (fun h4 => ?_) (fun h4 => ?_)
  · exact absurd h4 (z_nat3 (a := 0) (b := 2) (by omega) (by omega) (by omega))
  · refine hg_iload_n (n := 8) dX6_survey_7 rfl rfl ?_
    refine hg_sipush (n := 11) (v := -500) dX6_survey_8 rfl (by decide) ?_
    refine hg_sipush (n := 14) (v := 500) dX6_survey_11 rfl (by decide) ?_
    refine hg_callSd (n := 17) (c_X6_in _ _ _ _) dX6_survey_14 rfl mk_X6_1 yl_X6_in ys_X6_in (by decide) (by decide) rfl rfl (Nat.le_of_ble_eq_true rfl) (fun h => by cases h) ?_
    refine hg_if_ne (n := 20) (tgt := 23) dX6_survey_17 rfl (by decide) (fun h17 => ?_) (fun h17 => ?_)
    · refine hg_aload_n (n := 24) dX6_survey_23 rfl rfl ?_
      refine hg_getR (n := 27) (r := some (53, 0)) dX6_survey_24 rfl fl_X6_111 rfl rfl (mo_s hM) (mo_r hM 23 (by decide)) ?_
      refine hg_iload_n (n := 28) dX6_survey_27 rfl rfl ?_
      refine hg_baload (n := 29) (len := 3) (f) dX6_survey_28 rfl (by decide) rfl (mo_a hM 23 (by decide)) rfl (by omega) (by decide) ?_
      refine hg_if_eq (n := 32) (tgt := 35) dX6_survey_29 rfl (by decide) (fun h29 => ?_) (fun h29 => ?_)
      · exact absurd h29 hr
      · refine hg_bipush (n := 34) (v := -3) dX6_survey_32 rfl (by decide) ?_
        refine hg_ireturn dX6_survey_34 rfl ?_
        exact hQ
    · exact absurd h17 he

def su_ (X : MI_) (f s : Nat) : Nat → Int32 × MI_
  | 0 => (0, X)
  | c + 1 => if (su_ X f s c).2 59 0 (s + c) = nI f then ((su_ X f s c).1 + 1, u_3 (su_ X f s c).2 63 0 (s + c) 1) else su_ X f s c
theorem su_k {X : MI_} {f s k i j : Nat} (h : k ≠ 63) : ∀ c, (su_ X f s c).2 k i j = X k i j
  | 0 => rfl
  | c + 1 => by
    rw [su_]
    split
    · exact (u_3_k h).trans (su_k h c)
    · exact su_k h c
def sy_m (X : MI_) (f : Nat) (e : Int32) : MI_ := u_3 (u_3 X 45 0 f e) 57 0 f (u_3 X 45 0 f e 7 0 28)
set_option maxHeartbeats 4000000 in
set_option maxRecDepth 100000 in
theorem c_X6_survey_e {mi : MI_} {ml : ML_} {mr : MR_} {sh : SH_} (hM : mo_ mr sh) (f : Nat) (hf : f < 3) (e : Int32) (he : ¬ z_in e (-500) 500 = 0) (nr s : Nat) (hnr : mi 7 0 28 = nI nr) (hnr9 : nr ≤ 100) (hs : mi 57 0 f = nI s) (hsr : s ≤ nr) (hr : mi 53 0 f = 0) (hee : mi 45 0 f = e) : hg_Det false yX6_survey md_X6_survey [hv_r (some (7, 0)), hv_i (nI f), hv_i e] (mi, ml, mr, sh) (some (hv_i 0)) (sy_m mi f e, ml, mr, sh) := by
  intro Q hQ
  refine hg_intro rfl rfl rfl (Nat.le_of_ble_eq_true rfl) rfl ?_
  refine hg_iload_n (n := 1) dX6_survey_0 rfl rfl ?_
  refine hg_callSd (n := 4) (c_X6_isFurnace _ _) dX6_survey_1 rfl mk_X6_153 yl_X6_isFurnace ys_X6_isFurnace (by decide) (by decide) rfl rfl (Nat.le_of_ble_eq_true rfl) (fun h => by cases h) ?_
  refine hg_if_eq (n := 7) (tgt := 20) dX6_survey_4 rfl (by decide) (fun h4 => ?_) (fun h4 => ?_)
  · exact absurd h4 (z_nat3 (a := 0) (b := 2) (by omega) (by omega) (by omega))
  · refine hg_iload_n (n := 8) dX6_survey_7 rfl rfl ?_
    refine hg_sipush (n := 11) (v := -500) dX6_survey_8 rfl (by decide) ?_
    refine hg_sipush (n := 14) (v := 500) dX6_survey_11 rfl (by decide) ?_
    refine hg_callSd (n := 17) (c_X6_in _ _ _ _) dX6_survey_14 rfl mk_X6_1 yl_X6_in ys_X6_in (by decide) (by decide) rfl rfl (Nat.le_of_ble_eq_true rfl) (fun h => by cases h) ?_
    refine hg_if_ne (n := 20) (tgt := 23) dX6_survey_17 rfl (by decide) (fun h17 => ?_) (fun h17 => ?_)
    · refine hg_aload_n (n := 24) dX6_survey_23 rfl rfl ?_
      refine hg_getR (n := 27) (r := some (53, 0)) dX6_survey_24 rfl fl_X6_111 rfl rfl (mo_s hM) (mo_r hM 23 (by decide)) ?_
      refine hg_iload_n (n := 28) dX6_survey_27 rfl rfl ?_
      refine hg_baload (n := 29) (len := 3) (f) dX6_survey_28 rfl (by decide) rfl (mo_a hM 23 (by decide)) rfl (by omega) (by decide) ?_
      refine hg_if_eq (n := 32) (tgt := 35) dX6_survey_29 rfl (by decide) (fun h29 => ?_) (fun h29 => ?_)
      · refine hg_iconst (n := 36) (v := 0) dX6_survey_35 rfl (by decide) ?_
        refine hg_istore_n (n := 37) dX6_survey_36 rfl (by decide) rfl rfl ?_
        refine hg_aload_n (n := 38) dX6_survey_37 rfl rfl ?_
        refine hg_getR (n := 41) (r := some (57, 0)) dX6_survey_38 rfl fl_X6_123 rfl rfl (mo_s hM) (mo_r hM 27 (by decide)) ?_
        refine hg_iload_n (n := 42) dX6_survey_41 rfl rfl ?_
        refine hg_ialoadN (n := 43) (len := 3) (s) (f) dX6_survey_42 rfl (by decide) rfl (mo_a hM 27 (by decide)) rfl (by omega) (by decide) hs ?_
        refine hg_istore (n := 45) dX6_survey_43 rfl (by decide) rfl rfl ?_
        refine hg_iload (n := 47) dX6_survey_45 rfl rfl ?_
        refine hg_aload_n (n := 48) dX6_survey_47 rfl rfl ?_
        refine hg_getN (n := 51) (nr) dX6_survey_48 rfl fl_X6_165 rfl rfl (mo_s hM) hnr ?_
        refine hg_icmp_geN (n := 54) (tgt := 92) (s) (nr) dX6_survey_51 rfl (by decide) (by omega) (by omega) (fun h51 => ?_) (fun h51 => ?_)
        · refine hg_aload_n (n := 93) dX6_survey_92 rfl rfl ?_
          refine hg_getR (n := 96) (r := some (45, 0)) dX6_survey_93 rfl fl_X6_86 rfl rfl (mo_s hM) (mo_r hM 15 (by decide)) ?_
          refine hg_iload_n (n := 97) dX6_survey_96 rfl rfl ?_
          refine hg_iload_n (n := 98) dX6_survey_97 rfl rfl ?_
          refine hg_iastore (n := 99) (len := 3) (f) dX6_survey_98 rfl (by decide) rfl (mo_a hM 15 (by decide)) rfl (by omega) (by decide) ?_
          refine hg_aload_n (n := 100) dX6_survey_99 rfl rfl ?_
          refine hg_getR (n := 103) (r := some (57, 0)) dX6_survey_100 rfl fl_X6_123 rfl rfl (mo_s hM) (mo_r hM 27 (by decide)) ?_
          refine hg_iload_n (n := 104) dX6_survey_103 rfl rfl ?_
          refine hg_aload_n (n := 105) dX6_survey_104 rfl rfl ?_
          refine hg_getI (n := 108) dX6_survey_105 rfl fl_X6_165 rfl rfl (mo_s hM) ?_
          refine hg_iastore (n := 109) (len := 3) (f) dX6_survey_108 rfl (by decide) rfl (mo_a hM 27 (by decide)) rfl (by omega) (by decide) ?_
          refine hg_iload_n (n := 110) dX6_survey_109 rfl rfl ?_
          refine hg_ireturn dX6_survey_110 rfl ?_
          exact hQ
        · refine hg_aload_n (n := 55) dX6_survey_54 rfl rfl ?_
          refine hg_getR (n := 58) (r := some (45, 0)) dX6_survey_55 rfl fl_X6_86 rfl rfl (mo_s hM) (mo_r hM 15 (by decide)) ?_
          refine hg_iload_n (n := 59) dX6_survey_58 rfl rfl ?_
          refine hg_iaload (n := 60) (len := 3) (f) dX6_survey_59 rfl (by decide) rfl (mo_a hM 15 (by decide)) rfl (by omega) (by decide) ?_
          refine hg_iload_n (n := 61) dX6_survey_60 rfl rfl ?_
          refine hg_icmp_eq (n := 64) (tgt := 92) dX6_survey_61 rfl (by decide) (fun h61 => ?_) (fun h61 => ?_)
          · refine hg_aload_n (n := 93) dX6_survey_92 rfl rfl ?_
            refine hg_getR (n := 96) (r := some (45, 0)) dX6_survey_93 rfl fl_X6_86 rfl rfl (mo_s hM) (mo_r hM 15 (by decide)) ?_
            refine hg_iload_n (n := 97) dX6_survey_96 rfl rfl ?_
            refine hg_iload_n (n := 98) dX6_survey_97 rfl rfl ?_
            refine hg_iastore (n := 99) (len := 3) (f) dX6_survey_98 rfl (by decide) rfl (mo_a hM 15 (by decide)) rfl (by omega) (by decide) ?_
            refine hg_aload_n (n := 100) dX6_survey_99 rfl rfl ?_
            refine hg_getR (n := 103) (r := some (57, 0)) dX6_survey_100 rfl fl_X6_123 rfl rfl (mo_s hM) (mo_r hM 27 (by decide)) ?_
            refine hg_iload_n (n := 104) dX6_survey_103 rfl rfl ?_
            refine hg_aload_n (n := 105) dX6_survey_104 rfl rfl ?_
            refine hg_getI (n := 108) dX6_survey_105 rfl fl_X6_165 rfl rfl (mo_s hM) ?_
            refine hg_iastore (n := 109) (len := 3) (f) dX6_survey_108 rfl (by decide) rfl (mo_a hM 27 (by decide)) rfl (by omega) (by decide) ?_
            refine hg_iload_n (n := 110) dX6_survey_109 rfl rfl ?_
            refine hg_ireturn dX6_survey_110 rfl ?_
            exact hQ
          · exact absurd hee h61
      · exact absurd hr h29
    · exact absurd h17 he

set_option maxHeartbeats 4000000 in
set_option maxRecDepth 100000 in
theorem c_X6_survey {mi : MI_} {ml : ML_} {mr : MR_} {sh : SH_} (hM : mo_ mr sh) (f : Nat) (hf : f < 3) (e : Int32) (he : ¬ z_in e (-500) 500 = 0) (nr s : Nat) (hnr : mi 7 0 28 = nI nr) (hnr9 : nr ≤ 100) (hs : mi 57 0 f = nI s) (hsr : s ≤ nr) (hr : mi 53 0 f = 0) (hee : ¬ mi 45 0 f = e) : hg_Det false yX6_survey md_X6_survey [hv_r (some (7, 0)), hv_i (nI f), hv_i e] (mi, ml, mr, sh) (some (hv_i (su_ mi f s (nr - s)).1)) (sy_m (su_ mi f s (nr - s)).2 f e, ml, mr, sh) := by
  intro Q hQ
  refine hg_intro rfl rfl rfl (Nat.le_of_ble_eq_true rfl) rfl ?_
  have loop : ∀ m c, s + c + m = nr → hg_G md_X6_survey false sh Q 0 0 45 [some (hv_r (some (7, 0))), some (hv_i (nI f)), some (hv_i e), some (hv_i (su_ mi f s c).1), some (hv_i (nI (s + c)))] [] ((su_ mi f s c).2, ml, mr, sh) := by
    intro m
    induction m with
    | zero =>
      intro c hc
      refine hg_iload (n := 47) dX6_survey_45 rfl rfl ?_
      refine hg_aload_n (n := 48) dX6_survey_47 rfl rfl ?_
      refine hg_getN (n := 51) (nr) dX6_survey_48 rfl fl_X6_165 rfl rfl (mo_s hM) ((su_k (by decide) c).trans hnr) ?_
      refine hg_icmp_geN (n := 54) (tgt := 92) (s + c) (nr) dX6_survey_51 rfl (by decide) (by omega) (by omega) (fun h51 => ?_) (fun h51 => ?_)
      · have e1 := show c = nr - s by omega
        subst e1
        refine hg_aload_n (n := 93) dX6_survey_92 rfl rfl ?_
        refine hg_getR (n := 96) (r := some (45, 0)) dX6_survey_93 rfl fl_X6_86 rfl rfl (mo_s hM) (mo_r hM 15 (by decide)) ?_
        refine hg_iload_n (n := 97) dX6_survey_96 rfl rfl ?_
        refine hg_iload_n (n := 98) dX6_survey_97 rfl rfl ?_
        refine hg_iastore (n := 99) (len := 3) (f) dX6_survey_98 rfl (by decide) rfl (mo_a hM 15 (by decide)) rfl (by omega) (by decide) ?_
        refine hg_aload_n (n := 100) dX6_survey_99 rfl rfl ?_
        refine hg_getR (n := 103) (r := some (57, 0)) dX6_survey_100 rfl fl_X6_123 rfl rfl (mo_s hM) (mo_r hM 27 (by decide)) ?_
        refine hg_iload_n (n := 104) dX6_survey_103 rfl rfl ?_
        refine hg_aload_n (n := 105) dX6_survey_104 rfl rfl ?_
        refine hg_getI (n := 108) dX6_survey_105 rfl fl_X6_165 rfl rfl (mo_s hM) ?_
        refine hg_iastore (n := 109) (len := 3) (f) dX6_survey_108 rfl (by decide) rfl (mo_a hM 27 (by decide)) rfl (by omega) (by decide) ?_
        refine hg_iload_n (n := 110) dX6_survey_109 rfl rfl ?_
        refine hg_ireturn dX6_survey_110 rfl ?_
        exact hQ
      · exact absurd h51 (by omega)
    | succ m ih =>
      intro c hc
      have s86 : ∀ x X, x = (su_ mi f s (c + 1)).1 → X = (su_ mi f s (c + 1)).2 → hg_G md_X6_survey false sh Q 0 0 86 [some (hv_r (some (7, 0))), some (hv_i (nI f)), some (hv_i e), some (hv_i x), some (hv_i (nI (s + c)))] [] (X, ml, mr, sh) := by
        intro x X hx hX
        subst hx hX
        refine hg_iincN (n := 89) (s + c) 1 dX6_survey_86 rfl rfl (by decide) (by decide) rfl rfl ?_
        refine hg_goto (tgt := 45) dX6_survey_89 (by decide) ?_
        exact ih (c + 1) (by omega)
      refine hg_iload (n := 47) dX6_survey_45 rfl rfl ?_
      refine hg_aload_n (n := 48) dX6_survey_47 rfl rfl ?_
      refine hg_getN (n := 51) (nr) dX6_survey_48 rfl fl_X6_165 rfl rfl (mo_s hM) ((su_k (by decide) c).trans hnr) ?_
      refine hg_icmp_geN (n := 54) (tgt := 92) (s + c) (nr) dX6_survey_51 rfl (by decide) (by omega) (by omega) (fun h51 => ?_) (fun h51 => ?_)
      · exact absurd h51 (by omega)
      · refine hg_aload_n (n := 55) dX6_survey_54 rfl rfl ?_
        refine hg_getR (n := 58) (r := some (45, 0)) dX6_survey_55 rfl fl_X6_86 rfl rfl (mo_s hM) (mo_r hM 15 (by decide)) ?_
        refine hg_iload_n (n := 59) dX6_survey_58 rfl rfl ?_
        refine hg_iaload (n := 60) (len := 3) (f) dX6_survey_59 rfl (by decide) rfl (mo_a hM 15 (by decide)) rfl (by omega) (by decide) ?_
        refine hg_iload_n (n := 61) dX6_survey_60 rfl rfl ?_
        refine hg_icmp_eq (n := 64) (tgt := 92) dX6_survey_61 rfl (by decide) (fun h61 => ?_) (fun h61 => ?_)
        · exact absurd (((su_k (by decide) c).symm).trans h61) hee
        · refine hg_aload_n (n := 65) dX6_survey_64 rfl rfl ?_
          refine hg_getR (n := 68) (r := some (59, 0)) dX6_survey_65 rfl fl_X6_126 rfl rfl (mo_s hM) (mo_r hM 29 (by decide)) ?_
          refine hg_iload (n := 70) dX6_survey_68 rfl rfl ?_
          refine hg_iaload (n := 71) (len := 100) (s + c) dX6_survey_70 rfl (by decide) rfl (mo_a hM 29 (by decide)) rfl (by omega) (by decide) ?_
          refine hg_iload_n (n := 72) dX6_survey_71 rfl rfl ?_
          refine hg_icmp_ne (n := 75) (tgt := 86) dX6_survey_72 rfl (by decide) (fun h72 => ?_) (fun h72 => ?_)
          · exact s86 _ _ (by rw [su_, if_neg h72]) (by rw [su_, if_neg h72])
          · refine hg_aload_n (n := 76) dX6_survey_75 rfl rfl ?_
            refine hg_getR (n := 79) (r := some (63, 0)) dX6_survey_76 rfl fl_X6_138 rfl rfl (mo_s hM) (mo_r hM 33 (by decide)) ?_
            refine hg_iload (n := 81) dX6_survey_79 rfl rfl ?_
            refine hg_iconst (n := 82) (v := 1) dX6_survey_81 rfl (by decide) ?_
            refine hg_bastore (n := 83) (len := 100) (s + c) dX6_survey_82 rfl (by decide) rfl (by decide) (mo_a hM 33 (by decide)) rfl (by omega) (by decide) ?_
            refine hg_iincI (n := 86) (1) dX6_survey_83 rfl rfl (by decide) (by decide) rfl rfl ?_
            exact s86 _ _ (by rw [su_, if_pos h72]) (by rw [su_, if_pos h72])
  refine hg_iload_n (n := 1) dX6_survey_0 rfl rfl ?_
  refine hg_callSd (n := 4) (c_X6_isFurnace _ _) dX6_survey_1 rfl mk_X6_153 yl_X6_isFurnace ys_X6_isFurnace (by decide) (by decide) rfl rfl (Nat.le_of_ble_eq_true rfl) (fun h => by cases h) ?_
  refine hg_if_eq (n := 7) (tgt := 20) dX6_survey_4 rfl (by decide) (fun h4 => ?_) (fun h4 => ?_)
  · exact absurd h4 (z_nat3 (a := 0) (b := 2) (by omega) (by omega) (by omega))
  · refine hg_iload_n (n := 8) dX6_survey_7 rfl rfl ?_
    refine hg_sipush (n := 11) (v := -500) dX6_survey_8 rfl (by decide) ?_
    refine hg_sipush (n := 14) (v := 500) dX6_survey_11 rfl (by decide) ?_
    refine hg_callSd (n := 17) (c_X6_in _ _ _ _) dX6_survey_14 rfl mk_X6_1 yl_X6_in ys_X6_in (by decide) (by decide) rfl rfl (Nat.le_of_ble_eq_true rfl) (fun h => by cases h) ?_
    refine hg_if_ne (n := 20) (tgt := 23) dX6_survey_17 rfl (by decide) (fun h17 => ?_) (fun h17 => ?_)
    · refine hg_aload_n (n := 24) dX6_survey_23 rfl rfl ?_
      refine hg_getR (n := 27) (r := some (53, 0)) dX6_survey_24 rfl fl_X6_111 rfl rfl (mo_s hM) (mo_r hM 23 (by decide)) ?_
      refine hg_iload_n (n := 28) dX6_survey_27 rfl rfl ?_
      refine hg_baload (n := 29) (len := 3) (f) dX6_survey_28 rfl (by decide) rfl (mo_a hM 23 (by decide)) rfl (by omega) (by decide) ?_
      refine hg_if_eq (n := 32) (tgt := 35) dX6_survey_29 rfl (by decide) (fun h29 => ?_) (fun h29 => ?_)
      · refine hg_iconst (n := 36) (v := 0) dX6_survey_35 rfl (by decide) ?_
        refine hg_istore_n (n := 37) dX6_survey_36 rfl (by decide) rfl rfl ?_
        refine hg_aload_n (n := 38) dX6_survey_37 rfl rfl ?_
        refine hg_getR (n := 41) (r := some (57, 0)) dX6_survey_38 rfl fl_X6_123 rfl rfl (mo_s hM) (mo_r hM 27 (by decide)) ?_
        refine hg_iload_n (n := 42) dX6_survey_41 rfl rfl ?_
        refine hg_ialoadN (n := 43) (len := 3) (s) (f) dX6_survey_42 rfl (by decide) rfl (mo_a hM 27 (by decide)) rfl (by omega) (by decide) hs ?_
        refine hg_istore (n := 45) dX6_survey_43 rfl (by decide) rfl rfl ?_
        exact loop (nr - s) 0 (by omega)
      · exact absurd hr h29
    · exact absurd h17 he

set_option maxHeartbeats 4000000 in
set_option maxRecDepth 100000 in
theorem c_X6_about_b {mi : MI_} {ml : ML_} {mr : MR_} {sh : SH_} (hM : mo_ mr sh) (f w : Int32) (hb : z_in f 0 2 = 0) : hg_Det false yX6_about md_X6_about [hv_r (some (7, 0)), hv_i f, hv_i w] (mi, ml, mr, sh) (some (hv_i (-2))) (mi, ml, mr, sh) := by
  intro Q hQ
  refine hg_intro rfl rfl rfl (Nat.le_of_ble_eq_true rfl) rfl ?_
  refine hg_iload_n (n := 1) dX6_about_0 rfl rfl ?_
  refine hg_callSd (n := 4) (c_X6_isFurnace _ _) dX6_about_1 rfl mk_X6_153 yl_X6_isFurnace ys_X6_isFurnace (by decide) (by decide) rfl rfl (Nat.le_of_ble_eq_true rfl) (fun h => by cases h) ?_
  refine hg_if_ne (n := 7) (tgt := 10) dX6_about_4 rfl (by decide) (fun h4 => ?_) (fun h4 => ?_)
  · exact absurd hb h4
  · refine hg_bipush (n := 9) (v := -2) dX6_about_7 rfl (by decide) ?_
    refine hg_ireturn dX6_about_9 rfl ?_
    exact hQ

theorem z_06 {w : Int32} {b : Nat} (hb : b < 2 ^ 31) (h : z_in w 0 (nI b) = 0) : w.toInt < 0 ∨ (b : Int) < w.toInt := by
  unfold z_in at h
  split at h
  · exact absurd h (by decide)
  · rename_i q
    rw [Int32.le_iff_toInt_le, Int32.le_iff_toInt_le, nI_toInt hb] at q
    have : (0 : Int32).toInt = 0 := by decide
    omega
set_option maxHeartbeats 4000000 in
set_option maxRecDepth 100000 in
theorem c_X6_about_c {mi : MI_} {ml : ML_} {mr : MR_} {sh : SH_} (hM : mo_ mr sh) (f : Nat) (hf : f < 3) (w : Int32) (hb : z_in w 0 6 = 0) : hg_Det false yX6_about md_X6_about [hv_r (some (7, 0)), hv_i (nI f), hv_i w] (mi, ml, mr, sh) (some (hv_i (-2))) (mi, ml, mr, sh) := by
  intro Q hQ
  refine hg_intro rfl rfl rfl (Nat.le_of_ble_eq_true rfl) rfl ?_
  refine hg_iload_n (n := 1) dX6_about_0 rfl rfl ?_
  refine hg_callSd (n := 4) (c_X6_isFurnace _ _) dX6_about_1 rfl mk_X6_153 yl_X6_isFurnace ys_X6_isFurnace (by decide) (by decide) rfl rfl (Nat.le_of_ble_eq_true rfl) (fun h => by cases h) ?_
  refine hg_if_ne (n := 7) (tgt := 10) dX6_about_4 rfl (by decide) (fun h4 => ?_) (fun h4 => ?_)
  · refine hg_iload_n (n := 11) dX6_about_10 rfl rfl ?_
    refine hg_tableOut (tgt := 134) dX6_about_11 (z_06 (b := 6) (by decide) hb) (by decide) ?_
    refine hg_bipush (n := 136) (v := -2) dX6_about_134 rfl (by decide) ?_
    refine hg_ireturn dX6_about_136 rfl ?_
    exact hQ
  · exact absurd h4 (z_nat3 (a := 0) (b := 2) (by omega) (by omega) (by omega))

def ab_ (X : MI_) (f w : Nat) : Int32 := if w = 0 then X 44 0 f else if w = 1 then X 45 0 f else if w = 2 then (if X 53 0 f = 0 then 0 else 1) else if w = 3 then (if X 53 0 f = 0 then -1 else X 54 0 f) else if w = 4 then (if X 53 0 f = 0 then 0 else X 55 0 f) else if w = 5 then ma_ X f 4 else X 46 0 f
set_option maxHeartbeats 4000000 in
set_option maxRecDepth 100000 in
theorem c_X6_about {mi : MI_} {ml : ML_} {mr : MR_} {sh : SH_} (hM : mo_ mr sh) (np : Nat) (hn12 : np ≤ 12) (hpl : pl_ mi np) (f : Nat) (hf : f < 3) (w : Nat) (hw : w ≤ 6) : hg_Det false yX6_about md_X6_about [hv_r (some (7, 0)), hv_i (nI f), hv_i (nI w)] (mi, ml, mr, sh) (some (hv_i (ab_ mi f w))) (mi, ml, mr, sh) := by
  intro Q hQ
  refine hg_intro rfl rfl rfl (Nat.le_of_ble_eq_true rfl) rfl ?_
  have s11 : hg_G md_X6_about false sh Q 0 0 11 [some (hv_r (some (7, 0))), some (hv_i (nI f)), some (hv_i (nI w))] [hv_i (nI w)] (mi, ml, mr, sh) := by
    rcases (show w = 0 ∨ w = 1 ∨ w = 2 ∨ w = 3 ∨ w = 4 ∨ w = 5 ∨ w = 6 by omega) with rfl | rfl | rfl | rfl | rfl | rfl | rfl
    · refine hg_tableIn (tgt := 52) (off := 41) dX6_about_11 (by decide) (by decide) (by decide) (by decide) ?_
      refine hg_aload_n (n := 53) dX6_about_52 rfl rfl ?_
      refine hg_getR (n := 56) (r := some (44, 0)) dX6_about_53 rfl fl_X6_83 rfl rfl (mo_s hM) (mo_r hM 14 (by decide)) ?_
      refine hg_iload_n (n := 57) dX6_about_56 rfl rfl ?_
      refine hg_iaload (n := 58) (len := 3) (f) dX6_about_57 rfl (by decide) rfl (mo_a hM 14 (by decide)) rfl (by omega) (by decide) ?_
      refine hg_ireturn dX6_about_58 rfl ?_
      exact hQ
    · refine hg_tableIn (tgt := 59) (off := 48) dX6_about_11 (by decide) (by decide) (by decide) (by decide) ?_
      refine hg_aload_n (n := 60) dX6_about_59 rfl rfl ?_
      refine hg_getR (n := 63) (r := some (45, 0)) dX6_about_60 rfl fl_X6_86 rfl rfl (mo_s hM) (mo_r hM 15 (by decide)) ?_
      refine hg_iload_n (n := 64) dX6_about_63 rfl rfl ?_
      refine hg_iaload (n := 65) (len := 3) (f) dX6_about_64 rfl (by decide) rfl (mo_a hM 15 (by decide)) rfl (by omega) (by decide) ?_
      refine hg_ireturn dX6_about_65 rfl ?_
      exact hQ
    · refine hg_tableIn (tgt := 66) (off := 55) dX6_about_11 (by decide) (by decide) (by decide) (by decide) ?_
      refine hg_aload_n (n := 67) dX6_about_66 rfl rfl ?_
      refine hg_getR (n := 70) (r := some (53, 0)) dX6_about_67 rfl fl_X6_111 rfl rfl (mo_s hM) (mo_r hM 23 (by decide)) ?_
      refine hg_iload_n (n := 71) dX6_about_70 rfl rfl ?_
      refine hg_baload (n := 72) (len := 3) (f) dX6_about_71 rfl (by decide) rfl (mo_a hM 23 (by decide)) rfl (by omega) (by decide) ?_
      refine hg_if_eq (n := 75) (tgt := 79) dX6_about_72 rfl (by decide) (fun h72 => ?_) (fun h72 => ?_)
      · refine hg_iconst (n := 80) (v := 0) dX6_about_79 rfl (by decide) ?_
        refine hg_ireturn dX6_about_80 rfl ?_
        rw [show ab_ mi f 2 = (if mi 53 0 f = 0 then 0 else 1) from rfl, if_pos h72] at hQ
        exact hQ
      · refine hg_iconst (n := 76) (v := 1) dX6_about_75 rfl (by decide) ?_
        refine hg_goto (tgt := 80) dX6_about_76 (by decide) ?_
        refine hg_ireturn dX6_about_80 rfl ?_
        rw [show ab_ mi f 2 = (if mi 53 0 f = 0 then 0 else 1) from rfl, if_neg h72] at hQ
        exact hQ
    · refine hg_tableIn (tgt := 81) (off := 70) dX6_about_11 (by decide) (by decide) (by decide) (by decide) ?_
      refine hg_aload_n (n := 82) dX6_about_81 rfl rfl ?_
      refine hg_getR (n := 85) (r := some (53, 0)) dX6_about_82 rfl fl_X6_111 rfl rfl (mo_s hM) (mo_r hM 23 (by decide)) ?_
      refine hg_iload_n (n := 86) dX6_about_85 rfl rfl ?_
      refine hg_baload (n := 87) (len := 3) (f) dX6_about_86 rfl (by decide) rfl (mo_a hM 23 (by decide)) rfl (by omega) (by decide) ?_
      refine hg_if_eq (n := 90) (tgt := 99) dX6_about_87 rfl (by decide) (fun h87 => ?_) (fun h87 => ?_)
      · refine hg_iconst (n := 100) (v := -1) dX6_about_99 rfl (by decide) ?_
        refine hg_ireturn dX6_about_100 rfl ?_
        rw [show ab_ mi f 3 = (if mi 53 0 f = 0 then -1 else mi 54 0 f) from rfl, if_pos h87] at hQ
        exact hQ
      · refine hg_aload_n (n := 91) dX6_about_90 rfl rfl ?_
        refine hg_getR (n := 94) (r := some (54, 0)) dX6_about_91 rfl fl_X6_114 rfl rfl (mo_s hM) (mo_r hM 24 (by decide)) ?_
        refine hg_iload_n (n := 95) dX6_about_94 rfl rfl ?_
        refine hg_iaload (n := 96) (len := 3) (f) dX6_about_95 rfl (by decide) rfl (mo_a hM 24 (by decide)) rfl (by omega) (by decide) ?_
        refine hg_goto (tgt := 100) dX6_about_96 (by decide) ?_
        refine hg_ireturn dX6_about_100 rfl ?_
        rw [show ab_ mi f 3 = (if mi 53 0 f = 0 then -1 else mi 54 0 f) from rfl, if_neg h87] at hQ
        exact hQ
    · refine hg_tableIn (tgt := 101) (off := 90) dX6_about_11 (by decide) (by decide) (by decide) (by decide) ?_
      refine hg_aload_n (n := 102) dX6_about_101 rfl rfl ?_
      refine hg_getR (n := 105) (r := some (53, 0)) dX6_about_102 rfl fl_X6_111 rfl rfl (mo_s hM) (mo_r hM 23 (by decide)) ?_
      refine hg_iload_n (n := 106) dX6_about_105 rfl rfl ?_
      refine hg_baload (n := 107) (len := 3) (f) dX6_about_106 rfl (by decide) rfl (mo_a hM 23 (by decide)) rfl (by omega) (by decide) ?_
      refine hg_if_eq (n := 110) (tgt := 119) dX6_about_107 rfl (by decide) (fun h107 => ?_) (fun h107 => ?_)
      · refine hg_iconst (n := 120) (v := 0) dX6_about_119 rfl (by decide) ?_
        refine hg_ireturn dX6_about_120 rfl ?_
        rw [show ab_ mi f 4 = (if mi 53 0 f = 0 then 0 else mi 55 0 f) from rfl, if_pos h107] at hQ
        exact hQ
      · refine hg_aload_n (n := 111) dX6_about_110 rfl rfl ?_
        refine hg_getR (n := 114) (r := some (55, 0)) dX6_about_111 rfl fl_X6_117 rfl rfl (mo_s hM) (mo_r hM 25 (by decide)) ?_
        refine hg_iload_n (n := 115) dX6_about_114 rfl rfl ?_
        refine hg_iaload (n := 116) (len := 3) (f) dX6_about_115 rfl (by decide) rfl (mo_a hM 25 (by decide)) rfl (by omega) (by decide) ?_
        refine hg_goto (tgt := 120) dX6_about_116 (by decide) ?_
        refine hg_ireturn dX6_about_120 rfl ?_
        rw [show ab_ mi f 4 = (if mi 53 0 f = 0 then 0 else mi 55 0 f) from rfl, if_neg h107] at hQ
        exact hQ
    · refine hg_tableIn (tgt := 121) (off := 110) dX6_about_11 (by decide) (by decide) (by decide) (by decide) ?_
      refine hg_aload_n (n := 122) dX6_about_121 rfl rfl ?_
      refine hg_iload_n (n := 123) dX6_about_122 rfl rfl ?_
      refine hg_callVd (n := 126) (c_X6_massOf hM np hn12 hpl (f) (by omega)) dX6_about_123 rfl mk_X6_159 yl_X6_massOf yv_X6_massOf rfl (mo_s hM) (by decide) (by decide) rfl rfl (Nat.le_of_ble_eq_true rfl) (fun h => by cases h) ?_
      refine hg_ireturn dX6_about_126 rfl ?_
      exact hQ
    · refine hg_tableIn (tgt := 127) (off := 116) dX6_about_11 (by decide) (by decide) (by decide) (by decide) ?_
      refine hg_aload_n (n := 128) dX6_about_127 rfl rfl ?_
      refine hg_getR (n := 131) (r := some (46, 0)) dX6_about_128 rfl fl_X6_89 rfl rfl (mo_s hM) (mo_r hM 16 (by decide)) ?_
      refine hg_iload_n (n := 132) dX6_about_131 rfl rfl ?_
      refine hg_iaload (n := 133) (len := 3) (f) dX6_about_132 rfl (by decide) rfl (mo_a hM 16 (by decide)) rfl (by omega) (by decide) ?_
      refine hg_ireturn dX6_about_133 rfl ?_
      exact hQ
  refine hg_iload_n (n := 1) dX6_about_0 rfl rfl ?_
  refine hg_callSd (n := 4) (c_X6_isFurnace _ _) dX6_about_1 rfl mk_X6_153 yl_X6_isFurnace ys_X6_isFurnace (by decide) (by decide) rfl rfl (Nat.le_of_ble_eq_true rfl) (fun h => by cases h) ?_
  refine hg_if_ne (n := 7) (tgt := 10) dX6_about_4 rfl (by decide) (fun h4 => ?_) (fun h4 => ?_)
  · refine hg_iload_n (n := 11) dX6_about_10 rfl rfl ?_
    exact s11
  · exact absurd h4 (z_nat3 (a := 0) (b := 2) (by omega) (by omega) (by omega))

def we_ (X : MI_) (r : Nat) : Int32 := if X 61 0 r = 0 then 0 else if X 62 0 r = 0 then 1 else 0
set_option maxHeartbeats 4000000 in
set_option maxRecDepth 100000 in
theorem c_X6_isWell {mi : MI_} {ml : ML_} {mr : MR_} {sh : SH_} (hM : mo_ mr sh) (r : Nat) (hr : r < 100) : hg_Det false yX6_isWell md_X6_isWell [hv_r (some (7, 0)), hv_i (nI r)] (mi, ml, mr, sh) (some (hv_i (we_ mi r))) (mi, ml, mr, sh) := by
  intro Q hQ
  refine hg_intro rfl rfl rfl (Nat.le_of_ble_eq_true rfl) rfl ?_
  refine hg_aload_n (n := 1) dX6_isWell_0 rfl rfl ?_
  refine hg_getR (n := 4) (r := some (61, 0)) dX6_isWell_1 rfl fl_X6_132 rfl rfl (mo_s hM) (mo_r hM 31 (by decide)) ?_
  refine hg_iload_n (n := 5) dX6_isWell_4 rfl rfl ?_
  refine hg_baload (n := 6) (len := 100) (r) dX6_isWell_5 rfl (by decide) rfl (mo_a hM 31 (by decide)) rfl (by omega) (by decide) ?_
  refine hg_if_eq (n := 9) (tgt := 22) dX6_isWell_6 rfl (by decide) (fun h6 => ?_) (fun h6 => ?_)
  · refine hg_iconst (n := 23) (v := 0) dX6_isWell_22 rfl (by decide) ?_
    refine hg_zreturn dX6_isWell_23 rfl (by decide) ?_
    unfold we_ at hQ
    rw [if_pos h6] at hQ
    exact hQ
  · refine hg_aload_n (n := 10) dX6_isWell_9 rfl rfl ?_
    refine hg_getR (n := 13) (r := some (62, 0)) dX6_isWell_10 rfl fl_X6_135 rfl rfl (mo_s hM) (mo_r hM 32 (by decide)) ?_
    refine hg_iload_n (n := 14) dX6_isWell_13 rfl rfl ?_
    refine hg_baload (n := 15) (len := 100) (r) dX6_isWell_14 rfl (by decide) rfl (mo_a hM 32 (by decide)) rfl (by omega) (by decide) ?_
    refine hg_if_ne (n := 18) (tgt := 22) dX6_isWell_15 rfl (by decide) (fun h15 => ?_) (fun h15 => ?_)
    · refine hg_iconst (n := 23) (v := 0) dX6_isWell_22 rfl (by decide) ?_
      refine hg_zreturn dX6_isWell_23 rfl (by decide) ?_
      unfold we_ at hQ
      rw [if_neg h6, if_neg h15] at hQ
      exact hQ
    · refine hg_iconst (n := 19) (v := 1) dX6_isWell_18 rfl (by decide) ?_
      refine hg_goto (tgt := 23) dX6_isWell_19 (by decide) ?_
      refine hg_zreturn dX6_isWell_23 rfl (by decide) ?_
      unfold we_ at hQ
      rw [if_neg h6, if_pos h15] at hQ
      exact hQ

set_option maxHeartbeats 4000000 in
set_option maxRecDepth 100000 in
theorem c_X6_runAt_b {mi : MI_} {ml : ML_} {mr : MR_} {sh : SH_} (hM : mo_ mr sh) (x w : Int32) (hb : x < 0 ∨ z_in w 0 4 = 0) : hg_Det false yX6_runAt md_X6_runAt [hv_r (some (7, 0)), hv_i x, hv_i w] (mi, ml, mr, sh) (some (hv_i (-2))) (mi, ml, mr, sh) := by
  intro Q hQ
  refine hg_intro rfl rfl rfl (Nat.le_of_ble_eq_true rfl) rfl ?_
  refine hg_iload_n (n := 1) dX6_runAt_0 rfl rfl ?_
  refine hg_if_lt (n := 4) (tgt := 13) dX6_runAt_1 rfl (by decide) (fun h1 => ?_) (fun h1 => ?_)
  · refine hg_bipush (n := 15) (v := -2) dX6_runAt_13 rfl (by decide) ?_
    refine hg_ireturn dX6_runAt_15 rfl ?_
    exact hQ
  · refine hg_iload_n (n := 5) dX6_runAt_4 rfl rfl ?_
    refine hg_iconst (n := 6) (v := 0) dX6_runAt_5 rfl (by decide) ?_
    refine hg_iconst (n := 7) (v := 4) dX6_runAt_6 rfl (by decide) ?_
    refine hg_callSd (n := 10) (c_X6_in _ _ _ _) dX6_runAt_7 rfl mk_X6_1 yl_X6_in ys_X6_in (by decide) (by decide) rfl rfl (Nat.le_of_ble_eq_true rfl) (fun h => by cases h) ?_
    refine hg_if_ne (n := 13) (tgt := 16) dX6_runAt_10 rfl (by decide) (fun h10 => ?_) (fun h10 => ?_)
    · exact absurd hb (by simp [h1, h10])
    · refine hg_bipush (n := 15) (v := -2) dX6_runAt_13 rfl (by decide) ?_
      refine hg_ireturn dX6_runAt_15 rfl ?_
      exact hQ

set_option maxHeartbeats 4000000 in
set_option maxRecDepth 100000 in
theorem c_X6_runAt_n {mi : MI_} {ml : ML_} {mr : MR_} {sh : SH_} (hM : mo_ mr sh) (x w : Int32) (hx : ¬ x < 0) (hw : ¬ z_in w 0 4 = 0) (hn : ¬ x < mi 7 0 28) : hg_Det false yX6_runAt md_X6_runAt [hv_r (some (7, 0)), hv_i x, hv_i w] (mi, ml, mr, sh) (some (hv_i (-1))) (mi, ml, mr, sh) := by
  intro Q hQ
  refine hg_intro rfl rfl rfl (Nat.le_of_ble_eq_true rfl) rfl ?_
  refine hg_iload_n (n := 1) dX6_runAt_0 rfl rfl ?_
  refine hg_if_lt (n := 4) (tgt := 13) dX6_runAt_1 rfl (by decide) (fun h1 => ?_) (fun h1 => ?_)
  · exact absurd h1 hx
  · refine hg_iload_n (n := 5) dX6_runAt_4 rfl rfl ?_
    refine hg_iconst (n := 6) (v := 0) dX6_runAt_5 rfl (by decide) ?_
    refine hg_iconst (n := 7) (v := 4) dX6_runAt_6 rfl (by decide) ?_
    refine hg_callSd (n := 10) (c_X6_in _ _ _ _) dX6_runAt_7 rfl mk_X6_1 yl_X6_in ys_X6_in (by decide) (by decide) rfl rfl (Nat.le_of_ble_eq_true rfl) (fun h => by cases h) ?_
    refine hg_if_ne (n := 13) (tgt := 16) dX6_runAt_10 rfl (by decide) (fun h10 => ?_) (fun h10 => ?_)
    · refine hg_iload_n (n := 17) dX6_runAt_16 rfl rfl ?_
      refine hg_aload_n (n := 18) dX6_runAt_17 rfl rfl ?_
      refine hg_getI (n := 21) dX6_runAt_18 rfl fl_X6_165 rfl rfl (mo_s hM) ?_
      refine hg_icmp_lt (n := 24) (tgt := 26) dX6_runAt_21 rfl (by decide) (fun h21 => ?_) (fun h21 => ?_)
      · exact absurd h21 hn
      · refine hg_iconst (n := 25) (v := -1) dX6_runAt_24 rfl (by decide) ?_
        refine hg_ireturn dX6_runAt_25 rfl ?_
        exact hQ
    · exact absurd h10 hw

def ra_ (X : MI_) (r w : Nat) : Int32 := if w = 0 then X 59 0 r else if w = 4 then X 64 0 r else if w = 1 then (if X 60 0 r = 0 then 0 else 1) else if w = 2 then (if we_ X r = 0 then 0 else 1) else (if X 63 0 r = 0 then 0 else 1)
set_option maxHeartbeats 4000000 in
set_option maxRecDepth 100000 in
theorem c_X6_runAt {mi : MI_} {ml : ML_} {mr : MR_} {sh : SH_} (hM : mo_ mr sh) (nr : Nat) (hnr : mi 7 0 28 = nI nr) (hnr9 : nr ≤ 100) (r w : Nat) (hr : r < nr) (hw : w ≤ 4) : hg_Det false yX6_runAt md_X6_runAt [hv_r (some (7, 0)), hv_i (nI r), hv_i (nI w)] (mi, ml, mr, sh) (some (hv_i (ra_ mi r w))) (mi, ml, mr, sh) := by
  intro Q hQ
  refine hg_intro rfl rfl rfl (Nat.le_of_ble_eq_true rfl) rfl ?_
  refine hg_iload_n (n := 1) dX6_runAt_0 rfl rfl ?_
  refine hg_if_lt (n := 4) (tgt := 13) dX6_runAt_1 rfl (by decide) (fun h1 => ?_) (fun h1 => ?_)
  · exact absurd h1 (nI_pos (by omega))
  · refine hg_iload_n (n := 5) dX6_runAt_4 rfl rfl ?_
    refine hg_iconst (n := 6) (v := 0) dX6_runAt_5 rfl (by decide) ?_
    refine hg_iconst (n := 7) (v := 4) dX6_runAt_6 rfl (by decide) ?_
    refine hg_callSd (n := 10) (c_X6_in _ _ _ _) dX6_runAt_7 rfl mk_X6_1 yl_X6_in ys_X6_in (by decide) (by decide) rfl rfl (Nat.le_of_ble_eq_true rfl) (fun h => by cases h) ?_
    refine hg_if_ne (n := 13) (tgt := 16) dX6_runAt_10 rfl (by decide) (fun h10 => ?_) (fun h10 => ?_)
    · refine hg_iload_n (n := 17) dX6_runAt_16 rfl rfl ?_
      refine hg_aload_n (n := 18) dX6_runAt_17 rfl rfl ?_
      refine hg_getN (n := 21) (nr) dX6_runAt_18 rfl fl_X6_165 rfl rfl (mo_s hM) hnr ?_
      refine hg_icmp_ltN (n := 24) (tgt := 26) (r) (nr) dX6_runAt_21 rfl (by decide) (by omega) (by omega) (fun h21 => ?_) (fun h21 => ?_)
      · refine hg_iload_n (n := 27) dX6_runAt_26 rfl rfl ?_
        refine hg_if_neN (n := 30) (tgt := 37) (w) dX6_runAt_27 rfl (by decide) (by omega) (fun h27 => ?_) (fun h27 => ?_)
        · refine hg_iload_n (n := 38) dX6_runAt_37 rfl rfl ?_
          refine hg_iconst (n := 39) (v := 4) dX6_runAt_38 rfl (by decide) ?_
          refine hg_icmp_neN (n := 42) (tgt := 49) (w) (4) dX6_runAt_39 rfl (by decide) (by omega) (by omega) (fun h39 => ?_) (fun h39 => ?_)
          · refine hg_iload_n (n := 50) dX6_runAt_49 rfl rfl ?_
            refine hg_iconst (n := 51) (v := 1) dX6_runAt_50 rfl (by decide) ?_
            refine hg_icmp_neN (n := 54) (tgt := 66) (w) (1) dX6_runAt_51 rfl (by decide) (by omega) (by omega) (fun h51 => ?_) (fun h51 => ?_)
            · refine hg_iload_n (n := 67) dX6_runAt_66 rfl rfl ?_
              refine hg_iconst (n := 68) (v := 2) dX6_runAt_67 rfl (by decide) ?_
              refine hg_icmp_neN (n := 71) (tgt := 82) (w) (2) dX6_runAt_68 rfl (by decide) (by omega) (by omega) (fun h68 => ?_) (fun h68 => ?_)
              · refine hg_aload_n (n := 83) dX6_runAt_82 rfl rfl ?_
                refine hg_getR (n := 86) (r := some (63, 0)) dX6_runAt_83 rfl fl_X6_138 rfl rfl (mo_s hM) (mo_r hM 33 (by decide)) ?_
                refine hg_iload_n (n := 87) dX6_runAt_86 rfl rfl ?_
                refine hg_baload (n := 88) (len := 100) (r) dX6_runAt_87 rfl (by decide) rfl (mo_a hM 33 (by decide)) rfl (by omega) (by decide) ?_
                refine hg_if_eq (n := 91) (tgt := 95) dX6_runAt_88 rfl (by decide) (fun h88 => ?_) (fun h88 => ?_)
                · refine hg_iconst (n := 96) (v := 0) dX6_runAt_95 rfl (by decide) ?_
                  refine hg_ireturn dX6_runAt_96 rfl ?_
                  unfold ra_ at hQ
                  rw [if_neg h27, if_neg h39, if_neg h51, if_neg h68, if_pos h88] at hQ
                  exact hQ
                · refine hg_iconst (n := 92) (v := 1) dX6_runAt_91 rfl (by decide) ?_
                  refine hg_goto (tgt := 96) dX6_runAt_92 (by decide) ?_
                  refine hg_ireturn dX6_runAt_96 rfl ?_
                  unfold ra_ at hQ
                  rw [if_neg h27, if_neg h39, if_neg h51, if_neg h68, if_neg h88] at hQ
                  exact hQ
              · refine hg_aload_n (n := 72) dX6_runAt_71 rfl rfl ?_
                refine hg_iload_n (n := 73) dX6_runAt_72 rfl rfl ?_
                refine hg_callVd (n := 76) (c_X6_isWell hM (r) (by omega)) dX6_runAt_73 rfl mk_X6_180 yl_X6_isWell yv_X6_isWell rfl (mo_s hM) (by decide) (by decide) rfl rfl (Nat.le_of_ble_eq_true rfl) (fun h => by cases h) ?_
                refine hg_if_eq (n := 79) (tgt := 95) dX6_runAt_76 rfl (by decide) (fun h76 => ?_) (fun h76 => ?_)
                · refine hg_iconst (n := 96) (v := 0) dX6_runAt_95 rfl (by decide) ?_
                  refine hg_ireturn dX6_runAt_96 rfl ?_
                  unfold ra_ at hQ
                  rw [if_neg h27, if_neg h39, if_neg h51, if_pos h68, if_pos h76] at hQ
                  exact hQ
                · refine hg_goto (tgt := 91) dX6_runAt_79 (by decide) ?_
                  refine hg_iconst (n := 92) (v := 1) dX6_runAt_91 rfl (by decide) ?_
                  refine hg_goto (tgt := 96) dX6_runAt_92 (by decide) ?_
                  refine hg_ireturn dX6_runAt_96 rfl ?_
                  unfold ra_ at hQ
                  rw [if_neg h27, if_neg h39, if_neg h51, if_pos h68, if_neg h76] at hQ
                  exact hQ
            · refine hg_aload_n (n := 55) dX6_runAt_54 rfl rfl ?_
              refine hg_getR (n := 58) (r := some (60, 0)) dX6_runAt_55 rfl fl_X6_129 rfl rfl (mo_s hM) (mo_r hM 30 (by decide)) ?_
              refine hg_iload_n (n := 59) dX6_runAt_58 rfl rfl ?_
              refine hg_baload (n := 60) (len := 100) (r) dX6_runAt_59 rfl (by decide) rfl (mo_a hM 30 (by decide)) rfl (by omega) (by decide) ?_
              refine hg_if_eq (n := 63) (tgt := 95) dX6_runAt_60 rfl (by decide) (fun h60 => ?_) (fun h60 => ?_)
              · refine hg_iconst (n := 96) (v := 0) dX6_runAt_95 rfl (by decide) ?_
                refine hg_ireturn dX6_runAt_96 rfl ?_
                unfold ra_ at hQ
                rw [if_neg h27, if_neg h39, if_pos h51, if_pos h60] at hQ
                exact hQ
              · refine hg_goto (tgt := 91) dX6_runAt_63 (by decide) ?_
                refine hg_iconst (n := 92) (v := 1) dX6_runAt_91 rfl (by decide) ?_
                refine hg_goto (tgt := 96) dX6_runAt_92 (by decide) ?_
                refine hg_ireturn dX6_runAt_96 rfl ?_
                unfold ra_ at hQ
                rw [if_neg h27, if_neg h39, if_pos h51, if_neg h60] at hQ
                exact hQ
          · refine hg_aload_n (n := 43) dX6_runAt_42 rfl rfl ?_
            refine hg_getR (n := 46) (r := some (64, 0)) dX6_runAt_43 rfl fl_X6_141 rfl rfl (mo_s hM) (mo_r hM 34 (by decide)) ?_
            refine hg_iload_n (n := 47) dX6_runAt_46 rfl rfl ?_
            refine hg_iaload (n := 48) (len := 100) (r) dX6_runAt_47 rfl (by decide) rfl (mo_a hM 34 (by decide)) rfl (by omega) (by decide) ?_
            refine hg_ireturn dX6_runAt_48 rfl ?_
            unfold ra_ at hQ
            rw [if_neg h27, if_pos h39] at hQ
            exact hQ
        · refine hg_aload_n (n := 31) dX6_runAt_30 rfl rfl ?_
          refine hg_getR (n := 34) (r := some (59, 0)) dX6_runAt_31 rfl fl_X6_126 rfl rfl (mo_s hM) (mo_r hM 29 (by decide)) ?_
          refine hg_iload_n (n := 35) dX6_runAt_34 rfl rfl ?_
          refine hg_iaload (n := 36) (len := 100) (r) dX6_runAt_35 rfl (by decide) rfl (mo_a hM 29 (by decide)) rfl (by omega) (by decide) ?_
          refine hg_ireturn dX6_runAt_36 rfl ?_
          unfold ra_ at hQ
          rw [if_pos h27] at hQ
          exact hQ
      · exact absurd h21 (by omega)
    · exact absurd h10 (z_nat3 (a := 0) (b := 4) (by omega) (by omega) (by omega))

set_option maxHeartbeats 4000000 in
set_option maxRecDepth 100000 in
theorem c_X6_paper_b {mi : MI_} {ml : ML_} {mr : MR_} {sh : SH_} (hM : mo_ mr sh) (x a b : Int32) (hb : z_in x 0 (mi 7 0 0 - 1) = 0 ∨ ¬ a ≤ b) : hg_Det false yX6_paper md_X6_paper [hv_r (some (7, 0)), hv_i x, hv_i a, hv_i b] (mi, ml, mr, sh) (some (hv_i (-2))) (mi, ml, mr, sh) := by
  intro Q hQ
  refine hg_intro rfl rfl rfl (Nat.le_of_ble_eq_true rfl) rfl ?_
  refine hg_aload_n (n := 1) dX6_paper_0 rfl rfl ?_
  refine hg_iload_n (n := 2) dX6_paper_1 rfl rfl ?_
  refine hg_callVd (n := 5) (c_X6_isPart hM _) dX6_paper_2 rfl mk_X6_60 yl_X6_isPart yv_X6_isPart rfl (mo_s hM) (by decide) (by decide) rfl rfl (Nat.le_of_ble_eq_true rfl) (fun h => by cases h) ?_
  refine hg_if_eq (n := 8) (tgt := 13) dX6_paper_5 rfl (by decide) (fun h5 => ?_) (fun h5 => ?_)
  · refine hg_bipush (n := 15) (v := -2) dX6_paper_13 rfl (by decide) ?_
    refine hg_ireturn dX6_paper_15 rfl ?_
    exact hQ
  · refine hg_iload_n (n := 9) dX6_paper_8 rfl rfl ?_
    refine hg_iload_n (n := 10) dX6_paper_9 rfl rfl ?_
    refine hg_icmp_le (n := 13) (tgt := 16) dX6_paper_10 rfl (by decide) (fun h10 => ?_) (fun h10 => ?_)
    · exact absurd hb (by simp [h5, h10])
    · refine hg_bipush (n := 15) (v := -2) dX6_paper_13 rfl (by decide) ?_
      refine hg_ireturn dX6_paper_15 rfl ?_
      exact hQ

set_option maxHeartbeats 4000000 in
set_option maxRecDepth 100000 in
theorem c_X6_paper_0 {mi : MI_} {ml : ML_} {mr : MR_} {sh : SH_} (hM : mo_ mr sh) (np : Nat) (hnp : mi 7 0 0 = nI np) (hn12 : np ≤ 12) (p : Nat) (hp : p < np) (a b : Int32) (hab : a ≤ b) (h0 : mi 39 0 p = -1) : hg_Det false yX6_paper md_X6_paper [hv_r (some (7, 0)), hv_i (nI p), hv_i a, hv_i b] (mi, ml, mr, sh) (some (hv_i (-10))) (mi, ml, mr, sh) := by
  intro Q hQ
  refine hg_intro rfl rfl rfl (Nat.le_of_ble_eq_true rfl) rfl ?_
  refine hg_aload_n (n := 1) dX6_paper_0 rfl rfl ?_
  refine hg_iload_n (n := 2) dX6_paper_1 rfl rfl ?_
  refine hg_callVd (n := 5) (c_X6_isPart hM _) dX6_paper_2 rfl mk_X6_60 yl_X6_isPart yv_X6_isPart rfl (mo_s hM) (by decide) (by decide) rfl rfl (Nat.le_of_ble_eq_true rfl) (fun h => by cases h) ?_
  refine hg_if_eq (n := 8) (tgt := 13) dX6_paper_5 rfl (by decide) (fun h5 => ?_) (fun h5 => ?_)
  · exact absurd h5 (by rw [hnp, z_ix2 (by omega) hp]; decide)
  · refine hg_iload_n (n := 9) dX6_paper_8 rfl rfl ?_
    refine hg_iload_n (n := 10) dX6_paper_9 rfl rfl ?_
    refine hg_icmp_le (n := 13) (tgt := 16) dX6_paper_10 rfl (by decide) (fun h10 => ?_) (fun h10 => ?_)
    · refine hg_aload_n (n := 17) dX6_paper_16 rfl rfl ?_
      refine hg_getR (n := 20) (r := some (39, 0)) dX6_paper_17 rfl fl_X6_37 rfl rfl (mo_s hM) (mo_r hM 9 (by decide)) ?_
      refine hg_iload_n (n := 21) dX6_paper_20 rfl rfl ?_
      refine hg_iaload (n := 22) (len := 12) (p) dX6_paper_21 rfl (by decide) rfl (mo_a hM 9 (by decide)) rfl (by omega) (by decide) ?_
      refine hg_istore (n := 24) dX6_paper_22 rfl (by decide) rfl rfl ?_
      refine hg_iload (n := 26) dX6_paper_24 rfl rfl ?_
      refine hg_iconst (n := 27) (v := -1) dX6_paper_26 rfl (by decide) ?_
      refine hg_icmp_ne (n := 30) (tgt := 33) dX6_paper_27 rfl (by decide) (fun h27 => ?_) (fun h27 => ?_)
      · exact absurd h0 h27
      · refine hg_bipush (n := 32) (v := -10) dX6_paper_30 rfl (by decide) ?_
        refine hg_ireturn dX6_paper_32 rfl ?_
        exact hQ
    · exact absurd hab h10

def pp_ (X : MI_) (p r : Nat) (a b : Int32) : Int32 := if X 63 0 r = 0 then (if we_ X r = 0 then -12 else if z_in (ha_ X (6 * p)) a b = 0 then -13 else if X 40 0 (6 * p) ≤ 500 then 1 else -14) else -11
set_option maxHeartbeats 4000000 in
set_option maxRecDepth 100000 in
theorem c_X6_paper {mi : MI_} {ml : ML_} {mr : MR_} {sh : SH_} (hM : mo_ mr sh) (np : Nat) (hnp : mi 7 0 0 = nI np) (hn12 : np ≤ 12) (p : Nat) (hp : p < np) (a b : Int32) (hab : a ≤ b) (r : Nat) (hr : r < 100) (h0 : mi 39 0 p = nI r) : hg_Det false yX6_paper md_X6_paper [hv_r (some (7, 0)), hv_i (nI p), hv_i a, hv_i b] (mi, ml, mr, sh) (some (hv_i (pp_ mi p r a b))) (mi, ml, mr, sh) := by
  intro Q hQ
  refine hg_intro rfl rfl rfl (Nat.le_of_ble_eq_true rfl) rfl ?_
  refine hg_aload_n (n := 1) dX6_paper_0 rfl rfl ?_
  refine hg_iload_n (n := 2) dX6_paper_1 rfl rfl ?_
  refine hg_callVd (n := 5) (c_X6_isPart hM _) dX6_paper_2 rfl mk_X6_60 yl_X6_isPart yv_X6_isPart rfl (mo_s hM) (by decide) (by decide) rfl rfl (Nat.le_of_ble_eq_true rfl) (fun h => by cases h) ?_
  refine hg_if_eq (n := 8) (tgt := 13) dX6_paper_5 rfl (by decide) (fun h5 => ?_) (fun h5 => ?_)
  · exact absurd h5 (by rw [hnp, z_ix2 (by omega) hp]; decide)
  · refine hg_iload_n (n := 9) dX6_paper_8 rfl rfl ?_
    refine hg_iload_n (n := 10) dX6_paper_9 rfl rfl ?_
    refine hg_icmp_le (n := 13) (tgt := 16) dX6_paper_10 rfl (by decide) (fun h10 => ?_) (fun h10 => ?_)
    · refine hg_aload_n (n := 17) dX6_paper_16 rfl rfl ?_
      refine hg_getR (n := 20) (r := some (39, 0)) dX6_paper_17 rfl fl_X6_37 rfl rfl (mo_s hM) (mo_r hM 9 (by decide)) ?_
      refine hg_iload_n (n := 21) dX6_paper_20 rfl rfl ?_
      refine hg_ialoadN (n := 22) (len := 12) (r) (p) dX6_paper_21 rfl (by decide) rfl (mo_a hM 9 (by decide)) rfl (by omega) (by decide) h0 ?_
      refine hg_istore (n := 24) dX6_paper_22 rfl (by decide) rfl rfl ?_
      refine hg_iload (n := 26) dX6_paper_24 rfl rfl ?_
      refine hg_iconst (n := 27) (v := -1) dX6_paper_26 rfl (by decide) ?_
      refine hg_icmp_ne (n := 30) (tgt := 33) dX6_paper_27 rfl (by decide) (fun h27 => ?_) (fun h27 => ?_)
      · refine hg_aload_n (n := 34) dX6_paper_33 rfl rfl ?_
        refine hg_getR (n := 37) (r := some (63, 0)) dX6_paper_34 rfl fl_X6_138 rfl rfl (mo_s hM) (mo_r hM 33 (by decide)) ?_
        refine hg_iload (n := 39) dX6_paper_37 rfl rfl ?_
        refine hg_baload (n := 40) (len := 100) (r) dX6_paper_39 rfl (by decide) rfl (mo_a hM 33 (by decide)) rfl (by omega) (by decide) ?_
        refine hg_if_eq (n := 43) (tgt := 46) dX6_paper_40 rfl (by decide) (fun h40 => ?_) (fun h40 => ?_)
        · refine hg_aload_n (n := 47) dX6_paper_46 rfl rfl ?_
          refine hg_iload (n := 49) dX6_paper_47 rfl rfl ?_
          refine hg_callVd (n := 52) (c_X6_isWell hM (r) (by omega)) dX6_paper_49 rfl mk_X6_180 yl_X6_isWell yv_X6_isWell rfl (mo_s hM) (by decide) (by decide) rfl rfl (Nat.le_of_ble_eq_true rfl) (fun h => by cases h) ?_
          refine hg_if_ne (n := 55) (tgt := 58) dX6_paper_52 rfl (by decide) (fun h52 => ?_) (fun h52 => ?_)
          · refine hg_aload_n (n := 59) dX6_paper_58 rfl rfl ?_
            refine hg_bipush (n := 61) (v := 6) dX6_paper_59 rfl (by decide) ?_
            refine hg_iload_n (n := 62) dX6_paper_61 rfl rfl ?_
            refine hg_imulN (n := 63) (6) (p) dX6_paper_62 rfl ?_
            refine hg_callVd (n := 66) (c_X6_hardness hM (6 * p) (by omega)) dX6_paper_63 rfl mk_X6_72 yl_X6_hardness yv_X6_hardness rfl (mo_s hM) (by decide) (by decide) rfl rfl (Nat.le_of_ble_eq_true rfl) (fun h => by cases h) ?_
            refine hg_iload_n (n := 67) dX6_paper_66 rfl rfl ?_
            refine hg_iload_n (n := 68) dX6_paper_67 rfl rfl ?_
            refine hg_callSd (n := 71) (c_X6_in _ _ _ _) dX6_paper_68 rfl mk_X6_1 yl_X6_in ys_X6_in (by decide) (by decide) rfl rfl (Nat.le_of_ble_eq_true rfl) (fun h => by cases h) ?_
            refine hg_if_ne (n := 74) (tgt := 77) dX6_paper_71 rfl (by decide) (fun h71 => ?_) (fun h71 => ?_)
            · refine hg_aload_n (n := 78) dX6_paper_77 rfl rfl ?_
              refine hg_getR (n := 81) (r := some (40, 0)) dX6_paper_78 rfl fl_X6_40 rfl rfl (mo_s hM) (mo_r hM 10 (by decide)) ?_
              refine hg_bipush (n := 83) (v := 6) dX6_paper_81 rfl (by decide) ?_
              refine hg_iload_n (n := 84) dX6_paper_83 rfl rfl ?_
              refine hg_imulN (n := 85) (6) (p) dX6_paper_84 rfl ?_
              refine hg_iaload (n := 86) (len := 72) (6 * p) dX6_paper_85 rfl (by decide) rfl (mo_a hM 10 (by decide)) rfl (by omega) (by decide) ?_
              refine hg_sipush (n := 89) (v := 500) dX6_paper_86 rfl (by decide) ?_
              refine hg_icmp_le (n := 92) (tgt := 97) dX6_paper_89 rfl (by decide) (fun h89 => ?_) (fun h89 => ?_)
              · refine hg_iconst (n := 98) (v := 1) dX6_paper_97 rfl (by decide) ?_
                refine hg_ireturn dX6_paper_98 rfl ?_
                unfold pp_ at hQ
                rw [if_pos h40, if_neg h52, if_neg h71, if_pos h89] at hQ
                exact hQ
              · refine hg_bipush (n := 94) (v := -14) dX6_paper_92 rfl (by decide) ?_
                refine hg_goto (tgt := 98) dX6_paper_94 (by decide) ?_
                refine hg_ireturn dX6_paper_98 rfl ?_
                unfold pp_ at hQ
                rw [if_pos h40, if_neg h52, if_neg h71, if_neg h89] at hQ
                exact hQ
            · refine hg_bipush (n := 76) (v := -13) dX6_paper_74 rfl (by decide) ?_
              refine hg_ireturn dX6_paper_76 rfl ?_
              unfold pp_ at hQ
              rw [if_pos h40, if_neg h52, if_pos h71] at hQ
              exact hQ
          · refine hg_bipush (n := 57) (v := -12) dX6_paper_55 rfl (by decide) ?_
            refine hg_ireturn dX6_paper_57 rfl ?_
            unfold pp_ at hQ
            rw [if_pos h40, if_pos h52] at hQ
            exact hQ
        · refine hg_bipush (n := 45) (v := -11) dX6_paper_43 rfl (by decide) ?_
          refine hg_ireturn dX6_paper_45 rfl ?_
          unfold pp_ at hQ
          rw [if_neg h40] at hQ
          exact hQ
      · exact absurd h27 (nI_m1 (by omega))
    · exact absurd hab h10

set_option maxHeartbeats 4000000 in
set_option maxRecDepth 100000 in
theorem c_X6_count_b {mi : MI_} {ml : ML_} {mr : MR_} {sh : SH_} (hM : mo_ mr sh) (w : Int32) (hb : z_in w 0 4 = 0) : hg_Det false yX6_count md_X6_count [hv_r (some (7, 0)), hv_i w] (mi, ml, mr, sh) (some (hv_i (-2))) (mi, ml, mr, sh) := by
  intro Q hQ
  refine hg_intro rfl rfl rfl (Nat.le_of_ble_eq_true rfl) rfl ?_
  refine hg_iload_n (n := 1) dX6_count_0 rfl rfl ?_
  refine hg_iconst (n := 2) (v := 0) dX6_count_1 rfl (by decide) ?_
  refine hg_iconst (n := 3) (v := 4) dX6_count_2 rfl (by decide) ?_
  refine hg_callSd (n := 6) (c_X6_in _ _ _ _) dX6_count_3 rfl mk_X6_1 yl_X6_in ys_X6_in (by decide) (by decide) rfl rfl (Nat.le_of_ble_eq_true rfl) (fun h => by cases h) ?_
  refine hg_if_ne (n := 9) (tgt := 12) dX6_count_6 rfl (by decide) (fun h6 => ?_) (fun h6 => ?_)
  · exact absurd hb h6
  · refine hg_bipush (n := 11) (v := -2) dX6_count_9 rfl (by decide) ?_
    refine hg_ireturn dX6_count_11 rfl ?_
    exact hQ

def cd_ (X : MI_) : Nat → Int32
  | 0 => 0
  | c + 1 => cd_ X c + (if X 63 0 c = 0 then 0 else 1)
def co_ (X : MI_) (nr w : Nat) : Int32 := if w = 0 then X 7 0 0 else if w = 1 then X 7 0 28 else if w = 2 then rg_ X 3 else if w = 3 then X 7 0 35 else cd_ X nr
set_option maxHeartbeats 4000000 in
set_option maxRecDepth 100000 in
theorem c_X6_count {mi : MI_} {ml : ML_} {mr : MR_} {sh : SH_} (hM : mo_ mr sh) (nr : Nat) (hnr : mi 7 0 28 = nI nr) (hnr9 : nr ≤ 100) (w : Nat) (hw : w ≤ 4) : hg_Det false yX6_count md_X6_count [hv_r (some (7, 0)), hv_i (nI w)] (mi, ml, mr, sh) (some (hv_i (co_ mi nr w))) (mi, ml, mr, sh) := by
  intro Q hQ
  refine hg_intro rfl rfl rfl (Nat.le_of_ble_eq_true rfl) rfl ?_
  have loop : ∀ m c, c + m = nr → hg_G md_X6_count false sh Q 0 0 16 [some (hv_r (some (7, 0))), some (hv_i (nI w)), some (hv_i (cd_ mi c)), some (hv_i (nI c))] [] (mi, ml, mr, sh) := by
    intro m
    induction m with
    | zero =>
      intro c hc
      refine hg_iload_n (n := 17) dX6_count_16 rfl rfl ?_
      refine hg_aload_n (n := 18) dX6_count_17 rfl rfl ?_
      refine hg_getN (n := 21) (nr) dX6_count_18 rfl fl_X6_165 rfl rfl (mo_s hM) hnr ?_
      refine hg_icmp_geN (n := 24) (tgt := 47) (c) (nr) dX6_count_21 rfl (by decide) (by omega) (by omega) (fun h21 => ?_) (fun h21 => ?_)
      · have e1 := show c = nr by omega
        subst e1
        refine hg_iload_n (n := 48) dX6_count_47 rfl rfl ?_
        refine hg_if_neN (n := 51) (tgt := 58) (w) dX6_count_48 rfl (by decide) (by omega) (fun h48 => ?_) (fun h48 => ?_)
        · refine hg_iload_n (n := 59) dX6_count_58 rfl rfl ?_
          refine hg_iconst (n := 60) (v := 1) dX6_count_59 rfl (by decide) ?_
          refine hg_icmp_neN (n := 63) (tgt := 70) (w) (1) dX6_count_60 rfl (by decide) (by omega) (by omega) (fun h60 => ?_) (fun h60 => ?_)
          · refine hg_iload_n (n := 71) dX6_count_70 rfl rfl ?_
            refine hg_iconst (n := 72) (v := 2) dX6_count_71 rfl (by decide) ?_
            refine hg_icmp_neN (n := 75) (tgt := 82) (w) (2) dX6_count_72 rfl (by decide) (by omega) (by omega) (fun h72 => ?_) (fun h72 => ?_)
            · refine hg_iload_n (n := 83) dX6_count_82 rfl rfl ?_
              refine hg_iconst (n := 84) (v := 3) dX6_count_83 rfl (by decide) ?_
              refine hg_icmp_neN (n := 87) (tgt := 94) (w) (3) dX6_count_84 rfl (by decide) (by omega) (by omega) (fun h84 => ?_) (fun h84 => ?_)
              · refine hg_iload_n (n := 95) dX6_count_94 rfl rfl ?_
                refine hg_ireturn dX6_count_95 rfl ?_
                unfold co_ at hQ
                rw [if_neg h48, if_neg h60, if_neg h72, if_neg h84] at hQ
                exact hQ
              · refine hg_aload_n (n := 88) dX6_count_87 rfl rfl ?_
                refine hg_getI (n := 91) dX6_count_88 rfl fl_X6_183 rfl rfl (mo_s hM) ?_
                refine hg_goto (tgt := 95) dX6_count_91 (by decide) ?_
                refine hg_ireturn dX6_count_95 rfl ?_
                unfold co_ at hQ
                rw [if_neg h48, if_neg h60, if_neg h72, if_pos h84] at hQ
                exact hQ
            · refine hg_aload_n (n := 76) dX6_count_75 rfl rfl ?_
              refine hg_callVd (n := 79) (c_X6_running hM) dX6_count_76 rfl mk_X6_176 yl_X6_running yv_X6_running rfl (mo_s hM) (by decide) (by decide) rfl rfl (Nat.le_of_ble_eq_true rfl) (fun h => by cases h) ?_
              refine hg_goto (tgt := 95) dX6_count_79 (by decide) ?_
              refine hg_ireturn dX6_count_95 rfl ?_
              unfold co_ at hQ
              rw [if_neg h48, if_neg h60, if_pos h72] at hQ
              exact hQ
          · refine hg_aload_n (n := 64) dX6_count_63 rfl rfl ?_
            refine hg_getI (n := 67) dX6_count_64 rfl fl_X6_165 rfl rfl (mo_s hM) ?_
            refine hg_goto (tgt := 95) dX6_count_67 (by decide) ?_
            refine hg_ireturn dX6_count_95 rfl ?_
            unfold co_ at hQ
            rw [if_neg h48, if_pos h60] at hQ
            exact hQ
        · refine hg_aload_n (n := 52) dX6_count_51 rfl rfl ?_
          refine hg_getI (n := 55) dX6_count_52 rfl fl_X6_7 rfl rfl (mo_s hM) ?_
          refine hg_goto (tgt := 95) dX6_count_55 (by decide) ?_
          refine hg_ireturn dX6_count_95 rfl ?_
          unfold co_ at hQ
          rw [if_pos h48] at hQ
          exact hQ
      · exact absurd h21 (by omega)
    | succ m ih =>
      intro c hc
      refine hg_iload_n (n := 17) dX6_count_16 rfl rfl ?_
      refine hg_aload_n (n := 18) dX6_count_17 rfl rfl ?_
      refine hg_getN (n := 21) (nr) dX6_count_18 rfl fl_X6_165 rfl rfl (mo_s hM) hnr ?_
      refine hg_icmp_geN (n := 24) (tgt := 47) (c) (nr) dX6_count_21 rfl (by decide) (by omega) (by omega) (fun h21 => ?_) (fun h21 => ?_)
      · exact absurd h21 (by omega)
      · refine hg_iload_n (n := 25) dX6_count_24 rfl rfl ?_
        refine hg_aload_n (n := 26) dX6_count_25 rfl rfl ?_
        refine hg_getR (n := 29) (r := some (63, 0)) dX6_count_26 rfl fl_X6_138 rfl rfl (mo_s hM) (mo_r hM 33 (by decide)) ?_
        refine hg_iload_n (n := 30) dX6_count_29 rfl rfl ?_
        refine hg_baload (n := 31) (len := 100) (c) dX6_count_30 rfl (by decide) rfl (mo_a hM 33 (by decide)) rfl (by omega) (by decide) ?_
        refine hg_if_eq (n := 34) (tgt := 38) dX6_count_31 rfl (by decide) (fun h31 => ?_) (fun h31 => ?_)
        · refine hg_iconst (n := 39) (v := 0) dX6_count_38 rfl (by decide) ?_
          refine hg_iadd (n := 40) dX6_count_39 rfl ?_
          refine hg_topI (z := cd_ mi (c + 1)) (by rw [cd_, if_pos h31]) ?_
          refine hg_istore_n (n := 41) dX6_count_40 rfl (by decide) rfl rfl ?_
          refine hg_iincN (n := 44) (c) 1 dX6_count_41 rfl rfl (by decide) (by decide) rfl rfl ?_
          refine hg_goto (tgt := 16) dX6_count_44 (by decide) ?_
          exact ih (c + 1) (by omega)
        · refine hg_iconst (n := 35) (v := 1) dX6_count_34 rfl (by decide) ?_
          refine hg_goto (tgt := 39) dX6_count_35 (by decide) ?_
          refine hg_iadd (n := 40) dX6_count_39 rfl ?_
          refine hg_topI (z := cd_ mi (c + 1)) (by rw [cd_, if_neg h31]) ?_
          refine hg_istore_n (n := 41) dX6_count_40 rfl (by decide) rfl rfl ?_
          refine hg_iincN (n := 44) (c) 1 dX6_count_41 rfl rfl (by decide) (by decide) rfl rfl ?_
          refine hg_goto (tgt := 16) dX6_count_44 (by decide) ?_
          exact ih (c + 1) (by omega)
  refine hg_iload_n (n := 1) dX6_count_0 rfl rfl ?_
  refine hg_iconst (n := 2) (v := 0) dX6_count_1 rfl (by decide) ?_
  refine hg_iconst (n := 3) (v := 4) dX6_count_2 rfl (by decide) ?_
  refine hg_callSd (n := 6) (c_X6_in _ _ _ _) dX6_count_3 rfl mk_X6_1 yl_X6_in ys_X6_in (by decide) (by decide) rfl rfl (Nat.le_of_ble_eq_true rfl) (fun h => by cases h) ?_
  refine hg_if_ne (n := 9) (tgt := 12) dX6_count_6 rfl (by decide) (fun h6 => ?_) (fun h6 => ?_)
  · refine hg_iconst (n := 13) (v := 0) dX6_count_12 rfl (by decide) ?_
    refine hg_istore_n (n := 14) dX6_count_13 rfl (by decide) rfl rfl ?_
    refine hg_iconst (n := 15) (v := 0) dX6_count_14 rfl (by decide) ?_
    refine hg_istore_n (n := 16) dX6_count_15 rfl (by decide) rfl rfl ?_
    exact loop nr 0 (by omega)
  · exact absurd h6 (z_nat3 (a := 0) (b := 4) (by omega) (by omega) (by omega))

