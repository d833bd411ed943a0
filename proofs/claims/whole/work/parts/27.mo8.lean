set_option maxHeartbeats 4000000 in
set_option maxRecDepth 100000 in
theorem c_X6_run_b {mi : MI_} {ml : ML_} {mr : MR_} {sh : SH_} (hM : mo_ mr sh) (f : Int32) (hb : z_in f 0 2 = 0) : hg_Det false yX6_run md_X6_run [hv_r (some (7, 0)), hv_i f] (mi, ml, mr, sh) (some (hv_i (-2))) (mi, ml, mr, sh) := by
  intro Q hQ
  refine hg_intro rfl rfl rfl (Nat.le_of_ble_eq_true rfl) rfl ?_
  refine hg_iload_n (n := 1) dX6_run_0 rfl rfl ?_
  refine hg_callSd (n := 4) (c_X6_isFurnace _ _) dX6_run_1 rfl mk_X6_153 yl_X6_isFurnace ys_X6_isFurnace (by decide) (by decide) rfl rfl (Nat.le_of_ble_eq_true rfl) (fun h => by cases h) ?_
  refine hg_if_ne (n := 7) (tgt := 10) dX6_run_4 rfl (by decide) (fun h4 => ?_) (fun h4 => ?_)
  · exact absurd hb h4
  · refine hg_bipush (n := 9) (v := -2) dX6_run_7 rfl (by decide) ?_
    refine hg_ireturn dX6_run_9 rfl ?_
    exact hQ

def rn_n (X : MI_) (f : Nat) : Prop := ¬ X 53 0 f = 0 ∨ X 46 0 f = 0 ∨ lo_ X f 4 = 0
set_option maxHeartbeats 4000000 in
set_option maxRecDepth 100000 in
theorem c_X6_run_n {mi : MI_} {ml : ML_} {mr : MR_} {sh : SH_} (hM : mo_ mr sh) (f : Nat) (hf : f < 3) (hno : rn_n mi f) : hg_Det false yX6_run md_X6_run [hv_r (some (7, 0)), hv_i (nI f)] (mi, ml, mr, sh) (some (hv_i (-3))) (mi, ml, mr, sh) := by
  intro Q hQ
  refine hg_intro rfl rfl rfl (Nat.le_of_ble_eq_true rfl) rfl ?_
  refine hg_iload_n (n := 1) dX6_run_0 rfl rfl ?_
  refine hg_callSd (n := 4) (c_X6_isFurnace _ _) dX6_run_1 rfl mk_X6_153 yl_X6_isFurnace ys_X6_isFurnace (by decide) (by decide) rfl rfl (Nat.le_of_ble_eq_true rfl) (fun h => by cases h) ?_
  refine hg_if_ne (n := 7) (tgt := 10) dX6_run_4 rfl (by decide) (fun h4 => ?_) (fun h4 => ?_)
  · refine hg_aload_n (n := 11) dX6_run_10 rfl rfl ?_
    refine hg_getR (n := 14) (r := some (53, 0)) dX6_run_11 rfl fl_X6_111 rfl rfl (mo_s hM) (mo_r hM 23 (by decide)) ?_
    refine hg_iload_n (n := 15) dX6_run_14 rfl rfl ?_
    refine hg_baload (n := 16) (len := 3) (f) dX6_run_15 rfl (by decide) rfl (mo_a hM 23 (by decide)) rfl (by omega) (by decide) ?_
    refine hg_if_ne (n := 19) (tgt := 36) dX6_run_16 rfl (by decide) (fun h16 => ?_) (fun h16 => ?_)
    · refine hg_bipush (n := 38) (v := -3) dX6_run_36 rfl (by decide) ?_
      refine hg_ireturn dX6_run_38 rfl ?_
      exact hQ
    · refine hg_aload_n (n := 20) dX6_run_19 rfl rfl ?_
      refine hg_getR (n := 23) (r := some (46, 0)) dX6_run_20 rfl fl_X6_89 rfl rfl (mo_s hM) (mo_r hM 16 (by decide)) ?_
      refine hg_iload_n (n := 24) dX6_run_23 rfl rfl ?_
      refine hg_iaload (n := 25) (len := 3) (f) dX6_run_24 rfl (by decide) rfl (mo_a hM 16 (by decide)) rfl (by omega) (by decide) ?_
      refine hg_if_eq (n := 28) (tgt := 36) dX6_run_25 rfl (by decide) (fun h25 => ?_) (fun h25 => ?_)
      · refine hg_bipush (n := 38) (v := -3) dX6_run_36 rfl (by decide) ?_
        refine hg_ireturn dX6_run_38 rfl ?_
        exact hQ
      · refine hg_aload_n (n := 29) dX6_run_28 rfl rfl ?_
        refine hg_iload_n (n := 30) dX6_run_29 rfl rfl ?_
        refine hg_callVd (n := 33) (c_X6_loadOf hM (f) (by omega)) dX6_run_30 rfl mk_X6_162 yl_X6_loadOf yv_X6_loadOf rfl (mo_s hM) (by decide) (by decide) rfl rfl (Nat.le_of_ble_eq_true rfl) (fun h => by cases h) ?_
        refine hg_if_ne (n := 36) (tgt := 39) dX6_run_33 rfl (by decide) (fun h33 => ?_) (fun h33 => ?_)
        · exact absurd hno (by unfold rn_n; simp [h16, h25, h33])
        · refine hg_bipush (n := 38) (v := -3) dX6_run_36 rfl (by decide) ?_
          refine hg_ireturn dX6_run_38 rfl ?_
          exact hQ
  · exact absurd h4 (z_nat3 (a := 0) (b := 2) (by omega) (by omega) (by omega))

set_option maxHeartbeats 4000000 in
set_option maxRecDepth 100000 in
theorem c_X6_run_f {mi : MI_} {ml : ML_} {mr : MR_} {sh : SH_} (hM : mo_ mr sh) (f : Nat) (hf : f < 3) (hno : ¬ rn_n mi f) (hr : mi 7 0 28 = 100) : hg_Det false yX6_run md_X6_run [hv_r (some (7, 0)), hv_i (nI f)] (mi, ml, mr, sh) (some (hv_i (-4))) (mi, ml, mr, sh) := by
  intro Q hQ
  refine hg_intro rfl rfl rfl (Nat.le_of_ble_eq_true rfl) rfl ?_
  refine hg_iload_n (n := 1) dX6_run_0 rfl rfl ?_
  refine hg_callSd (n := 4) (c_X6_isFurnace _ _) dX6_run_1 rfl mk_X6_153 yl_X6_isFurnace ys_X6_isFurnace (by decide) (by decide) rfl rfl (Nat.le_of_ble_eq_true rfl) (fun h => by cases h) ?_
  refine hg_if_ne (n := 7) (tgt := 10) dX6_run_4 rfl (by decide) (fun h4 => ?_) (fun h4 => ?_)
  · refine hg_aload_n (n := 11) dX6_run_10 rfl rfl ?_
    refine hg_getR (n := 14) (r := some (53, 0)) dX6_run_11 rfl fl_X6_111 rfl rfl (mo_s hM) (mo_r hM 23 (by decide)) ?_
    refine hg_iload_n (n := 15) dX6_run_14 rfl rfl ?_
    refine hg_baload (n := 16) (len := 3) (f) dX6_run_15 rfl (by decide) rfl (mo_a hM 23 (by decide)) rfl (by omega) (by decide) ?_
    refine hg_if_ne (n := 19) (tgt := 36) dX6_run_16 rfl (by decide) (fun h16 => ?_) (fun h16 => ?_)
    · exact absurd (Or.inl h16) hno
    · refine hg_aload_n (n := 20) dX6_run_19 rfl rfl ?_
      refine hg_getR (n := 23) (r := some (46, 0)) dX6_run_20 rfl fl_X6_89 rfl rfl (mo_s hM) (mo_r hM 16 (by decide)) ?_
      refine hg_iload_n (n := 24) dX6_run_23 rfl rfl ?_
      refine hg_iaload (n := 25) (len := 3) (f) dX6_run_24 rfl (by decide) rfl (mo_a hM 16 (by decide)) rfl (by omega) (by decide) ?_
      refine hg_if_eq (n := 28) (tgt := 36) dX6_run_25 rfl (by decide) (fun h25 => ?_) (fun h25 => ?_)
      · exact absurd (Or.inr (Or.inl h25)) hno
      · refine hg_aload_n (n := 29) dX6_run_28 rfl rfl ?_
        refine hg_iload_n (n := 30) dX6_run_29 rfl rfl ?_
        refine hg_callVd (n := 33) (c_X6_loadOf hM (f) (by omega)) dX6_run_30 rfl mk_X6_162 yl_X6_loadOf yv_X6_loadOf rfl (mo_s hM) (by decide) (by decide) rfl rfl (Nat.le_of_ble_eq_true rfl) (fun h => by cases h) ?_
        refine hg_if_ne (n := 36) (tgt := 39) dX6_run_33 rfl (by decide) (fun h33 => ?_) (fun h33 => ?_)
        · refine hg_aload_n (n := 40) dX6_run_39 rfl rfl ?_
          refine hg_getI (n := 43) dX6_run_40 rfl fl_X6_165 rfl rfl (mo_s hM) ?_
          refine hg_bipush (n := 45) (v := 100) dX6_run_43 rfl (by decide) ?_
          refine hg_icmp_ne (n := 48) (tgt := 51) dX6_run_45 rfl (by decide) (fun h45 => ?_) (fun h45 => ?_)
          · exact absurd hr h45
          · refine hg_bipush (n := 50) (v := -4) dX6_run_48 rfl (by decide) ?_
            refine hg_ireturn dX6_run_50 rfl ?_
            exact hQ
        · exact absurd (Or.inr (Or.inr h33)) hno
  · exact absurd h4 (z_nat3 (a := 0) (b := 2) (by omega) (by omega) (by omega))

def ru_4 (X : MI_) (f nr : Nat) : MI_ := u_3 (u_3 (u_3 (u_3 X 59 0 nr (nI f)) 53 0 f 1) 54 0 f 0) 55 0 f 0
def ru_5 (X : MI_) (f nr : Nat) : MI_ := u_3 (ru_4 X f nr) 56 0 f (ru_4 X f nr 7 0 28)
def ru_l (X : MI_) (f : Nat) : Nat → MI_
  | 0 => X
  | i + 1 => if ru_l X f i 50 0 (4 * f + i) = -1 then ru_l X f i else u_3 (ru_l X f i) 39 0 (ru_l X f i 50 0 (4 * f + i)).toNatClampNeg (ru_l X f i 7 0 28)
def ru_m (X : MI_) (f nr : Nat) : MI_ := u_3 (ru_l (ru_5 X f nr) f 4) 7 0 28 (ru_l (ru_5 X f nr) f 4 7 0 28 + 1)
theorem ru_l_k {X : MI_} {f k i j : Nat} (h : k ≠ 39) : ∀ c, ru_l X f c k i j = X k i j
  | 0 => rfl
  | c + 1 => by
    rw [ru_l]
    split
    · exact ru_l_k h c
    · rw [u_3_ne _ _ (fun q => h q.1)]; exact ru_l_k h c
theorem ru_5_k {X : MI_} {f nr k i j : Nat} (h : k ≠ 59 ∧ k ≠ 53 ∧ k ≠ 54 ∧ k ≠ 55 ∧ k ≠ 56) : ru_5 X f nr k i j = X k i j := by
  unfold ru_5 ru_4
  rw [u_3_ne _ _ (fun q => h.2.2.2.2 q.1), u_3_ne _ _ (fun q => h.2.2.2.1 q.1), u_3_ne _ _ (fun q => h.2.2.1 q.1), u_3_ne _ _ (fun q => h.2.1 q.1), u_3_ne _ _ (fun q => h.1 q.1)]
set_option maxHeartbeats 4000000 in
set_option maxRecDepth 100000 in
theorem c_X6_run {mi : MI_} {ml : ML_} {mr : MR_} {sh : SH_} (hM : mo_ mr sh) (np : Nat) (hn12 : np ≤ 12) (hpl : pl_ mi np) (f : Nat) (hf : f < 3) (hno : ¬ rn_n mi f) (nr : Nat) (hnr : mi 7 0 28 = nI nr) (hnr9 : nr < 100) : hg_Det false yX6_run md_X6_run [hv_r (some (7, 0)), hv_i (nI f)] (mi, ml, mr, sh) (some (hv_i (ru_m mi f nr 7 0 28 - 1))) (ru_m mi f nr, ml, mr, sh) := by
  intro Q hQ
  refine hg_intro rfl rfl rfl (Nat.le_of_ble_eq_true rfl) rfl ?_
  have loop : ∀ m i, i + m = 4 → hg_G md_X6_run false sh Q 0 0 94 [some (hv_r (some (7, 0))), some (hv_i (nI f)), some (hv_i (nI i))] [] (ru_l (ru_5 mi f nr) f i, ml, mr, sh) := by
    intro m
    induction m with
    | zero =>
      intro i hi
      refine hg_iload_n (n := 95) dX6_run_94 rfl rfl ?_
      refine hg_iconst (n := 96) (v := 4) dX6_run_95 rfl (by decide) ?_
      refine hg_icmp_geN (n := 99) (tgt := 138) (i) (4) dX6_run_96 rfl (by decide) (by omega) (by omega) (fun h96 => ?_) (fun h96 => ?_)
      · have e := show i = 4 by omega
        subst e
        refine hg_aload_n (n := 139) dX6_run_138 rfl rfl ?_
        refine hg_dup (n := 140) dX6_run_139 rfl rfl ?_
        refine hg_getI (n := 143) dX6_run_140 rfl fl_X6_165 rfl rfl (mo_s hM) ?_
        refine hg_iconst (n := 144) (v := 1) dX6_run_143 rfl (by decide) ?_
        refine hg_iadd (n := 145) dX6_run_144 rfl ?_
        refine hg_putI (n := 148) dX6_run_145 rfl fl_X6_165 rfl rfl (mo_s hM) ?_
        refine hg_aload_n (n := 149) dX6_run_148 rfl rfl ?_
        refine hg_getI (n := 152) dX6_run_149 rfl fl_X6_165 rfl rfl (mo_s hM) ?_
        refine hg_iconst (n := 153) (v := 1) dX6_run_152 rfl (by decide) ?_
        refine hg_isub (n := 154) dX6_run_153 rfl ?_
        refine hg_ireturn dX6_run_154 rfl ?_
        exact hQ
      · exact absurd h96 (by omega)
    | succ m ih =>
      intro i hi
      refine hg_iload_n (n := 95) dX6_run_94 rfl rfl ?_
      refine hg_iconst (n := 96) (v := 4) dX6_run_95 rfl (by decide) ?_
      refine hg_icmp_geN (n := 99) (tgt := 138) (i) (4) dX6_run_96 rfl (by decide) (by omega) (by omega) (fun h96 => ?_) (fun h96 => ?_)
      · exact absurd h96 (by omega)
      · refine hg_aload_n (n := 100) dX6_run_99 rfl rfl ?_
        refine hg_getR (n := 103) (r := some (50, 0)) dX6_run_100 rfl fl_X6_101 rfl rfl (mo_s hM) (mo_r hM 20 (by decide)) ?_
        refine hg_iconst (n := 104) (v := 4) dX6_run_103 rfl (by decide) ?_
        refine hg_iload_n (n := 105) dX6_run_104 rfl rfl ?_
        refine hg_imulN (n := 106) (4) (f) dX6_run_105 rfl ?_
        refine hg_iload_n (n := 107) dX6_run_106 rfl rfl ?_
        refine hg_iaddN (n := 108) (4 * f) (i) dX6_run_107 rfl ?_
        refine hg_iaload (n := 109) (len := 12) ((4 * f) + i) dX6_run_108 rfl (by decide) rfl (mo_a hM 20 (by decide)) rfl (by omega) (by decide) ?_
        refine hg_iconst (n := 110) (v := -1) dX6_run_109 rfl (by decide) ?_
        refine hg_icmp_eq (n := 113) (tgt := 132) dX6_run_110 rfl (by decide) (fun h110 => ?_) (fun h110 => ?_)
        · refine hg_iincN (n := 135) (i) 1 dX6_run_132 rfl rfl (by decide) (by decide) rfl rfl ?_
          refine hg_goto (tgt := 94) dX6_run_135 (by decide) ?_
          refine hg_memo ?_ (ih (i + 1) (by omega))
          rw [ru_l, if_pos h110]
        · have e50 : ru_l (ru_5 mi f nr) f i 50 0 (4 * f + i) = mi 50 0 (4 * f + i) := (ru_l_k (by decide) i).trans (ru_5_k (by decide))
          obtain ⟨p, hp, hpj⟩ := hpl (4 * f + i) (by omega) (by rw [← e50]; exact h110)
          have hpj2 := e50.trans hpj
          refine hg_aload_n (n := 114) dX6_run_113 rfl rfl ?_
          refine hg_getR (n := 117) (r := some (39, 0)) dX6_run_114 rfl fl_X6_37 rfl rfl (mo_s hM) (mo_r hM 9 (by decide)) ?_
          refine hg_aload_n (n := 118) dX6_run_117 rfl rfl ?_
          refine hg_getR (n := 121) (r := some (50, 0)) dX6_run_118 rfl fl_X6_101 rfl rfl (mo_s hM) (mo_r hM 20 (by decide)) ?_
          refine hg_iconst (n := 122) (v := 4) dX6_run_121 rfl (by decide) ?_
          refine hg_iload_n (n := 123) dX6_run_122 rfl rfl ?_
          refine hg_imulN (n := 124) (4) (f) dX6_run_123 rfl ?_
          refine hg_iload_n (n := 125) dX6_run_124 rfl rfl ?_
          refine hg_iaddN (n := 126) (4 * f) (i) dX6_run_125 rfl ?_
          refine hg_ialoadN (n := 127) (len := 12) (p) ((4 * f) + i) dX6_run_126 rfl (by decide) rfl (mo_a hM 20 (by decide)) rfl (by omega) (by decide) hpj2 ?_
          refine hg_aload_n (n := 128) dX6_run_127 rfl rfl ?_
          refine hg_getI (n := 131) dX6_run_128 rfl fl_X6_165 rfl rfl (mo_s hM) ?_
          refine hg_iastore (n := 132) (len := 12) (p) dX6_run_131 rfl (by decide) rfl (mo_a hM 9 (by decide)) rfl (by omega) (by decide) ?_
          refine hg_iincN (n := 135) (i) 1 dX6_run_132 rfl rfl (by decide) (by decide) rfl rfl ?_
          refine hg_goto (tgt := 94) dX6_run_135 (by decide) ?_
          refine hg_memo ?_ (ih (i + 1) (by omega))
          rw [ru_l, if_neg h110, hpj2, nI_clamp (by omega)]
  refine hg_iload_n (n := 1) dX6_run_0 rfl rfl ?_
  refine hg_callSd (n := 4) (c_X6_isFurnace _ _) dX6_run_1 rfl mk_X6_153 yl_X6_isFurnace ys_X6_isFurnace (by decide) (by decide) rfl rfl (Nat.le_of_ble_eq_true rfl) (fun h => by cases h) ?_
  refine hg_if_ne (n := 7) (tgt := 10) dX6_run_4 rfl (by decide) (fun h4 => ?_) (fun h4 => ?_)
  · refine hg_aload_n (n := 11) dX6_run_10 rfl rfl ?_
    refine hg_getR (n := 14) (r := some (53, 0)) dX6_run_11 rfl fl_X6_111 rfl rfl (mo_s hM) (mo_r hM 23 (by decide)) ?_
    refine hg_iload_n (n := 15) dX6_run_14 rfl rfl ?_
    refine hg_baload (n := 16) (len := 3) (f) dX6_run_15 rfl (by decide) rfl (mo_a hM 23 (by decide)) rfl (by omega) (by decide) ?_
    refine hg_if_ne (n := 19) (tgt := 36) dX6_run_16 rfl (by decide) (fun h16 => ?_) (fun h16 => ?_)
    · exact absurd (Or.inl h16) hno
    · refine hg_aload_n (n := 20) dX6_run_19 rfl rfl ?_
      refine hg_getR (n := 23) (r := some (46, 0)) dX6_run_20 rfl fl_X6_89 rfl rfl (mo_s hM) (mo_r hM 16 (by decide)) ?_
      refine hg_iload_n (n := 24) dX6_run_23 rfl rfl ?_
      refine hg_iaload (n := 25) (len := 3) (f) dX6_run_24 rfl (by decide) rfl (mo_a hM 16 (by decide)) rfl (by omega) (by decide) ?_
      refine hg_if_eq (n := 28) (tgt := 36) dX6_run_25 rfl (by decide) (fun h25 => ?_) (fun h25 => ?_)
      · exact absurd (Or.inr (Or.inl h25)) hno
      · refine hg_aload_n (n := 29) dX6_run_28 rfl rfl ?_
        refine hg_iload_n (n := 30) dX6_run_29 rfl rfl ?_
        refine hg_callVd (n := 33) (c_X6_loadOf hM (f) (by omega)) dX6_run_30 rfl mk_X6_162 yl_X6_loadOf yv_X6_loadOf rfl (mo_s hM) (by decide) (by decide) rfl rfl (Nat.le_of_ble_eq_true rfl) (fun h => by cases h) ?_
        refine hg_if_ne (n := 36) (tgt := 39) dX6_run_33 rfl (by decide) (fun h33 => ?_) (fun h33 => ?_)
        · refine hg_aload_n (n := 40) dX6_run_39 rfl rfl ?_
          refine hg_getN (n := 43) (nr) dX6_run_40 rfl fl_X6_165 rfl rfl (mo_s hM) hnr ?_
          refine hg_bipush (n := 45) (v := 100) dX6_run_43 rfl (by decide) ?_
          refine hg_icmp_neN (n := 48) (tgt := 51) (nr) (100) dX6_run_45 rfl (by decide) (by omega) (by omega) (fun h45 => ?_) (fun h45 => ?_)
          · refine hg_aload_n (n := 52) dX6_run_51 rfl rfl ?_
            refine hg_getR (n := 55) (r := some (59, 0)) dX6_run_52 rfl fl_X6_126 rfl rfl (mo_s hM) (mo_r hM 29 (by decide)) ?_
            refine hg_aload_n (n := 56) dX6_run_55 rfl rfl ?_
            refine hg_getN (n := 59) (nr) dX6_run_56 rfl fl_X6_165 rfl rfl (mo_s hM) hnr ?_
            refine hg_iload_n (n := 60) dX6_run_59 rfl rfl ?_
            refine hg_iastore (n := 61) (len := 100) (nr) dX6_run_60 rfl (by decide) rfl (mo_a hM 29 (by decide)) rfl (by omega) (by decide) ?_
            refine hg_aload_n (n := 62) dX6_run_61 rfl rfl ?_
            refine hg_getR (n := 65) (r := some (53, 0)) dX6_run_62 rfl fl_X6_111 rfl rfl (mo_s hM) (mo_r hM 23 (by decide)) ?_
            refine hg_iload_n (n := 66) dX6_run_65 rfl rfl ?_
            refine hg_iconst (n := 67) (v := 1) dX6_run_66 rfl (by decide) ?_
            refine hg_bastore (n := 68) (len := 3) (f) dX6_run_67 rfl (by decide) rfl (by decide) (mo_a hM 23 (by decide)) rfl (by omega) (by decide) ?_
            refine hg_aload_n (n := 69) dX6_run_68 rfl rfl ?_
            refine hg_getR (n := 72) (r := some (54, 0)) dX6_run_69 rfl fl_X6_114 rfl rfl (mo_s hM) (mo_r hM 24 (by decide)) ?_
            refine hg_iload_n (n := 73) dX6_run_72 rfl rfl ?_
            refine hg_iconst (n := 74) (v := 0) dX6_run_73 rfl (by decide) ?_
            refine hg_iastore (n := 75) (len := 3) (f) dX6_run_74 rfl (by decide) rfl (mo_a hM 24 (by decide)) rfl (by omega) (by decide) ?_
            refine hg_aload_n (n := 76) dX6_run_75 rfl rfl ?_
            refine hg_getR (n := 79) (r := some (55, 0)) dX6_run_76 rfl fl_X6_117 rfl rfl (mo_s hM) (mo_r hM 25 (by decide)) ?_
            refine hg_iload_n (n := 80) dX6_run_79 rfl rfl ?_
            refine hg_iconst (n := 81) (v := 0) dX6_run_80 rfl (by decide) ?_
            refine hg_iastore (n := 82) (len := 3) (f) dX6_run_81 rfl (by decide) rfl (mo_a hM 25 (by decide)) rfl (by omega) (by decide) ?_
            refine hg_aload_n (n := 83) dX6_run_82 rfl rfl ?_
            refine hg_getR (n := 86) (r := some (56, 0)) dX6_run_83 rfl fl_X6_120 rfl rfl (mo_s hM) (mo_r hM 26 (by decide)) ?_
            refine hg_iload_n (n := 87) dX6_run_86 rfl rfl ?_
            refine hg_aload_n (n := 88) dX6_run_87 rfl rfl ?_
            refine hg_getI (n := 91) dX6_run_88 rfl fl_X6_165 rfl rfl (mo_s hM) ?_
            refine hg_iastore (n := 92) (len := 3) (f) dX6_run_91 rfl (by decide) rfl (mo_a hM 26 (by decide)) rfl (by omega) (by decide) ?_
            refine hg_iconst (n := 93) (v := 0) dX6_run_92 rfl (by decide) ?_
            refine hg_istore_n (n := 94) dX6_run_93 rfl (by decide) rfl rfl ?_
            exact loop 4 0 (by omega)
          · exact absurd h45 (by omega)
        · exact absurd (Or.inr (Or.inr h33)) hno
  · exact absurd h4 (z_nat3 (a := 0) (b := 2) (by omega) (by omega) (by omega))

set_option maxHeartbeats 4000000 in
set_option maxRecDepth 100000 in
theorem c_X6_stop_b {mi : MI_} {ml : ML_} {mr : MR_} {sh : SH_} (hM : mo_ mr sh) (f : Int32) (hb : z_in f 0 2 = 0) : hg_Det false yX6_stop md_X6_stop [hv_r (some (7, 0)), hv_i f] (mi, ml, mr, sh) (some (hv_i (-2))) (mi, ml, mr, sh) := by
  intro Q hQ
  refine hg_intro rfl rfl rfl (Nat.le_of_ble_eq_true rfl) rfl ?_
  refine hg_iload_n (n := 1) dX6_stop_0 rfl rfl ?_
  refine hg_callSd (n := 4) (c_X6_isFurnace _ _) dX6_stop_1 rfl mk_X6_153 yl_X6_isFurnace ys_X6_isFurnace (by decide) (by decide) rfl rfl (Nat.le_of_ble_eq_true rfl) (fun h => by cases h) ?_
  refine hg_if_ne (n := 7) (tgt := 10) dX6_stop_4 rfl (by decide) (fun h4 => ?_) (fun h4 => ?_)
  · exact absurd hb h4
  · refine hg_bipush (n := 9) (v := -2) dX6_stop_7 rfl (by decide) ?_
    refine hg_ireturn dX6_stop_9 rfl ?_
    exact hQ

set_option maxHeartbeats 4000000 in
set_option maxRecDepth 100000 in
theorem c_X6_stop_n {mi : MI_} {ml : ML_} {mr : MR_} {sh : SH_} (hM : mo_ mr sh) (f : Nat) (hf : f < 3) (hr : mi 53 0 f = 0) : hg_Det false yX6_stop md_X6_stop [hv_r (some (7, 0)), hv_i (nI f)] (mi, ml, mr, sh) (some (hv_i (-3))) (mi, ml, mr, sh) := by
  intro Q hQ
  refine hg_intro rfl rfl rfl (Nat.le_of_ble_eq_true rfl) rfl ?_
  refine hg_iload_n (n := 1) dX6_stop_0 rfl rfl ?_
  refine hg_callSd (n := 4) (c_X6_isFurnace _ _) dX6_stop_1 rfl mk_X6_153 yl_X6_isFurnace ys_X6_isFurnace (by decide) (by decide) rfl rfl (Nat.le_of_ble_eq_true rfl) (fun h => by cases h) ?_
  refine hg_if_ne (n := 7) (tgt := 10) dX6_stop_4 rfl (by decide) (fun h4 => ?_) (fun h4 => ?_)
  · refine hg_aload_n (n := 11) dX6_stop_10 rfl rfl ?_
    refine hg_getR (n := 14) (r := some (53, 0)) dX6_stop_11 rfl fl_X6_111 rfl rfl (mo_s hM) (mo_r hM 23 (by decide)) ?_
    refine hg_iload_n (n := 15) dX6_stop_14 rfl rfl ?_
    refine hg_baload (n := 16) (len := 3) (f) dX6_stop_15 rfl (by decide) rfl (mo_a hM 23 (by decide)) rfl (by omega) (by decide) ?_
    refine hg_if_ne (n := 19) (tgt := 22) dX6_stop_16 rfl (by decide) (fun h16 => ?_) (fun h16 => ?_)
    · exact absurd hr h16
    · refine hg_bipush (n := 21) (v := -3) dX6_stop_19 rfl (by decide) ?_
      refine hg_ireturn dX6_stop_21 rfl ?_
      exact hQ
  · exact absurd h4 (z_nat3 (a := 0) (b := 2) (by omega) (by omega) (by omega))

def sp_m (X : MI_) (f r : Nat) : MI_ := u_3 (u_3 X 53 0 f 0) 60 0 r 1
set_option maxHeartbeats 4000000 in
set_option maxRecDepth 100000 in
theorem c_X6_stop {mi : MI_} {ml : ML_} {mr : MR_} {sh : SH_} (hM : mo_ mr sh) (f : Nat) (hf : f < 3) (hr : ¬ mi 53 0 f = 0) (r : Nat) (hor : mi 56 0 f = nI r) (hr9 : r < 100) : hg_Det false yX6_stop md_X6_stop [hv_r (some (7, 0)), hv_i (nI f)] (mi, ml, mr, sh) (some (hv_i (sp_m mi f r 54 0 f))) (sp_m mi f r, ml, mr, sh) := by
  intro Q hQ
  refine hg_intro rfl rfl rfl (Nat.le_of_ble_eq_true rfl) rfl ?_
  refine hg_iload_n (n := 1) dX6_stop_0 rfl rfl ?_
  refine hg_callSd (n := 4) (c_X6_isFurnace _ _) dX6_stop_1 rfl mk_X6_153 yl_X6_isFurnace ys_X6_isFurnace (by decide) (by decide) rfl rfl (Nat.le_of_ble_eq_true rfl) (fun h => by cases h) ?_
  refine hg_if_ne (n := 7) (tgt := 10) dX6_stop_4 rfl (by decide) (fun h4 => ?_) (fun h4 => ?_)
  · refine hg_aload_n (n := 11) dX6_stop_10 rfl rfl ?_
    refine hg_getR (n := 14) (r := some (53, 0)) dX6_stop_11 rfl fl_X6_111 rfl rfl (mo_s hM) (mo_r hM 23 (by decide)) ?_
    refine hg_iload_n (n := 15) dX6_stop_14 rfl rfl ?_
    refine hg_baload (n := 16) (len := 3) (f) dX6_stop_15 rfl (by decide) rfl (mo_a hM 23 (by decide)) rfl (by omega) (by decide) ?_
    refine hg_if_ne (n := 19) (tgt := 22) dX6_stop_16 rfl (by decide) (fun h16 => ?_) (fun h16 => ?_)
    · refine hg_aload_n (n := 23) dX6_stop_22 rfl rfl ?_
      refine hg_getR (n := 26) (r := some (53, 0)) dX6_stop_23 rfl fl_X6_111 rfl rfl (mo_s hM) (mo_r hM 23 (by decide)) ?_
      refine hg_iload_n (n := 27) dX6_stop_26 rfl rfl ?_
      refine hg_iconst (n := 28) (v := 0) dX6_stop_27 rfl (by decide) ?_
      refine hg_bastore (n := 29) (len := 3) (f) dX6_stop_28 rfl (by decide) rfl (by decide) (mo_a hM 23 (by decide)) rfl (by omega) (by decide) ?_
      refine hg_aload_n (n := 30) dX6_stop_29 rfl rfl ?_
      refine hg_getR (n := 33) (r := some (60, 0)) dX6_stop_30 rfl fl_X6_129 rfl rfl (mo_s hM) (mo_r hM 30 (by decide)) ?_
      refine hg_aload_n (n := 34) dX6_stop_33 rfl rfl ?_
      refine hg_getR (n := 37) (r := some (56, 0)) dX6_stop_34 rfl fl_X6_120 rfl rfl (mo_s hM) (mo_r hM 26 (by decide)) ?_
      refine hg_iload_n (n := 38) dX6_stop_37 rfl rfl ?_
      refine hg_ialoadN (n := 39) (len := 3) (r) (f) dX6_stop_38 rfl (by decide) rfl (mo_a hM 26 (by decide)) rfl (by omega) (by decide) ((u_3_k (by decide)).trans hor) ?_
      refine hg_iconst (n := 40) (v := 1) dX6_stop_39 rfl (by decide) ?_
      refine hg_bastore (n := 41) (len := 100) (r) dX6_stop_40 rfl (by decide) rfl (by decide) (mo_a hM 30 (by decide)) rfl (by omega) (by decide) ?_
      refine hg_aload_n (n := 42) dX6_stop_41 rfl rfl ?_
      refine hg_getR (n := 45) (r := some (54, 0)) dX6_stop_42 rfl fl_X6_114 rfl rfl (mo_s hM) (mo_r hM 24 (by decide)) ?_
      refine hg_iload_n (n := 46) dX6_stop_45 rfl rfl ?_
      refine hg_iaload (n := 47) (len := 3) (f) dX6_stop_46 rfl (by decide) rfl (mo_a hM 24 (by decide)) rfl (by omega) (by decide) ?_
      refine hg_ireturn dX6_stop_47 rfl ?_
      exact hQ
    · exact absurd h16 hr
  · exact absurd h4 (z_nat3 (a := 0) (b := 2) (by omega) (by omega) (by omega))

def in_ (X : MI_) (p : Nat) : Int32 := X 40 0 (6 * p + (X 31 0 p).toNatClampNeg - 1)
/-- each part's number of shells -/
def sh_ (X : MI_) (np : Nat) : Prop := ∀ p, p < np → ∃ n, 1 ≤ n ∧ n ≤ 6 ∧ X 31 0 p = nI n
def la_n (X : MI_) (f : Nat) : Nat → Int32
  | 0 => 0
  | c + 1 => if X 51 0 (4 * f + c) = 0 then la_n X f c else if X 50 0 (4 * f + c) = -1 then la_n X f c else la_n X f c + 1
def la_w (X : MI_) (f : Nat) (z : Int32) : Nat → Int32
  | 0 => 1
  | c + 1 => if X 51 0 (4 * f + c) = 0 then la_w X f z c else if X 50 0 (4 * f + c) = -1 then la_w X f z c else if la_w X f z c = 0 then 0 else if in_ X (X 50 0 (4 * f + c)).toNatClampNeg + X 52 0 (4 * f + c) < z then 0 else 1
def la_ (X : MI_) (f : Nat) (z : Int32) : Int32 := if la_w X f z 4 = 0 then -1 else la_n X f 4
set_option maxHeartbeats 4000000 in
set_option maxRecDepth 100000 in
theorem c_X6_liveAt {mi : MI_} {ml : ML_} {mr : MR_} {sh : SH_} (hM : mo_ mr sh) (np : Nat) (hn12 : np ≤ 12) (hpl : pl_ mi np) (hsh : sh_ mi np) (f : Nat) (hf : f < 3) (z : Int32) : hg_Det false yX6_liveAt md_X6_liveAt [hv_r (some (7, 0)), hv_i (nI f), hv_i z] (mi, ml, mr, sh) (some (hv_i (la_ mi f z))) (mi, ml, mr, sh) := by
  intro Q hQ
  refine hg_intro rfl rfl rfl (Nat.le_of_ble_eq_true rfl) rfl ?_
  have loop : ∀ m c, c + m = 4 → hg_G md_X6_liveAt false sh Q 0 0 10 [some (hv_r (some (7, 0))), some (hv_i (nI f)), some (hv_i z), some (hv_i (la_n mi f c)), some (hv_i (la_w mi f z c)), some (hv_i (nI (4 * f + c)))] [] (mi, ml, mr, sh) := by
    intro m
    induction m with
    | zero =>
      intro c hc
      refine hg_iload (n := 12) dX6_liveAt_10 rfl rfl ?_
      refine hg_iconst (n := 13) (v := 4) dX6_liveAt_12 rfl (by decide) ?_
      refine hg_iload_n (n := 14) dX6_liveAt_13 rfl rfl ?_
      refine hg_imulN (n := 15) (4) (f) dX6_liveAt_14 rfl ?_
      refine hg_iconst (n := 16) (v := 4) dX6_liveAt_15 rfl (by decide) ?_
      refine hg_iaddN (n := 17) (4 * f) (4) dX6_liveAt_16 rfl ?_
      refine hg_icmp_geN (n := 20) (tgt := 85) (4 * f + c) ((4 * f) + 4) dX6_liveAt_17 rfl (by decide) (by omega) (by omega) (fun h17 => ?_) (fun h17 => ?_)
      · have e := show c = 4 by omega
        subst e
        refine hg_iload (n := 87) dX6_liveAt_85 rfl rfl ?_
        refine hg_if_eq (n := 90) (tgt := 94) dX6_liveAt_87 rfl (by decide) (fun h87 => ?_) (fun h87 => ?_)
        · refine hg_iconst (n := 95) (v := -1) dX6_liveAt_94 rfl (by decide) ?_
          refine hg_ireturn dX6_liveAt_95 rfl ?_
          unfold la_ at hQ
          rw [if_pos h87] at hQ
          exact hQ
        · refine hg_iload_n (n := 91) dX6_liveAt_90 rfl rfl ?_
          refine hg_goto (tgt := 95) dX6_liveAt_91 (by decide) ?_
          refine hg_ireturn dX6_liveAt_95 rfl ?_
          unfold la_ at hQ
          rw [if_neg h87] at hQ
          exact hQ
      · exact absurd h17 (by omega)
    | succ m ih =>
      intro c hc
      have s79 : ∀ x w, x = la_n mi f (c + 1) → w = la_w mi f z (c + 1) → hg_G md_X6_liveAt false sh Q 0 0 79 [some (hv_r (some (7, 0))), some (hv_i (nI f)), some (hv_i z), some (hv_i x), some (hv_i w), some (hv_i (nI (4 * f + c)))] [] (mi, ml, mr, sh) := by
        intro x w hx hw
        subst hx hw
        refine hg_iincN (n := 82) (4 * f + c) 1 dX6_liveAt_79 rfl rfl (by decide) (by decide) rfl rfl ?_
        refine hg_goto (tgt := 10) dX6_liveAt_82 (by decide) ?_
        exact ih (c + 1) (by omega)
      refine hg_iload (n := 12) dX6_liveAt_10 rfl rfl ?_
      refine hg_iconst (n := 13) (v := 4) dX6_liveAt_12 rfl (by decide) ?_
      refine hg_iload_n (n := 14) dX6_liveAt_13 rfl rfl ?_
      refine hg_imulN (n := 15) (4) (f) dX6_liveAt_14 rfl ?_
      refine hg_iconst (n := 16) (v := 4) dX6_liveAt_15 rfl (by decide) ?_
      refine hg_iaddN (n := 17) (4 * f) (4) dX6_liveAt_16 rfl ?_
      refine hg_icmp_geN (n := 20) (tgt := 85) (4 * f + c) ((4 * f) + 4) dX6_liveAt_17 rfl (by decide) (by omega) (by omega) (fun h17 => ?_) (fun h17 => ?_)
      · exact absurd h17 (by omega)
      · refine hg_aload_n (n := 21) dX6_liveAt_20 rfl rfl ?_
        refine hg_getR (n := 24) (r := some (51, 0)) dX6_liveAt_21 rfl fl_X6_104 rfl rfl (mo_s hM) (mo_r hM 21 (by decide)) ?_
        refine hg_iload (n := 26) dX6_liveAt_24 rfl rfl ?_
        refine hg_baload (n := 27) (len := 12) (4 * f + c) dX6_liveAt_26 rfl (by decide) rfl (mo_a hM 21 (by decide)) rfl (by omega) (by decide) ?_
        refine hg_if_eq (n := 30) (tgt := 79) dX6_liveAt_27 rfl (by decide) (fun h27 => ?_) (fun h27 => ?_)
        · exact s79 _ _ (by rw [la_n, if_pos h27]) (by rw [la_w, if_pos h27])
        · refine hg_aload_n (n := 31) dX6_liveAt_30 rfl rfl ?_
          refine hg_getR (n := 34) (r := some (50, 0)) dX6_liveAt_31 rfl fl_X6_101 rfl rfl (mo_s hM) (mo_r hM 20 (by decide)) ?_
          refine hg_iload (n := 36) dX6_liveAt_34 rfl rfl ?_
          refine hg_iaload (n := 37) (len := 12) (4 * f + c) dX6_liveAt_36 rfl (by decide) rfl (mo_a hM 20 (by decide)) rfl (by omega) (by decide) ?_
          refine hg_iconst (n := 38) (v := -1) dX6_liveAt_37 rfl (by decide) ?_
          refine hg_icmp_eq (n := 41) (tgt := 79) dX6_liveAt_38 rfl (by decide) (fun h38 => ?_) (fun h38 => ?_)
          · exact s79 _ _ (by rw [la_n, if_neg h27, if_pos h38]) (by rw [la_w, if_neg h27, if_pos h38])
          · obtain ⟨p, hp, hpj⟩ := hpl (4 * f + c) (by omega) h38
            obtain ⟨n, hn1, hn6, hnp⟩ := hsh p hp
            refine hg_iincI (n := 44) (1) dX6_liveAt_41 rfl rfl (by decide) (by decide) rfl rfl ?_
            refine hg_iload (n := 46) dX6_liveAt_44 rfl rfl ?_
            refine hg_if_eq (n := 49) (tgt := 76) dX6_liveAt_46 rfl (by decide) (fun h46 => ?_) (fun h46 => ?_)
            · refine hg_iconst (n := 77) (v := 0) dX6_liveAt_76 rfl (by decide) ?_
              refine hg_istore (n := 79) dX6_liveAt_77 rfl (by decide) rfl rfl ?_
              exact s79 _ _ (by rw [la_n, if_neg h27, if_neg h38]) (by rw [la_w, if_neg h27, if_neg h38, if_pos h46])
            · refine hg_aload_n (n := 50) dX6_liveAt_49 rfl rfl ?_
              refine hg_aload_n (n := 51) dX6_liveAt_50 rfl rfl ?_
              refine hg_getR (n := 54) (r := some (50, 0)) dX6_liveAt_51 rfl fl_X6_101 rfl rfl (mo_s hM) (mo_r hM 20 (by decide)) ?_
              refine hg_iload (n := 56) dX6_liveAt_54 rfl rfl ?_
              refine hg_ialoadN (n := 57) (len := 12) (p) (4 * f + c) dX6_liveAt_56 rfl (by decide) rfl (mo_a hM 20 (by decide)) rfl (by omega) (by decide) hpj ?_
              refine hg_callVd (n := 60) (c_X6_innermost hM (p) n (by omega) hnp (by omega) (by omega)) dX6_liveAt_57 rfl mk_X6_67 yl_X6_innermost yv_X6_innermost rfl (mo_s hM) (by decide) (by decide) rfl rfl (Nat.le_of_ble_eq_true rfl) (fun h => by cases h) ?_
              refine hg_aload_n (n := 61) dX6_liveAt_60 rfl rfl ?_
              refine hg_getR (n := 64) (r := some (52, 0)) dX6_liveAt_61 rfl fl_X6_108 rfl rfl (mo_s hM) (mo_r hM 22 (by decide)) ?_
              refine hg_iload (n := 66) dX6_liveAt_64 rfl rfl ?_
              refine hg_iaload (n := 67) (len := 12) (4 * f + c) dX6_liveAt_66 rfl (by decide) rfl (mo_a hM 22 (by decide)) rfl (by omega) (by decide) ?_
              refine hg_iadd (n := 68) dX6_liveAt_67 rfl ?_
              refine hg_iload_n (n := 69) dX6_liveAt_68 rfl rfl ?_
              refine hg_icmp_lt (n := 72) (tgt := 76) dX6_liveAt_69 rfl (by decide) (fun h69 => ?_) (fun h69 => ?_)
              · refine hg_iconst (n := 77) (v := 0) dX6_liveAt_76 rfl (by decide) ?_
                refine hg_istore (n := 79) dX6_liveAt_77 rfl (by decide) rfl rfl ?_
                exact s79 _ _ (by rw [la_n, if_neg h27, if_neg h38]) (by rw [la_w, if_neg h27, if_neg h38, if_neg h46, hpj, nI_clamp (by omega)]; unfold in_; rw [hnp, nI_clamp (by omega), if_pos h69])
              · refine hg_iconst (n := 73) (v := 1) dX6_liveAt_72 rfl (by decide) ?_
                refine hg_goto (tgt := 77) dX6_liveAt_73 (by decide) ?_
                refine hg_istore (n := 79) dX6_liveAt_77 rfl (by decide) rfl rfl ?_
                exact s79 _ _ (by rw [la_n, if_neg h27, if_neg h38]) (by rw [la_w, if_neg h27, if_neg h38, if_neg h46, hpj, nI_clamp (by omega)]; unfold in_; rw [hnp, nI_clamp (by omega), if_neg h69])
  refine hg_iconst (n := 1) (v := 0) dX6_liveAt_0 rfl (by decide) ?_
  refine hg_istore_n (n := 2) dX6_liveAt_1 rfl (by decide) rfl rfl ?_
  refine hg_iconst (n := 3) (v := 1) dX6_liveAt_2 rfl (by decide) ?_
  refine hg_istore (n := 5) dX6_liveAt_3 rfl (by decide) rfl rfl ?_
  refine hg_iconst (n := 6) (v := 4) dX6_liveAt_5 rfl (by decide) ?_
  refine hg_iload_n (n := 7) dX6_liveAt_6 rfl rfl ?_
  refine hg_imulN (n := 8) (4) (f) dX6_liveAt_7 rfl ?_
  refine hg_istore (n := 10) dX6_liveAt_8 rfl (by decide) rfl rfl ?_
  exact loop 4 0 (by omega)

def rg_ (X : MI_) : Nat → Int32
  | 0 => 0
  | i + 1 => rg_ X i + (if X 53 0 i = 0 then 0 else 1)
set_option maxHeartbeats 4000000 in
set_option maxRecDepth 100000 in
theorem c_X6_running {mi : MI_} {ml : ML_} {mr : MR_} {sh : SH_} (hM : mo_ mr sh)  : hg_Det false yX6_running md_X6_running [hv_r (some (7, 0))] (mi, ml, mr, sh) (some (hv_i (rg_ mi 3))) (mi, ml, mr, sh) := by
  intro Q hQ
  refine hg_intro rfl rfl rfl (Nat.le_of_ble_eq_true rfl) rfl ?_
  have loop : ∀ m i, i + m = 3 → hg_G md_X6_running false sh Q 0 0 4 [some (hv_r (some (7, 0))), some (hv_i (rg_ mi i)), some (hv_i (nI i))] [] (mi, ml, mr, sh) := by
    intro m
    induction m with
    | zero =>
      intro i hi
      refine hg_iload_n (n := 5) dX6_running_4 rfl rfl ?_
      refine hg_iconst (n := 6) (v := 3) dX6_running_5 rfl (by decide) ?_
      refine hg_icmp_geN (n := 9) (tgt := 32) (i) (3) dX6_running_6 rfl (by decide) (by omega) (by omega) (fun h6 => ?_) (fun h6 => ?_)
      · have e := show i = 3 by omega
        subst e
        refine hg_iload_n (n := 33) dX6_running_32 rfl rfl ?_
        refine hg_ireturn dX6_running_33 rfl ?_
        exact hQ
      · exact absurd h6 (by omega)
    | succ m ih =>
      intro i hi
      refine hg_iload_n (n := 5) dX6_running_4 rfl rfl ?_
      refine hg_iconst (n := 6) (v := 3) dX6_running_5 rfl (by decide) ?_
      refine hg_icmp_geN (n := 9) (tgt := 32) (i) (3) dX6_running_6 rfl (by decide) (by omega) (by omega) (fun h6 => ?_) (fun h6 => ?_)
      · exact absurd h6 (by omega)
      · refine hg_iload_n (n := 10) dX6_running_9 rfl rfl ?_
        refine hg_aload_n (n := 11) dX6_running_10 rfl rfl ?_
        refine hg_getR (n := 14) (r := some (53, 0)) dX6_running_11 rfl fl_X6_111 rfl rfl (mo_s hM) (mo_r hM 23 (by decide)) ?_
        refine hg_iload_n (n := 15) dX6_running_14 rfl rfl ?_
        refine hg_baload (n := 16) (len := 3) (i) dX6_running_15 rfl (by decide) rfl (mo_a hM 23 (by decide)) rfl (by omega) (by decide) ?_
        refine hg_if_eq (n := 19) (tgt := 23) dX6_running_16 rfl (by decide) (fun h16 => ?_) (fun h16 => ?_)
        · refine hg_iconst (n := 24) (v := 0) dX6_running_23 rfl (by decide) ?_
          refine hg_iadd (n := 25) dX6_running_24 rfl ?_
          refine hg_topI (z := rg_ mi (i + 1)) (by rw [rg_, if_pos h16]) ?_
          refine hg_istore_n (n := 26) dX6_running_25 rfl (by decide) rfl rfl ?_
          refine hg_iincN (n := 29) (i) 1 dX6_running_26 rfl rfl (by decide) (by decide) rfl rfl ?_
          refine hg_goto (tgt := 4) dX6_running_29 (by decide) ?_
          exact ih (i + 1) (by omega)
        · refine hg_iconst (n := 20) (v := 1) dX6_running_19 rfl (by decide) ?_
          refine hg_goto (tgt := 24) dX6_running_20 (by decide) ?_
          refine hg_iadd (n := 25) dX6_running_24 rfl ?_
          refine hg_topI (z := rg_ mi (i + 1)) (by rw [rg_, if_neg h16]) ?_
          refine hg_istore_n (n := 26) dX6_running_25 rfl (by decide) rfl rfl ?_
          refine hg_iincN (n := 29) (i) 1 dX6_running_26 rfl rfl (by decide) (by decide) rfl rfl ?_
          refine hg_goto (tgt := 4) dX6_running_29 (by decide) ?_
          exact ih (i + 1) (by omega)
  refine hg_iconst (n := 1) (v := 0) dX6_running_0 rfl (by decide) ?_
  refine hg_istore_n (n := 2) dX6_running_1 rfl (by decide) rfl rfl ?_
  refine hg_iconst (n := 3) (v := 0) dX6_running_2 rfl (by decide) ?_
  refine hg_istore_n (n := 4) dX6_running_3 rfl (by decide) rfl rfl ?_
  exact loop 3 0 (by omega)

