/-- a furnace, as the memory holds it -/
def fs_ (mr : MR_) (sh : SH_) (f : Nat) : Prop := sh 3 f = some 13 ∧ ∀ j, j < 6 → mr 3 f j = some (15 + j, f) ∧ sh (15 + j) f = some (if j < 3 then 4 else 8)
/-- its places: nothing, or parts; its run -/
def fp_ (mr : MR_) (f np : Nat) (pl : Nat → Option Nat) : Prop := ∀ i, i < 4 → mr 15 f i = (pl i).map (fun p => (4, p)) ∧ ∀ p, pl i = some p → p < np
def ps_ (mr : MR_) (sh : SH_) (np : Nat) (nn : Nat → Nat) : Prop := ∀ p, p < np → pt_ mr sh p (nn p) ∧ 1 ≤ nn p ∧ nn p ≤ 6
def fc_ (mr : MR_) (sh : SH_) (f : Nat) (cu : Option Nat) : Prop := mr 3 f 12 = cu.map (fun r => (5, r)) ∧ ∀ r, cu = some r → sh 5 r = some 6
def im_ (Y : MI_) (pl : Nat → Option Nat) : Nat → Int32
  | 0 => 0
  | i + 1 => (pl i).elim (im_ Y pl i) (fun p => im_ Y pl i + Y 4 p 1)
def ip_ (pl : Nat → Option Nat) : Nat → Nat
  | 0 => 0
  | i + 1 => (pl i).elim (ip_ pl i) (fun _ => ip_ pl i + 1)
theorem ip_le (pl : Nat → Option Nat) : ∀ i, ip_ pl i ≤ i
  | 0 => Nat.le_refl 0
  | i + 1 => by
    have := ip_le pl i
    rw [ip_]
    cases pl i with
    | none => show ip_ pl i ≤ i + 1; omega
    | some p => show ip_ pl i + 1 ≤ i + 1; omega
set_option maxHeartbeats 4000000 in
set_option maxRecDepth 100000 in
theorem c_X0_massInside {mi : MI_} {ml : ML_} {mr : MR_} {sh : SH_} {f : Nat} (hF : fs_ mr sh f) {np : Nat} {pl : Nat → Option Nat} (hfp : fp_ mr f np pl) {nn : Nat → Nat} (hps : ps_ mr sh np nn)  : hg_Det false yX0_massInside md_X0_massInside [hv_r (some (3, f))] (mi, ml, mr, sh) (some (hv_i (im_ mi pl 4))) (mi, ml, mr, sh) := by
  intro Q hQ
  refine hg_intro rfl rfl rfl (Nat.le_of_ble_eq_true rfl) rfl ?_
  have loop : ∀ m i, i + m = 4 → hg_G md_X0_massInside false sh Q 0 0 4 [some (hv_r (some (3, f))), some (hv_i (im_ mi pl i)), some (hv_i (nI i))] [] (mi, ml, mr, sh) := by
    intro m
    induction m with
    | zero =>
      intro i hi
      refine hg_iload_n (n := 5) dX0_massInside_4 rfl rfl ?_
      refine hg_iconst (n := 6) (v := 4) dX0_massInside_5 rfl (by decide) ?_
      refine hg_icmp_geN (n := 9) (tgt := 36) (i) (4) dX0_massInside_6 rfl (by decide) (by omega) (by omega) (fun h6 => ?_) (fun h6 => ?_)
      · have e := show i = 4 by omega
        subst e
        refine hg_iload_n (n := 37) dX0_massInside_36 rfl rfl ?_
        refine hg_ireturn dX0_massInside_37 rfl ?_
        exact hQ
      · exact absurd h6 (by omega)
    | succ m ih =>
      intro i hi
      cases hpi : pl i with
      | none =>
        refine hg_iload_n (n := 5) dX0_massInside_4 rfl rfl ?_
        refine hg_iconst (n := 6) (v := 4) dX0_massInside_5 rfl (by decide) ?_
        refine hg_icmp_geN (n := 9) (tgt := 36) (i) (4) dX0_massInside_6 rfl (by decide) (by omega) (by omega) (fun h6 => ?_) (fun h6 => ?_)
        · exact absurd h6 (by omega)
        · refine hg_aload_n (n := 10) dX0_massInside_9 rfl rfl ?_
          refine hg_getR (n := 13) (r := some (15, f)) dX0_massInside_10 rfl fl_X0_11 rfl rfl hF.1 (hF.2 0 (by decide)).1 ?_
          refine hg_iload_n (n := 14) dX0_massInside_13 rfl rfl ?_
          refine hg_aaload (n := 15) (len := 4) (i) (r := none) dX0_massInside_14 rfl (by decide) rfl rfl (hF.2 0 (by decide)).2 rfl (by omega) (by omega) ((hfp i (by omega)).1.trans (by rw [hpi]; rfl)) ?_
          refine hg_ifnull (n := 18) (tgt := 30) dX0_massInside_15 rfl (by decide) (fun h15 => ?_) (fun q15 h15 => ?_)
          · refine hg_iincN (n := 33) (i) 1 dX0_massInside_30 rfl rfl (by decide) (by decide) rfl rfl ?_
            refine hg_goto (tgt := 4) dX0_massInside_33 (by decide) ?_
            have e9 : im_ mi pl (i + 1) = im_ mi pl i := by rw [im_, hpi]; rfl
            rw [← e9]
            exact ih (i + 1) (by omega)
          · cases h15
      | some p =>
        have hp := (hfp i (by omega)).2 p hpi
        refine hg_iload_n (n := 5) dX0_massInside_4 rfl rfl ?_
        refine hg_iconst (n := 6) (v := 4) dX0_massInside_5 rfl (by decide) ?_
        refine hg_icmp_geN (n := 9) (tgt := 36) (i) (4) dX0_massInside_6 rfl (by decide) (by omega) (by omega) (fun h6 => ?_) (fun h6 => ?_)
        · exact absurd h6 (by omega)
        · refine hg_aload_n (n := 10) dX0_massInside_9 rfl rfl ?_
          refine hg_getR (n := 13) (r := some (15, f)) dX0_massInside_10 rfl fl_X0_11 rfl rfl hF.1 (hF.2 0 (by decide)).1 ?_
          refine hg_iload_n (n := 14) dX0_massInside_13 rfl rfl ?_
          refine hg_aaload (n := 15) (len := 4) (i) (r := some (4, p)) dX0_massInside_14 rfl (by decide) rfl rfl (hF.2 0 (by decide)).2 rfl (by omega) (by omega) ((hfp i (by omega)).1.trans (by rw [hpi]; rfl)) ?_
          refine hg_ifnull (n := 18) (tgt := 30) dX0_massInside_15 rfl (by decide) (fun h15 => ?_) (fun q15 h15 => ?_)
          · cases h15
          · refine hg_iload_n (n := 19) dX0_massInside_18 rfl rfl ?_
            refine hg_aload_n (n := 20) dX0_massInside_19 rfl rfl ?_
            refine hg_getR (n := 23) (r := some (15, f)) dX0_massInside_20 rfl fl_X0_11 rfl rfl hF.1 (hF.2 0 (by decide)).1 ?_
            refine hg_iload_n (n := 24) dX0_massInside_23 rfl rfl ?_
            refine hg_aaload (n := 25) (len := 4) (i) (r := some (4, p)) dX0_massInside_24 rfl (by decide) rfl rfl (hF.2 0 (by decide)).2 rfl (by omega) (by omega) ((hfp i (by omega)).1.trans (by rw [hpi]; rfl)) ?_
            refine hg_getI (n := 28) dX0_massInside_25 rfl fl_X0_45 rfl rfl (hps p hp).1.1 ?_
            refine hg_iadd (n := 29) dX0_massInside_28 rfl ?_
            refine hg_istore_n (n := 30) dX0_massInside_29 rfl (by decide) rfl rfl ?_
            refine hg_iincN (n := 33) (i) 1 dX0_massInside_30 rfl rfl (by decide) (by decide) rfl rfl ?_
            refine hg_goto (tgt := 4) dX0_massInside_33 (by decide) ?_
            have e9 : im_ mi pl (i + 1) = im_ mi pl i + mi 4 p 1 := by rw [im_, hpi]; rfl
            rw [← e9]
            exact ih (i + 1) (by omega)
  refine hg_iconst (n := 1) (v := 0) dX0_massInside_0 rfl (by decide) ?_
  refine hg_istore_n (n := 2) dX0_massInside_1 rfl (by decide) rfl rfl ?_
  refine hg_iconst (n := 3) (v := 0) dX0_massInside_2 rfl (by decide) ?_
  refine hg_istore_n (n := 4) dX0_massInside_3 rfl (by decide) rfl rfl ?_
  exact loop 4 0 (by omega)

set_option maxHeartbeats 4000000 in
set_option maxRecDepth 100000 in
theorem c_X0_partsInside {mi : MI_} {ml : ML_} {mr : MR_} {sh : SH_} {f : Nat} (hF : fs_ mr sh f) {np : Nat} {pl : Nat → Option Nat} (hfp : fp_ mr f np pl) {nn : Nat → Nat} (hps : ps_ mr sh np nn)  : hg_Det false yX0_partsInside md_X0_partsInside [hv_r (some (3, f))] (mi, ml, mr, sh) (some (hv_i (nI (ip_ pl 4)))) (mi, ml, mr, sh) := by
  intro Q hQ
  refine hg_intro rfl rfl rfl (Nat.le_of_ble_eq_true rfl) rfl ?_
  have loop : ∀ m i, i + m = 4 → hg_G md_X0_partsInside false sh Q 0 0 4 [some (hv_r (some (3, f))), some (hv_i (nI (ip_ pl i))), some (hv_i (nI i))] [] (mi, ml, mr, sh) := by
    intro m
    induction m with
    | zero =>
      intro i hi
      refine hg_iload_n (n := 5) dX0_partsInside_4 rfl rfl ?_
      refine hg_iconst (n := 6) (v := 4) dX0_partsInside_5 rfl (by decide) ?_
      refine hg_icmp_geN (n := 9) (tgt := 27) (i) (4) dX0_partsInside_6 rfl (by decide) (by omega) (by omega) (fun h6 => ?_) (fun h6 => ?_)
      · have e := show i = 4 by omega
        subst e
        refine hg_iload_n (n := 28) dX0_partsInside_27 rfl rfl ?_
        refine hg_ireturn dX0_partsInside_28 rfl ?_
        exact hQ
      · exact absurd h6 (by omega)
    | succ m ih =>
      intro i hi
      cases hpi : pl i with
      | none =>
        refine hg_iload_n (n := 5) dX0_partsInside_4 rfl rfl ?_
        refine hg_iconst (n := 6) (v := 4) dX0_partsInside_5 rfl (by decide) ?_
        refine hg_icmp_geN (n := 9) (tgt := 27) (i) (4) dX0_partsInside_6 rfl (by decide) (by omega) (by omega) (fun h6 => ?_) (fun h6 => ?_)
        · exact absurd h6 (by omega)
        · refine hg_aload_n (n := 10) dX0_partsInside_9 rfl rfl ?_
          refine hg_getR (n := 13) (r := some (15, f)) dX0_partsInside_10 rfl fl_X0_11 rfl rfl hF.1 (hF.2 0 (by decide)).1 ?_
          refine hg_iload_n (n := 14) dX0_partsInside_13 rfl rfl ?_
          refine hg_aaload (n := 15) (len := 4) (i) (r := none) dX0_partsInside_14 rfl (by decide) rfl rfl (hF.2 0 (by decide)).2 rfl (by omega) (by omega) ((hfp i (by omega)).1.trans (by rw [hpi]; rfl)) ?_
          refine hg_ifnull (n := 18) (tgt := 21) dX0_partsInside_15 rfl (by decide) (fun h15 => ?_) (fun q15 h15 => ?_)
          · refine hg_iincN (n := 24) (i) 1 dX0_partsInside_21 rfl rfl (by decide) (by decide) rfl rfl ?_
            refine hg_goto (tgt := 4) dX0_partsInside_24 (by decide) ?_
            have e9 : ip_ pl (i + 1) = ip_ pl i := by rw [ip_, hpi]; rfl
            rw [← e9]
            exact ih (i + 1) (by omega)
          · cases h15
      | some p =>
        have hp := (hfp i (by omega)).2 p hpi
        refine hg_iload_n (n := 5) dX0_partsInside_4 rfl rfl ?_
        refine hg_iconst (n := 6) (v := 4) dX0_partsInside_5 rfl (by decide) ?_
        refine hg_icmp_geN (n := 9) (tgt := 27) (i) (4) dX0_partsInside_6 rfl (by decide) (by omega) (by omega) (fun h6 => ?_) (fun h6 => ?_)
        · exact absurd h6 (by omega)
        · refine hg_aload_n (n := 10) dX0_partsInside_9 rfl rfl ?_
          refine hg_getR (n := 13) (r := some (15, f)) dX0_partsInside_10 rfl fl_X0_11 rfl rfl hF.1 (hF.2 0 (by decide)).1 ?_
          refine hg_iload_n (n := 14) dX0_partsInside_13 rfl rfl ?_
          refine hg_aaload (n := 15) (len := 4) (i) (r := some (4, p)) dX0_partsInside_14 rfl (by decide) rfl rfl (hF.2 0 (by decide)).2 rfl (by omega) (by omega) ((hfp i (by omega)).1.trans (by rw [hpi]; rfl)) ?_
          refine hg_ifnull (n := 18) (tgt := 21) dX0_partsInside_15 rfl (by decide) (fun h15 => ?_) (fun q15 h15 => ?_)
          · cases h15
          · refine hg_iincN (n := 21) (ip_ pl i) 1 dX0_partsInside_18 rfl rfl (by decide) (by decide) rfl rfl ?_
            refine hg_iincN (n := 24) (i) 1 dX0_partsInside_21 rfl rfl (by decide) (by decide) rfl rfl ?_
            refine hg_goto (tgt := 4) dX0_partsInside_24 (by decide) ?_
            have e9 : ip_ pl (i + 1) = ip_ pl i + 1 := by rw [ip_, hpi]; rfl
            rw [← e9]
            exact ih (i + 1) (by omega)
  refine hg_iconst (n := 1) (v := 0) dX0_partsInside_0 rfl (by decide) ?_
  refine hg_istore_n (n := 2) dX0_partsInside_1 rfl (by decide) rfl rfl ?_
  refine hg_iconst (n := 3) (v := 0) dX0_partsInside_2 rfl (by decide) ?_
  refine hg_istore_n (n := 4) dX0_partsInside_3 rfl (by decide) rfl rfl ?_
  exact loop 4 0 (by omega)

def ir_ (cu : Option Nat) : Int32 := cu.elim 0 (fun _ => 1)
set_option maxHeartbeats 4000000 in
set_option maxRecDepth 100000 in
theorem c_X0_isRunning {mi : MI_} {ml : ML_} {mr : MR_} {sh : SH_} {f : Nat} (hF : fs_ mr sh f) {cu : Option Nat} (hc : fc_ mr sh f cu)  : hg_Det false yX0_isRunning md_X0_isRunning [hv_r (some (3, f))] (mi, ml, mr, sh) (some (hv_i (ir_ cu))) (mi, ml, mr, sh) := by
  intro Q hQ
  refine hg_intro rfl rfl rfl (Nat.le_of_ble_eq_true rfl) rfl ?_
  cases hcu : cu with
  | none =>
    rw [hcu] at hQ
    refine hg_aload_n (n := 1) dX0_isRunning_0 rfl rfl ?_
    refine hg_getR (n := 4) (r := none) dX0_isRunning_1 rfl fl_X0_38 rfl rfl hF.1 (hc.1.trans (by rw [hcu]; rfl)) ?_
    refine hg_ifnull (n := 7) (tgt := 11) dX0_isRunning_4 rfl (by decide) (fun h4 => ?_) (fun q4 h4 => ?_)
    · refine hg_iconst (n := 12) (v := 0) dX0_isRunning_11 rfl (by decide) ?_
      refine hg_zreturn dX0_isRunning_12 rfl (by decide) ?_
      exact hQ
    · cases h4
  | some r =>
    have hr := hc.2 r hcu
    rw [hcu] at hQ
    refine hg_aload_n (n := 1) dX0_isRunning_0 rfl rfl ?_
    refine hg_getR (n := 4) (r := some (5, r)) dX0_isRunning_1 rfl fl_X0_38 rfl rfl hF.1 (hc.1.trans (by rw [hcu]; rfl)) ?_
    refine hg_ifnull (n := 7) (tgt := 11) dX0_isRunning_4 rfl (by decide) (fun h4 => ?_) (fun q4 h4 => ?_)
    · cases h4
    · refine hg_iconst (n := 8) (v := 1) dX0_isRunning_7 rfl (by decide) ?_
      refine hg_goto (tgt := 12) dX0_isRunning_8 (by decide) ?_
      refine hg_zreturn dX0_isRunning_12 rfl (by decide) ?_
      exact hQ

set_option maxHeartbeats 4000000 in
set_option maxRecDepth 100000 in
theorem c_X0_addLine_f {mi : MI_} {ml : ML_} {mr : MR_} {sh : SH_} {f : Nat} (hF : fs_ mr sh f) (o a b : Int32) (nl : Nat) (hl : mi 3 f 6 = nI nl) (h8 : nl = 8) : hg_Det false yX0_addLine md_X0_addLine [hv_r (some (3, f)), hv_i o, hv_i a, hv_i b] (mi, ml, mr, sh) (some (hv_i (-4))) (mi, ml, mr, sh) := by
  intro Q hQ
  refine hg_intro rfl rfl rfl (Nat.le_of_ble_eq_true rfl) rfl ?_
  refine hg_aload_n (n := 1) dX0_addLine_0 rfl rfl ?_
  refine hg_getN (n := 4) (nl) dX0_addLine_1 rfl fl_X0_42 rfl rfl hF.1 hl ?_
  refine hg_bipush (n := 6) (v := 8) dX0_addLine_4 rfl (by decide) ?_
  refine hg_icmp_ltN (n := 9) (tgt := 12) (nl) (8) dX0_addLine_6 rfl (by decide) (by omega) (by omega) (fun h6 => ?_) (fun h6 => ?_)
  · exact absurd h6 (by omega)
  · refine hg_bipush (n := 11) (v := -4) dX0_addLine_9 rfl (by decide) ?_
    refine hg_ireturn dX0_addLine_11 rfl ?_
    exact hQ

def al_m (Y : MI_) (f nl : Nat) (o a b : Int32) : MI_ := u_3 (u_3 (u_3 (u_3 Y 18 f nl o) 19 f nl a) 20 f nl b) 3 f 6 (nI (nl + 1))
set_option maxHeartbeats 4000000 in
set_option maxRecDepth 100000 in
theorem c_X0_addLine {mi : MI_} {ml : ML_} {mr : MR_} {sh : SH_} {f : Nat} (hF : fs_ mr sh f) (o a b : Int32) (nl : Nat) (hl : mi 3 f 6 = nI nl) (h8 : nl < 8) : hg_Det false yX0_addLine md_X0_addLine [hv_r (some (3, f)), hv_i o, hv_i a, hv_i b] (mi, ml, mr, sh) (some (hv_i (nI (nl + 1)))) (al_m mi f nl o a b, ml, mr, sh) := by
  intro Q hQ
  refine hg_intro rfl rfl rfl (Nat.le_of_ble_eq_true rfl) rfl ?_
  refine hg_aload_n (n := 1) dX0_addLine_0 rfl rfl ?_
  refine hg_getN (n := 4) (nl) dX0_addLine_1 rfl fl_X0_42 rfl rfl hF.1 hl ?_
  refine hg_bipush (n := 6) (v := 8) dX0_addLine_4 rfl (by decide) ?_
  refine hg_icmp_ltN (n := 9) (tgt := 12) (nl) (8) dX0_addLine_6 rfl (by decide) (by omega) (by omega) (fun h6 => ?_) (fun h6 => ?_)
  · refine hg_aload_n (n := 13) dX0_addLine_12 rfl rfl ?_
    refine hg_getR (n := 16) (r := some (18, f)) dX0_addLine_13 rfl fl_X0_25 rfl rfl hF.1 (hF.2 3 (by decide)).1 ?_
    refine hg_aload_n (n := 17) dX0_addLine_16 rfl rfl ?_
    refine hg_getN (n := 20) (nl) dX0_addLine_17 rfl fl_X0_42 rfl rfl hF.1 hl ?_
    refine hg_iload_n (n := 21) dX0_addLine_20 rfl rfl ?_
    refine hg_iastore (n := 22) (len := 8) (nl) dX0_addLine_21 rfl (by decide) rfl (hF.2 3 (by decide)).2 rfl (by omega) (by decide) ?_
    refine hg_aload_n (n := 23) dX0_addLine_22 rfl rfl ?_
    refine hg_getR (n := 26) (r := some (19, f)) dX0_addLine_23 rfl fl_X0_28 rfl rfl hF.1 (hF.2 4 (by decide)).1 ?_
    refine hg_aload_n (n := 27) dX0_addLine_26 rfl rfl ?_
    refine hg_getN (n := 30) (nl) dX0_addLine_27 rfl fl_X0_42 rfl rfl hF.1 ((u_3_k (by decide)).trans hl) ?_
    refine hg_iload_n (n := 31) dX0_addLine_30 rfl rfl ?_
    refine hg_iastore (n := 32) (len := 8) (nl) dX0_addLine_31 rfl (by decide) rfl (hF.2 4 (by decide)).2 rfl (by omega) (by decide) ?_
    refine hg_aload_n (n := 33) dX0_addLine_32 rfl rfl ?_
    refine hg_getR (n := 36) (r := some (20, f)) dX0_addLine_33 rfl fl_X0_31 rfl rfl hF.1 (hF.2 5 (by decide)).1 ?_
    refine hg_aload_n (n := 37) dX0_addLine_36 rfl rfl ?_
    refine hg_getN (n := 40) (nl) dX0_addLine_37 rfl fl_X0_42 rfl rfl hF.1 ((u_3_k (by decide)).trans ((u_3_k (by decide)).trans hl)) ?_
    refine hg_iload_n (n := 41) dX0_addLine_40 rfl rfl ?_
    refine hg_iastore (n := 42) (len := 8) (nl) dX0_addLine_41 rfl (by decide) rfl (hF.2 5 (by decide)).2 rfl (by omega) (by decide) ?_
    refine hg_aload_n (n := 43) dX0_addLine_42 rfl rfl ?_
    refine hg_dup (n := 44) dX0_addLine_43 rfl rfl ?_
    refine hg_getN (n := 47) (nl) dX0_addLine_44 rfl fl_X0_42 rfl rfl hF.1 ((u_3_k (by decide)).trans ((u_3_k (by decide)).trans ((u_3_k (by decide)).trans hl))) ?_
    refine hg_iconst (n := 48) (v := 1) dX0_addLine_47 rfl (by decide) ?_
    refine hg_iaddN (n := 49) (nl) (1) dX0_addLine_48 rfl ?_
    refine hg_putI (n := 52) dX0_addLine_49 rfl fl_X0_42 rfl rfl hF.1 ?_
    refine hg_aload_n (n := 53) dX0_addLine_52 rfl rfl ?_
    refine hg_getN (n := 56) (nl + 1) dX0_addLine_53 rfl fl_X0_42 rfl rfl hF.1 (u_3_eq _ _) ?_
    refine hg_ireturn dX0_addLine_56 rfl ?_
    exact hQ
  · exact absurd h6 (by omega)

def en_m (Y : MI_) (f r : Nat) (x : Int32) : MI_ := u_3 (u_3 (u_3 Y 5 r 4 1) 5 r 5 x) 3 f 11 0
set_option maxHeartbeats 4000000 in
set_option maxRecDepth 100000 in
theorem c_X0_end {mi : MI_} {ml : ML_} {mr : MR_} {sh : SH_} {f : Nat} (hF : fs_ mr sh f) {r : Nat} (hc : mr 3 f 12 = some (5, r)) (hr : sh 5 r = some 6) (x : Int32) (hx : x = 0 ∨ x = 1) : hg_Det false yX0_end md_X0_end [hv_r (some (3, f)), hv_i x] (mi, ml, mr, sh) none (en_m mi f r x, ml, u_3 mr 3 f 12 none, sh) := by
  intro Q hQ
  refine hg_intro rfl rfl rfl (Nat.le_of_ble_eq_true rfl) rfl ?_
  refine hg_aload_n (n := 1) dX0_end_0 rfl rfl ?_
  refine hg_getR (n := 4) (r := some (5, r)) dX0_end_1 rfl fl_X0_38 rfl rfl hF.1 hc ?_
  refine hg_ifnull (n := 7) (tgt := 15) dX0_end_4 rfl (by decide) (fun h4 => ?_) (fun q4 h4 => ?_)
  · cases h4
  · refine hg_aload_n (n := 8) dX0_end_7 rfl rfl ?_
    refine hg_getR (n := 11) (r := some (5, r)) dX0_end_8 rfl fl_X0_38 rfl rfl hF.1 hc ?_
    refine hg_iload_n (n := 12) dX0_end_11 rfl rfl ?_
    refine hg_callVd (n := 15) (c_X3_end hr _ hx) dX0_end_12 rfl mk_X0_54 yl_X3_end yv_X3_end rfl hr (by decide) (by decide) rfl rfl (Nat.le_of_ble_eq_true rfl) (fun h => by cases h) ?_
    refine hg_aload_n (n := 16) dX0_end_15 rfl rfl ?_
    refine hg_null (n := 17) dX0_end_16 rfl ?_
    refine hg_putR (n := 20) dX0_end_17 rfl fl_X0_38 rfl rfl hF.1 (by intro q h; cases h) ?_
    refine hg_aload_n (n := 21) dX0_end_20 rfl rfl ?_
    refine hg_iconst (n := 22) (v := 0) dX0_end_21 rfl (by decide) ?_
    refine hg_putI (n := 25) dX0_end_22 rfl fl_X0_60 rfl rfl hF.1 ?_
    refine hg_return dX0_end_25 rfl ?_
    exact hQ

def gx_ (Y : MI_) (f : Nat) : MI_ := u_3 (u_3 Y 3 f 7 (Y 3 f 7 + 1)) 3 f 11 0
set_option maxHeartbeats 4000000 in
set_option maxRecDepth 100000 in
theorem c_X0_goToNextLine_m {mi : MI_} {ml : ML_} {mr : MR_} {sh : SH_} {f : Nat} (hF : fs_ mr sh f) (hlt : gx_ mi f 3 f 7 < gx_ mi f 3 f 6) : hg_Det false yX0_goToNextLine md_X0_goToNextLine [hv_r (some (3, f))] (mi, ml, mr, sh) none (gx_ mi f, ml, mr, sh) := by
  intro Q hQ
  refine hg_intro rfl rfl rfl (Nat.le_of_ble_eq_true rfl) rfl ?_
  refine hg_aload_n (n := 1) dX0_goToNextLine_0 rfl rfl ?_
  refine hg_dup (n := 2) dX0_goToNextLine_1 rfl rfl ?_
  refine hg_getI (n := 5) dX0_goToNextLine_2 rfl fl_X0_48 rfl rfl hF.1 ?_
  refine hg_iconst (n := 6) (v := 1) dX0_goToNextLine_5 rfl (by decide) ?_
  refine hg_iadd (n := 7) dX0_goToNextLine_6 rfl ?_
  refine hg_putI (n := 10) dX0_goToNextLine_7 rfl fl_X0_48 rfl rfl hF.1 ?_
  refine hg_aload_n (n := 11) dX0_goToNextLine_10 rfl rfl ?_
  refine hg_iconst (n := 12) (v := 0) dX0_goToNextLine_11 rfl (by decide) ?_
  refine hg_putI (n := 15) dX0_goToNextLine_12 rfl fl_X0_60 rfl rfl hF.1 ?_
  refine hg_aload_n (n := 16) dX0_goToNextLine_15 rfl rfl ?_
  refine hg_getI (n := 19) dX0_goToNextLine_16 rfl fl_X0_48 rfl rfl hF.1 ?_
  refine hg_aload_n (n := 20) dX0_goToNextLine_19 rfl rfl ?_
  refine hg_getI (n := 23) dX0_goToNextLine_20 rfl fl_X0_42 rfl rfl hF.1 ?_
  refine hg_icmp_lt (n := 26) (tgt := 31) dX0_goToNextLine_23 rfl (by decide) (fun h23 => ?_) (fun h23 => ?_)
  · refine hg_return dX0_goToNextLine_31 rfl ?_
    exact hQ
  · exact absurd hlt h23

set_option maxHeartbeats 4000000 in
set_option maxRecDepth 100000 in
theorem c_X0_goToNextLine_e {mi : MI_} {ml : ML_} {mr : MR_} {sh : SH_} {f : Nat} (hF : fs_ mr sh f) {r : Nat} (hc : mr 3 f 12 = some (5, r)) (hr : sh 5 r = some 6) (hlt : ¬ gx_ mi f 3 f 7 < gx_ mi f 3 f 6) : hg_Det false yX0_goToNextLine md_X0_goToNextLine [hv_r (some (3, f))] (mi, ml, mr, sh) none (en_m (gx_ mi f) f r 1, ml, u_3 mr 3 f 12 none, sh) := by
  intro Q hQ
  refine hg_intro rfl rfl rfl (Nat.le_of_ble_eq_true rfl) rfl ?_
  refine hg_aload_n (n := 1) dX0_goToNextLine_0 rfl rfl ?_
  refine hg_dup (n := 2) dX0_goToNextLine_1 rfl rfl ?_
  refine hg_getI (n := 5) dX0_goToNextLine_2 rfl fl_X0_48 rfl rfl hF.1 ?_
  refine hg_iconst (n := 6) (v := 1) dX0_goToNextLine_5 rfl (by decide) ?_
  refine hg_iadd (n := 7) dX0_goToNextLine_6 rfl ?_
  refine hg_putI (n := 10) dX0_goToNextLine_7 rfl fl_X0_48 rfl rfl hF.1 ?_
  refine hg_aload_n (n := 11) dX0_goToNextLine_10 rfl rfl ?_
  refine hg_iconst (n := 12) (v := 0) dX0_goToNextLine_11 rfl (by decide) ?_
  refine hg_putI (n := 15) dX0_goToNextLine_12 rfl fl_X0_60 rfl rfl hF.1 ?_
  refine hg_aload_n (n := 16) dX0_goToNextLine_15 rfl rfl ?_
  refine hg_getI (n := 19) dX0_goToNextLine_16 rfl fl_X0_48 rfl rfl hF.1 ?_
  refine hg_aload_n (n := 20) dX0_goToNextLine_19 rfl rfl ?_
  refine hg_getI (n := 23) dX0_goToNextLine_20 rfl fl_X0_42 rfl rfl hF.1 ?_
  refine hg_icmp_lt (n := 26) (tgt := 31) dX0_goToNextLine_23 rfl (by decide) (fun h23 => ?_) (fun h23 => ?_)
  · exact absurd h23 hlt
  · refine hg_aload_n (n := 27) dX0_goToNextLine_26 rfl rfl ?_
    refine hg_iconst (n := 28) (v := 1) dX0_goToNextLine_27 rfl (by decide) ?_
    refine hg_callVd (n := 31) (c_X0_end hF hc hr _ (by decide)) dX0_goToNextLine_28 rfl mk_X0_110 yl_X0_end yv_X0_end rfl hF.1 (by decide) (by decide) rfl rfl (Nat.le_of_ble_eq_true rfl) (fun h => by cases h) ?_
    refine hg_return dX0_goToNextLine_31 rfl ?_
    exact hQ

def gn_ (Y : MI_) (f : Nat) (a b : Int32) : Int32 := if a ≤ Y 3 f 10 then (if a < Y 3 f 10 - b then Y 3 f 10 - b else a) else (if Y 3 f 10 + b < a then Y 3 f 10 + b else a)
set_option maxHeartbeats 4000000 in
set_option maxRecDepth 100000 in
theorem c_X0_gasNearer {mi : MI_} {ml : ML_} {mr : MR_} {sh : SH_} {f : Nat} (hF : fs_ mr sh f) (a b : Int32) : hg_Det false yX0_gasNearer md_X0_gasNearer [hv_r (some (3, f)), hv_i a, hv_i b] (mi, ml, mr, sh) (some (hv_i (gn_ mi f a b))) (mi, ml, mr, sh) := by
  intro Q hQ
  refine hg_intro rfl rfl rfl (Nat.le_of_ble_eq_true rfl) rfl ?_
  refine hg_aload_n (n := 1) dX0_gasNearer_0 rfl rfl ?_
  refine hg_getI (n := 4) dX0_gasNearer_1 rfl fl_X0_34 rfl rfl hF.1 ?_
  refine hg_iload_n (n := 5) dX0_gasNearer_4 rfl rfl ?_
  refine hg_icmp_ge (n := 8) (tgt := 21) dX0_gasNearer_5 rfl (by decide) (fun h5 => ?_) (fun h5 => ?_)
  · refine hg_iload_n (n := 22) dX0_gasNearer_21 rfl rfl ?_
    refine hg_aload_n (n := 23) dX0_gasNearer_22 rfl rfl ?_
    refine hg_getI (n := 26) dX0_gasNearer_23 rfl fl_X0_34 rfl rfl hF.1 ?_
    refine hg_iload_n (n := 27) dX0_gasNearer_26 rfl rfl ?_
    refine hg_isub (n := 28) dX0_gasNearer_27 rfl ?_
    refine hg_max (n := 31) dX0_gasNearer_28 rfl mk_X0_93 mmax_s math_i mmax_c (by decide) (Nat.le_of_ble_eq_true rfl) ?_
    refine hg_ireturn dX0_gasNearer_31 rfl ?_
    unfold gn_ at hQ
    rw [if_pos h5] at hQ
    exact hQ
  · refine hg_iload_n (n := 9) dX0_gasNearer_8 rfl rfl ?_
    refine hg_aload_n (n := 10) dX0_gasNearer_9 rfl rfl ?_
    refine hg_getI (n := 13) dX0_gasNearer_10 rfl fl_X0_34 rfl rfl hF.1 ?_
    refine hg_iload_n (n := 14) dX0_gasNearer_13 rfl rfl ?_
    refine hg_iadd (n := 15) dX0_gasNearer_14 rfl ?_
    refine hg_min (n := 18) dX0_gasNearer_15 rfl mk_X0_88 mmin_s math_i mmin_c (by decide) (Nat.le_of_ble_eq_true rfl) ?_
    refine hg_goto (tgt := 31) dX0_gasNearer_18 (by decide) ?_
    refine hg_ireturn dX0_gasNearer_31 rfl ?_
    unfold gn_ at hQ
    rw [if_neg h5] at hQ
    exact hQ

def gb_ (Y : MI_) (f al o : Nat) : Int32 := if o = 0 then gn_ Y f (Y 19 f al) (Y 20 f al) else if o = 3 then Y 3 f 10 else Y 19 f al
set_option maxHeartbeats 4000000 in
set_option maxRecDepth 100000 in
theorem c_X0_gasByLine {mi : MI_} {ml : ML_} {mr : MR_} {sh : SH_} {f : Nat} (hF : fs_ mr sh f) {al o : Nat} (hal : mi 3 f 7 = nI al) (hal8 : al < 8) (ho : mi 18 f al = nI o) (ho3 : o ≤ 3)  : hg_Det false yX0_gasByLine md_X0_gasByLine [hv_r (some (3, f))] (mi, ml, mr, sh) (some (hv_i (gb_ mi f al o))) (mi, ml, mr, sh) := by
  intro Q hQ
  refine hg_intro rfl rfl rfl (Nat.le_of_ble_eq_true rfl) rfl ?_
  refine hg_aload_n (n := 1) dX0_gasByLine_0 rfl rfl ?_
  refine hg_getR (n := 4) (r := some (18, f)) dX0_gasByLine_1 rfl fl_X0_25 rfl rfl hF.1 (hF.2 3 (by decide)).1 ?_
  refine hg_aload_n (n := 5) dX0_gasByLine_4 rfl rfl ?_
  refine hg_getN (n := 8) (al) dX0_gasByLine_5 rfl fl_X0_48 rfl rfl hF.1 hal ?_
  refine hg_ialoadN (n := 9) (len := 8) (o) (al) dX0_gasByLine_8 rfl (by decide) rfl (hF.2 3 (by decide)).2 rfl (by omega) (by decide) ho ?_
  rcases (show o = 0 ∨ o = 1 ∨ o = 2 ∨ o = 3 by omega) with rfl | rfl | rfl | rfl
  · refine hg_tableIn (tgt := 36) (off := 27) dX0_gasByLine_9 (by decide) (by decide) rfl (by decide) ?_
    refine hg_aload_n (n := 37) dX0_gasByLine_36 rfl rfl ?_
    refine hg_aload_n (n := 38) dX0_gasByLine_37 rfl rfl ?_
    refine hg_getR (n := 41) (r := some (19, f)) dX0_gasByLine_38 rfl fl_X0_28 rfl rfl hF.1 (hF.2 4 (by decide)).1 ?_
    refine hg_aload_n (n := 42) dX0_gasByLine_41 rfl rfl ?_
    refine hg_getN (n := 45) (al) dX0_gasByLine_42 rfl fl_X0_48 rfl rfl hF.1 hal ?_
    refine hg_iaload (n := 46) (len := 8) (al) dX0_gasByLine_45 rfl (by decide) rfl (hF.2 4 (by decide)).2 rfl (by omega) (by decide) ?_
    refine hg_aload_n (n := 47) dX0_gasByLine_46 rfl rfl ?_
    refine hg_getR (n := 50) (r := some (20, f)) dX0_gasByLine_47 rfl fl_X0_31 rfl rfl hF.1 (hF.2 5 (by decide)).1 ?_
    refine hg_aload_n (n := 51) dX0_gasByLine_50 rfl rfl ?_
    refine hg_getN (n := 54) (al) dX0_gasByLine_51 rfl fl_X0_48 rfl rfl hF.1 hal ?_
    refine hg_iaload (n := 55) (len := 8) (al) dX0_gasByLine_54 rfl (by decide) rfl (hF.2 5 (by decide)).2 rfl (by omega) (by decide) ?_
    refine hg_callVd (n := 58) (c_X0_gasNearer hF _ _) dX0_gasByLine_55 rfl mk_X0_84 yl_X0_gasNearer yv_X0_gasNearer rfl hF.1 (by decide) (by decide) rfl rfl (Nat.le_of_ble_eq_true rfl) (fun h => by cases h) ?_
    refine hg_ireturn dX0_gasByLine_58 rfl ?_
    exact hQ
  · refine hg_tableIn (tgt := 59) (off := 50) dX0_gasByLine_9 (by decide) (by decide) rfl (by decide) ?_
    refine hg_aload_n (n := 60) dX0_gasByLine_59 rfl rfl ?_
    refine hg_getR (n := 63) (r := some (19, f)) dX0_gasByLine_60 rfl fl_X0_28 rfl rfl hF.1 (hF.2 4 (by decide)).1 ?_
    refine hg_aload_n (n := 64) dX0_gasByLine_63 rfl rfl ?_
    refine hg_getN (n := 67) (al) dX0_gasByLine_64 rfl fl_X0_48 rfl rfl hF.1 hal ?_
    refine hg_iaload (n := 68) (len := 8) (al) dX0_gasByLine_67 rfl (by decide) rfl (hF.2 4 (by decide)).2 rfl (by omega) (by decide) ?_
    refine hg_ireturn dX0_gasByLine_68 rfl ?_
    exact hQ
  · refine hg_tableIn (tgt := 69) (off := 60) dX0_gasByLine_9 (by decide) (by decide) rfl (by decide) ?_
    refine hg_aload_n (n := 70) dX0_gasByLine_69 rfl rfl ?_
    refine hg_getR (n := 73) (r := some (19, f)) dX0_gasByLine_70 rfl fl_X0_28 rfl rfl hF.1 (hF.2 4 (by decide)).1 ?_
    refine hg_aload_n (n := 74) dX0_gasByLine_73 rfl rfl ?_
    refine hg_getN (n := 77) (al) dX0_gasByLine_74 rfl fl_X0_48 rfl rfl hF.1 hal ?_
    refine hg_iaload (n := 78) (len := 8) (al) dX0_gasByLine_77 rfl (by decide) rfl (hF.2 4 (by decide)).2 rfl (by omega) (by decide) ?_
    refine hg_ireturn dX0_gasByLine_78 rfl ?_
    exact hQ
  · refine hg_tableOut (tgt := 79) dX0_gasByLine_9 (Or.inr (by decide)) (by decide) ?_
    refine hg_aload_n (n := 80) dX0_gasByLine_79 rfl rfl ?_
    refine hg_getI (n := 83) dX0_gasByLine_80 rfl fl_X0_34 rfl rfl hF.1 ?_
    refine hg_ireturn dX0_gasByLine_83 rfl ?_
    exact hQ

def ft_t (Y : MI_) (f : Nat) (pl : Nat → Option Nat) (cu : Option Nat) (w : Nat) : Int32 := if w = 0 then Y 3 f 10 else if w = 1 then Y 3 f 8 else if w = 2 then (if ir_ cu = 0 then 0 else 1) else if w = 3 then (if ir_ cu = 0 then -1 else Y 3 f 7) else if w = 4 then Y 3 f 11 else if w = 5 then im_ Y pl 4 else Y 3 f 6
def df_q (Y : MI_) (f : Nat) (pl : Nat → Option Nat) (cu : Option Nat) (h : Int64) : Nat → Int64
  | 0 => h
  | k + 1 => 31 * df_q Y f pl cu h k + (ft_t Y f pl cu k).toInt64
set_option maxHeartbeats 4000000 in
set_option maxRecDepth 100000 in
theorem c_X0_tell {mi : MI_} {ml : ML_} {mr : MR_} {sh : SH_} {f : Nat} (hF : fs_ mr sh f) {np : Nat} {pl : Nat → Option Nat} (hfp : fp_ mr f np pl) {nn : Nat → Nat} (hps : ps_ mr sh np nn) {cu : Option Nat} (hc : fc_ mr sh f cu) (w : Nat) (hw : w ≤ 6) : hg_Det false yX0_tell md_X0_tell [hv_r (some (3, f)), hv_i (nI w)] (mi, ml, mr, sh) (some (hv_i (ft_t mi f pl cu w))) (mi, ml, mr, sh) := by
  intro Q hQ
  refine hg_intro rfl rfl rfl (Nat.le_of_ble_eq_true rfl) rfl ?_
  refine hg_iload_n (n := 1) dX0_tell_0 rfl rfl ?_
  rcases (show w = 0 ∨ w = 1 ∨ w = 2 ∨ w = 3 ∨ w = 4 ∨ w = 5 ∨ w = 6 by omega) with rfl | rfl | rfl | rfl | rfl | rfl | rfl
  · refine hg_tableIn (tgt := 40) (off := 39) dX0_tell_1 (by decide) (by decide) rfl (by decide) ?_
    refine hg_aload_n (n := 41) dX0_tell_40 rfl rfl ?_
    refine hg_getI (n := 44) dX0_tell_41 rfl fl_X0_34 rfl rfl hF.1 ?_
    refine hg_ireturn dX0_tell_44 rfl ?_
    exact hQ
  · refine hg_tableIn (tgt := 45) (off := 44) dX0_tell_1 (by decide) (by decide) rfl (by decide) ?_
    refine hg_aload_n (n := 46) dX0_tell_45 rfl rfl ?_
    refine hg_getI (n := 49) dX0_tell_46 rfl fl_X0_70 rfl rfl hF.1 ?_
    refine hg_ireturn dX0_tell_49 rfl ?_
    exact hQ
  · refine hg_tableIn (tgt := 50) (off := 49) dX0_tell_1 (by decide) (by decide) rfl (by decide) ?_
    refine hg_aload_n (n := 51) dX0_tell_50 rfl rfl ?_
    refine hg_callVd (n := 54) (c_X0_isRunning hF hc) dX0_tell_51 rfl mk_X0_111 yl_X0_isRunning yv_X0_isRunning rfl hF.1 (by decide) (by decide) rfl rfl (Nat.le_of_ble_eq_true rfl) (fun h => by cases h) ?_
    refine hg_callSNd (n := 57) (c_X5_truth _ _) dX0_tell_54 rfl mk_X0_115 yl_X5_truth ys_X5_truth (by decide) (by decide) rfl rfl (Nat.le_of_ble_eq_true rfl) (fun h => by cases h) ?_
    refine hg_ireturn dX0_tell_57 rfl ?_
    exact hQ
  · refine hg_tableIn (tgt := 58) (off := 57) dX0_tell_1 (by decide) (by decide) rfl (by decide) ?_
    refine hg_aload_n (n := 59) dX0_tell_58 rfl rfl ?_
    refine hg_callVd (n := 62) (c_X0_isRunning hF hc) dX0_tell_59 rfl mk_X0_111 yl_X0_isRunning yv_X0_isRunning rfl hF.1 (by decide) (by decide) rfl rfl (Nat.le_of_ble_eq_true rfl) (fun h => by cases h) ?_
    refine hg_if_eq (n := 65) (tgt := 72) dX0_tell_62 rfl (by decide) (fun h62 => ?_) (fun h62 => ?_)
    · refine hg_iconst (n := 73) (v := -1) dX0_tell_72 rfl (by decide) ?_
      refine hg_ireturn dX0_tell_73 rfl ?_
      rw [show ft_t mi f pl cu 3 = (if ir_ cu = 0 then -1 else mi 3 f 7) from rfl, if_pos h62] at hQ
      exact hQ
    · refine hg_aload_n (n := 66) dX0_tell_65 rfl rfl ?_
      refine hg_getI (n := 69) dX0_tell_66 rfl fl_X0_48 rfl rfl hF.1 ?_
      refine hg_goto (tgt := 73) dX0_tell_69 (by decide) ?_
      refine hg_ireturn dX0_tell_73 rfl ?_
      rw [show ft_t mi f pl cu 3 = (if ir_ cu = 0 then -1 else mi 3 f 7) from rfl, if_neg h62] at hQ
      exact hQ
  · refine hg_tableIn (tgt := 74) (off := 73) dX0_tell_1 (by decide) (by decide) rfl (by decide) ?_
    refine hg_aload_n (n := 75) dX0_tell_74 rfl rfl ?_
    refine hg_getI (n := 78) dX0_tell_75 rfl fl_X0_60 rfl rfl hF.1 ?_
    refine hg_ireturn dX0_tell_78 rfl ?_
    exact hQ
  · refine hg_tableIn (tgt := 79) (off := 78) dX0_tell_1 (by decide) (by decide) rfl (by decide) ?_
    refine hg_aload_n (n := 80) dX0_tell_79 rfl rfl ?_
    refine hg_callVd (n := 83) (c_X0_massInside hF hfp hps) dX0_tell_80 rfl mk_X0_119 yl_X0_massInside yv_X0_massInside rfl hF.1 (by decide) (by decide) rfl rfl (Nat.le_of_ble_eq_true rfl) (fun h => by cases h) ?_
    refine hg_ireturn dX0_tell_83 rfl ?_
    exact hQ
  · refine hg_tableOut (tgt := 84) dX0_tell_1 (Or.inr (by decide)) (by decide) ?_
    refine hg_aload_n (n := 85) dX0_tell_84 rfl rfl ?_
    refine hg_getI (n := 88) dX0_tell_85 rfl fl_X0_42 rfl rfl hF.1 ?_
    refine hg_ireturn dX0_tell_88 rfl ?_
    exact hQ

set_option maxHeartbeats 4000000 in
set_option maxRecDepth 100000 in
theorem c_X0_digestFrom {mi : MI_} {ml : ML_} {mr : MR_} {sh : SH_} {f : Nat} (hF : fs_ mr sh f) {np : Nat} {pl : Nat → Option Nat} (hfp : fp_ mr f np pl) {nn : Nat → Nat} (hps : ps_ mr sh np nn) {cu : Option Nat} (hc : fc_ mr sh f cu) (h : Int64) : hg_Det false yX0_digestFrom md_X0_digestFrom [hv_r (some (3, f)), hv_l h] (mi, ml, mr, sh) (some (hv_l (df_q mi f pl cu h 7))) (mi, ml, mr, sh) := by
  intro Q hQ
  refine hg_intro rfl rfl rfl (Nat.le_of_ble_eq_true rfl) rfl ?_
  have loop : ∀ m k, k + m = 7 → hg_G md_X0_digestFrom false sh Q 0 0 5 [some (hv_r (some (3, f))), some (hv_l h), none, some (hv_l (df_q mi f pl cu h k)), none, some (hv_i (nI k))] [] (mi, ml, mr, sh) := by
    intro m
    induction m with
    | zero =>
      intro k hk
      refine hg_iload (n := 7) dX0_digestFrom_5 rfl rfl ?_
      refine hg_bipush (n := 9) (v := 6) dX0_digestFrom_7 rfl (by decide) ?_
      refine hg_icmp_gtN (n := 12) (tgt := 32) (k) (6) dX0_digestFrom_9 rfl (by decide) (by omega) (by omega) (fun h9 => ?_) (fun h9 => ?_)
      · have e := show k = 7 by omega
        subst e
        refine hg_lload_n (n := 33) dX0_digestFrom_32 rfl rfl ?_
        refine hg_lreturn dX0_digestFrom_33 rfl ?_
        exact hQ
      · exact absurd h9 (by omega)
    | succ m ih =>
      intro k hk
      refine hg_iload (n := 7) dX0_digestFrom_5 rfl rfl ?_
      refine hg_bipush (n := 9) (v := 6) dX0_digestFrom_7 rfl (by decide) ?_
      refine hg_icmp_gtN (n := 12) (tgt := 32) (k) (6) dX0_digestFrom_9 rfl (by decide) (by omega) (by omega) (fun h9 => ?_) (fun h9 => ?_)
      · exact absurd h9 (by omega)
      · refine hg_ldc2 (n := 15) dX0_digestFrom_12 rfl kc_X0_122 ?_
        refine hg_lload_n (n := 16) dX0_digestFrom_15 rfl rfl ?_
        refine hg_lmul (n := 17) dX0_digestFrom_16 rfl ?_
        refine hg_aload_n (n := 18) dX0_digestFrom_17 rfl rfl ?_
        refine hg_iload (n := 20) dX0_digestFrom_18 rfl rfl ?_
        refine hg_callVd (n := 23) (c_X0_tell hF hfp hps hc (k) (by omega)) dX0_digestFrom_20 rfl mk_X0_124 yl_X0_tell yv_X0_tell rfl hF.1 (by decide) (by decide) rfl rfl (Nat.le_of_ble_eq_true rfl) (fun h => by cases h) ?_
        refine hg_i2l (n := 24) dX0_digestFrom_23 rfl ?_
        refine hg_ladd (n := 25) dX0_digestFrom_24 rfl ?_
        refine hg_lstore_n (n := 26) dX0_digestFrom_25 rfl (by decide) rfl rfl ?_
        refine hg_iincN (n := 29) (k) 1 dX0_digestFrom_26 rfl rfl (by decide) (by decide) rfl rfl ?_
        refine hg_goto (tgt := 5) dX0_digestFrom_29 (by decide) ?_
        exact ih (k + 1) (by omega)
  refine hg_lload_n (n := 1) dX0_digestFrom_0 rfl rfl ?_
  refine hg_lstore_n (n := 2) dX0_digestFrom_1 rfl (by decide) rfl rfl ?_
  refine hg_iconst (n := 3) (v := 0) dX0_digestFrom_2 rfl (by decide) ?_
  refine hg_istore (n := 5) dX0_digestFrom_3 rfl (by decide) rfl rfl ?_
  exact loop 7 0 (by omega)

