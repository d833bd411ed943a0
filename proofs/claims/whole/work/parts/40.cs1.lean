/-! the class: its shells -/
set_option maxHeartbeats 4000000 in
set_option maxRecDepth 100000 in
theorem c_X5_within (x a b : Int32) (M : Me_) : hg_Det false yX5_within md_X5_within [hv_i x, hv_i a, hv_i b] M (some (hv_i (z_in x a b))) M := by
  intro Q hQ
  refine hg_intro rfl rfl rfl (Nat.le_of_ble_eq_true rfl) rfl ?_
  refine hg_iload_n (n := 1) dX5_within_0 rfl rfl ?_
  refine hg_iload_n (n := 2) dX5_within_1 rfl rfl ?_
  refine hg_icmp_lt (n := 5) (tgt := 14) dX5_within_2 rfl (by decide) (fun h2 => ?_) (fun h2 => ?_)
  · refine hg_iconst (n := 15) (v := 0) dX5_within_14 rfl (by decide) ?_
    refine hg_zreturn dX5_within_15 rfl (by decide) ?_
    rw [z_in_lt h2] at hQ
    exact hQ
  · refine hg_iload_n (n := 6) dX5_within_5 rfl rfl ?_
    refine hg_iload_n (n := 7) dX5_within_6 rfl rfl ?_
    refine hg_icmp_gt (n := 10) (tgt := 14) dX5_within_7 rfl (by decide) (fun h7 => ?_) (fun h7 => ?_)
    · refine hg_iconst (n := 15) (v := 0) dX5_within_14 rfl (by decide) ?_
      refine hg_zreturn dX5_within_15 rfl (by decide) ?_
      rw [z_in_gt h7] at hQ
      exact hQ
    · refine hg_iconst (n := 11) (v := 1) dX5_within_10 rfl (by decide) ?_
      refine hg_goto (tgt := 15) dX5_within_11 (by decide) ?_
      refine hg_zreturn dX5_within_15 rfl (by decide) ?_
      rw [z_in_ok h2 h7] at hQ
      exact hQ

set_option maxHeartbeats 4000000 in
set_option maxRecDepth 100000 in
theorem c_X5_truth (x : Int32) (M : Me_) : hg_Det false yX5_truth md_X5_truth [hv_i x] M (some (hv_i (if x = 0 then 0 else 1))) M := by
  intro Q hQ
  refine hg_intro rfl rfl rfl (Nat.le_of_ble_eq_true rfl) rfl ?_
  refine hg_iload_n (n := 1) dX5_truth_0 rfl rfl ?_
  refine hg_if_eq (n := 4) (tgt := 8) dX5_truth_1 rfl (by decide) (fun h1 => ?_) (fun h1 => ?_)
  · refine hg_iconst (n := 9) (v := 0) dX5_truth_8 rfl (by decide) ?_
    refine hg_ireturn dX5_truth_9 rfl ?_
    rw [if_pos h1] at hQ
    exact hQ
  · refine hg_iconst (n := 5) (v := 1) dX5_truth_4 rfl (by decide) ?_
    refine hg_goto (tgt := 9) dX5_truth_5 (by decide) ?_
    refine hg_ireturn dX5_truth_9 rfl ?_
    rw [if_neg h1] at hQ
    exact hQ

def bh_1 (Y : MI_) (s : Nat) (c : Int32) : Int32 := if Y 6 s 2 < c then Y 6 s 2 else c
def bh_2 (Y : MI_) (s : Nat) (c : Int32) : Int32 := if Y 6 s 3 < c - bh_1 Y s c then Y 6 s 3 else c - bh_1 Y s c
def bh_3 (Y : MI_) (s : Nat) (c : Int32) : Int32 := if Y 6 s 4 < c - bh_1 Y s c - bh_2 Y s c then Y 6 s 4 else c - bh_1 Y s c - bh_2 Y s c
def bh_a (Y : MI_) (s : Nat) (c : Int32) : MI_ := u_3 Y 6 s 2 (Y 6 s 2 - bh_1 Y s c)
def bh_b (Y : MI_) (s : Nat) (c : Int32) : MI_ := u_3 (bh_a Y s c) 6 s 3 (bh_a Y s c 6 s 3 - bh_2 Y s c)
def bh_c (Y : MI_) (s : Nat) (c : Int32) : MI_ := u_3 (bh_b Y s c) 6 s 4 (bh_b Y s c 6 s 4 - bh_3 Y s c)
def bh_m (Y : MI_) (s : Nat) (c : Int32) : MI_ := u_3 (bh_c Y s c) 6 s 1 (bh_c Y s c 6 s 1 + (bh_1 Y s c + bh_2 Y s c + bh_3 Y s c))
def bt_m (Y : MI_) (s t : Nat) (c : Int32) : MI_ := u_3 (u_3 Y 6 s 1 (Y 6 s 1 - c)) 6 s t (u_3 Y 6 s 1 (Y 6 s 1 - c) 6 s t + c)
def bd_m (Y : MI_) (s : Nat) (c : Int32) : MI_ := if c ≤ Y 6 s 4 then Y else bt_m Y s 4 (if Y 6 s 1 < c - Y 6 s 4 then Y 6 s 1 else c - Y 6 s 4)
def dr_a (Y : MI_) (s : Nat) : MI_ := if Y 6 s 4 ≤ 0 then Y else if z_in (Y 6 s 0) 1500 6500 = 0 then Y else u_3 Y 6 s 5 (Y 6 s 5 + (Y 6 s 0 - 1500) / 100)
def dr_m (Y : MI_) (s : Nat) : MI_ := if dr_a Y s 6 s 1 ≤ 500 then dr_a Y s else u_3 (dr_a Y s) 6 s 5 0
def cg_a (Y : MI_) (s : Nat) (p b : Int32) : MI_ := if Y 6 s 0 ≤ 7300 then (if Y 6 s 0 < 5500 then (if Y 6 s 0 < 3000 then bd_m Y s ((Y 6 s 1 + Y 6 s 4) * (3000 - Y 6 s 0) / 2600) else bt_m Y s 3 (if Y 6 s 1 < b then Y 6 s 1 else b)) else bt_m Y s 2 (if Y 6 s 1 < p then Y 6 s 1 else p)) else bh_m Y s ((Y 6 s 0 - 7300) / 10)
def cg_m (Y : MI_) (s : Nat) (p b : Int32) : MI_ := dr_m (cg_a Y s p b) s
def hn_ (Y : MI_) (s : Nat) : Int32 := (200 * Y 6 s 1 + 250 * Y 6 s 2 + 450 * Y 6 s 3 + (800 - (if Y 6 s 5 / 50 < 400 then Y 6 s 5 / 50 else 400)) * Y 6 s 4) / 1000
def te_ (Y : MI_) (s w : Nat) : Int32 := if w ≤ 5 then Y 6 s w else hn_ Y s
set_option maxHeartbeats 4000000 in
set_option maxRecDepth 100000 in
theorem c_X4_becomeHot {mi : MI_} {ml : ML_} {mr : MR_} {sh : SH_} {s : Nat} (hs : sh 6 s = some 6) (c : Int32) : hg_Det false yX4_becomeHot md_X4_becomeHot [hv_r (some (6, s)), hv_i c] (mi, ml, mr, sh) none (bh_m mi s c, ml, mr, sh) := by
  intro Q hQ
  refine hg_intro rfl rfl rfl (Nat.le_of_ble_eq_true rfl) rfl ?_
  refine hg_iload_n (n := 1) dX4_becomeHot_0 rfl rfl ?_
  refine hg_aload_n (n := 2) dX4_becomeHot_1 rfl rfl ?_
  refine hg_getI (n := 5) dX4_becomeHot_2 rfl fl_X4_15 rfl rfl hs ?_
  refine hg_min (n := 8) dX4_becomeHot_5 rfl mk_X4_25 mmin_s math_i mmin_c (by decide) (Nat.le_of_ble_eq_true rfl) ?_
  refine hg_istore_n (n := 9) dX4_becomeHot_8 rfl (by decide) rfl rfl ?_
  refine hg_iload_n (n := 10) dX4_becomeHot_9 rfl rfl ?_
  refine hg_iload_n (n := 11) dX4_becomeHot_10 rfl rfl ?_
  refine hg_isub (n := 12) dX4_becomeHot_11 rfl ?_
  refine hg_aload_n (n := 13) dX4_becomeHot_12 rfl rfl ?_
  refine hg_getI (n := 16) dX4_becomeHot_13 rfl fl_X4_46 rfl rfl hs ?_
  refine hg_min (n := 19) dX4_becomeHot_16 rfl mk_X4_25 mmin_s math_i mmin_c (by decide) (Nat.le_of_ble_eq_true rfl) ?_
  refine hg_istore_n (n := 20) dX4_becomeHot_19 rfl (by decide) rfl rfl ?_
  refine hg_iload_n (n := 21) dX4_becomeHot_20 rfl rfl ?_
  refine hg_iload_n (n := 22) dX4_becomeHot_21 rfl rfl ?_
  refine hg_isub (n := 23) dX4_becomeHot_22 rfl ?_
  refine hg_iload_n (n := 24) dX4_becomeHot_23 rfl rfl ?_
  refine hg_isub (n := 25) dX4_becomeHot_24 rfl ?_
  refine hg_aload_n (n := 26) dX4_becomeHot_25 rfl rfl ?_
  refine hg_getI (n := 29) dX4_becomeHot_26 rfl fl_X4_37 rfl rfl hs ?_
  refine hg_min (n := 32) dX4_becomeHot_29 rfl mk_X4_25 mmin_s math_i mmin_c (by decide) (Nat.le_of_ble_eq_true rfl) ?_
  refine hg_istore (n := 34) dX4_becomeHot_32 rfl (by decide) rfl rfl ?_
  refine hg_aload_n (n := 35) dX4_becomeHot_34 rfl rfl ?_
  refine hg_dup (n := 36) dX4_becomeHot_35 rfl rfl ?_
  refine hg_getI (n := 39) dX4_becomeHot_36 rfl fl_X4_15 rfl rfl hs ?_
  refine hg_iload_n (n := 40) dX4_becomeHot_39 rfl rfl ?_
  refine hg_isub (n := 41) dX4_becomeHot_40 rfl ?_
  refine hg_putI (n := 44) dX4_becomeHot_41 rfl fl_X4_15 rfl rfl hs ?_
  refine hg_aload_n (n := 45) dX4_becomeHot_44 rfl rfl ?_
  refine hg_dup (n := 46) dX4_becomeHot_45 rfl rfl ?_
  refine hg_getI (n := 49) dX4_becomeHot_46 rfl fl_X4_46 rfl rfl hs ?_
  refine hg_iload_n (n := 50) dX4_becomeHot_49 rfl rfl ?_
  refine hg_isub (n := 51) dX4_becomeHot_50 rfl ?_
  refine hg_putI (n := 54) dX4_becomeHot_51 rfl fl_X4_46 rfl rfl hs ?_
  refine hg_aload_n (n := 55) dX4_becomeHot_54 rfl rfl ?_
  refine hg_dup (n := 56) dX4_becomeHot_55 rfl rfl ?_
  refine hg_getI (n := 59) dX4_becomeHot_56 rfl fl_X4_37 rfl rfl hs ?_
  refine hg_iload (n := 61) dX4_becomeHot_59 rfl rfl ?_
  refine hg_isub (n := 62) dX4_becomeHot_61 rfl ?_
  refine hg_putI (n := 65) dX4_becomeHot_62 rfl fl_X4_37 rfl rfl hs ?_
  refine hg_aload_n (n := 66) dX4_becomeHot_65 rfl rfl ?_
  refine hg_dup (n := 67) dX4_becomeHot_66 rfl rfl ?_
  refine hg_getI (n := 70) dX4_becomeHot_67 rfl fl_X4_22 rfl rfl hs ?_
  refine hg_iload_n (n := 71) dX4_becomeHot_70 rfl rfl ?_
  refine hg_iload_n (n := 72) dX4_becomeHot_71 rfl rfl ?_
  refine hg_iadd (n := 73) dX4_becomeHot_72 rfl ?_
  refine hg_iload (n := 75) dX4_becomeHot_73 rfl rfl ?_
  refine hg_iadd (n := 76) dX4_becomeHot_75 rfl ?_
  refine hg_iadd (n := 77) dX4_becomeHot_76 rfl ?_
  refine hg_putI (n := 80) dX4_becomeHot_77 rfl fl_X4_22 rfl rfl hs ?_
  refine hg_return dX4_becomeHot_80 rfl ?_
  exact hQ

set_option maxHeartbeats 4000000 in
set_option maxRecDepth 100000 in
theorem c_X4_becomeLamellar {mi : MI_} {ml : ML_} {mr : MR_} {sh : SH_} {s : Nat} (hs : sh 6 s = some 6) (c : Int32) : hg_Det false yX4_becomeLamellar md_X4_becomeLamellar [hv_r (some (6, s)), hv_i c] (mi, ml, mr, sh) none (bt_m mi s 2 c, ml, mr, sh) := by
  intro Q hQ
  refine hg_intro rfl rfl rfl (Nat.le_of_ble_eq_true rfl) rfl ?_
  refine hg_aload_n (n := 1) dX4_becomeLamellar_0 rfl rfl ?_
  refine hg_dup (n := 2) dX4_becomeLamellar_1 rfl rfl ?_
  refine hg_getI (n := 5) dX4_becomeLamellar_2 rfl fl_X4_22 rfl rfl hs ?_
  refine hg_iload_n (n := 6) dX4_becomeLamellar_5 rfl rfl ?_
  refine hg_isub (n := 7) dX4_becomeLamellar_6 rfl ?_
  refine hg_putI (n := 10) dX4_becomeLamellar_7 rfl fl_X4_22 rfl rfl hs ?_
  refine hg_aload_n (n := 11) dX4_becomeLamellar_10 rfl rfl ?_
  refine hg_dup (n := 12) dX4_becomeLamellar_11 rfl rfl ?_
  refine hg_getI (n := 15) dX4_becomeLamellar_12 rfl fl_X4_15 rfl rfl hs ?_
  refine hg_iload_n (n := 16) dX4_becomeLamellar_15 rfl rfl ?_
  refine hg_iadd (n := 17) dX4_becomeLamellar_16 rfl ?_
  refine hg_putI (n := 20) dX4_becomeLamellar_17 rfl fl_X4_15 rfl rfl hs ?_
  refine hg_return dX4_becomeLamellar_20 rfl ?_
  exact hQ

set_option maxHeartbeats 4000000 in
set_option maxRecDepth 100000 in
theorem c_X4_becomeTough {mi : MI_} {ml : ML_} {mr : MR_} {sh : SH_} {s : Nat} (hs : sh 6 s = some 6) (c : Int32) : hg_Det false yX4_becomeTough md_X4_becomeTough [hv_r (some (6, s)), hv_i c] (mi, ml, mr, sh) none (bt_m mi s 3 c, ml, mr, sh) := by
  intro Q hQ
  refine hg_intro rfl rfl rfl (Nat.le_of_ble_eq_true rfl) rfl ?_
  refine hg_aload_n (n := 1) dX4_becomeTough_0 rfl rfl ?_
  refine hg_dup (n := 2) dX4_becomeTough_1 rfl rfl ?_
  refine hg_getI (n := 5) dX4_becomeTough_2 rfl fl_X4_22 rfl rfl hs ?_
  refine hg_iload_n (n := 6) dX4_becomeTough_5 rfl rfl ?_
  refine hg_isub (n := 7) dX4_becomeTough_6 rfl ?_
  refine hg_putI (n := 10) dX4_becomeTough_7 rfl fl_X4_22 rfl rfl hs ?_
  refine hg_aload_n (n := 11) dX4_becomeTough_10 rfl rfl ?_
  refine hg_dup (n := 12) dX4_becomeTough_11 rfl rfl ?_
  refine hg_getI (n := 15) dX4_becomeTough_12 rfl fl_X4_46 rfl rfl hs ?_
  refine hg_iload_n (n := 16) dX4_becomeTough_15 rfl rfl ?_
  refine hg_iadd (n := 17) dX4_becomeTough_16 rfl ?_
  refine hg_putI (n := 20) dX4_becomeTough_17 rfl fl_X4_46 rfl rfl hs ?_
  refine hg_return dX4_becomeTough_20 rfl ?_
  exact hQ

set_option maxHeartbeats 4000000 in
set_option maxRecDepth 100000 in
theorem c_X4_becomeHard {mi : MI_} {ml : ML_} {mr : MR_} {sh : SH_} {s : Nat} (hs : sh 6 s = some 6) (c : Int32) : hg_Det false yX4_becomeHard md_X4_becomeHard [hv_r (some (6, s)), hv_i c] (mi, ml, mr, sh) none (bd_m mi s c, ml, mr, sh) := by
  intro Q hQ
  refine hg_intro rfl rfl rfl (Nat.le_of_ble_eq_true rfl) rfl ?_
  refine hg_aload_n (n := 1) dX4_becomeHard_0 rfl rfl ?_
  refine hg_getI (n := 4) dX4_becomeHard_1 rfl fl_X4_37 rfl rfl hs ?_
  refine hg_iload_n (n := 5) dX4_becomeHard_4 rfl rfl ?_
  refine hg_icmp_ge (n := 8) (tgt := 42) dX4_becomeHard_5 rfl (by decide) (fun h5 => ?_) (fun h5 => ?_)
  · refine hg_return dX4_becomeHard_42 rfl ?_
    unfold bd_m at hQ
    rw [if_pos h5] at hQ
    exact hQ
  · refine hg_iload_n (n := 9) dX4_becomeHard_8 rfl rfl ?_
    refine hg_aload_n (n := 10) dX4_becomeHard_9 rfl rfl ?_
    refine hg_getI (n := 13) dX4_becomeHard_10 rfl fl_X4_37 rfl rfl hs ?_
    refine hg_isub (n := 14) dX4_becomeHard_13 rfl ?_
    refine hg_aload_n (n := 15) dX4_becomeHard_14 rfl rfl ?_
    refine hg_getI (n := 18) dX4_becomeHard_15 rfl fl_X4_22 rfl rfl hs ?_
    refine hg_min (n := 21) dX4_becomeHard_18 rfl mk_X4_25 mmin_s math_i mmin_c (by decide) (Nat.le_of_ble_eq_true rfl) ?_
    refine hg_istore_n (n := 22) dX4_becomeHard_21 rfl (by decide) rfl rfl ?_
    refine hg_aload_n (n := 23) dX4_becomeHard_22 rfl rfl ?_
    refine hg_dup (n := 24) dX4_becomeHard_23 rfl rfl ?_
    refine hg_getI (n := 27) dX4_becomeHard_24 rfl fl_X4_22 rfl rfl hs ?_
    refine hg_iload_n (n := 28) dX4_becomeHard_27 rfl rfl ?_
    refine hg_isub (n := 29) dX4_becomeHard_28 rfl ?_
    refine hg_putI (n := 32) dX4_becomeHard_29 rfl fl_X4_22 rfl rfl hs ?_
    refine hg_aload_n (n := 33) dX4_becomeHard_32 rfl rfl ?_
    refine hg_dup (n := 34) dX4_becomeHard_33 rfl rfl ?_
    refine hg_getI (n := 37) dX4_becomeHard_34 rfl fl_X4_37 rfl rfl hs ?_
    refine hg_iload_n (n := 38) dX4_becomeHard_37 rfl rfl ?_
    refine hg_iadd (n := 39) dX4_becomeHard_38 rfl ?_
    refine hg_putI (n := 42) dX4_becomeHard_39 rfl fl_X4_37 rfl rfl hs ?_
    refine hg_return dX4_becomeHard_42 rfl ?_
    unfold bd_m at hQ
    rw [if_neg h5] at hQ
    exact hQ

set_option maxHeartbeats 4000000 in
set_option maxRecDepth 100000 in
theorem c_X4_draw {mi : MI_} {ml : ML_} {mr : MR_} {sh : SH_} {s : Nat} (hs : sh 6 s = some 6)  : hg_Det false yX4_draw md_X4_draw [hv_r (some (6, s))] (mi, ml, mr, sh) none (dr_m mi s, ml, mr, sh) := by
  intro Q hQ
  refine hg_intro rfl rfl rfl (Nat.le_of_ble_eq_true rfl) rfl ?_
  have s43 : ∀ X, X = dr_a mi s → hg_G md_X4_draw false sh Q 0 0 43 [some (hv_r (some (6, s)))] [] (X, ml, mr, sh) := by
    intro X hX
    refine hg_aload_n (n := 44) dX4_draw_43 rfl rfl ?_
    refine hg_getI (n := 47) dX4_draw_44 rfl fl_X4_22 rfl rfl hs ?_
    refine hg_sipush (n := 50) (v := 500) dX4_draw_47 rfl (by decide) ?_
    refine hg_icmp_le (n := 53) (tgt := 58) dX4_draw_50 rfl (by decide) (fun h50 => ?_) (fun h50 => ?_)
    · refine hg_return dX4_draw_58 rfl ?_
      have e : dr_m mi s = (if X 6 s 1 ≤ 500 then X else u_3 X 6 s 5 0) := by rw [hX]; rfl
      rw [e, if_pos h50] at hQ
      exact hQ
    · refine hg_aload_n (n := 54) dX4_draw_53 rfl rfl ?_
      refine hg_iconst (n := 55) (v := 0) dX4_draw_54 rfl (by decide) ?_
      refine hg_putI (n := 58) dX4_draw_55 rfl fl_X4_53 rfl rfl hs ?_
      refine hg_return dX4_draw_58 rfl ?_
      have e : dr_m mi s = (if X 6 s 1 ≤ 500 then X else u_3 X 6 s 5 0) := by rw [hX]; rfl
      rw [e, if_neg h50] at hQ
      exact hQ
  refine hg_aload_n (n := 1) dX4_draw_0 rfl rfl ?_
  refine hg_getI (n := 4) dX4_draw_1 rfl fl_X4_37 rfl rfl hs ?_
  refine hg_if_le (n := 7) (tgt := 43) dX4_draw_4 rfl (by decide) (fun h4 => ?_) (fun h4 => ?_)
  · exact s43 _ (by unfold dr_a; rw [if_pos h4])
  · refine hg_aload_n (n := 8) dX4_draw_7 rfl rfl ?_
    refine hg_getI (n := 11) dX4_draw_8 rfl fl_X4_9 rfl rfl hs ?_
    refine hg_sipush (n := 14) (v := 1500) dX4_draw_11 rfl (by decide) ?_
    refine hg_sipush (n := 17) (v := 6500) dX4_draw_14 rfl (by decide) ?_
    refine hg_callSNd (n := 20) (c_X5_within _ _ _ _) dX4_draw_17 rfl mk_X4_49 yl_X5_within ys_X5_within (by decide) (by decide) rfl rfl (Nat.le_of_ble_eq_true rfl) (fun h => by cases h) ?_
    refine hg_if_eq (n := 23) (tgt := 43) dX4_draw_20 rfl (by decide) (fun h20 => ?_) (fun h20 => ?_)
    · exact s43 _ (by unfold dr_a; rw [if_neg h4, if_pos h20])
    · refine hg_aload_n (n := 24) dX4_draw_23 rfl rfl ?_
      refine hg_dup (n := 25) dX4_draw_24 rfl rfl ?_
      refine hg_getI (n := 28) dX4_draw_25 rfl fl_X4_53 rfl rfl hs ?_
      refine hg_aload_n (n := 29) dX4_draw_28 rfl rfl ?_
      refine hg_getI (n := 32) dX4_draw_29 rfl fl_X4_9 rfl rfl hs ?_
      refine hg_sipush (n := 35) (v := 1500) dX4_draw_32 rfl (by decide) ?_
      refine hg_isub (n := 36) dX4_draw_35 rfl ?_
      refine hg_bipush (n := 38) (v := 100) dX4_draw_36 rfl (by decide) ?_
      refine hg_idiv (n := 39) dX4_draw_38 rfl (by decide) ?_
      refine hg_iadd (n := 40) dX4_draw_39 rfl ?_
      refine hg_putI (n := 43) dX4_draw_40 rfl fl_X4_53 rfl rfl hs ?_
      exact s43 _ (by unfold dr_a; rw [if_neg h4, if_neg h20])

set_option maxHeartbeats 4000000 in
set_option maxRecDepth 100000 in
theorem c_X4_change {mi : MI_} {ml : ML_} {mr : MR_} {sh : SH_} {s : Nat} (hs : sh 6 s = some 6) (p b : Int32) : hg_Det false yX4_change md_X4_change [hv_r (some (6, s)), hv_i p, hv_i b] (mi, ml, mr, sh) none (cg_m mi s p b, ml, mr, sh) := by
  intro Q hQ
  refine hg_intro rfl rfl rfl (Nat.le_of_ble_eq_true rfl) rfl ?_
  have s104 : ∀ X, X = cg_a mi s p b → hg_G md_X4_change false sh Q 0 0 104 [some (hv_r (some (6, s))), some (hv_i p), some (hv_i b)] [] (X, ml, mr, sh) := by
    intro X hX
    subst hX
    refine hg_aload_n (n := 105) dX4_change_104 rfl rfl ?_
    refine hg_callVd (n := 108) (c_X4_draw hs) dX4_change_105 rfl mk_X4_43 yl_X4_draw yv_X4_draw rfl hs (by decide) (by decide) rfl rfl (Nat.le_of_ble_eq_true rfl) (fun h => by cases h) ?_
    refine hg_return dX4_change_108 rfl ?_
    exact hQ
  refine hg_aload_n (n := 1) dX4_change_0 rfl rfl ?_
  refine hg_getI (n := 4) dX4_change_1 rfl fl_X4_9 rfl rfl hs ?_
  refine hg_sipush (n := 7) (v := 7300) dX4_change_4 rfl (by decide) ?_
  refine hg_icmp_le (n := 10) (tgt := 28) dX4_change_7 rfl (by decide) (fun h7 => ?_) (fun h7 => ?_)
  · refine hg_aload_n (n := 29) dX4_change_28 rfl rfl ?_
    refine hg_getI (n := 32) dX4_change_29 rfl fl_X4_9 rfl rfl hs ?_
    refine hg_sipush (n := 35) (v := 5500) dX4_change_32 rfl (by decide) ?_
    refine hg_icmp_lt (n := 38) (tgt := 53) dX4_change_35 rfl (by decide) (fun h35 => ?_) (fun h35 => ?_)
    · refine hg_aload_n (n := 54) dX4_change_53 rfl rfl ?_
      refine hg_getI (n := 57) dX4_change_54 rfl fl_X4_9 rfl rfl hs ?_
      refine hg_sipush (n := 60) (v := 3000) dX4_change_57 rfl (by decide) ?_
      refine hg_icmp_lt (n := 63) (tgt := 78) dX4_change_60 rfl (by decide) (fun h60 => ?_) (fun h60 => ?_)
      · refine hg_aload_n (n := 79) dX4_change_78 rfl rfl ?_
        refine hg_aload_n (n := 80) dX4_change_79 rfl rfl ?_
        refine hg_getI (n := 83) dX4_change_80 rfl fl_X4_22 rfl rfl hs ?_
        refine hg_aload_n (n := 84) dX4_change_83 rfl rfl ?_
        refine hg_getI (n := 87) dX4_change_84 rfl fl_X4_37 rfl rfl hs ?_
        refine hg_iadd (n := 88) dX4_change_87 rfl ?_
        refine hg_sipush (n := 91) (v := 3000) dX4_change_88 rfl (by decide) ?_
        refine hg_aload_n (n := 92) dX4_change_91 rfl rfl ?_
        refine hg_getI (n := 95) dX4_change_92 rfl fl_X4_9 rfl rfl hs ?_
        refine hg_isub (n := 96) dX4_change_95 rfl ?_
        refine hg_imul (n := 97) dX4_change_96 rfl ?_
        refine hg_sipush (n := 100) (v := 2600) dX4_change_97 rfl (by decide) ?_
        refine hg_idiv (n := 101) dX4_change_100 rfl (by decide) ?_
        refine hg_callVd (n := 104) (c_X4_becomeHard hs _) dX4_change_101 rfl mk_X4_40 yl_X4_becomeHard yv_X4_becomeHard rfl hs (by decide) (by decide) rfl rfl (Nat.le_of_ble_eq_true rfl) (fun h => by cases h) ?_
        exact s104 _ (by unfold cg_a; rw [if_pos h7, if_pos h35, if_pos h60])
      · refine hg_aload_n (n := 64) dX4_change_63 rfl rfl ?_
        refine hg_iload_n (n := 65) dX4_change_64 rfl rfl ?_
        refine hg_aload_n (n := 66) dX4_change_65 rfl rfl ?_
        refine hg_getI (n := 69) dX4_change_66 rfl fl_X4_22 rfl rfl hs ?_
        refine hg_min (n := 72) dX4_change_69 rfl mk_X4_25 mmin_s math_i mmin_c (by decide) (Nat.le_of_ble_eq_true rfl) ?_
        refine hg_callVd (n := 75) (c_X4_becomeTough hs _) dX4_change_72 rfl mk_X4_34 yl_X4_becomeTough yv_X4_becomeTough rfl hs (by decide) (by decide) rfl rfl (Nat.le_of_ble_eq_true rfl) (fun h => by cases h) ?_
        refine hg_goto (tgt := 104) dX4_change_75 (by decide) ?_
        exact s104 _ (by unfold cg_a; rw [if_pos h7, if_pos h35, if_neg h60])
    · refine hg_aload_n (n := 39) dX4_change_38 rfl rfl ?_
      refine hg_iload_n (n := 40) dX4_change_39 rfl rfl ?_
      refine hg_aload_n (n := 41) dX4_change_40 rfl rfl ?_
      refine hg_getI (n := 44) dX4_change_41 rfl fl_X4_22 rfl rfl hs ?_
      refine hg_min (n := 47) dX4_change_44 rfl mk_X4_25 mmin_s math_i mmin_c (by decide) (Nat.le_of_ble_eq_true rfl) ?_
      refine hg_callVd (n := 50) (c_X4_becomeLamellar hs _) dX4_change_47 rfl mk_X4_31 yl_X4_becomeLamellar yv_X4_becomeLamellar rfl hs (by decide) (by decide) rfl rfl (Nat.le_of_ble_eq_true rfl) (fun h => by cases h) ?_
      refine hg_goto (tgt := 104) dX4_change_50 (by decide) ?_
      exact s104 _ (by unfold cg_a; rw [if_pos h7, if_neg h35])
  · refine hg_aload_n (n := 11) dX4_change_10 rfl rfl ?_
    refine hg_aload_n (n := 12) dX4_change_11 rfl rfl ?_
    refine hg_getI (n := 15) dX4_change_12 rfl fl_X4_9 rfl rfl hs ?_
    refine hg_sipush (n := 18) (v := 7300) dX4_change_15 rfl (by decide) ?_
    refine hg_isub (n := 19) dX4_change_18 rfl ?_
    refine hg_bipush (n := 21) (v := 10) dX4_change_19 rfl (by decide) ?_
    refine hg_idiv (n := 22) dX4_change_21 rfl (by decide) ?_
    refine hg_callVd (n := 25) (c_X4_becomeHot hs _) dX4_change_22 rfl mk_X4_18 yl_X4_becomeHot yv_X4_becomeHot rfl hs (by decide) (by decide) rfl rfl (Nat.le_of_ble_eq_true rfl) (fun h => by cases h) ?_
    refine hg_goto (tgt := 104) dX4_change_25 (by decide) ?_
    exact s104 _ (by unfold cg_a; rw [if_neg h7])

set_option maxHeartbeats 4000000 in
set_option maxRecDepth 100000 in
theorem c_X4_hardness {mi : MI_} {ml : ML_} {mr : MR_} {sh : SH_} {s : Nat} (hs : sh 6 s = some 6)  : hg_Det false yX4_hardness md_X4_hardness [hv_r (some (6, s))] (mi, ml, mr, sh) (some (hv_i (hn_ mi s))) (mi, ml, mr, sh) := by
  intro Q hQ
  refine hg_intro rfl rfl rfl (Nat.le_of_ble_eq_true rfl) rfl ?_
  refine hg_sipush (n := 3) (v := 800) dX4_hardness_0 rfl (by decide) ?_
  refine hg_sipush (n := 6) (v := 400) dX4_hardness_3 rfl (by decide) ?_
  refine hg_aload_n (n := 7) dX4_hardness_6 rfl rfl ?_
  refine hg_getI (n := 10) dX4_hardness_7 rfl fl_X4_53 rfl rfl hs ?_
  refine hg_bipush (n := 12) (v := 50) dX4_hardness_10 rfl (by decide) ?_
  refine hg_idiv (n := 13) dX4_hardness_12 rfl (by decide) ?_
  refine hg_min (n := 16) dX4_hardness_13 rfl mk_X4_25 mmin_s math_i mmin_c (by decide) (Nat.le_of_ble_eq_true rfl) ?_
  refine hg_isub (n := 17) dX4_hardness_16 rfl ?_
  refine hg_istore_n (n := 18) dX4_hardness_17 rfl (by decide) rfl rfl ?_
  refine hg_sipush (n := 21) (v := 200) dX4_hardness_18 rfl (by decide) ?_
  refine hg_aload_n (n := 22) dX4_hardness_21 rfl rfl ?_
  refine hg_getI (n := 25) dX4_hardness_22 rfl fl_X4_22 rfl rfl hs ?_
  refine hg_imul (n := 26) dX4_hardness_25 rfl ?_
  refine hg_sipush (n := 29) (v := 250) dX4_hardness_26 rfl (by decide) ?_
  refine hg_aload_n (n := 30) dX4_hardness_29 rfl rfl ?_
  refine hg_getI (n := 33) dX4_hardness_30 rfl fl_X4_15 rfl rfl hs ?_
  refine hg_imul (n := 34) dX4_hardness_33 rfl ?_
  refine hg_iadd (n := 35) dX4_hardness_34 rfl ?_
  refine hg_sipush (n := 38) (v := 450) dX4_hardness_35 rfl (by decide) ?_
  refine hg_aload_n (n := 39) dX4_hardness_38 rfl rfl ?_
  refine hg_getI (n := 42) dX4_hardness_39 rfl fl_X4_46 rfl rfl hs ?_
  refine hg_imul (n := 43) dX4_hardness_42 rfl ?_
  refine hg_iadd (n := 44) dX4_hardness_43 rfl ?_
  refine hg_iload_n (n := 45) dX4_hardness_44 rfl rfl ?_
  refine hg_aload_n (n := 46) dX4_hardness_45 rfl rfl ?_
  refine hg_getI (n := 49) dX4_hardness_46 rfl fl_X4_37 rfl rfl hs ?_
  refine hg_imul (n := 50) dX4_hardness_49 rfl ?_
  refine hg_iadd (n := 51) dX4_hardness_50 rfl ?_
  refine hg_sipush (n := 54) (v := 1000) dX4_hardness_51 rfl (by decide) ?_
  refine hg_idiv (n := 55) dX4_hardness_54 rfl (by decide) ?_
  refine hg_ireturn dX4_hardness_55 rfl ?_
  exact hQ

set_option maxHeartbeats 4000000 in
set_option maxRecDepth 100000 in
theorem c_X4_tell {mi : MI_} {ml : ML_} {mr : MR_} {sh : SH_} {s : Nat} (hs : sh 6 s = some 6) (w : Nat) (hw : w ≤ 6) : hg_Det false yX4_tell md_X4_tell [hv_r (some (6, s)), hv_i (nI w)] (mi, ml, mr, sh) (some (hv_i (te_ mi s w))) (mi, ml, mr, sh) := by
  intro Q hQ
  refine hg_intro rfl rfl rfl (Nat.le_of_ble_eq_true rfl) rfl ?_
  refine hg_iload_n (n := 1) dX4_tell_0 rfl rfl ?_
  rcases (show w = 0 ∨ w = 1 ∨ w = 2 ∨ w = 3 ∨ w = 4 ∨ w = 5 ∨ w = 6 by omega) with rfl | rfl | rfl | rfl | rfl | rfl | rfl
  · refine hg_tableIn (tgt := 40) (off := 39) dX4_tell_1 (by decide) (by decide) rfl (by decide) ?_
    refine hg_aload_n (n := 41) dX4_tell_40 rfl rfl ?_
    refine hg_getI (n := 44) dX4_tell_41 rfl fl_X4_9 rfl rfl hs ?_
    refine hg_ireturn dX4_tell_44 rfl ?_
    exact hQ
  · refine hg_tableIn (tgt := 45) (off := 44) dX4_tell_1 (by decide) (by decide) rfl (by decide) ?_
    refine hg_aload_n (n := 46) dX4_tell_45 rfl rfl ?_
    refine hg_getI (n := 49) dX4_tell_46 rfl fl_X4_22 rfl rfl hs ?_
    refine hg_ireturn dX4_tell_49 rfl ?_
    exact hQ
  · refine hg_tableIn (tgt := 50) (off := 49) dX4_tell_1 (by decide) (by decide) rfl (by decide) ?_
    refine hg_aload_n (n := 51) dX4_tell_50 rfl rfl ?_
    refine hg_getI (n := 54) dX4_tell_51 rfl fl_X4_15 rfl rfl hs ?_
    refine hg_ireturn dX4_tell_54 rfl ?_
    exact hQ
  · refine hg_tableIn (tgt := 55) (off := 54) dX4_tell_1 (by decide) (by decide) rfl (by decide) ?_
    refine hg_aload_n (n := 56) dX4_tell_55 rfl rfl ?_
    refine hg_getI (n := 59) dX4_tell_56 rfl fl_X4_46 rfl rfl hs ?_
    refine hg_ireturn dX4_tell_59 rfl ?_
    exact hQ
  · refine hg_tableIn (tgt := 60) (off := 59) dX4_tell_1 (by decide) (by decide) rfl (by decide) ?_
    refine hg_aload_n (n := 61) dX4_tell_60 rfl rfl ?_
    refine hg_getI (n := 64) dX4_tell_61 rfl fl_X4_37 rfl rfl hs ?_
    refine hg_ireturn dX4_tell_64 rfl ?_
    exact hQ
  · refine hg_tableIn (tgt := 65) (off := 64) dX4_tell_1 (by decide) (by decide) rfl (by decide) ?_
    refine hg_aload_n (n := 66) dX4_tell_65 rfl rfl ?_
    refine hg_getI (n := 69) dX4_tell_66 rfl fl_X4_53 rfl rfl hs ?_
    refine hg_ireturn dX4_tell_69 rfl ?_
    exact hQ
  · refine hg_tableOut (tgt := 70) dX4_tell_1 (Or.inr (by decide)) (by decide) ?_
    refine hg_aload_n (n := 71) dX4_tell_70 rfl rfl ?_
    refine hg_callVd (n := 74) (c_X4_hardness hs) dX4_tell_71 rfl mk_X4_56 yl_X4_hardness yv_X4_hardness rfl hs (by decide) (by decide) rfl rfl (Nat.le_of_ble_eq_true rfl) (fun h => by cases h) ?_
    refine hg_ireturn dX4_tell_74 rfl ?_
    exact hQ

set_option maxHeartbeats 4000000 in
set_option maxRecDepth 100000 in
theorem c_X4_init {mi : MI_} {ml : ML_} {mr : MR_} {sh : SH_} {s : Nat} (hs : sh 6 s = some 6)  : hg_Det false yX4_init md_X4_init [hv_r (some (6, s))] (mi, ml, mr, sh) none (u_3 (u_3 mi 6 s 0 200) 6 s 2 1000, ml, mr, sh) := by
  intro Q hQ
  refine hg_intro rfl rfl rfl (Nat.le_of_ble_eq_true rfl) rfl ?_
  refine hg_aload_n (n := 1) dX4_init_0 rfl rfl ?_
  refine hg_objInit (n := 4) dX4_init_1 rfl mk_X4_3 oi_i oi_c (by decide) (Nat.le_of_ble_eq_true rfl) ?_
  refine hg_aload_n (n := 5) dX4_init_4 rfl rfl ?_
  refine hg_sipush (n := 8) (v := 200) dX4_init_5 rfl (by decide) ?_
  refine hg_putI (n := 11) dX4_init_8 rfl fl_X4_9 rfl rfl hs ?_
  refine hg_aload_n (n := 12) dX4_init_11 rfl rfl ?_
  refine hg_sipush (n := 15) (v := 1000) dX4_init_12 rfl (by decide) ?_
  refine hg_putI (n := 18) dX4_init_15 rfl fl_X4_15 rfl rfl hs ?_
  refine hg_return dX4_init_18 rfl ?_
  exact hQ

