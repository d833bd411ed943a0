/-! the reference: its arrays -/
def mo_len (j : Nat) : Nat := match j with
  | 1 => 12 | 2 => 12 | 3 => 12 | 4 => 12 | 5 => 12 | 6 => 12 | 7 => 12 | 8 => 12 | 9 => 12
  | 10 => 72 | 11 => 288 | 12 => 72 | 13 => 8 | 14 => 3 | 15 => 3 | 16 => 3 | 17 => 24 | 18 => 24 | 19 => 24
  | 20 => 12 | 21 => 12 | 22 => 12 | 23 => 3 | 24 => 3 | 25 => 3 | 26 => 3 | 27 => 3
  | 29 => 100 | 30 => 100 | 31 => 100 | 32 => 100 | 33 => 100 | 34 => 100 | 36 => 7 | 37 => 7 | 38 => 128
  | _ => 0
def mo_ (mr : MR_) (sh : SH_) : Prop := sh 7 0 = some 39 ∧ ∀ j, mo_len j ≠ 0 → mr 7 0 j = some (30 + j, 0) ∧ sh (30 + j) 0 = some (mo_len j)
theorem mo_s {mr : MR_} {sh : SH_} (h : mo_ mr sh) : sh 7 0 = some 39 := h.1
theorem mo_r {mr : MR_} {sh : SH_} (h : mo_ mr sh) (j : Nat) (hj : mo_len j ≠ 0) : mr 7 0 j = some (30 + j, 0) := (h.2 j hj).1
theorem mo_a {mr : MR_} {sh : SH_} (h : mo_ mr sh) (j : Nat) (hj : mo_len j ≠ 0) : sh (30 + j) 0 = some (mo_len j) := (h.2 j hj).2
set_option maxHeartbeats 4000000 in
set_option maxRecDepth 100000 in
theorem c_X6_in (x a b : Int32) (M : Me_) : hg_Det false yX6_in md_X6_in [hv_i x, hv_i a, hv_i b] M (some (hv_i (z_in x a b))) M := by
  intro Q hQ
  refine hg_intro rfl rfl rfl (Nat.le_of_ble_eq_true rfl) rfl ?_
  refine hg_iload_n (n := 1) dX6_in_0 rfl rfl ?_
  refine hg_iload_n (n := 2) dX6_in_1 rfl rfl ?_
  refine hg_icmp_lt (n := 5) (tgt := 14) dX6_in_2 rfl (by decide) (fun h2 => ?_) (fun h2 => ?_)
  · refine hg_iconst (n := 15) (v := 0) dX6_in_14 rfl (by decide) ?_
    refine hg_zreturn dX6_in_15 rfl (by decide) ?_
    rw [z_in_lt h2] at hQ
    exact hQ
  · refine hg_iload_n (n := 6) dX6_in_5 rfl rfl ?_
    refine hg_iload_n (n := 7) dX6_in_6 rfl rfl ?_
    refine hg_icmp_gt (n := 10) (tgt := 14) dX6_in_7 rfl (by decide) (fun h7 => ?_) (fun h7 => ?_)
    · refine hg_iconst (n := 15) (v := 0) dX6_in_14 rfl (by decide) ?_
      refine hg_zreturn dX6_in_15 rfl (by decide) ?_
      rw [z_in_gt h7] at hQ
      exact hQ
    · refine hg_iconst (n := 11) (v := 1) dX6_in_10 rfl (by decide) ?_
      refine hg_goto (tgt := 15) dX6_in_11 (by decide) ?_
      refine hg_zreturn dX6_in_15 rfl (by decide) ?_
      rw [z_in_ok h2 h7] at hQ
      exact hQ

def tu_n (X : MI_) (s f : Nat) (c : Int32) : Int32 := if X 41 0 (4 * s + f) < c then X 41 0 (4 * s + f) else c
def tu_m (X : MI_) (s f t : Nat) (c : Int32) : MI_ := u_3 (u_3 X 41 0 (4 * s + f) (X 41 0 (4 * s + f) - tu_n X s f c)) 41 0 (4 * s + t) (u_3 X 41 0 (4 * s + f) (X 41 0 (4 * s + f) - tu_n X s f c) 41 0 (4 * s + t) + tu_n X s f c)
set_option maxHeartbeats 4000000 in
set_option maxRecDepth 100000 in
theorem c_X6_turn {mi : MI_} {ml : ML_} {mr : MR_} {sh : SH_} (hM : mo_ mr sh) (s f t : Nat) (hs : s < 72) (hf : f < 4) (ht : t < 4) (c : Int32) : hg_Det false yX6_turn md_X6_turn [hv_r (some (7, 0)), hv_i (nI s), hv_i (nI f), hv_i (nI t), hv_i c] (mi, ml, mr, sh) (some (hv_i (tu_n mi s f c))) (tu_m mi s f t c, ml, mr, sh) := by
  intro Q hQ
  refine hg_intro rfl rfl rfl (Nat.le_of_ble_eq_true rfl) rfl ?_
  have seg : ∀ x, x = tu_n mi s f c → hg_G md_X6_turn false sh Q 0 0 30 [some (hv_r (some (7, 0))), some (hv_i (nI s)), some (hv_i (nI f)), some (hv_i (nI t)), some (hv_i c), none] [hv_i x] (mi, ml, mr, sh) := by
    rintro _ rfl
    refine hg_istore (n := 32) dX6_turn_30 rfl (by decide) rfl rfl ?_
    refine hg_aload_n (n := 33) dX6_turn_32 rfl rfl ?_
    refine hg_getR (n := 36) (r := some (41, 0)) dX6_turn_33 rfl fl_X6_46 rfl rfl (mo_s hM) (mo_r hM 11 (by decide)) ?_
    refine hg_iconst (n := 37) (v := 4) dX6_turn_36 rfl (by decide) ?_
    refine hg_iload_n (n := 38) dX6_turn_37 rfl rfl ?_
    refine hg_imulN (n := 39) (4) (s) dX6_turn_38 rfl ?_
    refine hg_iload_n (n := 40) dX6_turn_39 rfl rfl ?_
    refine hg_iaddN (n := 41) (4 * s) (f) dX6_turn_40 rfl ?_
    refine hg_dup2 (n := 42) dX6_turn_41 rfl rfl rfl ?_
    refine hg_iaload (n := 43) (len := 288) ((4 * s) + f) dX6_turn_42 rfl (by decide) rfl (mo_a hM 11 (by decide)) rfl (by omega) (by decide) ?_
    refine hg_iload (n := 45) dX6_turn_43 rfl rfl ?_
    refine hg_isub (n := 46) dX6_turn_45 rfl ?_
    refine hg_iastore (n := 47) (len := 288) ((4 * s) + f) dX6_turn_46 rfl (by decide) rfl (mo_a hM 11 (by decide)) rfl (by omega) (by decide) ?_
    refine hg_aload_n (n := 48) dX6_turn_47 rfl rfl ?_
    refine hg_getR (n := 51) (r := some (41, 0)) dX6_turn_48 rfl fl_X6_46 rfl rfl (mo_s hM) (mo_r hM 11 (by decide)) ?_
    refine hg_iconst (n := 52) (v := 4) dX6_turn_51 rfl (by decide) ?_
    refine hg_iload_n (n := 53) dX6_turn_52 rfl rfl ?_
    refine hg_imulN (n := 54) (4) (s) dX6_turn_53 rfl ?_
    refine hg_iload_n (n := 55) dX6_turn_54 rfl rfl ?_
    refine hg_iaddN (n := 56) (4 * s) (t) dX6_turn_55 rfl ?_
    refine hg_dup2 (n := 57) dX6_turn_56 rfl rfl rfl ?_
    refine hg_iaload (n := 58) (len := 288) ((4 * s) + t) dX6_turn_57 rfl (by decide) rfl (mo_a hM 11 (by decide)) rfl (by omega) (by decide) ?_
    refine hg_iload (n := 60) dX6_turn_58 rfl rfl ?_
    refine hg_iadd (n := 61) dX6_turn_60 rfl ?_
    refine hg_iastore (n := 62) (len := 288) ((4 * s) + t) dX6_turn_61 rfl (by decide) rfl (mo_a hM 11 (by decide)) rfl (by omega) (by decide) ?_
    refine hg_iload (n := 64) dX6_turn_62 rfl rfl ?_
    refine hg_ireturn dX6_turn_64 rfl ?_
    exact hQ
  refine hg_aload_n (n := 1) dX6_turn_0 rfl rfl ?_
  refine hg_getR (n := 4) (r := some (41, 0)) dX6_turn_1 rfl fl_X6_46 rfl rfl (mo_s hM) (mo_r hM 11 (by decide)) ?_
  refine hg_iconst (n := 5) (v := 4) dX6_turn_4 rfl (by decide) ?_
  refine hg_iload_n (n := 6) dX6_turn_5 rfl rfl ?_
  refine hg_imulN (n := 7) (4) (s) dX6_turn_6 rfl ?_
  refine hg_iload_n (n := 8) dX6_turn_7 rfl rfl ?_
  refine hg_iaddN (n := 9) (4 * s) (f) dX6_turn_8 rfl ?_
  refine hg_iaload (n := 10) (len := 288) ((4 * s) + f) dX6_turn_9 rfl (by decide) rfl (mo_a hM 11 (by decide)) rfl (by omega) (by decide) ?_
  refine hg_iload (n := 12) dX6_turn_10 rfl rfl ?_
  refine hg_icmp_ge (n := 15) (tgt := 28) dX6_turn_12 rfl (by decide) (fun h12 => ?_) (fun h12 => ?_)
  · refine hg_iload (n := 30) dX6_turn_28 rfl rfl ?_
    exact seg _ (if_neg (fun q => i32_nle.mpr q h12)).symm
  · refine hg_aload_n (n := 16) dX6_turn_15 rfl rfl ?_
    refine hg_getR (n := 19) (r := some (41, 0)) dX6_turn_16 rfl fl_X6_46 rfl rfl (mo_s hM) (mo_r hM 11 (by decide)) ?_
    refine hg_iconst (n := 20) (v := 4) dX6_turn_19 rfl (by decide) ?_
    refine hg_iload_n (n := 21) dX6_turn_20 rfl rfl ?_
    refine hg_imulN (n := 22) (4) (s) dX6_turn_21 rfl ?_
    refine hg_iload_n (n := 23) dX6_turn_22 rfl rfl ?_
    refine hg_iaddN (n := 24) (4 * s) (f) dX6_turn_23 rfl ?_
    refine hg_iaload (n := 25) (len := 288) ((4 * s) + f) dX6_turn_24 rfl (by decide) rfl (mo_a hM 11 (by decide)) rfl (by omega) (by decide) ?_
    refine hg_goto (tgt := 30) dX6_turn_25 (by decide) ?_
    exact seg _ (if_pos (i32_nle.mp h12)).symm

