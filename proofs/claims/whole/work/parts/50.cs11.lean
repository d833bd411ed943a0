/-- a part's shells, as they are made -/
def pn_ (p : Nat) (M : Me_) : Nat → Me_
  | 0 => M
  | i + 1 => (u_3 (u_3 (u_n (pn_ p M i).1 6 (6 * p + i) 0) 6 (6 * p + i) 0 200) 6 (6 * p + i) 2 1000, u_n (pn_ p M i).2.1 6 (6 * p + i) 0, u_3 (u_n (pn_ p M i).2.2.1 6 (6 * p + i) none) 21 p i (some (6, 6 * p + i)), u_2 (pn_ p M i).2.2.2 6 (6 * p + i) (some 6))
def pi_0 (p n : Nat) (u m k s q b : Int32) (M : Me_) : Me_ := na_ 21 p n 4 p 2 (u_3 (u_3 (u_3 (u_3 (u_3 (u_3 M.1 4 p 0 u) 4 p 1 m) 4 p 3 k) 4 p 4 s) 4 p 5 q) 4 p 6 b, M.2.1, M.2.2.1, M.2.2.2)
def pi_m (p n : Nat) (u m k s q b : Int32) (M : Me_) : Me_ := pn_ p (pi_0 p n u m k s q b M) n
theorem pn_sk {p : Nat} {M : Me_} {k j : Nat} (h : k ≠ 6) : ∀ i, (pn_ p M i).2.2.2 k j = M.2.2.2 k j
  | 0 => rfl
  | i + 1 => (u_2_k h).trans (pn_sk h i)
theorem pn_s6 {p : Nat} {M : Me_} {s : Nat} : ∀ i, s < 6 * p ∨ 6 * p + i ≤ s → (pn_ p M i).2.2.2 6 s = M.2.2.2 6 s
  | 0, _ => rfl
  | i + 1, h => (if_neg (by omega)).trans (pn_s6 i (by omega))
theorem pn_s6i {p : Nat} {M : Me_} {c : Nat} : ∀ i, c < i → (pn_ p M i).2.2.2 6 (6 * p + c) = some 6
  | 0, h => by omega
  | i + 1, h => by
    show u_2 (pn_ p M i).2.2.2 6 (6 * p + i) (some 6) 6 (6 * p + c) = some 6
    unfold u_2
    by_cases e : c = i
    · rw [if_pos (by omega)]
    · rw [if_neg (by omega)]; exact pn_s6i i (by omega)
theorem pn_rk {p : Nat} {M : Me_} {k a b : Nat} (h : k ≠ 6) (h2 : ¬ (k = 21 ∧ a = p)) : ∀ i, (pn_ p M i).2.2.1 k a b = M.2.2.1 k a b
  | 0 => rfl
  | i + 1 => (u_3_ne _ _ (by omega)).trans ((u_n_k h).trans (pn_rk h h2 i))
theorem pn_r21 {p : Nat} {M : Me_} {c : Nat} : ∀ i, c < i → (pn_ p M i).2.2.1 21 p c = some (6, 6 * p + c)
  | 0, h => by omega
  | i + 1, h => by
    show u_3 (u_n (pn_ p M i).2.2.1 6 (6 * p + i) none) 21 p i (some (6, 6 * p + i)) 21 p c = _
    by_cases e : c = i
    · subst e; exact u_3_eq _ _
    · exact (u_3_ne _ _ (by omega)).trans ((u_n_k (by decide)).trans (pn_r21 i (by omega)))
theorem pn_ik {p : Nat} {M : Me_} {k a b : Nat} (h : k ≠ 6) : ∀ i, (pn_ p M i).1 k a b = M.1 k a b
  | 0 => rfl
  | i + 1 => (u_3_k h).trans ((u_3_k h).trans ((u_n_k h).trans (pn_ik h i)))
theorem pn_lk {p : Nat} {M : Me_} {k a b : Nat} (h : k ≠ 6) : ∀ i, (pn_ p M i).2.1 k a b = M.2.1 k a b
  | 0 => rfl
  | i + 1 => (u_n_k h).trans (pn_lk h i)
theorem pn_i6 {p : Nat} {M : Me_} {s b : Nat} : ∀ i, s < 6 * p ∨ 6 * p + i ≤ s → (pn_ p M i).1 6 s b = M.1 6 s b
  | 0, _ => rfl
  | i + 1, h => (u_3_ne _ _ (by omega)).trans ((u_3_ne _ _ (by omega)).trans ((if_neg (by omega)).trans (pn_i6 i (by omega))))
theorem pn_i6i {p : Nat} {M : Me_} {c b : Nat} : ∀ i, c < i → (pn_ p M i).1 6 (6 * p + c) b = if b = 0 then 200 else if b = 2 then 1000 else 0
  | 0, h => by omega
  | i + 1, h => by
    show u_3 (u_3 (u_n (pn_ p M i).1 6 (6 * p + i) 0) 6 (6 * p + i) 0 200) 6 (6 * p + i) 2 1000 6 (6 * p + c) b = _
    by_cases e : c = i
    · subst e
      unfold u_3 u_n
      by_cases h2 : b = 2
      · subst h2; rw [if_pos (by omega), if_neg (by decide), if_pos rfl]
      · rw [if_neg (by omega)]
        by_cases h0 : b = 0
        · subst h0; rw [if_pos (by omega), if_pos rfl]
        · rw [if_neg (by omega), if_pos (by omega), if_neg h0, if_neg h2]
    · exact (u_3_ne _ _ (by omega)).trans ((u_3_ne _ _ (by omega)).trans ((if_neg (by omega)).trans (pn_i6i i (by omega))))
set_option maxHeartbeats 4000000 in
set_option maxRecDepth 100000 in
theorem c_X2_init {mi : MI_} {ml : ML_} {mr : MR_} {sh : SH_} {p n : Nat} (h1 : 1 ≤ n) (h6 : n ≤ 6) (hs : sh 4 p = some 10) (hE : sh 21 p = none) (hE6 : ∀ i, i < 6 → sh 6 (6 * p + i) = none) (u m k s q b : Int32) : hg_Det true yX2_init md_X2_init [hv_r (some (4, p)), hv_i u, hv_i (nI n), hv_i m, hv_i k, hv_i s, hv_i q, hv_i b] (mi, ml, mr, sh) none (pi_m p n u m k s q b (mi, ml, mr, sh)) := by
  intro Q hQ
  refine hg_intro rfl rfl rfl (Nat.le_of_ble_eq_true rfl) rfl ?_
  have loop : ∀ j i, i + j = n → hg_G md_X2_init true sh Q (6 - i) (42 - n - 6 * i) 49 [some (hv_r (some (4, p))), some (hv_i u), some (hv_i (nI n)), some (hv_i m), some (hv_i k), some (hv_i s), some (hv_i q), some (hv_i b), some (hv_i (nI i))] [] ((pn_ p (pi_0 p n u m k s q b (mi, ml, mr, sh)) i).1, (pn_ p (pi_0 p n u m k s q b (mi, ml, mr, sh)) i).2.1, (pn_ p (pi_0 p n u m k s q b (mi, ml, mr, sh)) i).2.2.1, (pn_ p (pi_0 p n u m k s q b (mi, ml, mr, sh)) i).2.2.2) := by
    intro j
    induction j with
    | zero =>
      intro i hi
      refine hg_iload (n := 51) dX2_init_49 rfl rfl ?_
      refine hg_iload_n (n := 52) dX2_init_51 rfl rfl ?_
      refine hg_icmp_geN (n := 55) (tgt := 75) (i) (n) dX2_init_52 rfl (by decide) (by omega) (by omega) (fun h52 => ?_) (fun h52 => ?_)
      · have e := show i = n by omega
        subst e
        refine hg_return dX2_init_75 rfl ?_
        exact hQ
      · exact absurd h52 (by omega)
    | succ j ih =>
      intro i hi
      refine hg_iload (n := 51) dX2_init_49 rfl rfl ?_
      refine hg_iload_n (n := 52) dX2_init_51 rfl rfl ?_
      refine hg_icmp_geN (n := 55) (tgt := 75) (i) (n) dX2_init_52 rfl (by decide) (by omega) (by omega) (fun h52 => ?_) (fun h52 => ?_)
      · exact absurd h52 (by omega)
      · refine hg_aload_n (n := 56) dX2_init_55 rfl rfl ?_
        refine hg_getR (n := 59) (r := some (21, p)) dX2_init_56 rfl fl_X2_32 rfl rfl ((pn_sk (show (4 : Nat) ≠ 6 by decide) i).trans hs) ((pn_rk (by decide) (by omega) i).trans (if_pos ⟨rfl, rfl, rfl⟩)) ?_
        refine hg_iload (n := 61) dX2_init_59 rfl rfl ?_
        refine hg_new (n := 64) (k := 6) (i := 6 * p + i) dX2_init_61 rfl ck_X2_30 hc_4 (by decide) rfl ⟨rfl, by decide, ((pn_s6 i (by omega)).trans (hE6 i (by omega))), (hE6 i (by omega)), (lv_cons trivial (lv_cons ⟨_, ((pn_sk (show (21 : Nat) ≠ 6 by decide) i).trans (if_pos ⟨rfl, rfl⟩))⟩ lv_nil)), (ol_some ⟨_, ((pn_sk (show (4 : Nat) ≠ 6 by decide) i).trans hs)⟩ (ol_some trivial (ol_some trivial (ol_some trivial (ol_some trivial (ol_some trivial (ol_some trivial (ol_some trivial (ol_some trivial ol_nil)))))))))⟩ ⟨(show 1 ≤ 6 - i by omega), (show 6 ≤ 42 - n - 6 * i by omega)⟩ ?_
        refine hg_dup (n := 65) dX2_init_64 rfl rfl ?_
        refine hg_callINd (n := 68) (c_X4_init (if_pos ⟨rfl, rfl⟩)) dX2_init_65 rfl mk_X2_36 yl_X4_init rfl rfl yi_X4_init (by decide) ⟨Nat.zero_le _, Nat.zero_le _⟩ rfl rfl (Nat.le_of_ble_eq_true rfl) (fun h => by cases h) ?_
        refine hg_aastore (n := 69) (len := n) (i) dX2_init_68 rfl (by decide) rfl hc_4 rfl ((u_2_k (by decide)).trans ((pn_sk (show (21 : Nat) ≠ 6 by decide) i).trans (if_pos ⟨rfl, rfl⟩))) rfl (by omega) (by omega) rfl (if_pos ⟨rfl, rfl⟩) ?_
        refine hg_iincN (n := 72) (i) 1 dX2_init_69 rfl rfl (by decide) (by decide) rfl rfl ?_
        refine hg_goto (tgt := 49) dX2_init_72 (by decide) ?_
        exact hg_bud (show 6 - (i + 1) ≤ 6 - i - 1 - 0 by omega) (show 42 - n - 6 * (i + 1) ≤ 42 - n - 6 * i - 6 - 0 by omega) (ih (i + 1) (by omega))
  refine hg_aload_n (n := 1) dX2_init_0 rfl rfl ?_
  refine hg_objInit (n := 4) dX2_init_1 rfl mk_X2_3 oi_i oi_c (by decide) (Nat.le_of_ble_eq_true rfl) ?_
  refine hg_aload_n (n := 5) dX2_init_4 rfl rfl ?_
  refine hg_iload_n (n := 6) dX2_init_5 rfl rfl ?_
  refine hg_putIF (n := 9) dX2_init_6 rfl fl_X2_9 rfl rfl rfl rfl rfl hs ?_
  refine hg_aload_n (n := 10) dX2_init_9 rfl rfl ?_
  refine hg_iload_n (n := 11) dX2_init_10 rfl rfl ?_
  refine hg_putIF (n := 14) dX2_init_11 rfl fl_X2_15 rfl rfl rfl rfl rfl hs ?_
  refine hg_aload_n (n := 15) dX2_init_14 rfl rfl ?_
  refine hg_iload (n := 17) dX2_init_15 rfl rfl ?_
  refine hg_putIF (n := 20) dX2_init_17 rfl fl_X2_18 rfl rfl rfl rfl rfl hs ?_
  refine hg_aload_n (n := 21) dX2_init_20 rfl rfl ?_
  refine hg_iload (n := 23) dX2_init_21 rfl rfl ?_
  refine hg_putIF (n := 26) dX2_init_23 rfl fl_X2_21 rfl rfl rfl rfl rfl hs ?_
  refine hg_aload_n (n := 27) dX2_init_26 rfl rfl ?_
  refine hg_iload (n := 29) dX2_init_27 rfl rfl ?_
  refine hg_putIF (n := 32) dX2_init_29 rfl fl_X2_24 rfl rfl rfl rfl rfl hs ?_
  refine hg_aload_n (n := 33) dX2_init_32 rfl rfl ?_
  refine hg_iload (n := 35) dX2_init_33 rfl rfl ?_
  refine hg_putIF (n := 38) dX2_init_35 rfl fl_X2_27 rfl rfl rfl rfl rfl hs ?_
  refine hg_aload_n (n := 39) dX2_init_38 rfl rfl ?_
  refine hg_iload_n (n := 40) dX2_init_39 rfl rfl ?_
  refine hg_anewarray (n := 43) (k := 21) (i := p) (a := 6) (N := n) dX2_init_40 rfl ck_X2_30 ao_RX4 rfl rfl (by omega) rfl ⟨rfl, by decide, hE, hE, (lv_cons ⟨_, hs⟩ lv_nil), (ol_some ⟨_, hs⟩ (ol_some trivial (ol_some trivial (ol_some trivial (ol_some trivial (ol_some trivial (ol_some trivial (ol_some trivial (ol_none ol_nil)))))))))⟩ ⟨Nat.le_of_ble_eq_true rfl, (show n ≤ 42 by omega)⟩ ?_
  refine hg_putRF (n := 46) dX2_init_43 rfl fl_X2_32 rfl rfl rfl rfl rfl hs (fun q h => by cases h; exact ⟨_, if_pos ⟨rfl, rfl⟩⟩) ?_
  refine hg_iconst (n := 47) (v := 0) dX2_init_46 rfl (by decide) ?_
  refine hg_istore (n := 49) dX2_init_47 rfl (by decide) rfl rfl ?_
  exact loop n 0 (by omega)

set_option maxHeartbeats 4000000 in
set_option maxRecDepth 100000 in
theorem c_X5_part_b {mi : MI_} {ml : ML_} {mr : MR_} {sh : SH_} {np nr : Nat} {nn : Nat → Nat} (hH : hs_ mr sh np nr nn) (a m k s q b : Int32) (hb : z_in a 1 6 = 0 ∨ z_in m 1 1000 = 0 ∨ z_in k 1 300 = 0 ∨ z_in s 1 300 = 0 ∨ z_in q 0 200 = 0 ∨ z_in b 0 200 = 0) : hg_Det true yX5_part md_X5_part [hv_r (some (1, 0)), hv_i a, hv_i m, hv_i k, hv_i s, hv_i q, hv_i b] (mi, ml, mr, sh) (some (hv_i (-2))) (mi, ml, mr, sh) := by
  intro Q hQ
  refine hg_intro rfl rfl rfl (Nat.le_of_ble_eq_true rfl) rfl ?_
  refine hg_iload_n (n := 1) dX5_part_0 rfl rfl ?_
  refine hg_iconst (n := 2) (v := 1) dX5_part_1 rfl (by decide) ?_
  refine hg_bipush (n := 4) (v := 6) dX5_part_2 rfl (by decide) ?_
  refine hg_callSd (n := 7) (c_X5_within _ _ _ _) dX5_part_4 rfl mk_X5_35 yl_X5_within ys_X5_within (by decide) (by decide) rfl rfl (Nat.le_of_ble_eq_true rfl) (fun h => by cases h) ?_
  refine hg_if_eq (n := 10) (tgt := 68) dX5_part_7 rfl (by decide) (fun h7 => ?_) (fun h7 => ?_)
  · refine hg_bipush (n := 70) (v := -2) dX5_part_68 rfl (by decide) ?_
    refine hg_ireturn dX5_part_70 rfl ?_
    exact hQ
  · refine hg_iload_n (n := 11) dX5_part_10 rfl rfl ?_
    refine hg_iconst (n := 12) (v := 1) dX5_part_11 rfl (by decide) ?_
    refine hg_sipush (n := 15) (v := 1000) dX5_part_12 rfl (by decide) ?_
    refine hg_callSd (n := 18) (c_X5_within _ _ _ _) dX5_part_15 rfl mk_X5_35 yl_X5_within ys_X5_within (by decide) (by decide) rfl rfl (Nat.le_of_ble_eq_true rfl) (fun h => by cases h) ?_
    refine hg_if_eq (n := 21) (tgt := 68) dX5_part_18 rfl (by decide) (fun h18 => ?_) (fun h18 => ?_)
    · refine hg_bipush (n := 70) (v := -2) dX5_part_68 rfl (by decide) ?_
      refine hg_ireturn dX5_part_70 rfl ?_
      exact hQ
    · refine hg_iload_n (n := 22) dX5_part_21 rfl rfl ?_
      refine hg_iconst (n := 23) (v := 1) dX5_part_22 rfl (by decide) ?_
      refine hg_sipush (n := 26) (v := 300) dX5_part_23 rfl (by decide) ?_
      refine hg_callSd (n := 29) (c_X5_within _ _ _ _) dX5_part_26 rfl mk_X5_35 yl_X5_within ys_X5_within (by decide) (by decide) rfl rfl (Nat.le_of_ble_eq_true rfl) (fun h => by cases h) ?_
      refine hg_if_eq (n := 32) (tgt := 68) dX5_part_29 rfl (by decide) (fun h29 => ?_) (fun h29 => ?_)
      · refine hg_bipush (n := 70) (v := -2) dX5_part_68 rfl (by decide) ?_
        refine hg_ireturn dX5_part_70 rfl ?_
        exact hQ
      · refine hg_iload (n := 34) dX5_part_32 rfl rfl ?_
        refine hg_iconst (n := 35) (v := 1) dX5_part_34 rfl (by decide) ?_
        refine hg_sipush (n := 38) (v := 300) dX5_part_35 rfl (by decide) ?_
        refine hg_callSd (n := 41) (c_X5_within _ _ _ _) dX5_part_38 rfl mk_X5_35 yl_X5_within ys_X5_within (by decide) (by decide) rfl rfl (Nat.le_of_ble_eq_true rfl) (fun h => by cases h) ?_
        refine hg_if_eq (n := 44) (tgt := 68) dX5_part_41 rfl (by decide) (fun h41 => ?_) (fun h41 => ?_)
        · refine hg_bipush (n := 70) (v := -2) dX5_part_68 rfl (by decide) ?_
          refine hg_ireturn dX5_part_70 rfl ?_
          exact hQ
        · refine hg_iload (n := 46) dX5_part_44 rfl rfl ?_
          refine hg_iconst (n := 47) (v := 0) dX5_part_46 rfl (by decide) ?_
          refine hg_sipush (n := 50) (v := 200) dX5_part_47 rfl (by decide) ?_
          refine hg_callSd (n := 53) (c_X5_within _ _ _ _) dX5_part_50 rfl mk_X5_35 yl_X5_within ys_X5_within (by decide) (by decide) rfl rfl (Nat.le_of_ble_eq_true rfl) (fun h => by cases h) ?_
          refine hg_if_eq (n := 56) (tgt := 68) dX5_part_53 rfl (by decide) (fun h53 => ?_) (fun h53 => ?_)
          · refine hg_bipush (n := 70) (v := -2) dX5_part_68 rfl (by decide) ?_
            refine hg_ireturn dX5_part_70 rfl ?_
            exact hQ
          · refine hg_iload (n := 58) dX5_part_56 rfl rfl ?_
            refine hg_iconst (n := 59) (v := 0) dX5_part_58 rfl (by decide) ?_
            refine hg_sipush (n := 62) (v := 200) dX5_part_59 rfl (by decide) ?_
            refine hg_callSd (n := 65) (c_X5_within _ _ _ _) dX5_part_62 rfl mk_X5_35 yl_X5_within ys_X5_within (by decide) (by decide) rfl rfl (Nat.le_of_ble_eq_true rfl) (fun h => by cases h) ?_
            refine hg_if_ne (n := 68) (tgt := 71) dX5_part_65 rfl (by decide) (fun h65 => ?_) (fun h65 => ?_)
            · exact absurd hb (by simp [h7, h18, h29, h41, h53, h65])
            · refine hg_bipush (n := 70) (v := -2) dX5_part_68 rfl (by decide) ?_
              refine hg_ireturn dX5_part_70 rfl ?_
              exact hQ

set_option maxHeartbeats 4000000 in
set_option maxRecDepth 100000 in
theorem c_X5_part_f {mi : MI_} {ml : ML_} {mr : MR_} {sh : SH_} {np nr : Nat} {nn : Nat → Nat} (hH : hs_ mr sh np nr nn) (hnp : mi 1 0 4 = nI np) (hn12 : np ≤ 12) (h12 : np = 12) (a m k s q b : Int32) (hb : ¬ (z_in a 1 6 = 0 ∨ z_in m 1 1000 = 0 ∨ z_in k 1 300 = 0 ∨ z_in s 1 300 = 0 ∨ z_in q 0 200 = 0 ∨ z_in b 0 200 = 0)) : hg_Det true yX5_part md_X5_part [hv_r (some (1, 0)), hv_i a, hv_i m, hv_i k, hv_i s, hv_i q, hv_i b] (mi, ml, mr, sh) (some (hv_i (-4))) (mi, ml, mr, sh) := by
  intro Q hQ
  refine hg_intro rfl rfl rfl (Nat.le_of_ble_eq_true rfl) rfl ?_
  refine hg_iload_n (n := 1) dX5_part_0 rfl rfl ?_
  refine hg_iconst (n := 2) (v := 1) dX5_part_1 rfl (by decide) ?_
  refine hg_bipush (n := 4) (v := 6) dX5_part_2 rfl (by decide) ?_
  refine hg_callSd (n := 7) (c_X5_within _ _ _ _) dX5_part_4 rfl mk_X5_35 yl_X5_within ys_X5_within (by decide) (by decide) rfl rfl (Nat.le_of_ble_eq_true rfl) (fun h => by cases h) ?_
  refine hg_if_eq (n := 10) (tgt := 68) dX5_part_7 rfl (by decide) (fun h7 => ?_) (fun h7 => ?_)
  · exact absurd (Or.inl h7) hb
  · refine hg_iload_n (n := 11) dX5_part_10 rfl rfl ?_
    refine hg_iconst (n := 12) (v := 1) dX5_part_11 rfl (by decide) ?_
    refine hg_sipush (n := 15) (v := 1000) dX5_part_12 rfl (by decide) ?_
    refine hg_callSd (n := 18) (c_X5_within _ _ _ _) dX5_part_15 rfl mk_X5_35 yl_X5_within ys_X5_within (by decide) (by decide) rfl rfl (Nat.le_of_ble_eq_true rfl) (fun h => by cases h) ?_
    refine hg_if_eq (n := 21) (tgt := 68) dX5_part_18 rfl (by decide) (fun h18 => ?_) (fun h18 => ?_)
    · exact absurd (Or.inr (Or.inl h18)) hb
    · refine hg_iload_n (n := 22) dX5_part_21 rfl rfl ?_
      refine hg_iconst (n := 23) (v := 1) dX5_part_22 rfl (by decide) ?_
      refine hg_sipush (n := 26) (v := 300) dX5_part_23 rfl (by decide) ?_
      refine hg_callSd (n := 29) (c_X5_within _ _ _ _) dX5_part_26 rfl mk_X5_35 yl_X5_within ys_X5_within (by decide) (by decide) rfl rfl (Nat.le_of_ble_eq_true rfl) (fun h => by cases h) ?_
      refine hg_if_eq (n := 32) (tgt := 68) dX5_part_29 rfl (by decide) (fun h29 => ?_) (fun h29 => ?_)
      · exact absurd (Or.inr (Or.inr (Or.inl h29))) hb
      · refine hg_iload (n := 34) dX5_part_32 rfl rfl ?_
        refine hg_iconst (n := 35) (v := 1) dX5_part_34 rfl (by decide) ?_
        refine hg_sipush (n := 38) (v := 300) dX5_part_35 rfl (by decide) ?_
        refine hg_callSd (n := 41) (c_X5_within _ _ _ _) dX5_part_38 rfl mk_X5_35 yl_X5_within ys_X5_within (by decide) (by decide) rfl rfl (Nat.le_of_ble_eq_true rfl) (fun h => by cases h) ?_
        refine hg_if_eq (n := 44) (tgt := 68) dX5_part_41 rfl (by decide) (fun h41 => ?_) (fun h41 => ?_)
        · exact absurd (Or.inr (Or.inr (Or.inr (Or.inl h41)))) hb
        · refine hg_iload (n := 46) dX5_part_44 rfl rfl ?_
          refine hg_iconst (n := 47) (v := 0) dX5_part_46 rfl (by decide) ?_
          refine hg_sipush (n := 50) (v := 200) dX5_part_47 rfl (by decide) ?_
          refine hg_callSd (n := 53) (c_X5_within _ _ _ _) dX5_part_50 rfl mk_X5_35 yl_X5_within ys_X5_within (by decide) (by decide) rfl rfl (Nat.le_of_ble_eq_true rfl) (fun h => by cases h) ?_
          refine hg_if_eq (n := 56) (tgt := 68) dX5_part_53 rfl (by decide) (fun h53 => ?_) (fun h53 => ?_)
          · exact absurd (Or.inr (Or.inr (Or.inr (Or.inr (Or.inl h53))))) hb
          · refine hg_iload (n := 58) dX5_part_56 rfl rfl ?_
            refine hg_iconst (n := 59) (v := 0) dX5_part_58 rfl (by decide) ?_
            refine hg_sipush (n := 62) (v := 200) dX5_part_59 rfl (by decide) ?_
            refine hg_callSd (n := 65) (c_X5_within _ _ _ _) dX5_part_62 rfl mk_X5_35 yl_X5_within ys_X5_within (by decide) (by decide) rfl rfl (Nat.le_of_ble_eq_true rfl) (fun h => by cases h) ?_
            refine hg_if_ne (n := 68) (tgt := 71) dX5_part_65 rfl (by decide) (fun h65 => ?_) (fun h65 => ?_)
            · refine hg_aload_n (n := 72) dX5_part_71 rfl rfl ?_
              refine hg_getN (n := 75) (np) dX5_part_72 rfl fl_X5_39 rfl rfl hH.1 hnp ?_
              refine hg_bipush (n := 77) (v := 12) dX5_part_75 rfl (by decide) ?_
              refine hg_icmp_ltN (n := 80) (tgt := 83) (np) (12) dX5_part_77 rfl (by decide) (by omega) (by omega) (fun h77 => ?_) (fun h77 => ?_)
              · exact absurd h77 (by omega)
              · refine hg_bipush (n := 82) (v := -4) dX5_part_80 rfl (by decide) ?_
                refine hg_ireturn dX5_part_82 rfl ?_
                exact hQ
            · exact absurd (Or.inr (Or.inr (Or.inr (Or.inr (Or.inr h65))))) hb

def pq_ (np n : Nat) (m k s q b : Int32) (M : Me_) : Me_ := pi_m np n (nI np) m k s q b (nw_ 4 np 10 M)
def pt_m (np n : Nat) (m k s q b : Int32) (M : Me_) : Me_ := (u_3 (pq_ np n m k s q b M).1 1 0 4 (nI (np + 1)), (pq_ np n m k s q b M).2.1, u_3 (pq_ np n m k s q b M).2.2.1 8 0 np (some (4, np)), (pq_ np n m k s q b M).2.2.2)
set_option maxHeartbeats 4000000 in
set_option maxRecDepth 100000 in
theorem c_X5_part {mi : MI_} {ml : ML_} {mr : MR_} {sh : SH_} {np nr : Nat} {nn : Nat → Nat} (hH : hs_ mr sh np nr nn) (hnp : mi 1 0 4 = nI np) (hn12 : np ≤ 12) (h12 : np < 12) (hE4 : ∀ p, np ≤ p → sh 4 p = none) (hE21 : ∀ p, np ≤ p → sh 21 p = none) (hE6 : ∀ s, 6 * np ≤ s → sh 6 s = none) (n : Nat) (h1 : 1 ≤ n) (h6 : n ≤ 6) (m k s q b : Int32) (hb : ¬ (z_in (nI n) 1 6 = 0 ∨ z_in m 1 1000 = 0 ∨ z_in k 1 300 = 0 ∨ z_in s 1 300 = 0 ∨ z_in q 0 200 = 0 ∨ z_in b 0 200 = 0)) : hg_Det true yX5_part md_X5_part [hv_r (some (1, 0)), hv_i (nI n), hv_i m, hv_i k, hv_i s, hv_i q, hv_i b] (mi, ml, mr, sh) (some (hv_i (nI np))) (pt_m np n m k s q b (mi, ml, mr, sh)) := by
  intro Q hQ
  refine hg_intro rfl rfl rfl (Nat.le_of_ble_eq_true rfl) rfl ?_
  refine hg_iload_n (n := 1) dX5_part_0 rfl rfl ?_
  refine hg_iconst (n := 2) (v := 1) dX5_part_1 rfl (by decide) ?_
  refine hg_bipush (n := 4) (v := 6) dX5_part_2 rfl (by decide) ?_
  refine hg_callSd (n := 7) (c_X5_within _ _ _ _) dX5_part_4 rfl mk_X5_35 yl_X5_within ys_X5_within (by decide) (by decide) rfl rfl (Nat.le_of_ble_eq_true rfl) (fun h => by cases h) ?_
  refine hg_if_eq (n := 10) (tgt := 68) dX5_part_7 rfl (by decide) (fun h7 => ?_) (fun h7 => ?_)
  · exact absurd (Or.inl h7) hb
  · refine hg_iload_n (n := 11) dX5_part_10 rfl rfl ?_
    refine hg_iconst (n := 12) (v := 1) dX5_part_11 rfl (by decide) ?_
    refine hg_sipush (n := 15) (v := 1000) dX5_part_12 rfl (by decide) ?_
    refine hg_callSd (n := 18) (c_X5_within _ _ _ _) dX5_part_15 rfl mk_X5_35 yl_X5_within ys_X5_within (by decide) (by decide) rfl rfl (Nat.le_of_ble_eq_true rfl) (fun h => by cases h) ?_
    refine hg_if_eq (n := 21) (tgt := 68) dX5_part_18 rfl (by decide) (fun h18 => ?_) (fun h18 => ?_)
    · exact absurd (Or.inr (Or.inl h18)) hb
    · refine hg_iload_n (n := 22) dX5_part_21 rfl rfl ?_
      refine hg_iconst (n := 23) (v := 1) dX5_part_22 rfl (by decide) ?_
      refine hg_sipush (n := 26) (v := 300) dX5_part_23 rfl (by decide) ?_
      refine hg_callSd (n := 29) (c_X5_within _ _ _ _) dX5_part_26 rfl mk_X5_35 yl_X5_within ys_X5_within (by decide) (by decide) rfl rfl (Nat.le_of_ble_eq_true rfl) (fun h => by cases h) ?_
      refine hg_if_eq (n := 32) (tgt := 68) dX5_part_29 rfl (by decide) (fun h29 => ?_) (fun h29 => ?_)
      · exact absurd (Or.inr (Or.inr (Or.inl h29))) hb
      · refine hg_iload (n := 34) dX5_part_32 rfl rfl ?_
        refine hg_iconst (n := 35) (v := 1) dX5_part_34 rfl (by decide) ?_
        refine hg_sipush (n := 38) (v := 300) dX5_part_35 rfl (by decide) ?_
        refine hg_callSd (n := 41) (c_X5_within _ _ _ _) dX5_part_38 rfl mk_X5_35 yl_X5_within ys_X5_within (by decide) (by decide) rfl rfl (Nat.le_of_ble_eq_true rfl) (fun h => by cases h) ?_
        refine hg_if_eq (n := 44) (tgt := 68) dX5_part_41 rfl (by decide) (fun h41 => ?_) (fun h41 => ?_)
        · exact absurd (Or.inr (Or.inr (Or.inr (Or.inl h41)))) hb
        · refine hg_iload (n := 46) dX5_part_44 rfl rfl ?_
          refine hg_iconst (n := 47) (v := 0) dX5_part_46 rfl (by decide) ?_
          refine hg_sipush (n := 50) (v := 200) dX5_part_47 rfl (by decide) ?_
          refine hg_callSd (n := 53) (c_X5_within _ _ _ _) dX5_part_50 rfl mk_X5_35 yl_X5_within ys_X5_within (by decide) (by decide) rfl rfl (Nat.le_of_ble_eq_true rfl) (fun h => by cases h) ?_
          refine hg_if_eq (n := 56) (tgt := 68) dX5_part_53 rfl (by decide) (fun h53 => ?_) (fun h53 => ?_)
          · exact absurd (Or.inr (Or.inr (Or.inr (Or.inr (Or.inl h53))))) hb
          · refine hg_iload (n := 58) dX5_part_56 rfl rfl ?_
            refine hg_iconst (n := 59) (v := 0) dX5_part_58 rfl (by decide) ?_
            refine hg_sipush (n := 62) (v := 200) dX5_part_59 rfl (by decide) ?_
            refine hg_callSd (n := 65) (c_X5_within _ _ _ _) dX5_part_62 rfl mk_X5_35 yl_X5_within ys_X5_within (by decide) (by decide) rfl rfl (Nat.le_of_ble_eq_true rfl) (fun h => by cases h) ?_
            refine hg_if_ne (n := 68) (tgt := 71) dX5_part_65 rfl (by decide) (fun h65 => ?_) (fun h65 => ?_)
            · refine hg_aload_n (n := 72) dX5_part_71 rfl rfl ?_
              refine hg_getN (n := 75) (np) dX5_part_72 rfl fl_X5_39 rfl rfl hH.1 hnp ?_
              refine hg_bipush (n := 77) (v := 12) dX5_part_75 rfl (by decide) ?_
              refine hg_icmp_ltN (n := 80) (tgt := 83) (np) (12) dX5_part_77 rfl (by decide) (by omega) (by omega) (fun h77 => ?_) (fun h77 => ?_)
              · refine hg_aload_n (n := 84) dX5_part_83 rfl rfl ?_
                refine hg_getR (n := 87) (r := some (8, 0)) dX5_part_84 rfl fl_X5_11 rfl rfl hH.1 hH.2.1.1 ?_
                refine hg_aload_n (n := 88) dX5_part_87 rfl rfl ?_
                refine hg_getN (n := 91) (np) dX5_part_88 rfl fl_X5_39 rfl rfl hH.1 hnp ?_
                refine hg_new (n := 94) (k := 4) (i := np) dX5_part_91 rfl ck_X5_9 hc_2 (by decide) rfl ⟨rfl, by decide, (hE4 np (Nat.le_refl np)), (hE4 np (Nat.le_refl np)), (lv_cons trivial (lv_cons ⟨_, hH.2.2.1⟩ lv_nil)), (ol_some ⟨_, hH.1⟩ (ol_some trivial (ol_some trivial (ol_some trivial (ol_some trivial (ol_some trivial (ol_some trivial ol_nil)))))))⟩ ⟨Nat.le_of_ble_eq_true rfl, Nat.le_of_ble_eq_true rfl⟩ ?_
                refine hg_dup (n := 95) dX5_part_94 rfl rfl ?_
                refine hg_aload_n (n := 96) dX5_part_95 rfl rfl ?_
                refine hg_getN (n := 99) (np) dX5_part_96 rfl fl_X5_39 rfl rfl ((u_2_k (by decide)).trans hH.1) ((u_n_k (by decide)).trans hnp) ?_
                refine hg_iload_n (n := 100) dX5_part_99 rfl rfl ?_
                refine hg_iload_n (n := 101) dX5_part_100 rfl rfl ?_
                refine hg_iload_n (n := 102) dX5_part_101 rfl rfl ?_
                refine hg_iload (n := 104) dX5_part_102 rfl rfl ?_
                refine hg_iload (n := 106) dX5_part_104 rfl rfl ?_
                refine hg_iload (n := 108) dX5_part_106 rfl rfl ?_
                refine hg_callId (n := 111) (c_X2_init (p := np) h1 h6 (if_pos ⟨rfl, rfl⟩) ((u_2_k (by decide)).trans (hE21 np (Nat.le_refl np))) (fun i hi => (u_2_k (by decide)).trans (hE6 (6 * np + i) (by omega))) _ _ _ _ _ _) dX5_part_108 rfl mk_X5_43 yl_X2_init rfl rfl yi_X2_init (by decide) (by decide) rfl rfl (Nat.le_of_ble_eq_true rfl) (fun _ => ⟨rfl, (lv_cons ⟨_, if_pos ⟨rfl, rfl⟩⟩ (lv_cons trivial (lv_cons ⟨_, hH.2.2.1⟩ lv_nil))), (ol_some ⟨_, hH.1⟩ (ol_some trivial (ol_some trivial (ol_some trivial (ol_some trivial (ol_some trivial (ol_some trivial ol_nil))))))), fun k i n h => lv_u ⟨n, h⟩⟩) ?_
                refine hg_aastore (n := 112) (len := 12) (np) dX5_part_111 rfl (by decide) rfl hc_2 rfl ((pn_sk (by decide) n).trans hH.2.2.1) rfl (by omega) (by omega) rfl ((pn_sk (by decide) n).trans (show u_2 sh 4 np (some 10) 4 np = some 10 from if_pos ⟨rfl, rfl⟩)) ?_
                refine hg_aload_n (n := 113) dX5_part_112 rfl rfl ?_
                refine hg_dup (n := 114) dX5_part_113 rfl rfl ?_
                refine hg_getN (n := 117) (np) dX5_part_114 rfl fl_X5_39 rfl rfl ((pn_sk (by decide) n).trans hH.1) ((pn_ik (by decide) n).trans hnp) ?_
                refine hg_dup_x1 (n := 118) dX5_part_117 rfl rfl rfl ?_
                refine hg_iconst (n := 119) (v := 1) dX5_part_118 rfl (by decide) ?_
                refine hg_iaddN (n := 120) (np) (1) dX5_part_119 rfl ?_
                refine hg_putI (n := 123) dX5_part_120 rfl fl_X5_39 rfl rfl ((pn_sk (by decide) n).trans hH.1) ?_
                refine hg_ireturn dX5_part_123 rfl ?_
                exact hQ
              · exact absurd h77 (by omega)
            · exact absurd (Or.inr (Or.inr (Or.inr (Or.inr (Or.inr h65))))) hb

set_option maxHeartbeats 4000000 in
set_option maxRecDepth 100000 in
theorem c_X5_run_b {mi : MI_} {ml : ML_} {mr : MR_} {sh : SH_} {np nr : Nat} {nn : Nat → Nat} (hH : hs_ mr sh np nr nn) (x : Int32) (hb : z_in x 0 2 = 0) : hg_Det true yX5_run md_X5_run [hv_r (some (1, 0)), hv_i x] (mi, ml, mr, sh) (some (hv_i (-2))) (mi, ml, mr, sh) := by
  intro Q hQ
  refine hg_intro rfl rfl rfl (Nat.le_of_ble_eq_true rfl) rfl ?_
  refine hg_aload_n (n := 1) dX5_run_0 rfl rfl ?_
  refine hg_iload_n (n := 2) dX5_run_1 rfl rfl ?_
  refine hg_callVd (n := 5) (c_X5_furnaceAt_b hH _ hb) dX5_run_2 rfl mk_X5_83 yl_X5_furnaceAt yv_X5_furnaceAt rfl hH.1 (by decide) (by decide) rfl rfl (Nat.le_of_ble_eq_true rfl) (fun h => by cases h) ?_
  refine hg_astore_n (n := 6) dX5_run_5 rfl (by decide) rfl rfl ?_
  refine hg_aload_n (n := 7) dX5_run_6 rfl rfl ?_
  refine hg_ifnonnull (n := 10) (tgt := 13) dX5_run_7 rfl (by decide) (fun q7 h7 => ?_) (fun h7 => ?_)
  · cases h7
  · refine hg_bipush (n := 12) (v := -2) dX5_run_10 rfl (by decide) ?_
    refine hg_ireturn dX5_run_12 rfl ?_
    exact hQ

set_option maxHeartbeats 4000000 in
set_option maxRecDepth 100000 in
theorem c_X5_run_n {mi : MI_} {ml : ML_} {mr : MR_} {sh : SH_} {np nr : Nat} {nn : Nat → Nat} (hH : hs_ mr sh np nr nn) (f : Nat) (hf : f < 3) {pl : Nat → Option Nat} (hfp : fp_ mr f np pl) {cu : Option Nat} (hc : fc_ mr sh f cu) (hno : ¬ ir_ cu = 0 ∨ mi 3 f 6 = 0 ∨ ip_ pl 4 = 0) : hg_Det true yX5_run md_X5_run [hv_r (some (1, 0)), hv_i (nI f)] (mi, ml, mr, sh) (some (hv_i (-3))) (mi, ml, mr, sh) := by
  intro Q hQ
  refine hg_intro rfl rfl rfl (Nat.le_of_ble_eq_true rfl) rfl ?_
  have h4 := ip_le pl 4
  refine hg_aload_n (n := 1) dX5_run_0 rfl rfl ?_
  refine hg_iload_n (n := 2) dX5_run_1 rfl rfl ?_
  refine hg_callVd (n := 5) (c_X5_furnaceAt hH f hf) dX5_run_2 rfl mk_X5_83 yl_X5_furnaceAt yv_X5_furnaceAt rfl hH.1 (by decide) (by decide) rfl rfl (Nat.le_of_ble_eq_true rfl) (fun h => by cases h) ?_
  refine hg_astore_n (n := 6) dX5_run_5 rfl (by decide) rfl rfl ?_
  refine hg_aload_n (n := 7) dX5_run_6 rfl rfl ?_
  refine hg_ifnonnull (n := 10) (tgt := 13) dX5_run_7 rfl (by decide) (fun q7 h7 => ?_) (fun h7 => ?_)
  · refine hg_aload_n (n := 14) dX5_run_13 rfl rfl ?_
    refine hg_callVd (n := 17) (c_X0_isRunning (hs_F hH hf) hc) dX5_run_14 rfl mk_X5_90 yl_X0_isRunning yv_X0_isRunning rfl (hs_F hH hf).1 (by decide) (by decide) rfl rfl (Nat.le_of_ble_eq_true rfl) (fun h => by cases h) ?_
    refine hg_if_ne (n := 20) (tgt := 34) dX5_run_17 rfl (by decide) (fun h17 => ?_) (fun h17 => ?_)
    · refine hg_bipush (n := 36) (v := -3) dX5_run_34 rfl (by decide) ?_
      refine hg_ireturn dX5_run_36 rfl ?_
      exact hQ
    · refine hg_aload_n (n := 21) dX5_run_20 rfl rfl ?_
      refine hg_getI (n := 24) dX5_run_21 rfl fl_X5_98 rfl rfl (hs_F hH hf).1 ?_
      refine hg_if_eq (n := 27) (tgt := 34) dX5_run_24 rfl (by decide) (fun h24 => ?_) (fun h24 => ?_)
      · refine hg_bipush (n := 36) (v := -3) dX5_run_34 rfl (by decide) ?_
        refine hg_ireturn dX5_run_36 rfl ?_
        exact hQ
      · refine hg_aload_n (n := 28) dX5_run_27 rfl rfl ?_
        refine hg_callVd (n := 31) (c_X0_partsInside (hs_F hH hf) hfp (hs_P hH)) dX5_run_28 rfl mk_X5_121 yl_X0_partsInside yv_X0_partsInside rfl (hs_F hH hf).1 (by decide) (by decide) rfl rfl (Nat.le_of_ble_eq_true rfl) (fun h => by cases h) ?_
        refine hg_if_neN (n := 34) (tgt := 37) (ip_ pl 4) dX5_run_31 rfl (by decide) (by omega) (fun h31 => ?_) (fun h31 => ?_)
        · exact absurd hno (by simp [h17, h24, h31])
        · refine hg_bipush (n := 36) (v := -3) dX5_run_34 rfl (by decide) ?_
          refine hg_ireturn dX5_run_36 rfl ?_
          exact hQ
  · cases h7

set_option maxHeartbeats 4000000 in
set_option maxRecDepth 100000 in
theorem c_X5_run_f {mi : MI_} {ml : ML_} {mr : MR_} {sh : SH_} {np nr : Nat} {nn : Nat → Nat} (hH : hs_ mr sh np nr nn) (f : Nat) (hf : f < 3) {pl : Nat → Option Nat} (hfp : fp_ mr f np pl) {cu : Option Nat} (hc : fc_ mr sh f cu) (hno : ¬ (¬ ir_ cu = 0 ∨ mi 3 f 6 = 0 ∨ ip_ pl 4 = 0)) (hnr : mi 1 0 5 = nI nr) (hn100 : nr ≤ 100) (h100 : nr = 100) : hg_Det true yX5_run md_X5_run [hv_r (some (1, 0)), hv_i (nI f)] (mi, ml, mr, sh) (some (hv_i (-4))) (mi, ml, mr, sh) := by
  intro Q hQ
  refine hg_intro rfl rfl rfl (Nat.le_of_ble_eq_true rfl) rfl ?_
  have h4 := ip_le pl 4
  refine hg_aload_n (n := 1) dX5_run_0 rfl rfl ?_
  refine hg_iload_n (n := 2) dX5_run_1 rfl rfl ?_
  refine hg_callVd (n := 5) (c_X5_furnaceAt hH f hf) dX5_run_2 rfl mk_X5_83 yl_X5_furnaceAt yv_X5_furnaceAt rfl hH.1 (by decide) (by decide) rfl rfl (Nat.le_of_ble_eq_true rfl) (fun h => by cases h) ?_
  refine hg_astore_n (n := 6) dX5_run_5 rfl (by decide) rfl rfl ?_
  refine hg_aload_n (n := 7) dX5_run_6 rfl rfl ?_
  refine hg_ifnonnull (n := 10) (tgt := 13) dX5_run_7 rfl (by decide) (fun q7 h7 => ?_) (fun h7 => ?_)
  · refine hg_aload_n (n := 14) dX5_run_13 rfl rfl ?_
    refine hg_callVd (n := 17) (c_X0_isRunning (hs_F hH hf) hc) dX5_run_14 rfl mk_X5_90 yl_X0_isRunning yv_X0_isRunning rfl (hs_F hH hf).1 (by decide) (by decide) rfl rfl (Nat.le_of_ble_eq_true rfl) (fun h => by cases h) ?_
    refine hg_if_ne (n := 20) (tgt := 34) dX5_run_17 rfl (by decide) (fun h17 => ?_) (fun h17 => ?_)
    · exact absurd (Or.inl h17) hno
    · refine hg_aload_n (n := 21) dX5_run_20 rfl rfl ?_
      refine hg_getI (n := 24) dX5_run_21 rfl fl_X5_98 rfl rfl (hs_F hH hf).1 ?_
      refine hg_if_eq (n := 27) (tgt := 34) dX5_run_24 rfl (by decide) (fun h24 => ?_) (fun h24 => ?_)
      · exact absurd (Or.inr (Or.inl h24)) hno
      · refine hg_aload_n (n := 28) dX5_run_27 rfl rfl ?_
        refine hg_callVd (n := 31) (c_X0_partsInside (hs_F hH hf) hfp (hs_P hH)) dX5_run_28 rfl mk_X5_121 yl_X0_partsInside yv_X0_partsInside rfl (hs_F hH hf).1 (by decide) (by decide) rfl rfl (Nat.le_of_ble_eq_true rfl) (fun h => by cases h) ?_
        refine hg_if_neN (n := 34) (tgt := 37) (ip_ pl 4) dX5_run_31 rfl (by decide) (by omega) (fun h31 => ?_) (fun h31 => ?_)
        · refine hg_aload_n (n := 38) dX5_run_37 rfl rfl ?_
          refine hg_getN (n := 41) (nr) dX5_run_38 rfl fl_X5_124 rfl rfl hH.1 hnr ?_
          refine hg_bipush (n := 43) (v := 100) dX5_run_41 rfl (by decide) ?_
          refine hg_icmp_ltN (n := 46) (tgt := 49) (nr) (100) dX5_run_43 rfl (by decide) (by omega) (by omega) (fun h43 => ?_) (fun h43 => ?_)
          · exact absurd h43 (by omega)
          · refine hg_bipush (n := 48) (v := -4) dX5_run_46 rfl (by decide) ?_
            refine hg_ireturn dX5_run_48 rfl ?_
            exact hQ
        · exact absurd (Or.inr (Or.inr h31)) hno
  · cases h7

theorem u_2_ne {α : Type} {X : Nat → Nat → α} {k i k' i' : Nat} {x : α} (h : ¬ (k' = k ∧ i' = i)) : u_2 X k i x k' i' = X k' i' := if_neg h
def rn_i (Y : MI_) (f nr : Nat) : MI_ := u_3 (u_3 (u_3 (u_n Y 5 nr 0) 5 nr 0 (nI f)) 3 f 7 0) 1 0 5 (nI (nr + 1))
def rn_r (R : MR_) (f nr : Nat) (pl : Nat → Option Nat) : MR_ := bg_r (u_3 (u_n R 5 nr none) 10 0 nr (some (5, nr))) f nr pl 4
set_option maxHeartbeats 4000000 in
set_option maxRecDepth 100000 in
theorem c_X5_run {mi : MI_} {ml : ML_} {mr : MR_} {sh : SH_} {np nr : Nat} {nn : Nat → Nat} (hH : hs_ mr sh np nr nn) (f : Nat) (hf : f < 3) {pl : Nat → Option Nat} (hfp : fp_ mr f np pl) {cu : Option Nat} (hc : fc_ mr sh f cu) (hno : ¬ (¬ ir_ cu = 0 ∨ mi 3 f 6 = 0 ∨ ip_ pl 4 = 0)) (hnr : mi 1 0 5 = nI nr) (hn100 : nr ≤ 100) (h100 : nr < 100) (hE5 : ∀ r, nr ≤ r → sh 5 r = none) : hg_Det true yX5_run md_X5_run [hv_r (some (1, 0)), hv_i (nI f)] (mi, ml, mr, sh) (some (hv_i (nI nr))) (rn_i mi f nr, u_n ml 5 nr 0, rn_r mr f nr pl, u_2 sh 5 nr (some 6)) := by
  intro Q hQ
  refine hg_intro rfl rfl rfl (Nat.le_of_ble_eq_true rfl) rfl ?_
  have h4 := ip_le pl 4
  refine hg_aload_n (n := 1) dX5_run_0 rfl rfl ?_
  refine hg_iload_n (n := 2) dX5_run_1 rfl rfl ?_
  refine hg_callVd (n := 5) (c_X5_furnaceAt hH f hf) dX5_run_2 rfl mk_X5_83 yl_X5_furnaceAt yv_X5_furnaceAt rfl hH.1 (by decide) (by decide) rfl rfl (Nat.le_of_ble_eq_true rfl) (fun h => by cases h) ?_
  refine hg_astore_n (n := 6) dX5_run_5 rfl (by decide) rfl rfl ?_
  refine hg_aload_n (n := 7) dX5_run_6 rfl rfl ?_
  refine hg_ifnonnull (n := 10) (tgt := 13) dX5_run_7 rfl (by decide) (fun q7 h7 => ?_) (fun h7 => ?_)
  · refine hg_aload_n (n := 14) dX5_run_13 rfl rfl ?_
    refine hg_callVd (n := 17) (c_X0_isRunning (hs_F hH hf) hc) dX5_run_14 rfl mk_X5_90 yl_X0_isRunning yv_X0_isRunning rfl (hs_F hH hf).1 (by decide) (by decide) rfl rfl (Nat.le_of_ble_eq_true rfl) (fun h => by cases h) ?_
    refine hg_if_ne (n := 20) (tgt := 34) dX5_run_17 rfl (by decide) (fun h17 => ?_) (fun h17 => ?_)
    · exact absurd (Or.inl h17) hno
    · refine hg_aload_n (n := 21) dX5_run_20 rfl rfl ?_
      refine hg_getI (n := 24) dX5_run_21 rfl fl_X5_98 rfl rfl (hs_F hH hf).1 ?_
      refine hg_if_eq (n := 27) (tgt := 34) dX5_run_24 rfl (by decide) (fun h24 => ?_) (fun h24 => ?_)
      · exact absurd (Or.inr (Or.inl h24)) hno
      · refine hg_aload_n (n := 28) dX5_run_27 rfl rfl ?_
        refine hg_callVd (n := 31) (c_X0_partsInside (hs_F hH hf) hfp (hs_P hH)) dX5_run_28 rfl mk_X5_121 yl_X0_partsInside yv_X0_partsInside rfl (hs_F hH hf).1 (by decide) (by decide) rfl rfl (Nat.le_of_ble_eq_true rfl) (fun h => by cases h) ?_
        refine hg_if_neN (n := 34) (tgt := 37) (ip_ pl 4) dX5_run_31 rfl (by decide) (by omega) (fun h31 => ?_) (fun h31 => ?_)
        · refine hg_aload_n (n := 38) dX5_run_37 rfl rfl ?_
          refine hg_getN (n := 41) (nr) dX5_run_38 rfl fl_X5_124 rfl rfl hH.1 hnr ?_
          refine hg_bipush (n := 43) (v := 100) dX5_run_41 rfl (by decide) ?_
          refine hg_icmp_ltN (n := 46) (tgt := 49) (nr) (100) dX5_run_43 rfl (by decide) (by omega) (by omega) (fun h43 => ?_) (fun h43 => ?_)
          · refine hg_new (n := 52) (k := 5) (i := nr) dX5_run_49 rfl ck_X5_21 hc_3 (by decide) rfl ⟨rfl, by decide, (hE5 nr (Nat.le_refl nr)), (hE5 nr (Nat.le_refl nr)), lv_nil, (ol_some ⟨_, hH.1⟩ (ol_some trivial (ol_some ⟨_, (hs_F hH hf).1⟩ (ol_none ol_nil))))⟩ ⟨Nat.le_of_ble_eq_true rfl, Nat.le_of_ble_eq_true rfl⟩ ?_
            refine hg_dup (n := 53) dX5_run_52 rfl rfl ?_
            refine hg_iload_n (n := 54) dX5_run_53 rfl rfl ?_
            refine hg_callId (n := 57) (c_X3_init (if_pos ⟨rfl, rfl⟩) _) dX5_run_54 rfl mk_X5_127 yl_X3_init rfl rfl yi_X3_init (by decide) (by decide) rfl rfl (Nat.le_of_ble_eq_true rfl) (fun h => by cases h) ?_
            refine hg_astore_n (n := 58) dX5_run_57 rfl (by decide) rfl rfl ?_
            refine hg_aload_n (n := 59) dX5_run_58 rfl rfl ?_
            refine hg_getR (n := 62) (r := some (10, 0)) dX5_run_59 rfl fl_X5_23 rfl rfl ((u_2_k (by decide)).trans hH.1) ((u_n_k (by decide)).trans hH.2.1.2.2.1) ?_
            refine hg_aload_n (n := 63) dX5_run_62 rfl rfl ?_
            refine hg_getN (n := 66) (nr) dX5_run_63 rfl fl_X5_124 rfl rfl ((u_2_k (by decide)).trans hH.1) ((u_3_k (by decide)).trans ((u_n_k (by decide)).trans hnr)) ?_
            refine hg_aload_n (n := 67) dX5_run_66 rfl rfl ?_
            refine hg_aastore (n := 68) (len := 100) (nr) dX5_run_67 rfl (by decide) rfl hc_3 rfl ((u_2_k (by decide)).trans hH.2.2.2.2.1) rfl (by omega) (by omega) rfl (if_pos ⟨rfl, rfl⟩) ?_
            have hH3 : hs_ (u_3 (u_n mr 5 nr none) 10 0 nr (some (5, nr))) (u_2 sh 5 nr (some 6)) np nr nn := hs_mono hH (fun k i j h _ => (u_3_ne _ _ (by omega)).trans (u_n_k (by omega))) (fun k i n h => (u_2_ne (fun e => by rw [e.1, e.2, hE5 nr (Nat.le_refl nr)] at h; cases h)).trans h)
            have hfp3 : fp_ (u_3 (u_n mr 5 nr none) 10 0 nr (some (5, nr))) f np pl := fun i hi => ⟨((u_3_k (by decide)).trans (u_n_k (by decide))).trans (hfp i hi).1, (hfp i hi).2⟩
            refine hg_aload_n (n := 69) dX5_run_68 rfl rfl ?_
            refine hg_aload_n (n := 70) dX5_run_69 rfl rfl ?_
            refine hg_callVd (n := 73) (c_X0_begin (hs_F hH3 hf) hfp3 (hs_P hH3) (r := nr) (if_pos ⟨rfl, rfl⟩)) dX5_run_70 rfl mk_X5_129 yl_X0_begin yv_X0_begin rfl (hs_F hH3 hf).1 (by decide) (by decide) rfl rfl (Nat.le_of_ble_eq_true rfl) (fun h => by cases h) ?_
            refine hg_aload_n (n := 74) dX5_run_73 rfl rfl ?_
            refine hg_dup (n := 75) dX5_run_74 rfl rfl ?_
            refine hg_getN (n := 78) (nr) dX5_run_75 rfl fl_X5_124 rfl rfl ((u_2_k (by decide)).trans hH.1) ((u_3_k (by decide)).trans ((u_3_k (by decide)).trans ((u_n_k (by decide)).trans hnr))) ?_
            refine hg_dup_x1 (n := 79) dX5_run_78 rfl rfl rfl ?_
            refine hg_iconst (n := 80) (v := 1) dX5_run_79 rfl (by decide) ?_
            refine hg_iaddN (n := 81) (nr) (1) dX5_run_80 rfl ?_
            refine hg_putI (n := 84) dX5_run_81 rfl fl_X5_124 rfl rfl ((u_2_k (by decide)).trans hH.1) ?_
            refine hg_ireturn dX5_run_84 rfl ?_
            exact hQ
          · exact absurd h43 (by omega)
        · exact absurd (Or.inr (Or.inr h31)) hno
  · cases h7

