def bg_r (R : MR_) (f r : Nat) (pl : Nat → Option Nat) : Nat → MR_
  | 0 => u_3 R 3 f 12 (some (5, r))
  | i + 1 => (pl i).elim (bg_r R f r pl i) (fun p => u_3 (bg_r R f r pl i) 4 p 9 (some (5, r)))
theorem bg_k {R : MR_} {f r : Nat} {pl : Nat → Option Nat} {k a b : Nat} (h3 : k ≠ 3) (h4 : k ≠ 4) : ∀ i, bg_r R f r pl i k a b = R k a b
  | 0 => u_3_k h3
  | i + 1 => by
    rw [bg_r]
    cases pl i with
    | none => exact bg_k h3 h4 i
    | some p => exact (u_3_k h4).trans (bg_k h3 h4 i)
theorem bg_3 {R : MR_} {f r : Nat} {pl : Nat → Option Nat} {a b : Nat} (h : ¬ (a = f ∧ b = 12)) : ∀ i, bg_r R f r pl i 3 a b = R 3 a b
  | 0 => u_3_ne _ _ (fun q => h q.2)
  | i + 1 => by
    rw [bg_r]
    cases pl i with
    | none => exact bg_3 h i
    | some p => exact (u_3_k (by decide)).trans (bg_3 h i)
theorem bg_fs {R : MR_} {sh : SH_} {f r : Nat} {pl : Nat → Option Nat} (h : fs_ R sh f) (i : Nat) : fs_ (bg_r R f r pl i) sh f := ⟨h.1, fun j hj => ⟨(bg_3 (by omega) i).trans (h.2 j hj).1, (h.2 j hj).2⟩⟩
set_option maxHeartbeats 4000000 in
set_option maxRecDepth 100000 in
theorem c_X0_begin {mi : MI_} {ml : ML_} {mr : MR_} {sh : SH_} {f : Nat} (hF : fs_ mr sh f) {np : Nat} {pl : Nat → Option Nat} (hfp : fp_ mr f np pl) {nn : Nat → Nat} (hps : ps_ mr sh np nn) {r : Nat} (hr : sh 5 r = some 6) : hg_Det false yX0_begin md_X0_begin [hv_r (some (3, f)), hv_r (some (5, r))] (mi, ml, mr, sh) none (u_3 mi 3 f 7 0, ml, bg_r mr f r pl 4, sh) := by
  intro Q hQ
  refine hg_intro rfl rfl rfl (Nat.le_of_ble_eq_true rfl) rfl ?_
  have loop : ∀ m i, i + m = 4 → hg_G md_X0_begin false sh Q 0 0 12 [some (hv_r (some (3, f))), some (hv_r (some (5, r))), some (hv_i (nI i))] [] (u_3 mi 3 f 7 0, ml, bg_r mr f r pl i, sh) := by
    intro m
    induction m with
    | zero =>
      intro i hi
      refine hg_iload_n (n := 13) dX0_begin_12 rfl rfl ?_
      refine hg_iconst (n := 14) (v := 4) dX0_begin_13 rfl (by decide) ?_
      refine hg_icmp_geN (n := 17) (tgt := 42) (i) (4) dX0_begin_14 rfl (by decide) (by omega) (by omega) (fun h14 => ?_) (fun h14 => ?_)
      · have e := show i = 4 by omega
        subst e
        refine hg_return dX0_begin_42 rfl ?_
        exact hQ
      · exact absurd h14 (by omega)
    | succ m ih =>
      intro i hi
      cases hpi : pl i with
      | none =>
        refine hg_iload_n (n := 13) dX0_begin_12 rfl rfl ?_
        refine hg_iconst (n := 14) (v := 4) dX0_begin_13 rfl (by decide) ?_
        refine hg_icmp_geN (n := 17) (tgt := 42) (i) (4) dX0_begin_14 rfl (by decide) (by omega) (by omega) (fun h14 => ?_) (fun h14 => ?_)
        · exact absurd h14 (by omega)
        · refine hg_aload_n (n := 18) dX0_begin_17 rfl rfl ?_
          refine hg_getR (n := 21) (r := some (15, f)) dX0_begin_18 rfl fl_X0_11 rfl rfl (bg_fs (r := r) (pl := pl) hF i).1 ((bg_fs (r := r) (pl := pl) hF i).2 0 (by decide)).1 ?_
          refine hg_iload_n (n := 22) dX0_begin_21 rfl rfl ?_
          refine hg_aaload (n := 23) (len := 4) (i) (r := none) dX0_begin_22 rfl (by decide) rfl rfl ((bg_fs (r := r) (pl := pl) hF i).2 0 (by decide)).2 rfl (by omega) (by omega) ((bg_k (by decide) (by decide) i).trans ((hfp i (by omega)).1.trans (by rw [hpi]; rfl))) ?_
          refine hg_ifnull (n := 26) (tgt := 36) dX0_begin_23 rfl (by decide) (fun h23 => ?_) (fun q23 h23 => ?_)
          · refine hg_iincN (n := 39) (i) 1 dX0_begin_36 rfl rfl (by decide) (by decide) rfl rfl ?_
            refine hg_goto (tgt := 12) dX0_begin_39 (by decide) ?_
            refine hg_memo ?_ (ih (i + 1) (by omega))
            rw [bg_r, hpi]
            rfl
          · cases h23
      | some p =>
        have hp := (hfp i (by omega)).2 p hpi
        refine hg_iload_n (n := 13) dX0_begin_12 rfl rfl ?_
        refine hg_iconst (n := 14) (v := 4) dX0_begin_13 rfl (by decide) ?_
        refine hg_icmp_geN (n := 17) (tgt := 42) (i) (4) dX0_begin_14 rfl (by decide) (by omega) (by omega) (fun h14 => ?_) (fun h14 => ?_)
        · exact absurd h14 (by omega)
        · refine hg_aload_n (n := 18) dX0_begin_17 rfl rfl ?_
          refine hg_getR (n := 21) (r := some (15, f)) dX0_begin_18 rfl fl_X0_11 rfl rfl (bg_fs (r := r) (pl := pl) hF i).1 ((bg_fs (r := r) (pl := pl) hF i).2 0 (by decide)).1 ?_
          refine hg_iload_n (n := 22) dX0_begin_21 rfl rfl ?_
          refine hg_aaload (n := 23) (len := 4) (i) (r := some (4, p)) dX0_begin_22 rfl (by decide) rfl rfl ((bg_fs (r := r) (pl := pl) hF i).2 0 (by decide)).2 rfl (by omega) (by omega) ((bg_k (by decide) (by decide) i).trans ((hfp i (by omega)).1.trans (by rw [hpi]; rfl))) ?_
          refine hg_ifnull (n := 26) (tgt := 36) dX0_begin_23 rfl (by decide) (fun h23 => ?_) (fun q23 h23 => ?_)
          · cases h23
          · refine hg_aload_n (n := 27) dX0_begin_26 rfl rfl ?_
            refine hg_getR (n := 30) (r := some (15, f)) dX0_begin_27 rfl fl_X0_11 rfl rfl (bg_fs (r := r) (pl := pl) hF i).1 ((bg_fs (r := r) (pl := pl) hF i).2 0 (by decide)).1 ?_
            refine hg_iload_n (n := 31) dX0_begin_30 rfl rfl ?_
            refine hg_aaload (n := 32) (len := 4) (i) (r := some (4, p)) dX0_begin_31 rfl (by decide) rfl rfl ((bg_fs (r := r) (pl := pl) hF i).2 0 (by decide)).2 rfl (by omega) (by omega) ((bg_k (by decide) (by decide) i).trans ((hfp i (by omega)).1.trans (by rw [hpi]; rfl))) ?_
            refine hg_aload_n (n := 33) dX0_begin_32 rfl rfl ?_
            refine hg_putR (n := 36) dX0_begin_33 rfl fl_X0_51 rfl rfl (hps p hp).1.1 (by intro q h; cases h; exact ⟨6, hr⟩) ?_
            refine hg_iincN (n := 39) (i) 1 dX0_begin_36 rfl rfl (by decide) (by decide) rfl rfl ?_
            refine hg_goto (tgt := 12) dX0_begin_39 (by decide) ?_
            refine hg_memo ?_ (ih (i + 1) (by omega))
            rw [bg_r, hpi]
            rfl
  refine hg_aload_n (n := 1) dX0_begin_0 rfl rfl ?_
  refine hg_aload_n (n := 2) dX0_begin_1 rfl rfl ?_
  refine hg_putR (n := 5) dX0_begin_2 rfl fl_X0_38 rfl rfl hF.1 (by intro q h; cases h; exact ⟨6, hr⟩) ?_
  refine hg_aload_n (n := 6) dX0_begin_5 rfl rfl ?_
  refine hg_iconst (n := 7) (v := 0) dX0_begin_6 rfl (by decide) ?_
  refine hg_putI (n := 10) dX0_begin_7 rfl fl_X0_48 rfl rfl hF.1 ?_
  refine hg_iconst (n := 11) (v := 0) dX0_begin_10 rfl (by decide) ?_
  refine hg_istore_n (n := 12) dX0_begin_11 rfl (by decide) rfl rfl ?_
  exact loop 4 0 (by omega)

def cs_c (Y : MI_) (f : Nat) (pl : Nat → Option Nat) (nn : Nat → Nat) (z : Int32) (i : Nat) : Bool := (pl i).elim false (fun p => decide (Y 16 f i = 0) && decide (Y 6 (6 * p + (nn p - 1)) 0 + Y 17 f i < z))
def cs_a (Y : MI_) (f : Nat) (pl : Nat → Option Nat) (nn : Nat → Nat) (z : Int32) : Nat → Bool
  | 0 => false
  | i + 1 => cs_a Y f pl nn z i || cs_c Y f pl nn z i
theorem cs_a_iff {Y : MI_} {f : Nat} {pl : Nat → Option Nat} {nn : Nat → Nat} {z : Int32} : ∀ n, cs_a Y f pl nn z n = true ↔ ∃ i, i < n ∧ cs_c Y f pl nn z i = true
  | 0 => by simp [cs_a]
  | n + 1 => by
    rw [cs_a, Bool.or_eq_true, cs_a_iff n]
    constructor
    · rintro (⟨i, h1, h2⟩ | h)
      · exact ⟨i, by omega, h2⟩
      · exact ⟨n, by omega, h⟩
    · rintro ⟨i, h1, h2⟩
      by_cases e : i = n
      · subst e; exact Or.inr h2
      · exact Or.inl ⟨i, by omega, h2⟩
def cs_l (Y : MI_) (f : Nat) (pl : Nat → Option Nat) : Nat → Nat
  | 0 => 0
  | i + 1 => (pl i).elim (cs_l Y f pl i) (fun _ => if Y 16 f i = 0 then cs_l Y f pl i + 1 else cs_l Y f pl i)
theorem cs_l_le {Y : MI_} {f : Nat} {pl : Nat → Option Nat} : ∀ i, cs_l Y f pl i ≤ i
  | 0 => Nat.le_refl 0
  | i + 1 => by
    have := @cs_l_le Y f pl i
    rw [cs_l]
    cases pl i with
    | none => show cs_l Y f pl i ≤ i + 1; omega
    | some p => show (if Y 16 f i = 0 then cs_l Y f pl i + 1 else cs_l Y f pl i) ≤ i + 1; split <;> omega
def sk_w (Y : MI_) (f r : Nat) (pl : Nat → Option Nat) : MI_ := if cs_l Y f pl 4 = 0 then Y else if 2 ≤ cs_l Y f pl 4 then u_3 Y 3 f 11 (Y 3 f 11 + 1) else if ip_ pl 4 ≤ 1 then u_3 Y 3 f 11 (Y 3 f 11 + 1) else u_3 (u_3 Y 3 f 11 (Y 3 f 11 + 1)) 5 r 2 1
def sk_m (Y : MI_) (f r al : Nat) (pl : Nat → Option Nat) (nn : Nat → Nat) : MI_ := if cs_a Y f pl nn (Y 19 f al - 100) 4 = true then Y else sk_w Y f r pl
theorem sk_k {Y : MI_} {f r al : Nat} {pl : Nat → Option Nat} {nn : Nat → Nat} {k a b : Nat} (h3 : ¬ (k = 3 ∧ a = f ∧ b = 11)) (h5 : ¬ (k = 5 ∧ a = r ∧ b = 2)) : sk_m Y f r al pl nn k a b = Y k a b := by
  unfold sk_m
  split
  · rfl
  · unfold sk_w
    split
    · rfl
    · split
      · exact u_3_ne _ _ h3
      · split
        · exact u_3_ne _ _ h3
        · rw [u_3_ne _ _ h5, u_3_ne _ _ h3]
set_option maxHeartbeats 4000000 in
set_option maxRecDepth 100000 in
theorem c_X0_countSoak {mi : MI_} {ml : ML_} {mr : MR_} {sh : SH_} {f : Nat} (hF : fs_ mr sh f) {np : Nat} {pl : Nat → Option Nat} (hfp : fp_ mr f np pl) {nn : Nat → Nat} (hps : ps_ mr sh np nn) {r : Nat} (hr : sh 5 r = some 6) {al : Nat} (hal : mi 3 f 7 = nI al) (hal8 : al < 8) : hg_Det false yX0_countSoak md_X0_countSoak [hv_r (some (3, f)), hv_r (some (5, r))] (mi, ml, mr, sh) none (sk_m mi f r al pl nn, ml, mr, sh) := by
  intro Q hQ
  refine hg_intro rfl rfl rfl (Nat.le_of_ble_eq_true rfl) rfl ?_
  unfold sk_m at hQ
  by_cases hcold : cs_a mi f pl nn (mi 19 f al - 100) 4 = true
  · rw [if_pos hcold] at hQ
    have hq := hQ
    obtain ⟨j, g2, g3⟩ := (cs_a_iff 4).mp hcold
    have loop : ∀ m i, i + m = 4 → ∀ y, (∃ j, i ≤ j ∧ j < 4 ∧ cs_c mi f pl nn (mi 19 f al - 100) j = true) → hg_G md_X0_countSoak false sh Q 0 0 4 [some (hv_r (some (3, f))), some (hv_r (some (5, r))), some (hv_i y), some (hv_i (nI i))] [] (mi, ml, mr, sh) := by
      intro m
      induction m with
      | zero =>
        intro i hi
        intro y hex
        obtain ⟨j, h1, h2, h3⟩ := hex
        exact absurd h1 (by omega)
      | succ m ih =>
        intro i hi
        intro y hex
        cases hpi : pl i with
        | none =>
          refine hg_iload_n (n := 5) dX0_countSoak_4 rfl rfl ?_
          refine hg_iconst (n := 6) (v := 4) dX0_countSoak_5 rfl (by decide) ?_
          refine hg_icmp_geN (n := 9) (tgt := 71) (i) (4) dX0_countSoak_6 rfl (by decide) (by omega) (by omega) (fun h6 => ?_) (fun h6 => ?_)
          · exact absurd h6 (by omega)
          · refine hg_aload_n (n := 10) dX0_countSoak_9 rfl rfl ?_
            refine hg_getR (n := 13) (r := some (15, f)) dX0_countSoak_10 rfl fl_X0_11 rfl rfl hF.1 (hF.2 0 (by decide)).1 ?_
            refine hg_iload_n (n := 14) dX0_countSoak_13 rfl rfl ?_
            refine hg_aaload (n := 15) (len := 4) (i) (r := none) dX0_countSoak_14 rfl (by decide) rfl rfl (hF.2 0 (by decide)).2 rfl (by omega) (by omega) ((hfp i (by omega)).1.trans (by rw [hpi]; rfl)) ?_
            refine hg_ifnull (n := 18) (tgt := 65) dX0_countSoak_15 rfl (by decide) (fun h15 => ?_) (fun q15 h15 => ?_)
            · refine hg_iincN (n := 68) (i) 1 dX0_countSoak_65 rfl rfl (by decide) (by decide) rfl rfl ?_
              refine hg_goto (tgt := 4) dX0_countSoak_68 (by decide) ?_
              obtain ⟨j, g1, g2, g3⟩ := hex
              refine ih (i + 1) (by omega) _ ⟨j, ?_, g2, g3⟩
              rcases Nat.lt_or_ge i j with q | q
              · omega
              · exfalso
                have e := show j = i by omega
                subst e
                unfold cs_c at g3
                rw [hpi] at g3
                cases g3
            · cases h15
        | some p =>
          have hp := (hfp i (by omega)).2 p hpi
          refine hg_iload_n (n := 5) dX0_countSoak_4 rfl rfl ?_
          refine hg_iconst (n := 6) (v := 4) dX0_countSoak_5 rfl (by decide) ?_
          refine hg_icmp_geN (n := 9) (tgt := 71) (i) (4) dX0_countSoak_6 rfl (by decide) (by omega) (by omega) (fun h6 => ?_) (fun h6 => ?_)
          · exact absurd h6 (by omega)
          · refine hg_aload_n (n := 10) dX0_countSoak_9 rfl rfl ?_
            refine hg_getR (n := 13) (r := some (15, f)) dX0_countSoak_10 rfl fl_X0_11 rfl rfl hF.1 (hF.2 0 (by decide)).1 ?_
            refine hg_iload_n (n := 14) dX0_countSoak_13 rfl rfl ?_
            refine hg_aaload (n := 15) (len := 4) (i) (r := some (4, p)) dX0_countSoak_14 rfl (by decide) rfl rfl (hF.2 0 (by decide)).2 rfl (by omega) (by omega) ((hfp i (by omega)).1.trans (by rw [hpi]; rfl)) ?_
            refine hg_ifnull (n := 18) (tgt := 65) dX0_countSoak_15 rfl (by decide) (fun h15 => ?_) (fun q15 h15 => ?_)
            · cases h15
            · refine hg_aload_n (n := 19) dX0_countSoak_18 rfl rfl ?_
              refine hg_getR (n := 22) (r := some (16, f)) dX0_countSoak_19 rfl fl_X0_17 rfl rfl hF.1 (hF.2 1 (by decide)).1 ?_
              refine hg_iload_n (n := 23) dX0_countSoak_22 rfl rfl ?_
              refine hg_baload (n := 24) (len := 4) (i) dX0_countSoak_23 rfl (by decide) rfl (hF.2 1 (by decide)).2 rfl (by omega) (by decide) ?_
              refine hg_if_eq (n := 27) (tgt := 30) dX0_countSoak_24 rfl (by decide) (fun h24 => ?_) (fun h24 => ?_)
              · refine hg_iincI (n := 33) (1) dX0_countSoak_30 rfl rfl (by decide) (by decide) rfl rfl ?_
                refine hg_aload_n (n := 34) dX0_countSoak_33 rfl rfl ?_
                refine hg_getR (n := 37) (r := some (15, f)) dX0_countSoak_34 rfl fl_X0_11 rfl rfl hF.1 (hF.2 0 (by decide)).1 ?_
                refine hg_iload_n (n := 38) dX0_countSoak_37 rfl rfl ?_
                refine hg_aaload (n := 39) (len := 4) (i) (r := some (4, p)) dX0_countSoak_38 rfl (by decide) rfl rfl (hF.2 0 (by decide)).2 rfl (by omega) (by omega) ((hfp i (by omega)).1.trans (by rw [hpi]; rfl)) ?_
                refine hg_callVd (n := 42) (c_X2_innermostWarmth (hps p hp).1 (hps p hp).2.1 (hps p hp).2.2) dX0_countSoak_39 rfl mk_X0_100 yl_X2_innermostWarmth yv_X2_innermostWarmth rfl (hps p hp).1.1 (by decide) (by decide) rfl rfl (Nat.le_of_ble_eq_true rfl) (fun h => by cases h) ?_
                refine hg_aload_n (n := 43) dX0_countSoak_42 rfl rfl ?_
                refine hg_getR (n := 46) (r := some (17, f)) dX0_countSoak_43 rfl fl_X0_21 rfl rfl hF.1 (hF.2 2 (by decide)).1 ?_
                refine hg_iload_n (n := 47) dX0_countSoak_46 rfl rfl ?_
                refine hg_iaload (n := 48) (len := 4) (i) dX0_countSoak_47 rfl (by decide) rfl (hF.2 2 (by decide)).2 rfl (by omega) (by decide) ?_
                refine hg_iadd (n := 49) dX0_countSoak_48 rfl ?_
                refine hg_aload_n (n := 50) dX0_countSoak_49 rfl rfl ?_
                refine hg_getR (n := 53) (r := some (19, f)) dX0_countSoak_50 rfl fl_X0_28 rfl rfl hF.1 (hF.2 4 (by decide)).1 ?_
                refine hg_aload_n (n := 54) dX0_countSoak_53 rfl rfl ?_
                refine hg_getN (n := 57) (al) dX0_countSoak_54 rfl fl_X0_48 rfl rfl hF.1 hal ?_
                refine hg_iaload (n := 58) (len := 8) (al) dX0_countSoak_57 rfl (by decide) rfl (hF.2 4 (by decide)).2 rfl (by omega) (by decide) ?_
                refine hg_bipush (n := 60) (v := 100) dX0_countSoak_58 rfl (by decide) ?_
                refine hg_isub (n := 61) dX0_countSoak_60 rfl ?_
                refine hg_icmp_ge (n := 64) (tgt := 65) dX0_countSoak_61 rfl (by decide) (fun h61 => ?_) (fun h61 => ?_)
                · refine hg_iincN (n := 68) (i) 1 dX0_countSoak_65 rfl rfl (by decide) (by decide) rfl rfl ?_
                  refine hg_goto (tgt := 4) dX0_countSoak_68 (by decide) ?_
                  obtain ⟨j, g1, g2, g3⟩ := hex
                  refine ih (i + 1) (by omega) _ ⟨j, ?_, g2, g3⟩
                  rcases Nat.lt_or_ge i j with q | q
                  · omega
                  · exfalso
                    have e := show j = i by omega
                    subst e
                    unfold cs_c at g3
                    rw [hpi] at g3
                    simp [h24, i32_nlt.mpr h61] at g3
                · refine hg_return dX0_countSoak_64 rfl ?_
                  exact hq
              · refine hg_goto (tgt := 65) dX0_countSoak_27 (by decide) ?_
                refine hg_iincN (n := 68) (i) 1 dX0_countSoak_65 rfl rfl (by decide) (by decide) rfl rfl ?_
                refine hg_goto (tgt := 4) dX0_countSoak_68 (by decide) ?_
                obtain ⟨j, g1, g2, g3⟩ := hex
                refine ih (i + 1) (by omega) _ ⟨j, ?_, g2, g3⟩
                rcases Nat.lt_or_ge i j with q | q
                · omega
                · exfalso
                  have e := show j = i by omega
                  subst e
                  unfold cs_c at g3
                  rw [hpi] at g3
                  simp [h24] at g3
    refine hg_iconst (n := 1) (v := 0) dX0_countSoak_0 rfl (by decide) ?_
    refine hg_istore_n (n := 2) dX0_countSoak_1 rfl (by decide) rfl rfl ?_
    refine hg_iconst (n := 3) (v := 0) dX0_countSoak_2 rfl (by decide) ?_
    refine hg_istore_n (n := 4) dX0_countSoak_3 rfl (by decide) rfl rfl ?_
    exact loop 4 0 (by omega) _ ⟨j, by omega, g2, g3⟩
  · rw [if_neg hcold] at hQ
    have hq := hQ
    have hno : ∀ i, i < 4 → cs_c mi f pl nn (mi 19 f al - 100) i = false := fun i hi => by
      cases h : cs_c mi f pl nn (mi 19 f al - 100) i with
      | false => rfl
      | true => exact absurd ((cs_a_iff 4).mpr ⟨i, hi, h⟩) hcold
    have loop : ∀ m i, i + m = 4 → hg_G md_X0_countSoak false sh Q 0 0 4 [some (hv_r (some (3, f))), some (hv_r (some (5, r))), some (hv_i (nI (cs_l mi f pl i))), some (hv_i (nI i))] [] (mi, ml, mr, sh) := by
      intro m
      induction m with
      | zero =>
        intro i hi
        have hl4 := @cs_l_le mi f pl i
        have hi4 := ip_le pl 4
        refine hg_iload_n (n := 5) dX0_countSoak_4 rfl rfl ?_
        refine hg_iconst (n := 6) (v := 4) dX0_countSoak_5 rfl (by decide) ?_
        refine hg_icmp_geN (n := 9) (tgt := 71) (i) (4) dX0_countSoak_6 rfl (by decide) (by omega) (by omega) (fun h6 => ?_) (fun h6 => ?_)
        · have e := show i = 4 by omega
          subst e
          refine hg_iload_n (n := 72) dX0_countSoak_71 rfl rfl ?_
          refine hg_if_neN (n := 75) (tgt := 76) (cs_l mi f pl 4) dX0_countSoak_72 rfl (by decide) (by omega) (fun h72 => ?_) (fun h72 => ?_)
          · refine hg_aload_n (n := 77) dX0_countSoak_76 rfl rfl ?_
            refine hg_dup (n := 78) dX0_countSoak_77 rfl rfl ?_
            refine hg_getI (n := 81) dX0_countSoak_78 rfl fl_X0_60 rfl rfl hF.1 ?_
            refine hg_iconst (n := 82) (v := 1) dX0_countSoak_81 rfl (by decide) ?_
            refine hg_iadd (n := 83) dX0_countSoak_82 rfl ?_
            refine hg_putI (n := 86) dX0_countSoak_83 rfl fl_X0_60 rfl rfl hF.1 ?_
            refine hg_iload_n (n := 87) dX0_countSoak_86 rfl rfl ?_
            refine hg_iconst (n := 88) (v := 2) dX0_countSoak_87 rfl (by decide) ?_
            refine hg_icmp_geN (n := 91) (tgt := 104) (cs_l mi f pl 4) (2) dX0_countSoak_88 rfl (by decide) (by omega) (by omega) (fun h88 => ?_) (fun h88 => ?_)
            · refine hg_return dX0_countSoak_104 rfl ?_
              unfold sk_w at hq
              rw [if_neg h72, if_pos (by omega)] at hq
              exact hq
            · refine hg_aload_n (n := 92) dX0_countSoak_91 rfl rfl ?_
              refine hg_callVd (n := 95) (c_X0_partsInside hF hfp hps) dX0_countSoak_92 rfl mk_X0_103 yl_X0_partsInside yv_X0_partsInside rfl hF.1 (by decide) (by decide) rfl rfl (Nat.le_of_ble_eq_true rfl) (fun h => by cases h) ?_
              refine hg_iconst (n := 96) (v := 1) dX0_countSoak_95 rfl (by decide) ?_
              refine hg_icmp_leN (n := 99) (tgt := 104) (ip_ pl 4) (1) dX0_countSoak_96 rfl (by decide) (by omega) (by omega) (fun h96 => ?_) (fun h96 => ?_)
              · refine hg_return dX0_countSoak_104 rfl ?_
                unfold sk_w at hq
                rw [if_neg h72, if_neg (by omega), if_pos (by omega)] at hq
                exact hq
              · refine hg_aload_n (n := 100) dX0_countSoak_99 rfl rfl ?_
                refine hg_iconst (n := 101) (v := 1) dX0_countSoak_100 rfl (by decide) ?_
                refine hg_putZ (n := 104) dX0_countSoak_101 rfl fl_X0_106 rfl rfl (by decide) hr ?_
                refine hg_return dX0_countSoak_104 rfl ?_
                unfold sk_w at hq
                rw [if_neg h72, if_neg (by omega), if_neg (by omega)] at hq
                exact hq
          · refine hg_return dX0_countSoak_75 rfl ?_
            unfold sk_w at hq
            rw [if_pos h72] at hq
            exact hq
        · exact absurd h6 (by omega)
      | succ m ih =>
        intro i hi
        cases hpi : pl i with
        | none =>
          have hl4 := @cs_l_le mi f pl i
          have s65 : ∀ x, x = cs_l mi f pl (i + 1) → hg_G md_X0_countSoak false sh Q 0 0 65 [some (hv_r (some (3, f))), some (hv_r (some (5, r))), some (hv_i (nI x)), some (hv_i (nI i))] [] (mi, ml, mr, sh) := by
            intro x hx
            subst hx
            refine hg_iincN (n := 68) (i) 1 dX0_countSoak_65 rfl rfl (by decide) (by decide) rfl rfl ?_
            refine hg_goto (tgt := 4) dX0_countSoak_68 (by decide) ?_
            exact ih (i + 1) (by omega)
          refine hg_iload_n (n := 5) dX0_countSoak_4 rfl rfl ?_
          refine hg_iconst (n := 6) (v := 4) dX0_countSoak_5 rfl (by decide) ?_
          refine hg_icmp_geN (n := 9) (tgt := 71) (i) (4) dX0_countSoak_6 rfl (by decide) (by omega) (by omega) (fun h6 => ?_) (fun h6 => ?_)
          · exact absurd h6 (by omega)
          · refine hg_aload_n (n := 10) dX0_countSoak_9 rfl rfl ?_
            refine hg_getR (n := 13) (r := some (15, f)) dX0_countSoak_10 rfl fl_X0_11 rfl rfl hF.1 (hF.2 0 (by decide)).1 ?_
            refine hg_iload_n (n := 14) dX0_countSoak_13 rfl rfl ?_
            refine hg_aaload (n := 15) (len := 4) (i) (r := none) dX0_countSoak_14 rfl (by decide) rfl rfl (hF.2 0 (by decide)).2 rfl (by omega) (by omega) ((hfp i (by omega)).1.trans (by rw [hpi]; rfl)) ?_
            refine hg_ifnull (n := 18) (tgt := 65) dX0_countSoak_15 rfl (by decide) (fun h15 => ?_) (fun q15 h15 => ?_)
            · exact s65 _ (by rw [cs_l, hpi]; rfl)
            · cases h15
        | some p =>
          have hp := (hfp i (by omega)).2 p hpi
          have hl4 := @cs_l_le mi f pl i
          have s65 : ∀ x, x = cs_l mi f pl (i + 1) → hg_G md_X0_countSoak false sh Q 0 0 65 [some (hv_r (some (3, f))), some (hv_r (some (5, r))), some (hv_i (nI x)), some (hv_i (nI i))] [] (mi, ml, mr, sh) := by
            intro x hx
            subst hx
            refine hg_iincN (n := 68) (i) 1 dX0_countSoak_65 rfl rfl (by decide) (by decide) rfl rfl ?_
            refine hg_goto (tgt := 4) dX0_countSoak_68 (by decide) ?_
            exact ih (i + 1) (by omega)
          refine hg_iload_n (n := 5) dX0_countSoak_4 rfl rfl ?_
          refine hg_iconst (n := 6) (v := 4) dX0_countSoak_5 rfl (by decide) ?_
          refine hg_icmp_geN (n := 9) (tgt := 71) (i) (4) dX0_countSoak_6 rfl (by decide) (by omega) (by omega) (fun h6 => ?_) (fun h6 => ?_)
          · exact absurd h6 (by omega)
          · refine hg_aload_n (n := 10) dX0_countSoak_9 rfl rfl ?_
            refine hg_getR (n := 13) (r := some (15, f)) dX0_countSoak_10 rfl fl_X0_11 rfl rfl hF.1 (hF.2 0 (by decide)).1 ?_
            refine hg_iload_n (n := 14) dX0_countSoak_13 rfl rfl ?_
            refine hg_aaload (n := 15) (len := 4) (i) (r := some (4, p)) dX0_countSoak_14 rfl (by decide) rfl rfl (hF.2 0 (by decide)).2 rfl (by omega) (by omega) ((hfp i (by omega)).1.trans (by rw [hpi]; rfl)) ?_
            refine hg_ifnull (n := 18) (tgt := 65) dX0_countSoak_15 rfl (by decide) (fun h15 => ?_) (fun q15 h15 => ?_)
            · cases h15
            · refine hg_aload_n (n := 19) dX0_countSoak_18 rfl rfl ?_
              refine hg_getR (n := 22) (r := some (16, f)) dX0_countSoak_19 rfl fl_X0_17 rfl rfl hF.1 (hF.2 1 (by decide)).1 ?_
              refine hg_iload_n (n := 23) dX0_countSoak_22 rfl rfl ?_
              refine hg_baload (n := 24) (len := 4) (i) dX0_countSoak_23 rfl (by decide) rfl (hF.2 1 (by decide)).2 rfl (by omega) (by decide) ?_
              refine hg_if_eq (n := 27) (tgt := 30) dX0_countSoak_24 rfl (by decide) (fun h24 => ?_) (fun h24 => ?_)
              · refine hg_iincN (n := 33) (cs_l mi f pl i) 1 dX0_countSoak_30 rfl rfl (by decide) (by decide) rfl rfl ?_
                refine hg_aload_n (n := 34) dX0_countSoak_33 rfl rfl ?_
                refine hg_getR (n := 37) (r := some (15, f)) dX0_countSoak_34 rfl fl_X0_11 rfl rfl hF.1 (hF.2 0 (by decide)).1 ?_
                refine hg_iload_n (n := 38) dX0_countSoak_37 rfl rfl ?_
                refine hg_aaload (n := 39) (len := 4) (i) (r := some (4, p)) dX0_countSoak_38 rfl (by decide) rfl rfl (hF.2 0 (by decide)).2 rfl (by omega) (by omega) ((hfp i (by omega)).1.trans (by rw [hpi]; rfl)) ?_
                refine hg_callVd (n := 42) (c_X2_innermostWarmth (hps p hp).1 (hps p hp).2.1 (hps p hp).2.2) dX0_countSoak_39 rfl mk_X0_100 yl_X2_innermostWarmth yv_X2_innermostWarmth rfl (hps p hp).1.1 (by decide) (by decide) rfl rfl (Nat.le_of_ble_eq_true rfl) (fun h => by cases h) ?_
                refine hg_aload_n (n := 43) dX0_countSoak_42 rfl rfl ?_
                refine hg_getR (n := 46) (r := some (17, f)) dX0_countSoak_43 rfl fl_X0_21 rfl rfl hF.1 (hF.2 2 (by decide)).1 ?_
                refine hg_iload_n (n := 47) dX0_countSoak_46 rfl rfl ?_
                refine hg_iaload (n := 48) (len := 4) (i) dX0_countSoak_47 rfl (by decide) rfl (hF.2 2 (by decide)).2 rfl (by omega) (by decide) ?_
                refine hg_iadd (n := 49) dX0_countSoak_48 rfl ?_
                refine hg_aload_n (n := 50) dX0_countSoak_49 rfl rfl ?_
                refine hg_getR (n := 53) (r := some (19, f)) dX0_countSoak_50 rfl fl_X0_28 rfl rfl hF.1 (hF.2 4 (by decide)).1 ?_
                refine hg_aload_n (n := 54) dX0_countSoak_53 rfl rfl ?_
                refine hg_getN (n := 57) (al) dX0_countSoak_54 rfl fl_X0_48 rfl rfl hF.1 hal ?_
                refine hg_iaload (n := 58) (len := 8) (al) dX0_countSoak_57 rfl (by decide) rfl (hF.2 4 (by decide)).2 rfl (by omega) (by decide) ?_
                refine hg_bipush (n := 60) (v := 100) dX0_countSoak_58 rfl (by decide) ?_
                refine hg_isub (n := 61) dX0_countSoak_60 rfl ?_
                refine hg_icmp_ge (n := 64) (tgt := 65) dX0_countSoak_61 rfl (by decide) (fun h61 => ?_) (fun h61 => ?_)
                · exact s65 _ (by rw [cs_l, hpi]; show _ = (if mi 16 f i = 0 then cs_l mi f pl i + 1 else cs_l mi f pl i); rw [if_pos h24])
                · exact absurd (hno i (by omega)) (by unfold cs_c; rw [hpi]; simp only [Option.elim]; rw [decide_eq_true h24, decide_eq_true (i32_nle.mp h61)]; decide)
              · refine hg_goto (tgt := 65) dX0_countSoak_27 (by decide) ?_
                exact s65 _ (by rw [cs_l, hpi]; show _ = (if mi 16 f i = 0 then cs_l mi f pl i + 1 else cs_l mi f pl i); rw [if_neg h24])
    refine hg_iconst (n := 1) (v := 0) dX0_countSoak_0 rfl (by decide) ?_
    refine hg_istore_n (n := 2) dX0_countSoak_1 rfl (by decide) rfl rfl ?_
    refine hg_iconst (n := 3) (v := 0) dX0_countSoak_2 rfl (by decide) ?_
    refine hg_istore_n (n := 4) dX0_countSoak_3 rfl (by decide) rfl rfl ?_
    exact loop 4 0 (by omega)

