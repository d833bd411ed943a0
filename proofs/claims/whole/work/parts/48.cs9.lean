theorem u_n_k {α : Type} {X : Nat → Nat → Nat → α} {k i k' i' f' : Nat} {x : α} (h : k' ≠ k) : u_n X k i x k' i' f' = X k' i' f' := if_neg (fun q => h q.1)
theorem u_2_k {α : Type} {X : Nat → Nat → α} {k i k' i' : Nat} {x : α} (h : k' ≠ k) : u_2 X k i x k' i' = X k' i' := if_neg (fun q => h q.1)
theorem hs_mono {R R' : MR_} {sh sh' : SH_} {np nr : Nat} {nn : Nat → Nat} (h : hs_ R sh np nr nn) (hR : ∀ k i j, (k = 1 ∨ k = 2 ∨ k = 9 ∨ k = 21 ∨ (k = 8 ∧ j < np) ∨ (k = 3 ∧ j < 6) ∨ (k = 4 ∧ j = 2) ∨ (k = 10 ∧ j < nr)) → (∃ n, sh k i = some n) → R' k i j = R k i j) (hS : ∀ k i n, sh k i = some n → sh' k i = some n) : hs_ R' sh' np nr nn := by
  obtain ⟨a1, ⟨b1, b2, b3, b4⟩, c1, c2, c3, ⟨j1, ⟨j2, j3, j4, j5⟩, j6, j7, j8, j9⟩, f1, ⟨p1, p2⟩, r1⟩ := h
  refine ⟨hS _ _ _ a1, ⟨(hR 1 0 0 (by omega) ⟨_, a1⟩).trans b1, (hR 1 0 1 (by omega) ⟨_, a1⟩).trans b2, (hR 1 0 2 (by omega) ⟨_, a1⟩).trans b3, (hR 1 0 3 (by omega) ⟨_, a1⟩).trans b4⟩, hS _ _ _ c1, hS _ _ _ c2, hS _ _ _ c3, ⟨hS _ _ _ j1, ⟨(hR 2 0 0 (by omega) ⟨_, j1⟩).trans j2, (hR 2 0 1 (by omega) ⟨_, j1⟩).trans j3, (hR 2 0 2 (by omega) ⟨_, j1⟩).trans j4, (hR 2 0 3 (by omega) ⟨_, j1⟩).trans j5⟩, hS _ _ _ j6, hS _ _ _ j7, hS _ _ _ j8, hS _ _ _ j9⟩, fun f hf => ?_, ⟨fun p hp => ?_, fun p hp => ?_⟩, fun r hr => ?_⟩
  · obtain ⟨⟨g1, g2⟩, g3⟩ := f1 f hf
    exact ⟨⟨hS _ _ _ g1, fun j hj => ⟨(hR 3 f j (by omega) ⟨_, g1⟩).trans (g2 j hj).1, hS _ _ _ (g2 j hj).2⟩⟩, (hR 9 0 f (by omega) ⟨_, c2⟩).trans g3⟩
  · obtain ⟨⟨g1, g2, g3, g4⟩, g5⟩ := p1 p hp
    exact ⟨⟨hS _ _ _ g1, (hR 4 p 2 (by omega) ⟨_, g1⟩).trans g2, hS _ _ _ g3, fun i hi => ⟨(hR 21 p i (by omega) ⟨_, g3⟩).trans (g4 i hi).1, hS _ _ _ (g4 i hi).2⟩⟩, g5⟩
  · exact (hR 8 0 p (by omega) ⟨_, c1⟩).trans (p2 p hp)
  · exact ⟨hS _ _ _ (r1 r hr).1, (hR 10 0 r (by omega) ⟨_, c3⟩).trans (r1 r hr).2⟩
def fr_ (cu : Nat → Option Nat) : Nat → Int32
  | 0 => 0
  | f + 1 => if ir_ (cu f) = 0 then fr_ cu f else fr_ cu f + 1
def rd_ (Y : MI_) : Nat → Int32
  | 0 => 0
  | r + 1 => if Y 5 r 1 = 0 then rd_ Y r else rd_ Y r + 1
set_option maxHeartbeats 4000000 in
set_option maxRecDepth 100000 in
theorem c_X5_furnacesRunning {mi : MI_} {ml : ML_} {mr : MR_} {sh : SH_} {np nr : Nat} {nn : Nat → Nat} (hH : hs_ mr sh np nr nn) {cu : Nat → Option Nat} (hcu : ∀ f, f < 3 → fc_ mr sh f (cu f))  : hg_Det false yX5_furnacesRunning md_X5_furnacesRunning [hv_r (some (1, 0))] (mi, ml, mr, sh) (some (hv_i (fr_ cu 3))) (mi, ml, mr, sh) := by
  intro Q hQ
  refine hg_intro rfl rfl rfl (Nat.le_of_ble_eq_true rfl) rfl ?_
  have loop : ∀ m f, f + m = 3 → hg_G md_X5_furnacesRunning false sh Q 0 0 4 [some (hv_r (some (1, 0))), some (hv_i (fr_ cu f)), some (hv_i (nI f))] [] (mi, ml, mr, sh) := by
    intro m
    induction m with
    | zero =>
      intro f hf
      refine hg_iload_n (n := 5) dX5_furnacesRunning_4 rfl rfl ?_
      refine hg_iconst (n := 6) (v := 3) dX5_furnacesRunning_5 rfl (by decide) ?_
      refine hg_icmp_geN (n := 9) (tgt := 30) (f) (3) dX5_furnacesRunning_6 rfl (by decide) (by omega) (by omega) (fun h6 => ?_) (fun h6 => ?_)
      · have e := show f = 3 by omega
        subst e
        refine hg_iload_n (n := 31) dX5_furnacesRunning_30 rfl rfl ?_
        refine hg_ireturn dX5_furnacesRunning_31 rfl ?_
        exact hQ
      · exact absurd h6 (by omega)
    | succ m ih =>
      intro f hf
      refine hg_iload_n (n := 5) dX5_furnacesRunning_4 rfl rfl ?_
      refine hg_iconst (n := 6) (v := 3) dX5_furnacesRunning_5 rfl (by decide) ?_
      refine hg_icmp_geN (n := 9) (tgt := 30) (f) (3) dX5_furnacesRunning_6 rfl (by decide) (by omega) (by omega) (fun h6 => ?_) (fun h6 => ?_)
      · exact absurd h6 (by omega)
      · refine hg_aload_n (n := 10) dX5_furnacesRunning_9 rfl rfl ?_
        refine hg_getR (n := 13) (r := some (9, 0)) dX5_furnacesRunning_10 rfl fl_X5_17 rfl rfl hH.1 hH.2.1.2.1 ?_
        refine hg_iload_n (n := 14) dX5_furnacesRunning_13 rfl rfl ?_
        refine hg_aaload (n := 15) (len := 3) (f) (r := some (3, f)) dX5_furnacesRunning_14 rfl (by decide) rfl rfl hH.2.2.2.1 rfl (by omega) (by omega) (hs_fA hH (by omega)) ?_
        refine hg_callVd (n := 18) (c_X0_isRunning (hs_F hH (by omega)) (hcu f (by omega))) dX5_furnacesRunning_15 rfl mk_X5_90 yl_X0_isRunning yv_X0_isRunning rfl (hs_F hH (by omega)).1 (by decide) (by decide) rfl rfl (Nat.le_of_ble_eq_true rfl) (fun h => by cases h) ?_
        refine hg_if_eq (n := 21) (tgt := 24) dX5_furnacesRunning_18 rfl (by decide) (fun h18 => ?_) (fun h18 => ?_)
        · refine hg_iincN (n := 27) (f) 1 dX5_furnacesRunning_24 rfl rfl (by decide) (by decide) rfl rfl ?_
          refine hg_goto (tgt := 4) dX5_furnacesRunning_27 (by decide) ?_
          have i9 := ih (f + 1) (by omega)
          rw [fr_, if_pos h18] at i9
          exact i9
        · refine hg_iincI (n := 24) (1) dX5_furnacesRunning_21 rfl rfl (by decide) (by decide) rfl rfl ?_
          refine hg_iincN (n := 27) (f) 1 dX5_furnacesRunning_24 rfl rfl (by decide) (by decide) rfl rfl ?_
          refine hg_goto (tgt := 4) dX5_furnacesRunning_27 (by decide) ?_
          have i9 := ih (f + 1) (by omega)
          rw [fr_, if_neg h18] at i9
          exact i9
  refine hg_iconst (n := 1) (v := 0) dX5_furnacesRunning_0 rfl (by decide) ?_
  refine hg_istore_n (n := 2) dX5_furnacesRunning_1 rfl (by decide) rfl rfl ?_
  refine hg_iconst (n := 3) (v := 0) dX5_furnacesRunning_2 rfl (by decide) ?_
  refine hg_istore_n (n := 4) dX5_furnacesRunning_3 rfl (by decide) rfl rfl ?_
  exact loop 3 0 (by omega)

set_option maxHeartbeats 4000000 in
set_option maxRecDepth 100000 in
theorem c_X5_runsInDoubt {mi : MI_} {ml : ML_} {mr : MR_} {sh : SH_} {np nr : Nat} {nn : Nat → Nat} (hH : hs_ mr sh np nr nn) (hnr : mi 1 0 5 = nI nr) (hn100 : nr ≤ 100)  : hg_Det false yX5_runsInDoubt md_X5_runsInDoubt [hv_r (some (1, 0))] (mi, ml, mr, sh) (some (hv_i (rd_ mi nr))) (mi, ml, mr, sh) := by
  intro Q hQ
  refine hg_intro rfl rfl rfl (Nat.le_of_ble_eq_true rfl) rfl ?_
  have loop : ∀ m r, r + m = nr → hg_G md_X5_runsInDoubt false sh Q 0 0 4 [some (hv_r (some (1, 0))), some (hv_i (rd_ mi r)), some (hv_i (nI r))] [] (mi, ml, mr, sh) := by
    intro m
    induction m with
    | zero =>
      intro r hr
      refine hg_iload_n (n := 5) dX5_runsInDoubt_4 rfl rfl ?_
      refine hg_aload_n (n := 6) dX5_runsInDoubt_5 rfl rfl ?_
      refine hg_getN (n := 9) (nr) dX5_runsInDoubt_6 rfl fl_X5_124 rfl rfl hH.1 hnr ?_
      refine hg_icmp_geN (n := 12) (tgt := 33) (r) (nr) dX5_runsInDoubt_9 rfl (by decide) (by omega) (by omega) (fun h9 => ?_) (fun h9 => ?_)
      · have e := show r = nr by omega
        subst e
        refine hg_iload_n (n := 34) dX5_runsInDoubt_33 rfl rfl ?_
        refine hg_ireturn dX5_runsInDoubt_34 rfl ?_
        exact hQ
      · exact absurd h9 (by omega)
    | succ m ih =>
      intro r hr
      refine hg_iload_n (n := 5) dX5_runsInDoubt_4 rfl rfl ?_
      refine hg_aload_n (n := 6) dX5_runsInDoubt_5 rfl rfl ?_
      refine hg_getN (n := 9) (nr) dX5_runsInDoubt_6 rfl fl_X5_124 rfl rfl hH.1 hnr ?_
      refine hg_icmp_geN (n := 12) (tgt := 33) (r) (nr) dX5_runsInDoubt_9 rfl (by decide) (by omega) (by omega) (fun h9 => ?_) (fun h9 => ?_)
      · exact absurd h9 (by omega)
      · refine hg_aload_n (n := 13) dX5_runsInDoubt_12 rfl rfl ?_
        refine hg_getR (n := 16) (r := some (10, 0)) dX5_runsInDoubt_13 rfl fl_X5_23 rfl rfl hH.1 hH.2.1.2.2.1 ?_
        refine hg_iload_n (n := 17) dX5_runsInDoubt_16 rfl rfl ?_
        refine hg_aaload (n := 18) (len := 100) (r) (r := some (5, r)) dX5_runsInDoubt_17 rfl (by decide) rfl rfl hH.2.2.2.2.1 rfl (by omega) (by omega) (hs_rA hH (by omega)) ?_
        refine hg_getI (n := 21) dX5_runsInDoubt_18 rfl fl_X5_162 rfl rfl (hs_R hH (by omega)) ?_
        refine hg_if_eq (n := 24) (tgt := 27) dX5_runsInDoubt_21 rfl (by decide) (fun h21 => ?_) (fun h21 => ?_)
        · refine hg_iincN (n := 30) (r) 1 dX5_runsInDoubt_27 rfl rfl (by decide) (by decide) rfl rfl ?_
          refine hg_goto (tgt := 4) dX5_runsInDoubt_30 (by decide) ?_
          have i9 := ih (r + 1) (by omega)
          rw [rd_, if_pos h21] at i9
          exact i9
        · refine hg_iincI (n := 27) (1) dX5_runsInDoubt_24 rfl rfl (by decide) (by decide) rfl rfl ?_
          refine hg_iincN (n := 30) (r) 1 dX5_runsInDoubt_27 rfl rfl (by decide) (by decide) rfl rfl ?_
          refine hg_goto (tgt := 4) dX5_runsInDoubt_30 (by decide) ?_
          have i9 := ih (r + 1) (by omega)
          rw [rd_, if_neg h21] at i9
          exact i9
  refine hg_iconst (n := 1) (v := 0) dX5_runsInDoubt_0 rfl (by decide) ?_
  refine hg_istore_n (n := 2) dX5_runsInDoubt_1 rfl (by decide) rfl rfl ?_
  refine hg_iconst (n := 3) (v := 0) dX5_runsInDoubt_2 rfl (by decide) ?_
  refine hg_istore_n (n := 4) dX5_runsInDoubt_3 rfl (by decide) rfl rfl ?_
  exact loop nr 0 (by omega)

set_option maxHeartbeats 4000000 in
set_option maxRecDepth 100000 in
theorem c_X5_count_b {mi : MI_} {ml : ML_} {mr : MR_} {sh : SH_} {np nr : Nat} {nn : Nat → Nat} (hH : hs_ mr sh np nr nn) (w : Int32) (hb : z_in w 0 4 = 0) : hg_Det false yX5_count md_X5_count [hv_r (some (1, 0)), hv_i w] (mi, ml, mr, sh) (some (hv_i (-2))) (mi, ml, mr, sh) := by
  intro Q hQ
  refine hg_intro rfl rfl rfl (Nat.le_of_ble_eq_true rfl) rfl ?_
  refine hg_iload_n (n := 1) dX5_count_0 rfl rfl ?_
  refine hg_tableOut (tgt := 64) dX5_count_1 (z_06 (b := 4) (by decide) hb) (by decide) ?_
  refine hg_bipush (n := 66) (v := -2) dX5_count_64 rfl (by decide) ?_
  refine hg_ireturn dX5_count_66 rfl ?_
  exact hQ

def cn_ (Y : MI_) (cu : Nat → Option Nat) (nr w : Nat) : Int32 := if w = 0 then Y 1 0 4 else if w = 1 then Y 1 0 5 else if w = 2 then fr_ cu 3 else if w = 3 then Y 2 0 4 else rd_ Y nr
set_option maxHeartbeats 4000000 in
set_option maxRecDepth 100000 in
theorem c_X5_count {mi : MI_} {ml : ML_} {mr : MR_} {sh : SH_} {np nr : Nat} {nn : Nat → Nat} (hH : hs_ mr sh np nr nn) {cu : Nat → Option Nat} (hcu : ∀ f, f < 3 → fc_ mr sh f (cu f)) (hnr : mi 1 0 5 = nI nr) (hn100 : nr ≤ 100) (w : Nat) (hw : w ≤ 4) : hg_Det false yX5_count md_X5_count [hv_r (some (1, 0)), hv_i (nI w)] (mi, ml, mr, sh) (some (hv_i (cn_ mi cu nr w))) (mi, ml, mr, sh) := by
  intro Q hQ
  refine hg_intro rfl rfl rfl (Nat.le_of_ble_eq_true rfl) rfl ?_
  refine hg_iload_n (n := 1) dX5_count_0 rfl rfl ?_
  rcases (show w = 0 ∨ w = 1 ∨ w = 2 ∨ w = 3 ∨ w = 4 by omega) with rfl | rfl | rfl | rfl | rfl
  · refine hg_tableIn (tgt := 36) (off := 35) dX5_count_1 (by decide) (by decide) rfl (by decide) ?_
    refine hg_aload_n (n := 37) dX5_count_36 rfl rfl ?_
    refine hg_getI (n := 40) dX5_count_37 rfl fl_X5_39 rfl rfl hH.1 ?_
    refine hg_ireturn dX5_count_40 rfl ?_
    exact hQ
  · refine hg_tableIn (tgt := 41) (off := 40) dX5_count_1 (by decide) (by decide) rfl (by decide) ?_
    refine hg_aload_n (n := 42) dX5_count_41 rfl rfl ?_
    refine hg_getI (n := 45) dX5_count_42 rfl fl_X5_124 rfl rfl hH.1 ?_
    refine hg_ireturn dX5_count_45 rfl ?_
    exact hQ
  · refine hg_tableIn (tgt := 46) (off := 45) dX5_count_1 (by decide) (by decide) rfl (by decide) ?_
    refine hg_aload_n (n := 47) dX5_count_46 rfl rfl ?_
    refine hg_callVd (n := 50) (c_X5_furnacesRunning hH hcu) dX5_count_47 rfl mk_X5_136 yl_X5_furnacesRunning yv_X5_furnacesRunning rfl hH.1 (by decide) (by decide) rfl rfl (Nat.le_of_ble_eq_true rfl) (fun h => by cases h) ?_
    refine hg_ireturn dX5_count_50 rfl ?_
    exact hQ
  · refine hg_tableIn (tgt := 51) (off := 50) dX5_count_1 (by decide) (by decide) rfl (by decide) ?_
    refine hg_aload_n (n := 52) dX5_count_51 rfl rfl ?_
    refine hg_getR (n := 55) (r := some (2, 0)) dX5_count_52 rfl fl_X5_30 rfl rfl hH.1 hH.2.1.2.2.2 ?_
    refine hg_getI (n := 58) dX5_count_55 rfl fl_X5_183 rfl rfl (hs_J hH).1 ?_
    refine hg_ireturn dX5_count_58 rfl ?_
    exact hQ
  · refine hg_tableIn (tgt := 59) (off := 58) dX5_count_1 (by decide) (by decide) rfl (by decide) ?_
    refine hg_aload_n (n := 60) dX5_count_59 rfl rfl ?_
    refine hg_callVd (n := 63) (c_X5_runsInDoubt hH hnr hn100) dX5_count_60 rfl mk_X5_189 yl_X5_runsInDoubt yv_X5_runsInDoubt rfl hH.1 (by decide) (by decide) rfl rfl (Nat.le_of_ble_eq_true rfl) (fun h => by cases h) ?_
    refine hg_ireturn dX5_count_63 rfl ?_
    exact hQ


def cg_c (Y : MI_) (cu : Nat → Option Nat) (nr : Nat) : Nat → Int64
  | 0 => 139
  | k + 1 => 31 * cg_c Y cu nr k + (cn_ Y cu nr k).toInt64
def cg_p (Y : MI_) (T : ML_) (nn : Nat → Nat) (h : Int64) : Nat → Int64
  | 0 => h
  | p + 1 => dp_i Y p (31 * cg_p Y T nn h p + T 4 p 7) (nn p)
def cg_f (Y : MI_) (pl : Nat → Nat → Option Nat) (cu : Nat → Option Nat) (h : Int64) : Nat → Int64
  | 0 => h
  | f + 1 => df_q Y f (pl f) (cu f) (cg_f Y pl cu h f) 7
def cg_r (Y : MI_) (h : Int64) : Nat → Int64
  | 0 => h
  | r + 1 => dr_q Y r (cg_r Y h r) 5
def cg_ (Y : MI_) (T : ML_) (nn : Nat → Nat) (pl : Nat → Nat → Option Nat) (cu : Nat → Option Nat) (np nr : Nat) : Int64 := cg_r Y (cg_f Y pl cu (cg_p Y T nn (cg_c Y cu nr 5) np) 3) nr
set_option maxHeartbeats 4000000 in
set_option maxRecDepth 100000 in
theorem c_X5_digest {mi : MI_} {ml : ML_} {mr : MR_} {sh : SH_} {np nr : Nat} {nn : Nat → Nat} (hH : hs_ mr sh np nr nn) (hnp : mi 1 0 4 = nI np) (hn12 : np ≤ 12) {cu : Nat → Option Nat} (hcu : ∀ f, f < 3 → fc_ mr sh f (cu f)) (hnr : mi 1 0 5 = nI nr) (hn100 : nr ≤ 100) {pl : Nat → Nat → Option Nat} (hpl : ∀ f, f < 3 → fp_ mr f np (pl f)) : hg_Det false yX5_digest md_X5_digest [hv_r (some (1, 0))] (mi, ml, mr, sh) (some (hv_l (cg_ mi ml nn pl cu np nr))) (mi, ml, mr, sh) := by
  intro Q hQ
  refine hg_intro rfl rfl rfl (Nat.le_of_ble_eq_true rfl) rfl ?_
  have l4 : ∀ m r, r + m = nr → hg_G md_X5_digest false sh Q 0 0 83 [some (hv_r (some (1, 0))), some (hv_l (cg_r mi (cg_f mi pl cu (cg_p mi ml nn (cg_c mi cu nr 5) np) 3) r)), none, some (hv_i (nI r))] [] (mi, ml, mr, sh) := by
    intro m
    induction m with
    | zero =>
      intro r hr
      refine hg_iload_n (n := 84) dX5_digest_83 rfl rfl ?_
      refine hg_aload_n (n := 85) dX5_digest_84 rfl rfl ?_
      refine hg_getN (n := 88) (nr) dX5_digest_85 rfl fl_X5_124 rfl rfl hH.1 hnr ?_
      refine hg_icmp_geN (n := 91) (tgt := 108) (r) (nr) dX5_digest_88 rfl (by decide) (by omega) (by omega) (fun h88 => ?_) (fun h88 => ?_)
      · have e := show r = nr by omega
        subst e
        refine hg_lload_n (n := 109) dX5_digest_108 rfl rfl ?_
        refine hg_lreturn dX5_digest_109 rfl ?_
        exact hQ
      · exact absurd h88 (by omega)
    | succ m ih =>
      intro r hr
      refine hg_iload_n (n := 84) dX5_digest_83 rfl rfl ?_
      refine hg_aload_n (n := 85) dX5_digest_84 rfl rfl ?_
      refine hg_getN (n := 88) (nr) dX5_digest_85 rfl fl_X5_124 rfl rfl hH.1 hnr ?_
      refine hg_icmp_geN (n := 91) (tgt := 108) (r) (nr) dX5_digest_88 rfl (by decide) (by omega) (by omega) (fun h88 => ?_) (fun h88 => ?_)
      · exact absurd h88 (by omega)
      · refine hg_aload_n (n := 92) dX5_digest_91 rfl rfl ?_
        refine hg_getR (n := 95) (r := some (10, 0)) dX5_digest_92 rfl fl_X5_23 rfl rfl hH.1 hH.2.1.2.2.1 ?_
        refine hg_iload_n (n := 96) dX5_digest_95 rfl rfl ?_
        refine hg_aaload (n := 97) (len := 100) (r) (r := some (5, r)) dX5_digest_96 rfl (by decide) rfl rfl hH.2.2.2.2.1 rfl (by omega) (by omega) (hs_rA hH (by omega)) ?_
        refine hg_lload_n (n := 98) dX5_digest_97 rfl rfl ?_
        refine hg_callVd (n := 101) (c_X3_digestFrom (hs_R hH (by omega)) _) dX5_digest_98 rfl mk_X5_204 yl_X3_digestFrom yv_X3_digestFrom rfl (hs_R hH (by omega)) (by decide) (by decide) rfl rfl (Nat.le_of_ble_eq_true rfl) (fun h => by cases h) ?_
        refine hg_lstore_n (n := 102) dX5_digest_101 rfl (by decide) rfl rfl ?_
        refine hg_iincN (n := 105) (r) 1 dX5_digest_102 rfl rfl (by decide) (by decide) rfl rfl ?_
        refine hg_goto (tgt := 83) dX5_digest_105 (by decide) ?_
        exact ih (r + 1) (by omega)
  have l3 : ∀ m f, f + m = 3 → hg_G md_X5_digest false sh Q 0 0 59 [some (hv_r (some (1, 0))), some (hv_l (cg_f mi pl cu (cg_p mi ml nn (cg_c mi cu nr 5) np) f)), none, some (hv_i (nI f))] [] (mi, ml, mr, sh) := by
    intro m
    induction m with
    | zero =>
      intro f hf
      refine hg_iload_n (n := 60) dX5_digest_59 rfl rfl ?_
      refine hg_iconst (n := 61) (v := 3) dX5_digest_60 rfl (by decide) ?_
      refine hg_icmp_geN (n := 64) (tgt := 81) (f) (3) dX5_digest_61 rfl (by decide) (by omega) (by omega) (fun h61 => ?_) (fun h61 => ?_)
      · have e := show f = 3 by omega
        subst e
        refine hg_iconst (n := 82) (v := 0) dX5_digest_81 rfl (by decide) ?_
        refine hg_istore_n (n := 83) dX5_digest_82 rfl (by decide) rfl rfl ?_
        exact l4 nr 0 (by omega)
      · exact absurd h61 (by omega)
    | succ m ih =>
      intro f hf
      refine hg_iload_n (n := 60) dX5_digest_59 rfl rfl ?_
      refine hg_iconst (n := 61) (v := 3) dX5_digest_60 rfl (by decide) ?_
      refine hg_icmp_geN (n := 64) (tgt := 81) (f) (3) dX5_digest_61 rfl (by decide) (by omega) (by omega) (fun h61 => ?_) (fun h61 => ?_)
      · exact absurd h61 (by omega)
      · refine hg_aload_n (n := 65) dX5_digest_64 rfl rfl ?_
        refine hg_getR (n := 68) (r := some (9, 0)) dX5_digest_65 rfl fl_X5_17 rfl rfl hH.1 hH.2.1.2.1 ?_
        refine hg_iload_n (n := 69) dX5_digest_68 rfl rfl ?_
        refine hg_aaload (n := 70) (len := 3) (f) (r := some (3, f)) dX5_digest_69 rfl (by decide) rfl rfl hH.2.2.2.1 rfl (by omega) (by omega) (hs_fA hH (by omega)) ?_
        refine hg_lload_n (n := 71) dX5_digest_70 rfl rfl ?_
        refine hg_callVd (n := 74) (c_X0_digestFrom (hs_F hH (by omega)) (hpl f (by omega)) (hs_P hH) (hcu f (by omega)) _) dX5_digest_71 rfl mk_X5_203 yl_X0_digestFrom yv_X0_digestFrom rfl (hs_F hH (by omega)).1 (by decide) (by decide) rfl rfl (Nat.le_of_ble_eq_true rfl) (fun h => by cases h) ?_
        refine hg_lstore_n (n := 75) dX5_digest_74 rfl (by decide) rfl rfl ?_
        refine hg_iincN (n := 78) (f) 1 dX5_digest_75 rfl rfl (by decide) (by decide) rfl rfl ?_
        refine hg_goto (tgt := 59) dX5_digest_78 (by decide) ?_
        exact ih (f + 1) (by omega)
  have l2 : ∀ m p, p + m = np → hg_G md_X5_digest false sh Q 0 0 32 [some (hv_r (some (1, 0))), some (hv_l (cg_p mi ml nn (cg_c mi cu nr 5) p)), none, some (hv_i (nI p))] [] (mi, ml, mr, sh) := by
    intro m
    induction m with
    | zero =>
      intro p hp
      refine hg_iload_n (n := 33) dX5_digest_32 rfl rfl ?_
      refine hg_aload_n (n := 34) dX5_digest_33 rfl rfl ?_
      refine hg_getN (n := 37) (np) dX5_digest_34 rfl fl_X5_39 rfl rfl hH.1 hnp ?_
      refine hg_icmp_geN (n := 40) (tgt := 57) (p) (np) dX5_digest_37 rfl (by decide) (by omega) (by omega) (fun h37 => ?_) (fun h37 => ?_)
      · have e := show p = np by omega
        subst e
        refine hg_iconst (n := 58) (v := 0) dX5_digest_57 rfl (by decide) ?_
        refine hg_istore_n (n := 59) dX5_digest_58 rfl (by decide) rfl rfl ?_
        exact l3 3 0 (by omega)
      · exact absurd h37 (by omega)
    | succ m ih =>
      intro p hp
      refine hg_iload_n (n := 33) dX5_digest_32 rfl rfl ?_
      refine hg_aload_n (n := 34) dX5_digest_33 rfl rfl ?_
      refine hg_getN (n := 37) (np) dX5_digest_34 rfl fl_X5_39 rfl rfl hH.1 hnp ?_
      refine hg_icmp_geN (n := 40) (tgt := 57) (p) (np) dX5_digest_37 rfl (by decide) (by omega) (by omega) (fun h37 => ?_) (fun h37 => ?_)
      · exact absurd h37 (by omega)
      · refine hg_aload_n (n := 41) dX5_digest_40 rfl rfl ?_
        refine hg_getR (n := 44) (r := some (8, 0)) dX5_digest_41 rfl fl_X5_11 rfl rfl hH.1 hH.2.1.1 ?_
        refine hg_iload_n (n := 45) dX5_digest_44 rfl rfl ?_
        refine hg_aaload (n := 46) (len := 12) (p) (r := some (4, p)) dX5_digest_45 rfl (by decide) rfl rfl hH.2.2.1 rfl (by omega) (by omega) (hs_pA hH (by omega)) ?_
        refine hg_lload_n (n := 47) dX5_digest_46 rfl rfl ?_
        refine hg_callVd (n := 50) (c_X2_digestFrom (hs_P hH p (by omega)).1 (hs_P hH p (by omega)).2.1 (hs_P hH p (by omega)).2.2 _) dX5_digest_47 rfl mk_X5_199 yl_X2_digestFrom yv_X2_digestFrom rfl (hs_P hH p (by omega)).1.1 (by decide) (by decide) rfl rfl (Nat.le_of_ble_eq_true rfl) (fun h => by cases h) ?_
        refine hg_lstore_n (n := 51) dX5_digest_50 rfl (by decide) rfl rfl ?_
        refine hg_iincN (n := 54) (p) 1 dX5_digest_51 rfl rfl (by decide) (by decide) rfl rfl ?_
        refine hg_goto (tgt := 32) dX5_digest_54 (by decide) ?_
        exact ih (p + 1) (by omega)
  have l1 : ∀ m k, k + m = 5 → hg_G md_X5_digest false sh Q 0 0 6 [some (hv_r (some (1, 0))), some (hv_l (cg_c mi cu nr k)), none, some (hv_i (nI k))] [] (mi, ml, mr, sh) := by
    intro m
    induction m with
    | zero =>
      intro k hk
      refine hg_iload_n (n := 7) dX5_digest_6 rfl rfl ?_
      refine hg_iconst (n := 8) (v := 4) dX5_digest_7 rfl (by decide) ?_
      refine hg_icmp_gtN (n := 11) (tgt := 30) (k) (4) dX5_digest_8 rfl (by decide) (by omega) (by omega) (fun h8 => ?_) (fun h8 => ?_)
      · have e := show k = 5 by omega
        subst e
        refine hg_iconst (n := 31) (v := 0) dX5_digest_30 rfl (by decide) ?_
        refine hg_istore_n (n := 32) dX5_digest_31 rfl (by decide) rfl rfl ?_
        exact l2 np 0 (by omega)
      · exact absurd h8 (by omega)
    | succ m ih =>
      intro k hk
      refine hg_iload_n (n := 7) dX5_digest_6 rfl rfl ?_
      refine hg_iconst (n := 8) (v := 4) dX5_digest_7 rfl (by decide) ?_
      refine hg_icmp_gtN (n := 11) (tgt := 30) (k) (4) dX5_digest_8 rfl (by decide) (by omega) (by omega) (fun h8 => ?_) (fun h8 => ?_)
      · exact absurd h8 (by omega)
      · refine hg_ldc2 (n := 14) dX5_digest_11 rfl kc_X5_194 ?_
        refine hg_lload_n (n := 15) dX5_digest_14 rfl rfl ?_
        refine hg_lmul (n := 16) dX5_digest_15 rfl ?_
        refine hg_aload_n (n := 17) dX5_digest_16 rfl rfl ?_
        refine hg_iload_n (n := 18) dX5_digest_17 rfl rfl ?_
        refine hg_callVd (n := 21) (c_X5_count hH hcu hnr hn100 (k) (by omega)) dX5_digest_18 rfl mk_X5_196 yl_X5_count yv_X5_count rfl hH.1 (by decide) (by decide) rfl rfl (Nat.le_of_ble_eq_true rfl) (fun h => by cases h) ?_
        refine hg_i2l (n := 22) dX5_digest_21 rfl ?_
        refine hg_ladd (n := 23) dX5_digest_22 rfl ?_
        refine hg_lstore_n (n := 24) dX5_digest_23 rfl (by decide) rfl rfl ?_
        refine hg_iincN (n := 27) (k) 1 dX5_digest_24 rfl rfl (by decide) (by decide) rfl rfl ?_
        refine hg_goto (tgt := 6) dX5_digest_27 (by decide) ?_
        exact ih (k + 1) (by omega)
  refine hg_ldc2 (n := 3) dX5_digest_0 rfl kc_X5_192 ?_
  refine hg_lstore_n (n := 4) dX5_digest_3 rfl (by decide) rfl rfl ?_
  refine hg_iconst (n := 5) (v := 0) dX5_digest_4 rfl (by decide) ?_
  refine hg_istore_n (n := 6) dX5_digest_5 rfl (by decide) rfl rfl ?_
  exact l1 5 0 (by omega)

def pl_c (R : MR_) (f i : Nat) : Option Nat := (R 15 f i).map (fun q => q.2)
def cu_c (R : MR_) (f : Nat) : Option Nat := (R 3 f 12).map (fun q => q.2)
def al_c (Y : MI_) (f : Nat) : Nat := (Y 3 f 7).toNatClampNeg
def op_c (Y : MI_) (f : Nat) : Nat := (Y 18 f (al_c Y f)).toNatClampNeg
/-- what the class holds, but for its cells -/
abbrev Cc_ : Type := MI_ × ML_ × MR_
def ct_1 (nn : Nat → Nat) (f : Nat) (C : Cc_) : Cc_ := (C.2.2 3 f 12).elim C (fun q => (dt_m C.1 C.2.1 f q.2 (al_c C.1 f) (op_c C.1 f) (pl_c C.2.2 f) nn, (dt_3 C.1 C.2.1 f q.2 (al_c C.1 f) (op_c C.1 f) (pl_c C.2.2 f) nn).2, dt_r C.1 C.2.1 f q.2 (al_c C.1 f) (op_c C.1 f) (pl_c C.2.2 f) nn C.2.2))
def ct_f (nn : Nat → Nat) (C : Cc_) : Nat → Cc_
  | 0 => C
  | f + 1 => ct_1 nn f (ct_f nn C f)
def ct_z (nn : Nat → Nat) (C : Cc_) : Nat → Cc_
  | 0 => C
  | k + 1 => ct_f nn (ct_z nn C k) 3
def cJ_0 (sh : SH_) (np nr : Nat) (nn : Nat → Nat) (C : Cc_) : Prop := hs_ C.2.2 sh np nr nn ∧ ∀ f, f < 3 → fp_ C.2.2 f np (pl_c C.2.2 f) ∧ fc_ C.2.2 sh f (cu_c C.2.2 f) ∧ (∀ r, cu_c C.2.2 f = some r → C.1 3 f 7 = nI (al_c C.1 f) ∧ al_c C.1 f < 8 ∧ C.1 18 f (al_c C.1 f) = nI (op_c C.1 f) ∧ op_c C.1 f ≤ 3)
def cJ_1 (J : Cc_ → Prop) (sh : SH_) (np nr : Nat) (nn : Nat → Nat) : Prop := ∀ C, J C → cJ_0 sh np nr nn C
def cJ_2 (J : Cc_ → Prop) (nn : Nat → Nat) : Prop := ∀ C f, J C → f < 3 → J (ct_1 nn f C)
theorem ct_fJ {J : Cc_ → Prop} {nn : Nat → Nat} (h2 : cJ_2 J nn) {C : Cc_} (h : J C) : ∀ f, f ≤ 3 → J (ct_f nn C f)
  | 0, _ => h
  | f + 1, hf => h2 _ f (ct_fJ h2 h f (by omega)) (by omega)
theorem ct_zJ {J : Cc_ → Prop} {nn : Nat → Nat} (h2 : cJ_2 J nn) {C : Cc_} (h : J C) : ∀ k, J (ct_z nn C k)
  | 0 => h
  | k + 1 => ct_fJ h2 (ct_zJ h2 h k) 3 (by omega)
theorem c_X0_tick1 {sh : SH_} {np nr : Nat} {nn : Nat → Nat} {C : Cc_} (h : cJ_0 sh np nr nn C) (f : Nat) (hf : f < 3) : hg_Det false yX0_doTick md_X0_doTick [hv_r (some (3, f))] (C.1, C.2.1, C.2.2, sh) none ((ct_1 nn f C).1, (ct_1 nn f C).2.1, (ct_1 nn f C).2.2, sh) := by
  intro Q hQ
  obtain ⟨hH, hA⟩ := h
  obtain ⟨hfp, hfc, hr⟩ := hA f hf
  unfold ct_1 at hQ
  cases hc : C.2.2 3 f 12 with
  | none =>
    rw [hc] at hQ
    exact c_X0_doTick_0 (hs_F hH hf) hc Q hQ
  | some q =>
    rw [hc] at hQ
    have e : cu_c C.2.2 f = some q.2 := by unfold cu_c; rw [hc]; rfl
    have e2 := hfc.1
    rw [e, hc] at e2
    obtain ⟨g1, g2, g3, g4⟩ := hr q.2 e
    exact c_X0_doTick (hs_F hH hf) hfp (hs_P hH) (hc.trans e2) (hfc.2 q.2 e) g1 g2 g3 g4 Q hQ
set_option maxHeartbeats 4000000 in
set_option maxRecDepth 100000 in
theorem c_X5_tick_b {mi : MI_} {ml : ML_} {mr : MR_} {sh : SH_} {np nr : Nat} {nn : Nat → Nat} (hH : hs_ mr sh np nr nn) (z : Int32) (hb : z_in z 1 200 = 0) : hg_Det false yX5_tick md_X5_tick [hv_r (some (1, 0)), hv_i z] (mi, ml, mr, sh) (some (hv_i (-2))) (mi, ml, mr, sh) := by
  intro Q hQ
  refine hg_intro rfl rfl rfl (Nat.le_of_ble_eq_true rfl) rfl ?_
  refine hg_iload_n (n := 1) dX5_tick_0 rfl rfl ?_
  refine hg_iconst (n := 2) (v := 1) dX5_tick_1 rfl (by decide) ?_
  refine hg_sipush (n := 5) (v := 200) dX5_tick_2 rfl (by decide) ?_
  refine hg_callSd (n := 8) (c_X5_within _ _ _ _) dX5_tick_5 rfl mk_X5_35 yl_X5_within ys_X5_within (by decide) (by decide) rfl rfl (Nat.le_of_ble_eq_true rfl) (fun h => by cases h) ?_
  refine hg_if_ne (n := 11) (tgt := 14) dX5_tick_8 rfl (by decide) (fun h8 => ?_) (fun h8 => ?_)
  · exact absurd hb h8
  · refine hg_bipush (n := 13) (v := -2) dX5_tick_11 rfl (by decide) ?_
    refine hg_ireturn dX5_tick_13 rfl ?_
    exact hQ

set_option maxHeartbeats 4000000 in
set_option maxRecDepth 100000 in
theorem c_X5_tick {sh : SH_} {np nr : Nat} {nn : Nat → Nat} {C : Cc_} {J : Cc_ → Prop} (h0 : J C) (h1 : cJ_1 J sh np nr nn) (h2 : cJ_2 J nn) (z : Nat) (hz9 : z ≤ 200) (hz : ¬ z_in (nI z) 1 200 = 0) : hg_Det false yX5_tick md_X5_tick [hv_r (some (1, 0)), hv_i (nI z)] (C.1, C.2.1, C.2.2, sh) (some (hv_i (fr_ (cu_c (ct_z nn C z).2.2) 3))) ((ct_z nn C z).1, (ct_z nn C z).2.1, (ct_z nn C z).2.2, sh) := by
  intro Q hQ
  refine hg_intro rfl rfl rfl (Nat.le_of_ble_eq_true rfl) rfl ?_
  have l1 : ∀ j k, k + j = z → hg_G md_X5_tick false sh Q 0 0 16 [some (hv_r (some (1, 0))), some (hv_i (nI z)), some (hv_i (nI k)), none] [] ((ct_z nn C k).1, (ct_z nn C k).2.1, (ct_z nn C k).2.2, sh) := by
    intro j
    induction j with
    | zero =>
      intro k hk
      have hJ := h1 _ (ct_zJ h2 h0 k)
      refine hg_iload_n (n := 17) dX5_tick_16 rfl rfl ?_
      refine hg_iload_n (n := 18) dX5_tick_17 rfl rfl ?_
      refine hg_icmp_geN (n := 21) (tgt := 49) (k) (z) dX5_tick_18 rfl (by decide) (by omega) (by omega) (fun h18 => ?_) (fun h18 => ?_)
      · have e := show k = z by omega
        subst e
        refine hg_aload_n (n := 50) dX5_tick_49 rfl rfl ?_
        refine hg_callVd (n := 53) (c_X5_furnacesRunning hJ.1 (fun f hf => (hJ.2 f hf).2.1)) dX5_tick_50 rfl mk_X5_136 yl_X5_furnacesRunning yv_X5_furnacesRunning rfl hJ.1.1 (by decide) (by decide) rfl rfl (Nat.le_of_ble_eq_true rfl) (fun h => by cases h) ?_
        refine hg_ireturn dX5_tick_53 rfl ?_
        exact hQ
      · exact absurd h18 (by omega)
    | succ j ih0 =>
      intro k hk
      have l2 : ∀ m f, f + m = 3 → hg_G md_X5_tick false sh Q 0 0 23 [some (hv_r (some (1, 0))), some (hv_i (nI z)), some (hv_i (nI k)), some (hv_i (nI f))] [] ((ct_f nn (ct_z nn C k) f).1, (ct_f nn (ct_z nn C k) f).2.1, (ct_f nn (ct_z nn C k) f).2.2, sh) := by
        intro m
        induction m with
        | zero =>
          intro f hf
          refine hg_iload_n (n := 24) dX5_tick_23 rfl rfl ?_
          refine hg_iconst (n := 25) (v := 3) dX5_tick_24 rfl (by decide) ?_
          refine hg_icmp_geN (n := 28) (tgt := 43) (f) (3) dX5_tick_25 rfl (by decide) (by omega) (by omega) (fun h25 => ?_) (fun h25 => ?_)
          · have e := show f = 3 by omega
            subst e
            refine hg_iincN (n := 46) (k) 1 dX5_tick_43 rfl rfl (by decide) (by decide) rfl rfl ?_
            refine hg_goto (tgt := 16) dX5_tick_46 (by decide) ?_
            exact hg_ls (ih0 (k + 1) (by omega)) ⟨rfl, rfl, rfl, trivial⟩
          · exact absurd h25 (by omega)
        | succ m ih =>
          intro f hf
          have hJ := h1 _ (ct_fJ h2 (ct_zJ h2 h0 k) f (by omega))
          refine hg_iload_n (n := 24) dX5_tick_23 rfl rfl ?_
          refine hg_iconst (n := 25) (v := 3) dX5_tick_24 rfl (by decide) ?_
          refine hg_icmp_geN (n := 28) (tgt := 43) (f) (3) dX5_tick_25 rfl (by decide) (by omega) (by omega) (fun h25 => ?_) (fun h25 => ?_)
          · exact absurd h25 (by omega)
          · refine hg_aload_n (n := 29) dX5_tick_28 rfl rfl ?_
            refine hg_getR (n := 32) (r := some (9, 0)) dX5_tick_29 rfl fl_X5_17 rfl rfl hJ.1.1 hJ.1.2.1.2.1 ?_
            refine hg_iload_n (n := 33) dX5_tick_32 rfl rfl ?_
            refine hg_aaload (n := 34) (len := 3) (f) (r := some (3, f)) dX5_tick_33 rfl (by decide) rfl rfl hJ.1.2.2.2.1 rfl (by omega) (by omega) (hs_fA hJ.1 (by omega)) ?_
            refine hg_callVd (n := 37) (c_X0_tick1 hJ f (by omega)) dX5_tick_34 rfl mk_X5_133 yl_X0_doTick yv_X0_doTick rfl (hs_F hJ.1 (by omega)).1 (by decide) (by decide) rfl rfl (Nat.le_of_ble_eq_true rfl) (fun h => by cases h) ?_
            refine hg_iincN (n := 40) (f) 1 dX5_tick_37 rfl rfl (by decide) (by decide) rfl rfl ?_
            refine hg_goto (tgt := 23) dX5_tick_40 (by decide) ?_
            exact ih (f + 1) (by omega)
      refine hg_iload_n (n := 17) dX5_tick_16 rfl rfl ?_
      refine hg_iload_n (n := 18) dX5_tick_17 rfl rfl ?_
      refine hg_icmp_geN (n := 21) (tgt := 49) (k) (z) dX5_tick_18 rfl (by decide) (by omega) (by omega) (fun h18 => ?_) (fun h18 => ?_)
      · exact absurd h18 (by omega)
      · refine hg_iconst (n := 22) (v := 0) dX5_tick_21 rfl (by decide) ?_
        refine hg_istore_n (n := 23) dX5_tick_22 rfl (by decide) rfl rfl ?_
        exact l2 3 0 (by omega)
  refine hg_iload_n (n := 1) dX5_tick_0 rfl rfl ?_
  refine hg_iconst (n := 2) (v := 1) dX5_tick_1 rfl (by decide) ?_
  refine hg_sipush (n := 5) (v := 200) dX5_tick_2 rfl (by decide) ?_
  refine hg_callSd (n := 8) (c_X5_within _ _ _ _) dX5_tick_5 rfl mk_X5_35 yl_X5_within ys_X5_within (by decide) (by decide) rfl rfl (Nat.le_of_ble_eq_true rfl) (fun h => by cases h) ?_
  refine hg_if_ne (n := 11) (tgt := 14) dX5_tick_8 rfl (by decide) (fun h8 => ?_) (fun h8 => ?_)
  · refine hg_iconst (n := 15) (v := 0) dX5_tick_14 rfl (by decide) ?_
    refine hg_istore_n (n := 16) dX5_tick_15 rfl (by decide) rfl rfl ?_
    exact l1 z 0 (by omega)
  · exact absurd h8 hz

