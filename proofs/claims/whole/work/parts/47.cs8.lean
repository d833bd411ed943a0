set_option maxHeartbeats 4000000 in
set_option maxRecDepth 100000 in
theorem c_X5_load_b {mi : MI_} {ml : ML_} {mr : MR_} {sh : SH_} {np nr : Nat} {nn : Nat → Nat} (hH : hs_ mr sh np nr nn) (hnp : mi 1 0 4 = nI np) (hn12 : np ≤ 12) (x l y : Int32) (hb : z_in x 0 2 = 0 ∨ z_in l 0 3 = 0 ∨ z_in y 0 (mi 1 0 4 - 1) = 0) : hg_Det false yX5_load md_X5_load [hv_r (some (1, 0)), hv_i x, hv_i l, hv_i y] (mi, ml, mr, sh) (some (hv_i (-2))) (mi, ml, mr, sh) := by
  intro Q hQ
  refine hg_intro rfl rfl rfl (Nat.le_of_ble_eq_true rfl) rfl ?_
  by_cases g1 : z_in x 0 2 = 0
  · by_cases g2 : z_in y 0 (mi 1 0 4 - 1) = 0
    · skip
      refine hg_aload_n (n := 1) dX5_load_0 rfl rfl ?_
      refine hg_iload_n (n := 2) dX5_load_1 rfl rfl ?_
      refine hg_callVd (n := 5) (c_X5_furnaceAt_b hH _ g1) dX5_load_2 rfl mk_X5_83 yl_X5_furnaceAt yv_X5_furnaceAt rfl hH.1 (by decide) (by decide) rfl rfl (Nat.le_of_ble_eq_true rfl) (fun h => by cases h) ?_
      refine hg_astore (n := 7) dX5_load_5 rfl (by decide) rfl rfl ?_
      refine hg_aload_n (n := 8) dX5_load_7 rfl rfl ?_
      refine hg_iload_n (n := 9) dX5_load_8 rfl rfl ?_
      refine hg_callVd (n := 12) (c_X5_partAt_b hH _ g2) dX5_load_9 rfl mk_X5_46 yl_X5_partAt yv_X5_partAt rfl hH.1 (by decide) (by decide) rfl rfl (Nat.le_of_ble_eq_true rfl) (fun h => by cases h) ?_
      refine hg_astore (n := 14) dX5_load_12 rfl (by decide) rfl rfl ?_
      refine hg_aload (n := 16) dX5_load_14 rfl rfl ?_
      refine hg_ifnull (n := 19) (tgt := 33) dX5_load_16 rfl (by decide) (fun h16 => ?_) (fun q16 h16 => ?_)
      · refine hg_bipush (n := 35) (v := -2) dX5_load_33 rfl (by decide) ?_
        refine hg_ireturn dX5_load_35 rfl ?_
        exact hQ
      · cases h16
    · obtain ⟨p, hp, rfl⟩ := z_ix (n := np) (by omega) (by rw [← hnp]; exact g2)
      refine hg_aload_n (n := 1) dX5_load_0 rfl rfl ?_
      refine hg_iload_n (n := 2) dX5_load_1 rfl rfl ?_
      refine hg_callVd (n := 5) (c_X5_furnaceAt_b hH _ g1) dX5_load_2 rfl mk_X5_83 yl_X5_furnaceAt yv_X5_furnaceAt rfl hH.1 (by decide) (by decide) rfl rfl (Nat.le_of_ble_eq_true rfl) (fun h => by cases h) ?_
      refine hg_astore (n := 7) dX5_load_5 rfl (by decide) rfl rfl ?_
      refine hg_aload_n (n := 8) dX5_load_7 rfl rfl ?_
      refine hg_iload_n (n := 9) dX5_load_8 rfl rfl ?_
      refine hg_callVd (n := 12) (c_X5_partAt hH hnp hn12 p hp) dX5_load_9 rfl mk_X5_46 yl_X5_partAt yv_X5_partAt rfl hH.1 (by decide) (by decide) rfl rfl (Nat.le_of_ble_eq_true rfl) (fun h => by cases h) ?_
      refine hg_astore (n := 14) dX5_load_12 rfl (by decide) rfl rfl ?_
      refine hg_aload (n := 16) dX5_load_14 rfl rfl ?_
      refine hg_ifnull (n := 19) (tgt := 33) dX5_load_16 rfl (by decide) (fun h16 => ?_) (fun q16 h16 => ?_)
      · refine hg_bipush (n := 35) (v := -2) dX5_load_33 rfl (by decide) ?_
        refine hg_ireturn dX5_load_35 rfl ?_
        exact hQ
      · cases h16
  · obtain ⟨f, hf0, hf1, rfl⟩ := z_nat (a := 0) (b := 2) (by decide) (by decide) g1
    have hf : f < 3 := by omega
    by_cases g2 : z_in y 0 (mi 1 0 4 - 1) = 0
    · skip
      refine hg_aload_n (n := 1) dX5_load_0 rfl rfl ?_
      refine hg_iload_n (n := 2) dX5_load_1 rfl rfl ?_
      refine hg_callVd (n := 5) (c_X5_furnaceAt hH f hf) dX5_load_2 rfl mk_X5_83 yl_X5_furnaceAt yv_X5_furnaceAt rfl hH.1 (by decide) (by decide) rfl rfl (Nat.le_of_ble_eq_true rfl) (fun h => by cases h) ?_
      refine hg_astore (n := 7) dX5_load_5 rfl (by decide) rfl rfl ?_
      refine hg_aload_n (n := 8) dX5_load_7 rfl rfl ?_
      refine hg_iload_n (n := 9) dX5_load_8 rfl rfl ?_
      refine hg_callVd (n := 12) (c_X5_partAt_b hH _ g2) dX5_load_9 rfl mk_X5_46 yl_X5_partAt yv_X5_partAt rfl hH.1 (by decide) (by decide) rfl rfl (Nat.le_of_ble_eq_true rfl) (fun h => by cases h) ?_
      refine hg_astore (n := 14) dX5_load_12 rfl (by decide) rfl rfl ?_
      refine hg_aload (n := 16) dX5_load_14 rfl rfl ?_
      refine hg_ifnull (n := 19) (tgt := 33) dX5_load_16 rfl (by decide) (fun h16 => ?_) (fun q16 h16 => ?_)
      · cases h16
      · refine hg_aload (n := 21) dX5_load_19 rfl rfl ?_
        refine hg_ifnull (n := 24) (tgt := 33) dX5_load_21 rfl (by decide) (fun h21 => ?_) (fun q21 h21 => ?_)
        · refine hg_bipush (n := 35) (v := -2) dX5_load_33 rfl (by decide) ?_
          refine hg_ireturn dX5_load_35 rfl ?_
          exact hQ
        · cases h21
    · obtain ⟨p, hp, rfl⟩ := z_ix (n := np) (by omega) (by rw [← hnp]; exact g2)
      refine hg_aload_n (n := 1) dX5_load_0 rfl rfl ?_
      refine hg_iload_n (n := 2) dX5_load_1 rfl rfl ?_
      refine hg_callVd (n := 5) (c_X5_furnaceAt hH f hf) dX5_load_2 rfl mk_X5_83 yl_X5_furnaceAt yv_X5_furnaceAt rfl hH.1 (by decide) (by decide) rfl rfl (Nat.le_of_ble_eq_true rfl) (fun h => by cases h) ?_
      refine hg_astore (n := 7) dX5_load_5 rfl (by decide) rfl rfl ?_
      refine hg_aload_n (n := 8) dX5_load_7 rfl rfl ?_
      refine hg_iload_n (n := 9) dX5_load_8 rfl rfl ?_
      refine hg_callVd (n := 12) (c_X5_partAt hH hnp hn12 p hp) dX5_load_9 rfl mk_X5_46 yl_X5_partAt yv_X5_partAt rfl hH.1 (by decide) (by decide) rfl rfl (Nat.le_of_ble_eq_true rfl) (fun h => by cases h) ?_
      refine hg_astore (n := 14) dX5_load_12 rfl (by decide) rfl rfl ?_
      refine hg_aload (n := 16) dX5_load_14 rfl rfl ?_
      refine hg_ifnull (n := 19) (tgt := 33) dX5_load_16 rfl (by decide) (fun h16 => ?_) (fun q16 h16 => ?_)
      · cases h16
      · refine hg_aload (n := 21) dX5_load_19 rfl rfl ?_
        refine hg_ifnull (n := 24) (tgt := 33) dX5_load_21 rfl (by decide) (fun h21 => ?_) (fun q21 h21 => ?_)
        · cases h21
        · refine hg_iload_n (n := 25) dX5_load_24 rfl rfl ?_
          refine hg_iconst (n := 26) (v := 0) dX5_load_25 rfl (by decide) ?_
          refine hg_iconst (n := 27) (v := 3) dX5_load_26 rfl (by decide) ?_
          refine hg_callSd (n := 30) (c_X5_within _ _ _ _) dX5_load_27 rfl mk_X5_35 yl_X5_within ys_X5_within (by decide) (by decide) rfl rfl (Nat.le_of_ble_eq_true rfl) (fun h => by cases h) ?_
          refine hg_if_ne (n := 33) (tgt := 36) dX5_load_30 rfl (by decide) (fun h30 => ?_) (fun h30 => ?_)
          · exact absurd hb (by simp [g1, g2, h30])
          · refine hg_bipush (n := 35) (v := -2) dX5_load_33 rfl (by decide) ?_
            refine hg_ireturn dX5_load_35 rfl ?_
            exact hQ

set_option maxHeartbeats 4000000 in
set_option maxRecDepth 100000 in
theorem c_X5_load_n {mi : MI_} {ml : ML_} {mr : MR_} {sh : SH_} {np nr : Nat} {nn : Nat → Nat} (hH : hs_ mr sh np nr nn) (hnp : mi 1 0 4 = nI np) (hn12 : np ≤ 12) (f : Nat) (hf : f < 3) (l : Nat) (hl : l < 4) (p : Nat) (hp : p < np) {pl : Nat → Option Nat} (hfp : fp_ mr f np pl) {cu : Option Nat} (hc : fc_ mr sh f cu) (hno : ¬ mi 4 p 8 = 0 ∨ ¬ pl l = none ∨ ¬ ir_ cu = 0 ∨ ¬ im_ mi pl 4 + mi 4 p 1 ≤ 1000) : hg_Det false yX5_load md_X5_load [hv_r (some (1, 0)), hv_i (nI f), hv_i (nI l), hv_i (nI p)] (mi, ml, mr, sh) (some (hv_i (-3))) (mi, ml, mr, sh) := by
  intro Q hQ
  refine hg_intro rfl rfl rfl (Nat.le_of_ble_eq_true rfl) rfl ?_
  cases hpi : pl l with
  | none =>
    refine hg_aload_n (n := 1) dX5_load_0 rfl rfl ?_
    refine hg_iload_n (n := 2) dX5_load_1 rfl rfl ?_
    refine hg_callVd (n := 5) (c_X5_furnaceAt hH f hf) dX5_load_2 rfl mk_X5_83 yl_X5_furnaceAt yv_X5_furnaceAt rfl hH.1 (by decide) (by decide) rfl rfl (Nat.le_of_ble_eq_true rfl) (fun h => by cases h) ?_
    refine hg_astore (n := 7) dX5_load_5 rfl (by decide) rfl rfl ?_
    refine hg_aload_n (n := 8) dX5_load_7 rfl rfl ?_
    refine hg_iload_n (n := 9) dX5_load_8 rfl rfl ?_
    refine hg_callVd (n := 12) (c_X5_partAt hH hnp hn12 p hp) dX5_load_9 rfl mk_X5_46 yl_X5_partAt yv_X5_partAt rfl hH.1 (by decide) (by decide) rfl rfl (Nat.le_of_ble_eq_true rfl) (fun h => by cases h) ?_
    refine hg_astore (n := 14) dX5_load_12 rfl (by decide) rfl rfl ?_
    refine hg_aload (n := 16) dX5_load_14 rfl rfl ?_
    refine hg_ifnull (n := 19) (tgt := 33) dX5_load_16 rfl (by decide) (fun h16 => ?_) (fun q16 h16 => ?_)
    · cases h16
    · refine hg_aload (n := 21) dX5_load_19 rfl rfl ?_
      refine hg_ifnull (n := 24) (tgt := 33) dX5_load_21 rfl (by decide) (fun h21 => ?_) (fun q21 h21 => ?_)
      · cases h21
      · refine hg_iload_n (n := 25) dX5_load_24 rfl rfl ?_
        refine hg_iconst (n := 26) (v := 0) dX5_load_25 rfl (by decide) ?_
        refine hg_iconst (n := 27) (v := 3) dX5_load_26 rfl (by decide) ?_
        refine hg_callSd (n := 30) (c_X5_within _ _ _ _) dX5_load_27 rfl mk_X5_35 yl_X5_within ys_X5_within (by decide) (by decide) rfl rfl (Nat.le_of_ble_eq_true rfl) (fun h => by cases h) ?_
        refine hg_if_ne (n := 33) (tgt := 36) dX5_load_30 rfl (by decide) (fun h30 => ?_) (fun h30 => ?_)
        · refine hg_aload (n := 38) dX5_load_36 rfl rfl ?_
          refine hg_getI (n := 41) dX5_load_38 rfl fl_X5_50 rfl rfl (hs_P hH p hp).1.1 ?_
          refine hg_if_ne (n := 44) (tgt := 79) dX5_load_41 rfl (by decide) (fun h41 => ?_) (fun h41 => ?_)
          · refine hg_bipush (n := 81) (v := -3) dX5_load_79 rfl (by decide) ?_
            refine hg_ireturn dX5_load_81 rfl ?_
            exact hQ
          · refine hg_aload (n := 46) dX5_load_44 rfl rfl ?_
            refine hg_getR (n := 49) (r := some (15, f)) dX5_load_46 rfl fl_X5_101 rfl rfl (hs_F hH hf).1 ((hs_F hH hf).2 0 (by decide)).1 ?_
            refine hg_iload_n (n := 50) dX5_load_49 rfl rfl ?_
            refine hg_aaload (n := 51) (len := 4) (l) (r := none) dX5_load_50 rfl (by decide) rfl rfl ((hs_F hH hf).2 0 (by decide)).2 rfl (by omega) (by omega) ((hfp l hl).1.trans (by rw [hpi]; rfl)) ?_
            refine hg_ifnonnull (n := 54) (tgt := 79) dX5_load_51 rfl (by decide) (fun q51 h51 => ?_) (fun h51 => ?_)
            · cases h51
            · refine hg_aload (n := 56) dX5_load_54 rfl rfl ?_
              refine hg_callVd (n := 59) (c_X0_isRunning (hs_F hH hf) hc) dX5_load_56 rfl mk_X5_90 yl_X0_isRunning yv_X0_isRunning rfl (hs_F hH hf).1 (by decide) (by decide) rfl rfl (Nat.le_of_ble_eq_true rfl) (fun h => by cases h) ?_
              refine hg_if_ne (n := 62) (tgt := 79) dX5_load_59 rfl (by decide) (fun h59 => ?_) (fun h59 => ?_)
              · refine hg_bipush (n := 81) (v := -3) dX5_load_79 rfl (by decide) ?_
                refine hg_ireturn dX5_load_81 rfl ?_
                exact hQ
              · refine hg_aload (n := 64) dX5_load_62 rfl rfl ?_
                refine hg_callVd (n := 67) (c_X0_massInside (hs_F hH hf) hfp (hs_P hH)) dX5_load_64 rfl mk_X5_104 yl_X0_massInside yv_X0_massInside rfl (hs_F hH hf).1 (by decide) (by decide) rfl rfl (Nat.le_of_ble_eq_true rfl) (fun h => by cases h) ?_
                refine hg_aload (n := 69) dX5_load_67 rfl rfl ?_
                refine hg_getI (n := 72) dX5_load_69 rfl fl_X5_107 rfl rfl (hs_P hH p hp).1.1 ?_
                refine hg_iadd (n := 73) dX5_load_72 rfl ?_
                refine hg_sipush (n := 76) (v := 1000) dX5_load_73 rfl (by decide) ?_
                refine hg_icmp_le (n := 79) (tgt := 82) dX5_load_76 rfl (by decide) (fun h76 => ?_) (fun h76 => ?_)
                · exact absurd hno (by simp [h41, hpi, h59, h76])
                · refine hg_bipush (n := 81) (v := -3) dX5_load_79 rfl (by decide) ?_
                  refine hg_ireturn dX5_load_81 rfl ?_
                  exact hQ
        · exact absurd h30 (z_nat3 (a := 0) (b := 3) (by omega) (by omega) (by omega))
  | some q =>
    refine hg_aload_n (n := 1) dX5_load_0 rfl rfl ?_
    refine hg_iload_n (n := 2) dX5_load_1 rfl rfl ?_
    refine hg_callVd (n := 5) (c_X5_furnaceAt hH f hf) dX5_load_2 rfl mk_X5_83 yl_X5_furnaceAt yv_X5_furnaceAt rfl hH.1 (by decide) (by decide) rfl rfl (Nat.le_of_ble_eq_true rfl) (fun h => by cases h) ?_
    refine hg_astore (n := 7) dX5_load_5 rfl (by decide) rfl rfl ?_
    refine hg_aload_n (n := 8) dX5_load_7 rfl rfl ?_
    refine hg_iload_n (n := 9) dX5_load_8 rfl rfl ?_
    refine hg_callVd (n := 12) (c_X5_partAt hH hnp hn12 p hp) dX5_load_9 rfl mk_X5_46 yl_X5_partAt yv_X5_partAt rfl hH.1 (by decide) (by decide) rfl rfl (Nat.le_of_ble_eq_true rfl) (fun h => by cases h) ?_
    refine hg_astore (n := 14) dX5_load_12 rfl (by decide) rfl rfl ?_
    refine hg_aload (n := 16) dX5_load_14 rfl rfl ?_
    refine hg_ifnull (n := 19) (tgt := 33) dX5_load_16 rfl (by decide) (fun h16 => ?_) (fun q16 h16 => ?_)
    · cases h16
    · refine hg_aload (n := 21) dX5_load_19 rfl rfl ?_
      refine hg_ifnull (n := 24) (tgt := 33) dX5_load_21 rfl (by decide) (fun h21 => ?_) (fun q21 h21 => ?_)
      · cases h21
      · refine hg_iload_n (n := 25) dX5_load_24 rfl rfl ?_
        refine hg_iconst (n := 26) (v := 0) dX5_load_25 rfl (by decide) ?_
        refine hg_iconst (n := 27) (v := 3) dX5_load_26 rfl (by decide) ?_
        refine hg_callSd (n := 30) (c_X5_within _ _ _ _) dX5_load_27 rfl mk_X5_35 yl_X5_within ys_X5_within (by decide) (by decide) rfl rfl (Nat.le_of_ble_eq_true rfl) (fun h => by cases h) ?_
        refine hg_if_ne (n := 33) (tgt := 36) dX5_load_30 rfl (by decide) (fun h30 => ?_) (fun h30 => ?_)
        · refine hg_aload (n := 38) dX5_load_36 rfl rfl ?_
          refine hg_getI (n := 41) dX5_load_38 rfl fl_X5_50 rfl rfl (hs_P hH p hp).1.1 ?_
          refine hg_if_ne (n := 44) (tgt := 79) dX5_load_41 rfl (by decide) (fun h41 => ?_) (fun h41 => ?_)
          · refine hg_bipush (n := 81) (v := -3) dX5_load_79 rfl (by decide) ?_
            refine hg_ireturn dX5_load_81 rfl ?_
            exact hQ
          · refine hg_aload (n := 46) dX5_load_44 rfl rfl ?_
            refine hg_getR (n := 49) (r := some (15, f)) dX5_load_46 rfl fl_X5_101 rfl rfl (hs_F hH hf).1 ((hs_F hH hf).2 0 (by decide)).1 ?_
            refine hg_iload_n (n := 50) dX5_load_49 rfl rfl ?_
            refine hg_aaload (n := 51) (len := 4) (l) (r := some (4, q)) dX5_load_50 rfl (by decide) rfl rfl ((hs_F hH hf).2 0 (by decide)).2 rfl (by omega) (by omega) ((hfp l hl).1.trans (by rw [hpi]; rfl)) ?_
            refine hg_ifnonnull (n := 54) (tgt := 79) dX5_load_51 rfl (by decide) (fun q51 h51 => ?_) (fun h51 => ?_)
            · refine hg_bipush (n := 81) (v := -3) dX5_load_79 rfl (by decide) ?_
              refine hg_ireturn dX5_load_81 rfl ?_
              exact hQ
            · cases h51
        · exact absurd h30 (z_nat3 (a := 0) (b := 3) (by omega) (by omega) (by omega))

set_option maxHeartbeats 4000000 in
set_option maxRecDepth 100000 in
theorem c_X5_load {mi : MI_} {ml : ML_} {mr : MR_} {sh : SH_} {np nr : Nat} {nn : Nat → Nat} (hH : hs_ mr sh np nr nn) (hnp : mi 1 0 4 = nI np) (hn12 : np ≤ 12) (f : Nat) (hf : f < 3) (l : Nat) (hl : l < 4) (p : Nat) (hp : p < np) {pl : Nat → Option Nat} (hfp : fp_ mr f np pl) {cu : Option Nat} (hc : fc_ mr sh f cu) (h1 : mi 4 p 8 = 0) (h2 : pl l = none) (h3 : ir_ cu = 0) (h4 : im_ mi pl 4 + mi 4 p 1 ≤ 1000) : hg_Det false yX5_load md_X5_load [hv_r (some (1, 0)), hv_i (nI f), hv_i (nI l), hv_i (nI p)] (mi, ml, mr, sh) (some (hv_i 1)) (u_3 mi 4 p 8 1, ml, u_3 mr 15 f l (some (4, p)), sh) := by
  intro Q hQ
  refine hg_intro rfl rfl rfl (Nat.le_of_ble_eq_true rfl) rfl ?_
  refine hg_aload_n (n := 1) dX5_load_0 rfl rfl ?_
  refine hg_iload_n (n := 2) dX5_load_1 rfl rfl ?_
  refine hg_callVd (n := 5) (c_X5_furnaceAt hH f hf) dX5_load_2 rfl mk_X5_83 yl_X5_furnaceAt yv_X5_furnaceAt rfl hH.1 (by decide) (by decide) rfl rfl (Nat.le_of_ble_eq_true rfl) (fun h => by cases h) ?_
  refine hg_astore (n := 7) dX5_load_5 rfl (by decide) rfl rfl ?_
  refine hg_aload_n (n := 8) dX5_load_7 rfl rfl ?_
  refine hg_iload_n (n := 9) dX5_load_8 rfl rfl ?_
  refine hg_callVd (n := 12) (c_X5_partAt hH hnp hn12 p hp) dX5_load_9 rfl mk_X5_46 yl_X5_partAt yv_X5_partAt rfl hH.1 (by decide) (by decide) rfl rfl (Nat.le_of_ble_eq_true rfl) (fun h => by cases h) ?_
  refine hg_astore (n := 14) dX5_load_12 rfl (by decide) rfl rfl ?_
  refine hg_aload (n := 16) dX5_load_14 rfl rfl ?_
  refine hg_ifnull (n := 19) (tgt := 33) dX5_load_16 rfl (by decide) (fun h16 => ?_) (fun q16 h16 => ?_)
  · cases h16
  · refine hg_aload (n := 21) dX5_load_19 rfl rfl ?_
    refine hg_ifnull (n := 24) (tgt := 33) dX5_load_21 rfl (by decide) (fun h21 => ?_) (fun q21 h21 => ?_)
    · cases h21
    · refine hg_iload_n (n := 25) dX5_load_24 rfl rfl ?_
      refine hg_iconst (n := 26) (v := 0) dX5_load_25 rfl (by decide) ?_
      refine hg_iconst (n := 27) (v := 3) dX5_load_26 rfl (by decide) ?_
      refine hg_callSd (n := 30) (c_X5_within _ _ _ _) dX5_load_27 rfl mk_X5_35 yl_X5_within ys_X5_within (by decide) (by decide) rfl rfl (Nat.le_of_ble_eq_true rfl) (fun h => by cases h) ?_
      refine hg_if_ne (n := 33) (tgt := 36) dX5_load_30 rfl (by decide) (fun h30 => ?_) (fun h30 => ?_)
      · refine hg_aload (n := 38) dX5_load_36 rfl rfl ?_
        refine hg_getI (n := 41) dX5_load_38 rfl fl_X5_50 rfl rfl (hs_P hH p hp).1.1 ?_
        refine hg_if_ne (n := 44) (tgt := 79) dX5_load_41 rfl (by decide) (fun h41 => ?_) (fun h41 => ?_)
        · exact absurd h1 h41
        · refine hg_aload (n := 46) dX5_load_44 rfl rfl ?_
          refine hg_getR (n := 49) (r := some (15, f)) dX5_load_46 rfl fl_X5_101 rfl rfl (hs_F hH hf).1 ((hs_F hH hf).2 0 (by decide)).1 ?_
          refine hg_iload_n (n := 50) dX5_load_49 rfl rfl ?_
          refine hg_aaload (n := 51) (len := 4) (l) (r := none) dX5_load_50 rfl (by decide) rfl rfl ((hs_F hH hf).2 0 (by decide)).2 rfl (by omega) (by omega) ((hfp l hl).1.trans (by rw [h2]; rfl)) ?_
          refine hg_ifnonnull (n := 54) (tgt := 79) dX5_load_51 rfl (by decide) (fun q51 h51 => ?_) (fun h51 => ?_)
          · cases h51
          · refine hg_aload (n := 56) dX5_load_54 rfl rfl ?_
            refine hg_callVd (n := 59) (c_X0_isRunning (hs_F hH hf) hc) dX5_load_56 rfl mk_X5_90 yl_X0_isRunning yv_X0_isRunning rfl (hs_F hH hf).1 (by decide) (by decide) rfl rfl (Nat.le_of_ble_eq_true rfl) (fun h => by cases h) ?_
            refine hg_if_ne (n := 62) (tgt := 79) dX5_load_59 rfl (by decide) (fun h59 => ?_) (fun h59 => ?_)
            · exact absurd h3 h59
            · refine hg_aload (n := 64) dX5_load_62 rfl rfl ?_
              refine hg_callVd (n := 67) (c_X0_massInside (hs_F hH hf) hfp (hs_P hH)) dX5_load_64 rfl mk_X5_104 yl_X0_massInside yv_X0_massInside rfl (hs_F hH hf).1 (by decide) (by decide) rfl rfl (Nat.le_of_ble_eq_true rfl) (fun h => by cases h) ?_
              refine hg_aload (n := 69) dX5_load_67 rfl rfl ?_
              refine hg_getI (n := 72) dX5_load_69 rfl fl_X5_107 rfl rfl (hs_P hH p hp).1.1 ?_
              refine hg_iadd (n := 73) dX5_load_72 rfl ?_
              refine hg_sipush (n := 76) (v := 1000) dX5_load_73 rfl (by decide) ?_
              refine hg_icmp_le (n := 79) (tgt := 82) dX5_load_76 rfl (by decide) (fun h76 => ?_) (fun h76 => ?_)
              · refine hg_aload (n := 84) dX5_load_82 rfl rfl ?_
                refine hg_getR (n := 87) (r := some (15, f)) dX5_load_84 rfl fl_X5_101 rfl rfl (hs_F hH hf).1 ((hs_F hH hf).2 0 (by decide)).1 ?_
                refine hg_iload_n (n := 88) dX5_load_87 rfl rfl ?_
                refine hg_aload (n := 90) dX5_load_88 rfl rfl ?_
                refine hg_aastore (n := 91) (len := 4) (l) dX5_load_90 rfl (by decide) rfl hc_2 rfl ((hs_F hH hf).2 0 (by decide)).2 rfl (by omega) (by omega) rfl (hs_P hH p hp).1.1 ?_
                refine hg_aload (n := 93) dX5_load_91 rfl rfl ?_
                refine hg_iconst (n := 94) (v := 1) dX5_load_93 rfl (by decide) ?_
                refine hg_putZ (n := 97) dX5_load_94 rfl fl_X5_50 rfl rfl (by decide) (hs_P hH p hp).1.1 ?_
                refine hg_iconst (n := 98) (v := 1) dX5_load_97 rfl (by decide) ?_
                refine hg_ireturn dX5_load_98 rfl ?_
                exact hQ
              · exact absurd h4 h76
      · exact absurd h30 (z_nat3 (a := 0) (b := 3) (by omega) (by omega) (by omega))

set_option maxHeartbeats 4000000 in
set_option maxRecDepth 100000 in
theorem c_X5_unload_b {mi : MI_} {ml : ML_} {mr : MR_} {sh : SH_} {np nr : Nat} {nn : Nat → Nat} (hH : hs_ mr sh np nr nn) (x l : Int32) (hb : z_in x 0 2 = 0 ∨ z_in l 0 3 = 0) : hg_Det false yX5_unload md_X5_unload [hv_r (some (1, 0)), hv_i x, hv_i l] (mi, ml, mr, sh) (some (hv_i (-2))) (mi, ml, mr, sh) := by
  intro Q hQ
  refine hg_intro rfl rfl rfl (Nat.le_of_ble_eq_true rfl) rfl ?_
  by_cases g1 : z_in x 0 2 = 0
  · skip
    refine hg_aload_n (n := 1) dX5_unload_0 rfl rfl ?_
    refine hg_iload_n (n := 2) dX5_unload_1 rfl rfl ?_
    refine hg_callVd (n := 5) (c_X5_furnaceAt_b hH _ g1) dX5_unload_2 rfl mk_X5_83 yl_X5_furnaceAt yv_X5_furnaceAt rfl hH.1 (by decide) (by decide) rfl rfl (Nat.le_of_ble_eq_true rfl) (fun h => by cases h) ?_
    refine hg_astore_n (n := 6) dX5_unload_5 rfl (by decide) rfl rfl ?_
    refine hg_aload_n (n := 7) dX5_unload_6 rfl rfl ?_
    refine hg_ifnull (n := 10) (tgt := 19) dX5_unload_7 rfl (by decide) (fun h7 => ?_) (fun q7 h7 => ?_)
    · refine hg_bipush (n := 21) (v := -2) dX5_unload_19 rfl (by decide) ?_
      refine hg_ireturn dX5_unload_21 rfl ?_
      exact hQ
    · cases h7
  · obtain ⟨f, hf0, hf1, rfl⟩ := z_nat (a := 0) (b := 2) (by decide) (by decide) g1
    have hf : f < 3 := by omega
    refine hg_aload_n (n := 1) dX5_unload_0 rfl rfl ?_
    refine hg_iload_n (n := 2) dX5_unload_1 rfl rfl ?_
    refine hg_callVd (n := 5) (c_X5_furnaceAt hH f hf) dX5_unload_2 rfl mk_X5_83 yl_X5_furnaceAt yv_X5_furnaceAt rfl hH.1 (by decide) (by decide) rfl rfl (Nat.le_of_ble_eq_true rfl) (fun h => by cases h) ?_
    refine hg_astore_n (n := 6) dX5_unload_5 rfl (by decide) rfl rfl ?_
    refine hg_aload_n (n := 7) dX5_unload_6 rfl rfl ?_
    refine hg_ifnull (n := 10) (tgt := 19) dX5_unload_7 rfl (by decide) (fun h7 => ?_) (fun q7 h7 => ?_)
    · cases h7
    · refine hg_iload_n (n := 11) dX5_unload_10 rfl rfl ?_
      refine hg_iconst (n := 12) (v := 0) dX5_unload_11 rfl (by decide) ?_
      refine hg_iconst (n := 13) (v := 3) dX5_unload_12 rfl (by decide) ?_
      refine hg_callSd (n := 16) (c_X5_within _ _ _ _) dX5_unload_13 rfl mk_X5_35 yl_X5_within ys_X5_within (by decide) (by decide) rfl rfl (Nat.le_of_ble_eq_true rfl) (fun h => by cases h) ?_
      refine hg_if_ne (n := 19) (tgt := 22) dX5_unload_16 rfl (by decide) (fun h16 => ?_) (fun h16 => ?_)
      · exact absurd hb (by simp [g1, h16])
      · refine hg_bipush (n := 21) (v := -2) dX5_unload_19 rfl (by decide) ?_
        refine hg_ireturn dX5_unload_21 rfl ?_
        exact hQ

set_option maxHeartbeats 4000000 in
set_option maxRecDepth 100000 in
theorem c_X5_unload_n {mi : MI_} {ml : ML_} {mr : MR_} {sh : SH_} {np nr : Nat} {nn : Nat → Nat} (hH : hs_ mr sh np nr nn) (f : Nat) (hf : f < 3) (l : Nat) (hl : l < 4) {pl : Nat → Option Nat} (hfp : fp_ mr f np pl) {cu : Option Nat} (hc : fc_ mr sh f cu) (hno : pl l = none ∨ ¬ ir_ cu = 0) : hg_Det false yX5_unload md_X5_unload [hv_r (some (1, 0)), hv_i (nI f), hv_i (nI l)] (mi, ml, mr, sh) (some (hv_i (-3))) (mi, ml, mr, sh) := by
  intro Q hQ
  refine hg_intro rfl rfl rfl (Nat.le_of_ble_eq_true rfl) rfl ?_
  cases hpi : pl l with
  | none =>
    refine hg_aload_n (n := 1) dX5_unload_0 rfl rfl ?_
    refine hg_iload_n (n := 2) dX5_unload_1 rfl rfl ?_
    refine hg_callVd (n := 5) (c_X5_furnaceAt hH f hf) dX5_unload_2 rfl mk_X5_83 yl_X5_furnaceAt yv_X5_furnaceAt rfl hH.1 (by decide) (by decide) rfl rfl (Nat.le_of_ble_eq_true rfl) (fun h => by cases h) ?_
    refine hg_astore_n (n := 6) dX5_unload_5 rfl (by decide) rfl rfl ?_
    refine hg_aload_n (n := 7) dX5_unload_6 rfl rfl ?_
    refine hg_ifnull (n := 10) (tgt := 19) dX5_unload_7 rfl (by decide) (fun h7 => ?_) (fun q7 h7 => ?_)
    · cases h7
    · refine hg_iload_n (n := 11) dX5_unload_10 rfl rfl ?_
      refine hg_iconst (n := 12) (v := 0) dX5_unload_11 rfl (by decide) ?_
      refine hg_iconst (n := 13) (v := 3) dX5_unload_12 rfl (by decide) ?_
      refine hg_callSd (n := 16) (c_X5_within _ _ _ _) dX5_unload_13 rfl mk_X5_35 yl_X5_within ys_X5_within (by decide) (by decide) rfl rfl (Nat.le_of_ble_eq_true rfl) (fun h => by cases h) ?_
      refine hg_if_ne (n := 19) (tgt := 22) dX5_unload_16 rfl (by decide) (fun h16 => ?_) (fun h16 => ?_)
      · refine hg_aload_n (n := 23) dX5_unload_22 rfl rfl ?_
        refine hg_getR (n := 26) (r := some (15, f)) dX5_unload_23 rfl fl_X5_101 rfl rfl (hs_F hH hf).1 ((hs_F hH hf).2 0 (by decide)).1 ?_
        refine hg_iload_n (n := 27) dX5_unload_26 rfl rfl ?_
        refine hg_aaload (n := 28) (len := 4) (l) (r := none) dX5_unload_27 rfl (by decide) rfl rfl ((hs_F hH hf).2 0 (by decide)).2 rfl (by omega) (by omega) ((hfp l hl).1.trans (by rw [hpi]; rfl)) ?_
        refine hg_astore (n := 30) dX5_unload_28 rfl (by decide) rfl rfl ?_
        refine hg_aload (n := 32) dX5_unload_30 rfl rfl ?_
        refine hg_ifnull (n := 35) (tgt := 42) dX5_unload_32 rfl (by decide) (fun h32 => ?_) (fun q32 h32 => ?_)
        · refine hg_bipush (n := 44) (v := -3) dX5_unload_42 rfl (by decide) ?_
          refine hg_ireturn dX5_unload_44 rfl ?_
          exact hQ
        · cases h32
      · exact absurd h16 (z_nat3 (a := 0) (b := 3) (by omega) (by omega) (by omega))
  | some q =>
    refine hg_aload_n (n := 1) dX5_unload_0 rfl rfl ?_
    refine hg_iload_n (n := 2) dX5_unload_1 rfl rfl ?_
    refine hg_callVd (n := 5) (c_X5_furnaceAt hH f hf) dX5_unload_2 rfl mk_X5_83 yl_X5_furnaceAt yv_X5_furnaceAt rfl hH.1 (by decide) (by decide) rfl rfl (Nat.le_of_ble_eq_true rfl) (fun h => by cases h) ?_
    refine hg_astore_n (n := 6) dX5_unload_5 rfl (by decide) rfl rfl ?_
    refine hg_aload_n (n := 7) dX5_unload_6 rfl rfl ?_
    refine hg_ifnull (n := 10) (tgt := 19) dX5_unload_7 rfl (by decide) (fun h7 => ?_) (fun q7 h7 => ?_)
    · cases h7
    · refine hg_iload_n (n := 11) dX5_unload_10 rfl rfl ?_
      refine hg_iconst (n := 12) (v := 0) dX5_unload_11 rfl (by decide) ?_
      refine hg_iconst (n := 13) (v := 3) dX5_unload_12 rfl (by decide) ?_
      refine hg_callSd (n := 16) (c_X5_within _ _ _ _) dX5_unload_13 rfl mk_X5_35 yl_X5_within ys_X5_within (by decide) (by decide) rfl rfl (Nat.le_of_ble_eq_true rfl) (fun h => by cases h) ?_
      refine hg_if_ne (n := 19) (tgt := 22) dX5_unload_16 rfl (by decide) (fun h16 => ?_) (fun h16 => ?_)
      · refine hg_aload_n (n := 23) dX5_unload_22 rfl rfl ?_
        refine hg_getR (n := 26) (r := some (15, f)) dX5_unload_23 rfl fl_X5_101 rfl rfl (hs_F hH hf).1 ((hs_F hH hf).2 0 (by decide)).1 ?_
        refine hg_iload_n (n := 27) dX5_unload_26 rfl rfl ?_
        refine hg_aaload (n := 28) (len := 4) (l) (r := some (4, q)) dX5_unload_27 rfl (by decide) rfl rfl ((hs_F hH hf).2 0 (by decide)).2 rfl (by omega) (by omega) ((hfp l hl).1.trans (by rw [hpi]; rfl)) ?_
        refine hg_astore (n := 30) dX5_unload_28 rfl (by decide) rfl rfl ?_
        refine hg_aload (n := 32) dX5_unload_30 rfl rfl ?_
        refine hg_ifnull (n := 35) (tgt := 42) dX5_unload_32 rfl (by decide) (fun h32 => ?_) (fun q32 h32 => ?_)
        · cases h32
        · refine hg_aload_n (n := 36) dX5_unload_35 rfl rfl ?_
          refine hg_callVd (n := 39) (c_X0_isRunning (hs_F hH hf) hc) dX5_unload_36 rfl mk_X5_90 yl_X0_isRunning yv_X0_isRunning rfl (hs_F hH hf).1 (by decide) (by decide) rfl rfl (Nat.le_of_ble_eq_true rfl) (fun h => by cases h) ?_
          refine hg_if_eq (n := 42) (tgt := 45) dX5_unload_39 rfl (by decide) (fun h39 => ?_) (fun h39 => ?_)
          · exact absurd hno (by simp [hpi, h39])
          · refine hg_bipush (n := 44) (v := -3) dX5_unload_42 rfl (by decide) ?_
            refine hg_ireturn dX5_unload_44 rfl ?_
            exact hQ
      · exact absurd h16 (z_nat3 (a := 0) (b := 3) (by omega) (by omega) (by omega))

set_option maxHeartbeats 4000000 in
set_option maxRecDepth 100000 in
theorem c_X5_unload {mi : MI_} {ml : ML_} {mr : MR_} {sh : SH_} {np nr : Nat} {nn : Nat → Nat} (hH : hs_ mr sh np nr nn) (f : Nat) (hf : f < 3) (l : Nat) (hl : l < 4) {pl : Nat → Option Nat} (hfp : fp_ mr f np pl) {cu : Option Nat} (hc : fc_ mr sh f cu) (p : Nat) (h2 : pl l = some p) (h3 : ir_ cu = 0) : hg_Det false yX5_unload md_X5_unload [hv_r (some (1, 0)), hv_i (nI f), hv_i (nI l)] (mi, ml, mr, sh) (some (hv_i (u_3 mi 4 p 8 0 4 p 0))) (u_3 mi 4 p 8 0, ml, u_3 mr 15 f l none, sh) := by
  intro Q hQ
  refine hg_intro rfl rfl rfl (Nat.le_of_ble_eq_true rfl) rfl ?_
  have hp := (hfp l hl).2 p h2
  refine hg_aload_n (n := 1) dX5_unload_0 rfl rfl ?_
  refine hg_iload_n (n := 2) dX5_unload_1 rfl rfl ?_
  refine hg_callVd (n := 5) (c_X5_furnaceAt hH f hf) dX5_unload_2 rfl mk_X5_83 yl_X5_furnaceAt yv_X5_furnaceAt rfl hH.1 (by decide) (by decide) rfl rfl (Nat.le_of_ble_eq_true rfl) (fun h => by cases h) ?_
  refine hg_astore_n (n := 6) dX5_unload_5 rfl (by decide) rfl rfl ?_
  refine hg_aload_n (n := 7) dX5_unload_6 rfl rfl ?_
  refine hg_ifnull (n := 10) (tgt := 19) dX5_unload_7 rfl (by decide) (fun h7 => ?_) (fun q7 h7 => ?_)
  · cases h7
  · refine hg_iload_n (n := 11) dX5_unload_10 rfl rfl ?_
    refine hg_iconst (n := 12) (v := 0) dX5_unload_11 rfl (by decide) ?_
    refine hg_iconst (n := 13) (v := 3) dX5_unload_12 rfl (by decide) ?_
    refine hg_callSd (n := 16) (c_X5_within _ _ _ _) dX5_unload_13 rfl mk_X5_35 yl_X5_within ys_X5_within (by decide) (by decide) rfl rfl (Nat.le_of_ble_eq_true rfl) (fun h => by cases h) ?_
    refine hg_if_ne (n := 19) (tgt := 22) dX5_unload_16 rfl (by decide) (fun h16 => ?_) (fun h16 => ?_)
    · refine hg_aload_n (n := 23) dX5_unload_22 rfl rfl ?_
      refine hg_getR (n := 26) (r := some (15, f)) dX5_unload_23 rfl fl_X5_101 rfl rfl (hs_F hH hf).1 ((hs_F hH hf).2 0 (by decide)).1 ?_
      refine hg_iload_n (n := 27) dX5_unload_26 rfl rfl ?_
      refine hg_aaload (n := 28) (len := 4) (l) (r := some (4, p)) dX5_unload_27 rfl (by decide) rfl rfl ((hs_F hH hf).2 0 (by decide)).2 rfl (by omega) (by omega) ((hfp l hl).1.trans (by rw [h2]; rfl)) ?_
      refine hg_astore (n := 30) dX5_unload_28 rfl (by decide) rfl rfl ?_
      refine hg_aload (n := 32) dX5_unload_30 rfl rfl ?_
      refine hg_ifnull (n := 35) (tgt := 42) dX5_unload_32 rfl (by decide) (fun h32 => ?_) (fun q32 h32 => ?_)
      · cases h32
      · refine hg_aload_n (n := 36) dX5_unload_35 rfl rfl ?_
        refine hg_callVd (n := 39) (c_X0_isRunning (hs_F hH hf) hc) dX5_unload_36 rfl mk_X5_90 yl_X0_isRunning yv_X0_isRunning rfl (hs_F hH hf).1 (by decide) (by decide) rfl rfl (Nat.le_of_ble_eq_true rfl) (fun h => by cases h) ?_
        refine hg_if_eq (n := 42) (tgt := 45) dX5_unload_39 rfl (by decide) (fun h39 => ?_) (fun h39 => ?_)
        · refine hg_aload_n (n := 46) dX5_unload_45 rfl rfl ?_
          refine hg_getR (n := 49) (r := some (15, f)) dX5_unload_46 rfl fl_X5_101 rfl rfl (hs_F hH hf).1 ((hs_F hH hf).2 0 (by decide)).1 ?_
          refine hg_iload_n (n := 50) dX5_unload_49 rfl rfl ?_
          refine hg_null (n := 51) dX5_unload_50 rfl ?_
          refine hg_aastoreN (n := 52) (len := 4) (l) dX5_unload_51 rfl (by decide) rfl rfl ((hs_F hH hf).2 0 (by decide)).2 rfl (by omega) (by decide) ?_
          refine hg_aload (n := 54) dX5_unload_52 rfl rfl ?_
          refine hg_iconst (n := 55) (v := 0) dX5_unload_54 rfl (by decide) ?_
          refine hg_putZ (n := 58) dX5_unload_55 rfl fl_X5_50 rfl rfl (by decide) (hs_P hH p hp).1.1 ?_
          refine hg_aload (n := 60) dX5_unload_58 rfl rfl ?_
          refine hg_getI (n := 63) dX5_unload_60 rfl fl_X5_110 rfl rfl (hs_P hH p hp).1.1 ?_
          refine hg_ireturn dX5_unload_63 rfl ?_
          exact hQ
        · exact absurd h3 h39
    · exact absurd h16 (z_nat3 (a := 0) (b := 3) (by omega) (by omega) (by omega))

set_option maxHeartbeats 4000000 in
set_option maxRecDepth 100000 in
theorem c_X5_probe_b {mi : MI_} {ml : ML_} {mr : MR_} {sh : SH_} {np nr : Nat} {nn : Nat → Nat} (hH : hs_ mr sh np nr nn) (x l y d : Int32) (hb : z_in x 0 2 = 0 ∨ z_in l 0 3 = 0 ∨ z_in d (-500) 500 = 0) : hg_Det false yX5_probe md_X5_probe [hv_r (some (1, 0)), hv_i x, hv_i l, hv_i y, hv_i d] (mi, ml, mr, sh) (some (hv_i (-2))) (mi, ml, mr, sh) := by
  intro Q hQ
  refine hg_intro rfl rfl rfl (Nat.le_of_ble_eq_true rfl) rfl ?_
  by_cases g1 : z_in x 0 2 = 0
  · skip
    refine hg_aload_n (n := 1) dX5_probe_0 rfl rfl ?_
    refine hg_iload_n (n := 2) dX5_probe_1 rfl rfl ?_
    refine hg_callVd (n := 5) (c_X5_furnaceAt_b hH _ g1) dX5_probe_2 rfl mk_X5_83 yl_X5_furnaceAt yv_X5_furnaceAt rfl hH.1 (by decide) (by decide) rfl rfl (Nat.le_of_ble_eq_true rfl) (fun h => by cases h) ?_
    refine hg_astore (n := 7) dX5_probe_5 rfl (by decide) rfl rfl ?_
    refine hg_aload (n := 9) dX5_probe_7 rfl rfl ?_
    refine hg_ifnull (n := 12) (tgt := 35) dX5_probe_9 rfl (by decide) (fun h9 => ?_) (fun q9 h9 => ?_)
    · refine hg_bipush (n := 37) (v := -2) dX5_probe_35 rfl (by decide) ?_
      refine hg_ireturn dX5_probe_37 rfl ?_
      exact hQ
    · cases h9
  · obtain ⟨f, hf0, hf1, rfl⟩ := z_nat (a := 0) (b := 2) (by decide) (by decide) g1
    have hf : f < 3 := by omega
    refine hg_aload_n (n := 1) dX5_probe_0 rfl rfl ?_
    refine hg_iload_n (n := 2) dX5_probe_1 rfl rfl ?_
    refine hg_callVd (n := 5) (c_X5_furnaceAt hH f hf) dX5_probe_2 rfl mk_X5_83 yl_X5_furnaceAt yv_X5_furnaceAt rfl hH.1 (by decide) (by decide) rfl rfl (Nat.le_of_ble_eq_true rfl) (fun h => by cases h) ?_
    refine hg_astore (n := 7) dX5_probe_5 rfl (by decide) rfl rfl ?_
    refine hg_aload (n := 9) dX5_probe_7 rfl rfl ?_
    refine hg_ifnull (n := 12) (tgt := 35) dX5_probe_9 rfl (by decide) (fun h9 => ?_) (fun q9 h9 => ?_)
    · cases h9
    · refine hg_iload_n (n := 13) dX5_probe_12 rfl rfl ?_
      refine hg_iconst (n := 14) (v := 0) dX5_probe_13 rfl (by decide) ?_
      refine hg_iconst (n := 15) (v := 3) dX5_probe_14 rfl (by decide) ?_
      refine hg_callSd (n := 18) (c_X5_within _ _ _ _) dX5_probe_15 rfl mk_X5_35 yl_X5_within ys_X5_within (by decide) (by decide) rfl rfl (Nat.le_of_ble_eq_true rfl) (fun h => by cases h) ?_
      refine hg_if_eq (n := 21) (tgt := 35) dX5_probe_18 rfl (by decide) (fun h18 => ?_) (fun h18 => ?_)
      · refine hg_bipush (n := 37) (v := -2) dX5_probe_35 rfl (by decide) ?_
        refine hg_ireturn dX5_probe_37 rfl ?_
        exact hQ
      · refine hg_iload (n := 23) dX5_probe_21 rfl rfl ?_
        refine hg_sipush (n := 26) (v := -500) dX5_probe_23 rfl (by decide) ?_
        refine hg_sipush (n := 29) (v := 500) dX5_probe_26 rfl (by decide) ?_
        refine hg_callSd (n := 32) (c_X5_within _ _ _ _) dX5_probe_29 rfl mk_X5_35 yl_X5_within ys_X5_within (by decide) (by decide) rfl rfl (Nat.le_of_ble_eq_true rfl) (fun h => by cases h) ?_
        refine hg_if_ne (n := 35) (tgt := 38) dX5_probe_32 rfl (by decide) (fun h32 => ?_) (fun h32 => ?_)
        · exact absurd hb (by simp [g1, h18, h32])
        · refine hg_bipush (n := 37) (v := -2) dX5_probe_35 rfl (by decide) ?_
          refine hg_ireturn dX5_probe_37 rfl ?_
          exact hQ

set_option maxHeartbeats 4000000 in
set_option maxRecDepth 100000 in
theorem c_X5_probe {mi : MI_} {ml : ML_} {mr : MR_} {sh : SH_} {np nr : Nat} {nn : Nat → Nat} (hH : hs_ mr sh np nr nn) (f : Nat) (hf : f < 3) (l : Nat) (hl : l < 4) (y d : Int32) (hd : ¬ z_in d (-500) 500 = 0) : hg_Det false yX5_probe md_X5_probe [hv_r (some (1, 0)), hv_i (nI f), hv_i (nI l), hv_i y, hv_i d] (mi, ml, mr, sh) (some (hv_i 1)) (u_3 (u_3 mi 16 f l (if y = 0 then 1 else 0)) 17 f l d, ml, mr, sh) := by
  intro Q hQ
  refine hg_intro rfl rfl rfl (Nat.le_of_ble_eq_true rfl) rfl ?_
  refine hg_aload_n (n := 1) dX5_probe_0 rfl rfl ?_
  refine hg_iload_n (n := 2) dX5_probe_1 rfl rfl ?_
  refine hg_callVd (n := 5) (c_X5_furnaceAt hH f hf) dX5_probe_2 rfl mk_X5_83 yl_X5_furnaceAt yv_X5_furnaceAt rfl hH.1 (by decide) (by decide) rfl rfl (Nat.le_of_ble_eq_true rfl) (fun h => by cases h) ?_
  refine hg_astore (n := 7) dX5_probe_5 rfl (by decide) rfl rfl ?_
  refine hg_aload (n := 9) dX5_probe_7 rfl rfl ?_
  refine hg_ifnull (n := 12) (tgt := 35) dX5_probe_9 rfl (by decide) (fun h9 => ?_) (fun q9 h9 => ?_)
  · cases h9
  · refine hg_iload_n (n := 13) dX5_probe_12 rfl rfl ?_
    refine hg_iconst (n := 14) (v := 0) dX5_probe_13 rfl (by decide) ?_
    refine hg_iconst (n := 15) (v := 3) dX5_probe_14 rfl (by decide) ?_
    refine hg_callSd (n := 18) (c_X5_within _ _ _ _) dX5_probe_15 rfl mk_X5_35 yl_X5_within ys_X5_within (by decide) (by decide) rfl rfl (Nat.le_of_ble_eq_true rfl) (fun h => by cases h) ?_
    refine hg_if_eq (n := 21) (tgt := 35) dX5_probe_18 rfl (by decide) (fun h18 => ?_) (fun h18 => ?_)
    · exact absurd h18 (z_nat3 (a := 0) (b := 3) (by omega) (by omega) (by omega))
    · refine hg_iload (n := 23) dX5_probe_21 rfl rfl ?_
      refine hg_sipush (n := 26) (v := -500) dX5_probe_23 rfl (by decide) ?_
      refine hg_sipush (n := 29) (v := 500) dX5_probe_26 rfl (by decide) ?_
      refine hg_callSd (n := 32) (c_X5_within _ _ _ _) dX5_probe_29 rfl mk_X5_35 yl_X5_within ys_X5_within (by decide) (by decide) rfl rfl (Nat.le_of_ble_eq_true rfl) (fun h => by cases h) ?_
      refine hg_if_ne (n := 35) (tgt := 38) dX5_probe_32 rfl (by decide) (fun h32 => ?_) (fun h32 => ?_)
      · refine hg_aload (n := 40) dX5_probe_38 rfl rfl ?_
        refine hg_getR (n := 43) (r := some (16, f)) dX5_probe_40 rfl fl_X5_113 rfl rfl (hs_F hH hf).1 ((hs_F hH hf).2 1 (by decide)).1 ?_
        refine hg_iload_n (n := 44) dX5_probe_43 rfl rfl ?_
        refine hg_iload_n (n := 45) dX5_probe_44 rfl rfl ?_
        refine hg_if_ne (n := 48) (tgt := 52) dX5_probe_45 rfl (by decide) (fun h45 => ?_) (fun h45 => ?_)
        · refine hg_iconst (n := 53) (v := 0) dX5_probe_52 rfl (by decide) ?_
          refine hg_bastore (n := 54) (len := 4) (l) dX5_probe_53 rfl (by decide) rfl (by decide) ((hs_F hH hf).2 1 (by decide)).2 rfl (by omega) (by decide) ?_
          refine hg_aload (n := 56) dX5_probe_54 rfl rfl ?_
          refine hg_getR (n := 59) (r := some (17, f)) dX5_probe_56 rfl fl_X5_117 rfl rfl (hs_F hH hf).1 ((hs_F hH hf).2 2 (by decide)).1 ?_
          refine hg_iload_n (n := 60) dX5_probe_59 rfl rfl ?_
          refine hg_iload (n := 62) dX5_probe_60 rfl rfl ?_
          refine hg_iastore (n := 63) (len := 4) (l) dX5_probe_62 rfl (by decide) rfl ((hs_F hH hf).2 2 (by decide)).2 rfl (by omega) (by decide) ?_
          refine hg_iconst (n := 64) (v := 1) dX5_probe_63 rfl (by decide) ?_
          refine hg_ireturn dX5_probe_64 rfl ?_
          rw [if_neg h45] at hQ
          exact hQ
        · refine hg_iconst (n := 49) (v := 1) dX5_probe_48 rfl (by decide) ?_
          refine hg_goto (tgt := 53) dX5_probe_49 (by decide) ?_
          refine hg_bastore (n := 54) (len := 4) (l) dX5_probe_53 rfl (by decide) rfl (by decide) ((hs_F hH hf).2 1 (by decide)).2 rfl (by omega) (by decide) ?_
          refine hg_aload (n := 56) dX5_probe_54 rfl rfl ?_
          refine hg_getR (n := 59) (r := some (17, f)) dX5_probe_56 rfl fl_X5_117 rfl rfl (hs_F hH hf).1 ((hs_F hH hf).2 2 (by decide)).1 ?_
          refine hg_iload_n (n := 60) dX5_probe_59 rfl rfl ?_
          refine hg_iload (n := 62) dX5_probe_60 rfl rfl ?_
          refine hg_iastore (n := 63) (len := 4) (l) dX5_probe_62 rfl (by decide) rfl ((hs_F hH hf).2 2 (by decide)).2 rfl (by omega) (by decide) ?_
          refine hg_iconst (n := 64) (v := 1) dX5_probe_63 rfl (by decide) ?_
          refine hg_ireturn dX5_probe_64 rfl ?_
          rw [if_pos h45] at hQ
          exact hQ
      · exact absurd h32 hd

set_option maxHeartbeats 4000000 in
set_option maxRecDepth 100000 in
theorem c_X5_stop_b {mi : MI_} {ml : ML_} {mr : MR_} {sh : SH_} {np nr : Nat} {nn : Nat → Nat} (hH : hs_ mr sh np nr nn) (x : Int32) (hb : z_in x 0 2 = 0)  : hg_Det false yX5_stop md_X5_stop [hv_r (some (1, 0)), hv_i x] (mi, ml, mr, sh) (some (hv_i (-2))) (mi, ml, mr, sh) := by
  intro Q hQ
  refine hg_intro rfl rfl rfl (Nat.le_of_ble_eq_true rfl) rfl ?_
  refine hg_aload_n (n := 1) dX5_stop_0 rfl rfl ?_
  refine hg_iload_n (n := 2) dX5_stop_1 rfl rfl ?_
  refine hg_callVd (n := 5) (c_X5_furnaceAt_b hH _ hb) dX5_stop_2 rfl mk_X5_83 yl_X5_furnaceAt yv_X5_furnaceAt rfl hH.1 (by decide) (by decide) rfl rfl (Nat.le_of_ble_eq_true rfl) (fun h => by cases h) ?_
  refine hg_astore_n (n := 6) dX5_stop_5 rfl (by decide) rfl rfl ?_
  refine hg_aload_n (n := 7) dX5_stop_6 rfl rfl ?_
  refine hg_ifnonnull (n := 10) (tgt := 13) dX5_stop_7 rfl (by decide) (fun q7 h7 => ?_) (fun h7 => ?_)
  · cases h7
  · refine hg_bipush (n := 12) (v := -2) dX5_stop_10 rfl (by decide) ?_
    refine hg_ireturn dX5_stop_12 rfl ?_
    exact hQ

set_option maxHeartbeats 4000000 in
set_option maxRecDepth 100000 in
theorem c_X5_stop_n {mi : MI_} {ml : ML_} {mr : MR_} {sh : SH_} {np nr : Nat} {nn : Nat → Nat} (hH : hs_ mr sh np nr nn) (f : Nat) (hf : f < 3) {cu : Option Nat} (hc : fc_ mr sh f cu) (hr : ir_ cu = 0) : hg_Det false yX5_stop md_X5_stop [hv_r (some (1, 0)), hv_i (nI f)] (mi, ml, mr, sh) (some (hv_i (-3))) (mi, ml, mr, sh) := by
  intro Q hQ
  refine hg_intro rfl rfl rfl (Nat.le_of_ble_eq_true rfl) rfl ?_
  refine hg_aload_n (n := 1) dX5_stop_0 rfl rfl ?_
  refine hg_iload_n (n := 2) dX5_stop_1 rfl rfl ?_
  refine hg_callVd (n := 5) (c_X5_furnaceAt hH f hf) dX5_stop_2 rfl mk_X5_83 yl_X5_furnaceAt yv_X5_furnaceAt rfl hH.1 (by decide) (by decide) rfl rfl (Nat.le_of_ble_eq_true rfl) (fun h => by cases h) ?_
  refine hg_astore_n (n := 6) dX5_stop_5 rfl (by decide) rfl rfl ?_
  refine hg_aload_n (n := 7) dX5_stop_6 rfl rfl ?_
  refine hg_ifnonnull (n := 10) (tgt := 13) dX5_stop_7 rfl (by decide) (fun q7 h7 => ?_) (fun h7 => ?_)
  · refine hg_aload_n (n := 14) dX5_stop_13 rfl rfl ?_
    refine hg_callVd (n := 17) (c_X0_isRunning (hs_F hH hf) hc) dX5_stop_14 rfl mk_X5_90 yl_X0_isRunning yv_X0_isRunning rfl (hs_F hH hf).1 (by decide) (by decide) rfl rfl (Nat.le_of_ble_eq_true rfl) (fun h => by cases h) ?_
    refine hg_if_ne (n := 20) (tgt := 23) dX5_stop_17 rfl (by decide) (fun h17 => ?_) (fun h17 => ?_)
    · exact absurd hr h17
    · refine hg_bipush (n := 22) (v := -3) dX5_stop_20 rfl (by decide) ?_
      refine hg_ireturn dX5_stop_22 rfl ?_
      exact hQ
  · cases h7

set_option maxHeartbeats 4000000 in
set_option maxRecDepth 100000 in
theorem c_X5_stop {mi : MI_} {ml : ML_} {mr : MR_} {sh : SH_} {np nr : Nat} {nn : Nat → Nat} (hH : hs_ mr sh np nr nn) (f : Nat) (hf : f < 3) (r : Nat) (hr : r < nr) (hcu : mr 3 f 12 = some (5, r)) : hg_Det false yX5_stop md_X5_stop [hv_r (some (1, 0)), hv_i (nI f)] (mi, ml, mr, sh) (some (hv_i (mi 3 f 7))) (en_m mi f r 0, ml, u_3 mr 3 f 12 none, sh) := by
  intro Q hQ
  refine hg_intro rfl rfl rfl (Nat.le_of_ble_eq_true rfl) rfl ?_
  have hr5 := hs_R hH hr
  refine hg_aload_n (n := 1) dX5_stop_0 rfl rfl ?_
  refine hg_iload_n (n := 2) dX5_stop_1 rfl rfl ?_
  refine hg_callVd (n := 5) (c_X5_furnaceAt hH f hf) dX5_stop_2 rfl mk_X5_83 yl_X5_furnaceAt yv_X5_furnaceAt rfl hH.1 (by decide) (by decide) rfl rfl (Nat.le_of_ble_eq_true rfl) (fun h => by cases h) ?_
  refine hg_astore_n (n := 6) dX5_stop_5 rfl (by decide) rfl rfl ?_
  refine hg_aload_n (n := 7) dX5_stop_6 rfl rfl ?_
  refine hg_ifnonnull (n := 10) (tgt := 13) dX5_stop_7 rfl (by decide) (fun q7 h7 => ?_) (fun h7 => ?_)
  · refine hg_aload_n (n := 14) dX5_stop_13 rfl rfl ?_
    refine hg_callVd (n := 17) (c_X0_isRunning (cu := some r) (hs_F hH hf) ⟨hcu, fun q e => by cases e; exact hr5⟩) dX5_stop_14 rfl mk_X5_90 yl_X0_isRunning yv_X0_isRunning rfl (hs_F hH hf).1 (by decide) (by decide) rfl rfl (Nat.le_of_ble_eq_true rfl) (fun h => by cases h) ?_
    refine hg_if_ne (n := 20) (tgt := 23) dX5_stop_17 rfl (by decide) (fun h17 => ?_) (fun h17 => ?_)
    · refine hg_aload_n (n := 24) dX5_stop_23 rfl rfl ?_
      refine hg_getI (n := 27) dX5_stop_24 rfl fl_X5_139 rfl rfl (hs_F hH hf).1 ?_
      refine hg_istore_n (n := 28) dX5_stop_27 rfl (by decide) rfl rfl ?_
      refine hg_aload_n (n := 29) dX5_stop_28 rfl rfl ?_
      refine hg_iconst (n := 30) (v := 0) dX5_stop_29 rfl (by decide) ?_
      refine hg_callVd (n := 33) (c_X0_end (hs_F hH hf) (r := r) hcu hr5 0 (Or.inl rfl)) dX5_stop_30 rfl mk_X5_142 yl_X0_end yv_X0_end rfl (hs_F hH hf).1 (by decide) (by decide) rfl rfl (Nat.le_of_ble_eq_true rfl) (fun h => by cases h) ?_
      refine hg_iload_n (n := 34) dX5_stop_33 rfl rfl ?_
      refine hg_ireturn dX5_stop_34 rfl ?_
      exact hQ
    · exact absurd h17 (show ¬ ((1 : Int32) = 0) by decide)
  · cases h7

def dd_ (Y : MI_) (f s : Nat) : Nat → Int32 × MI_
  | 0 => (0, Y)
  | c + 1 => if (dd_ Y f s c).2 5 (s + c) 0 = nI f then ((dd_ Y f s c).1 + 1, u_3 (dd_ Y f s c).2 5 (s + c) 1 1) else dd_ Y f s c
theorem dd_k {Y : MI_} {f s k i j : Nat} (h : k ≠ 5) : ∀ c, (dd_ Y f s c).2 k i j = Y k i j
  | 0 => rfl
  | c + 1 => by
    rw [dd_]
    split
    · exact (u_3_k h).trans (dd_k h c)
    · exact dd_k h c
set_option maxHeartbeats 4000000 in
set_option maxRecDepth 100000 in
theorem c_X5_doubtRuns {mi : MI_} {ml : ML_} {mr : MR_} {sh : SH_} {np nr : Nat} {nn : Nat → Nat} (hH : hs_ mr sh np nr nn) (hnr : mi 1 0 5 = nI nr) (hn100 : nr ≤ 100) (f s : Nat) (hs : s ≤ nr) : hg_Det false yX5_doubtRuns md_X5_doubtRuns [hv_r (some (1, 0)), hv_i (nI f), hv_i (nI s)] (mi, ml, mr, sh) (some (hv_i (dd_ mi f s (nr - s)).1)) ((dd_ mi f s (nr - s)).2, ml, mr, sh) := by
  intro Q hQ
  refine hg_intro rfl rfl rfl (Nat.le_of_ble_eq_true rfl) rfl ?_
  have loop : ∀ m c, s + c + m = nr → hg_G md_X5_doubtRuns false sh Q 0 0 5 [some (hv_r (some (1, 0))), some (hv_i (nI f)), some (hv_i (nI s)), some (hv_i (dd_ mi f s c).1), some (hv_i (nI (s + c)))] [] ((dd_ mi f s c).2, ml, mr, sh) := by
    intro m
    induction m with
    | zero =>
      intro c hc
      refine hg_iload (n := 7) dX5_doubtRuns_5 rfl rfl ?_
      refine hg_aload_n (n := 8) dX5_doubtRuns_7 rfl rfl ?_
      refine hg_getN (n := 11) (nr) dX5_doubtRuns_8 rfl fl_X5_124 rfl rfl hH.1 ((dd_k (by decide) c).trans hnr) ?_
      refine hg_icmp_geN (n := 14) (tgt := 48) (s + c) (nr) dX5_doubtRuns_11 rfl (by decide) (by omega) (by omega) (fun h11 => ?_) (fun h11 => ?_)
      · have e := show c = nr - s by omega
        subst e
        refine hg_iload_n (n := 49) dX5_doubtRuns_48 rfl rfl ?_
        refine hg_ireturn dX5_doubtRuns_49 rfl ?_
        exact hQ
      · exact absurd h11 (by omega)
    | succ m ih =>
      intro c hc
      refine hg_iload (n := 7) dX5_doubtRuns_5 rfl rfl ?_
      refine hg_aload_n (n := 8) dX5_doubtRuns_7 rfl rfl ?_
      refine hg_getN (n := 11) (nr) dX5_doubtRuns_8 rfl fl_X5_124 rfl rfl hH.1 ((dd_k (by decide) c).trans hnr) ?_
      refine hg_icmp_geN (n := 14) (tgt := 48) (s + c) (nr) dX5_doubtRuns_11 rfl (by decide) (by omega) (by omega) (fun h11 => ?_) (fun h11 => ?_)
      · exact absurd h11 (by omega)
      · refine hg_aload_n (n := 15) dX5_doubtRuns_14 rfl rfl ?_
        refine hg_getR (n := 18) (r := some (10, 0)) dX5_doubtRuns_15 rfl fl_X5_23 rfl rfl hH.1 hH.2.1.2.2.1 ?_
        refine hg_iload (n := 20) dX5_doubtRuns_18 rfl rfl ?_
        refine hg_aaload (n := 21) (len := 100) (s + c) (r := some (5, s + c)) dX5_doubtRuns_20 rfl (by decide) rfl rfl hH.2.2.2.2.1 rfl (by omega) (by omega) (hs_rA hH (by omega)) ?_
        refine hg_getI (n := 24) dX5_doubtRuns_21 rfl fl_X5_205 rfl rfl (hs_R hH (by omega)) ?_
        refine hg_iload_n (n := 25) dX5_doubtRuns_24 rfl rfl ?_
        refine hg_icmp_ne (n := 28) (tgt := 42) dX5_doubtRuns_25 rfl (by decide) (fun h25 => ?_) (fun h25 => ?_)
        · refine hg_iincN (n := 45) (s + c) 1 dX5_doubtRuns_42 rfl rfl (by decide) (by decide) rfl rfl ?_
          refine hg_goto (tgt := 5) dX5_doubtRuns_45 (by decide) ?_
          have i9 := ih (c + 1) (by omega)
          rw [dd_, if_neg h25] at i9
          exact i9
        · refine hg_aload_n (n := 29) dX5_doubtRuns_28 rfl rfl ?_
          refine hg_getR (n := 32) (r := some (10, 0)) dX5_doubtRuns_29 rfl fl_X5_23 rfl rfl hH.1 hH.2.1.2.2.1 ?_
          refine hg_iload (n := 34) dX5_doubtRuns_32 rfl rfl ?_
          refine hg_aaload (n := 35) (len := 100) (s + c) (r := some (5, s + c)) dX5_doubtRuns_34 rfl (by decide) rfl rfl hH.2.2.2.2.1 rfl (by omega) (by omega) (hs_rA hH (by omega)) ?_
          refine hg_iconst (n := 36) (v := 1) dX5_doubtRuns_35 rfl (by decide) ?_
          refine hg_putZ (n := 39) dX5_doubtRuns_36 rfl fl_X5_162 rfl rfl (by decide) (hs_R hH (by omega)) ?_
          refine hg_iincI (n := 42) (1) dX5_doubtRuns_39 rfl rfl (by decide) (by decide) rfl rfl ?_
          refine hg_iincN (n := 45) (s + c) 1 dX5_doubtRuns_42 rfl rfl (by decide) (by decide) rfl rfl ?_
          refine hg_goto (tgt := 5) dX5_doubtRuns_45 (by decide) ?_
          have i9 := ih (c + 1) (by omega)
          rw [dd_, if_pos h25] at i9
          exact i9
  refine hg_iconst (n := 1) (v := 0) dX5_doubtRuns_0 rfl (by decide) ?_
  refine hg_istore_n (n := 2) dX5_doubtRuns_1 rfl (by decide) rfl rfl ?_
  refine hg_iload_n (n := 3) dX5_doubtRuns_2 rfl rfl ?_
  refine hg_istore (n := 5) dX5_doubtRuns_3 rfl (by decide) rfl rfl ?_
  exact loop (nr - s) 0 (by omega)

set_option maxHeartbeats 4000000 in
set_option maxRecDepth 100000 in
theorem c_X5_survey_b {mi : MI_} {ml : ML_} {mr : MR_} {sh : SH_} {np nr : Nat} {nn : Nat → Nat} (hH : hs_ mr sh np nr nn) (x e : Int32) (hb : z_in x 0 2 = 0 ∨ z_in e (-500) 500 = 0) : hg_Det false yX5_survey md_X5_survey [hv_r (some (1, 0)), hv_i x, hv_i e] (mi, ml, mr, sh) (some (hv_i (-2))) (mi, ml, mr, sh) := by
  intro Q hQ
  refine hg_intro rfl rfl rfl (Nat.le_of_ble_eq_true rfl) rfl ?_
  by_cases g1 : z_in x 0 2 = 0
  · skip
    refine hg_aload_n (n := 1) dX5_survey_0 rfl rfl ?_
    refine hg_iload_n (n := 2) dX5_survey_1 rfl rfl ?_
    refine hg_callVd (n := 5) (c_X5_furnaceAt_b hH _ g1) dX5_survey_2 rfl mk_X5_83 yl_X5_furnaceAt yv_X5_furnaceAt rfl hH.1 (by decide) (by decide) rfl rfl (Nat.le_of_ble_eq_true rfl) (fun h => by cases h) ?_
    refine hg_astore_n (n := 6) dX5_survey_5 rfl (by decide) rfl rfl ?_
    refine hg_aload_n (n := 7) dX5_survey_6 rfl rfl ?_
    refine hg_ifnull (n := 10) (tgt := 23) dX5_survey_7 rfl (by decide) (fun h7 => ?_) (fun q7 h7 => ?_)
    · refine hg_bipush (n := 25) (v := -2) dX5_survey_23 rfl (by decide) ?_
      refine hg_ireturn dX5_survey_25 rfl ?_
      exact hQ
    · cases h7
  · obtain ⟨f, hf0, hf1, rfl⟩ := z_nat (a := 0) (b := 2) (by decide) (by decide) g1
    have hf : f < 3 := by omega
    refine hg_aload_n (n := 1) dX5_survey_0 rfl rfl ?_
    refine hg_iload_n (n := 2) dX5_survey_1 rfl rfl ?_
    refine hg_callVd (n := 5) (c_X5_furnaceAt hH f hf) dX5_survey_2 rfl mk_X5_83 yl_X5_furnaceAt yv_X5_furnaceAt rfl hH.1 (by decide) (by decide) rfl rfl (Nat.le_of_ble_eq_true rfl) (fun h => by cases h) ?_
    refine hg_astore_n (n := 6) dX5_survey_5 rfl (by decide) rfl rfl ?_
    refine hg_aload_n (n := 7) dX5_survey_6 rfl rfl ?_
    refine hg_ifnull (n := 10) (tgt := 23) dX5_survey_7 rfl (by decide) (fun h7 => ?_) (fun q7 h7 => ?_)
    · cases h7
    · refine hg_iload_n (n := 11) dX5_survey_10 rfl rfl ?_
      refine hg_sipush (n := 14) (v := -500) dX5_survey_11 rfl (by decide) ?_
      refine hg_sipush (n := 17) (v := 500) dX5_survey_14 rfl (by decide) ?_
      refine hg_callSd (n := 20) (c_X5_within _ _ _ _) dX5_survey_17 rfl mk_X5_35 yl_X5_within ys_X5_within (by decide) (by decide) rfl rfl (Nat.le_of_ble_eq_true rfl) (fun h => by cases h) ?_
      refine hg_if_ne (n := 23) (tgt := 26) dX5_survey_20 rfl (by decide) (fun h20 => ?_) (fun h20 => ?_)
      · exact absurd hb (by simp [g1, h20])
      · refine hg_bipush (n := 25) (v := -2) dX5_survey_23 rfl (by decide) ?_
        refine hg_ireturn dX5_survey_25 rfl ?_
        exact hQ

set_option maxHeartbeats 4000000 in
set_option maxRecDepth 100000 in
theorem c_X5_survey_n {mi : MI_} {ml : ML_} {mr : MR_} {sh : SH_} {np nr : Nat} {nn : Nat → Nat} (hH : hs_ mr sh np nr nn) (f : Nat) (hf : f < 3) (e : Int32) (he : ¬ z_in e (-500) 500 = 0) {cu : Option Nat} (hc : fc_ mr sh f cu) (hr : ¬ ir_ cu = 0) : hg_Det false yX5_survey md_X5_survey [hv_r (some (1, 0)), hv_i (nI f), hv_i e] (mi, ml, mr, sh) (some (hv_i (-3))) (mi, ml, mr, sh) := by
  intro Q hQ
  refine hg_intro rfl rfl rfl (Nat.le_of_ble_eq_true rfl) rfl ?_
  refine hg_aload_n (n := 1) dX5_survey_0 rfl rfl ?_
  refine hg_iload_n (n := 2) dX5_survey_1 rfl rfl ?_
  refine hg_callVd (n := 5) (c_X5_furnaceAt hH f hf) dX5_survey_2 rfl mk_X5_83 yl_X5_furnaceAt yv_X5_furnaceAt rfl hH.1 (by decide) (by decide) rfl rfl (Nat.le_of_ble_eq_true rfl) (fun h => by cases h) ?_
  refine hg_astore_n (n := 6) dX5_survey_5 rfl (by decide) rfl rfl ?_
  refine hg_aload_n (n := 7) dX5_survey_6 rfl rfl ?_
  refine hg_ifnull (n := 10) (tgt := 23) dX5_survey_7 rfl (by decide) (fun h7 => ?_) (fun q7 h7 => ?_)
  · cases h7
  · refine hg_iload_n (n := 11) dX5_survey_10 rfl rfl ?_
    refine hg_sipush (n := 14) (v := -500) dX5_survey_11 rfl (by decide) ?_
    refine hg_sipush (n := 17) (v := 500) dX5_survey_14 rfl (by decide) ?_
    refine hg_callSd (n := 20) (c_X5_within _ _ _ _) dX5_survey_17 rfl mk_X5_35 yl_X5_within ys_X5_within (by decide) (by decide) rfl rfl (Nat.le_of_ble_eq_true rfl) (fun h => by cases h) ?_
    refine hg_if_ne (n := 23) (tgt := 26) dX5_survey_20 rfl (by decide) (fun h20 => ?_) (fun h20 => ?_)
    · refine hg_aload_n (n := 27) dX5_survey_26 rfl rfl ?_
      refine hg_callVd (n := 30) (c_X0_isRunning (hs_F hH hf) hc) dX5_survey_27 rfl mk_X5_90 yl_X0_isRunning yv_X0_isRunning rfl (hs_F hH hf).1 (by decide) (by decide) rfl rfl (Nat.le_of_ble_eq_true rfl) (fun h => by cases h) ?_
      refine hg_if_eq (n := 33) (tgt := 36) dX5_survey_30 rfl (by decide) (fun h30 => ?_) (fun h30 => ?_)
      · exact absurd h30 hr
      · refine hg_bipush (n := 35) (v := -3) dX5_survey_33 rfl (by decide) ?_
        refine hg_ireturn dX5_survey_35 rfl ?_
        exact hQ
    · exact absurd h20 he

def sv_m (Y : MI_) (f : Nat) (e : Int32) : MI_ := u_3 (u_3 Y 3 f 8 e) 3 f 9 (u_3 Y 3 f 8 e 1 0 5)
set_option maxHeartbeats 4000000 in
set_option maxRecDepth 100000 in
theorem c_X5_survey_e {mi : MI_} {ml : ML_} {mr : MR_} {sh : SH_} {np nr : Nat} {nn : Nat → Nat} (hH : hs_ mr sh np nr nn) (f : Nat) (hf : f < 3) (e : Int32) (he : ¬ z_in e (-500) 500 = 0) {cu : Option Nat} (hc : fc_ mr sh f cu) (hr : ir_ cu = 0) (hee : e = mi 3 f 8) : hg_Det false yX5_survey md_X5_survey [hv_r (some (1, 0)), hv_i (nI f), hv_i e] (mi, ml, mr, sh) (some (hv_i 0)) (sv_m mi f e, ml, mr, sh) := by
  intro Q hQ
  refine hg_intro rfl rfl rfl (Nat.le_of_ble_eq_true rfl) rfl ?_
  refine hg_aload_n (n := 1) dX5_survey_0 rfl rfl ?_
  refine hg_iload_n (n := 2) dX5_survey_1 rfl rfl ?_
  refine hg_callVd (n := 5) (c_X5_furnaceAt hH f hf) dX5_survey_2 rfl mk_X5_83 yl_X5_furnaceAt yv_X5_furnaceAt rfl hH.1 (by decide) (by decide) rfl rfl (Nat.le_of_ble_eq_true rfl) (fun h => by cases h) ?_
  refine hg_astore_n (n := 6) dX5_survey_5 rfl (by decide) rfl rfl ?_
  refine hg_aload_n (n := 7) dX5_survey_6 rfl rfl ?_
  refine hg_ifnull (n := 10) (tgt := 23) dX5_survey_7 rfl (by decide) (fun h7 => ?_) (fun q7 h7 => ?_)
  · cases h7
  · refine hg_iload_n (n := 11) dX5_survey_10 rfl rfl ?_
    refine hg_sipush (n := 14) (v := -500) dX5_survey_11 rfl (by decide) ?_
    refine hg_sipush (n := 17) (v := 500) dX5_survey_14 rfl (by decide) ?_
    refine hg_callSd (n := 20) (c_X5_within _ _ _ _) dX5_survey_17 rfl mk_X5_35 yl_X5_within ys_X5_within (by decide) (by decide) rfl rfl (Nat.le_of_ble_eq_true rfl) (fun h => by cases h) ?_
    refine hg_if_ne (n := 23) (tgt := 26) dX5_survey_20 rfl (by decide) (fun h20 => ?_) (fun h20 => ?_)
    · refine hg_aload_n (n := 27) dX5_survey_26 rfl rfl ?_
      refine hg_callVd (n := 30) (c_X0_isRunning (hs_F hH hf) hc) dX5_survey_27 rfl mk_X5_90 yl_X0_isRunning yv_X0_isRunning rfl (hs_F hH hf).1 (by decide) (by decide) rfl rfl (Nat.le_of_ble_eq_true rfl) (fun h => by cases h) ?_
      refine hg_if_eq (n := 33) (tgt := 36) dX5_survey_30 rfl (by decide) (fun h30 => ?_) (fun h30 => ?_)
      · refine hg_iload_n (n := 37) dX5_survey_36 rfl rfl ?_
        refine hg_aload_n (n := 38) dX5_survey_37 rfl rfl ?_
        refine hg_getI (n := 41) dX5_survey_38 rfl fl_X5_146 rfl rfl (hs_F hH hf).1 ?_
        refine hg_icmp_ne (n := 44) (tgt := 48) dX5_survey_41 rfl (by decide) (fun h41 => ?_) (fun h41 => ?_)
        · exact absurd hee h41
        · refine hg_iconst (n := 45) (v := 0) dX5_survey_44 rfl (by decide) ?_
          refine hg_goto (tgt := 57) dX5_survey_45 (by decide) ?_
          refine hg_istore (n := 59) dX5_survey_57 rfl (by decide) rfl rfl ?_
          refine hg_aload_n (n := 60) dX5_survey_59 rfl rfl ?_
          refine hg_iload_n (n := 61) dX5_survey_60 rfl rfl ?_
          refine hg_putI (n := 64) dX5_survey_61 rfl fl_X5_146 rfl rfl (hs_F hH hf).1 ?_
          refine hg_aload_n (n := 65) dX5_survey_64 rfl rfl ?_
          refine hg_aload_n (n := 66) dX5_survey_65 rfl rfl ?_
          refine hg_getI (n := 69) dX5_survey_66 rfl fl_X5_124 rfl rfl hH.1 ?_
          refine hg_putI (n := 72) dX5_survey_69 rfl fl_X5_149 rfl rfl (hs_F hH hf).1 ?_
          refine hg_iload (n := 74) dX5_survey_72 rfl rfl ?_
          refine hg_ireturn dX5_survey_74 rfl ?_
          exact hQ
      · exact absurd hr h30
    · exact absurd h20 he

set_option maxHeartbeats 4000000 in
set_option maxRecDepth 100000 in
theorem c_X5_survey {mi : MI_} {ml : ML_} {mr : MR_} {sh : SH_} {np nr : Nat} {nn : Nat → Nat} (hH : hs_ mr sh np nr nn) (f : Nat) (hf : f < 3) (e : Int32) (he : ¬ z_in e (-500) 500 = 0) {cu : Option Nat} (hc : fc_ mr sh f cu) (hnr : mi 1 0 5 = nI nr) (hn100 : nr ≤ 100) (s : Nat) (hs : mi 3 f 9 = nI s) (hsr : s ≤ nr) (hr : ir_ cu = 0) (hee : ¬ e = mi 3 f 8) : hg_Det false yX5_survey md_X5_survey [hv_r (some (1, 0)), hv_i (nI f), hv_i e] (mi, ml, mr, sh) (some (hv_i (dd_ mi f s (nr - s)).1)) (sv_m (dd_ mi f s (nr - s)).2 f e, ml, mr, sh) := by
  intro Q hQ
  refine hg_intro rfl rfl rfl (Nat.le_of_ble_eq_true rfl) rfl ?_
  refine hg_aload_n (n := 1) dX5_survey_0 rfl rfl ?_
  refine hg_iload_n (n := 2) dX5_survey_1 rfl rfl ?_
  refine hg_callVd (n := 5) (c_X5_furnaceAt hH f hf) dX5_survey_2 rfl mk_X5_83 yl_X5_furnaceAt yv_X5_furnaceAt rfl hH.1 (by decide) (by decide) rfl rfl (Nat.le_of_ble_eq_true rfl) (fun h => by cases h) ?_
  refine hg_astore_n (n := 6) dX5_survey_5 rfl (by decide) rfl rfl ?_
  refine hg_aload_n (n := 7) dX5_survey_6 rfl rfl ?_
  refine hg_ifnull (n := 10) (tgt := 23) dX5_survey_7 rfl (by decide) (fun h7 => ?_) (fun q7 h7 => ?_)
  · cases h7
  · refine hg_iload_n (n := 11) dX5_survey_10 rfl rfl ?_
    refine hg_sipush (n := 14) (v := -500) dX5_survey_11 rfl (by decide) ?_
    refine hg_sipush (n := 17) (v := 500) dX5_survey_14 rfl (by decide) ?_
    refine hg_callSd (n := 20) (c_X5_within _ _ _ _) dX5_survey_17 rfl mk_X5_35 yl_X5_within ys_X5_within (by decide) (by decide) rfl rfl (Nat.le_of_ble_eq_true rfl) (fun h => by cases h) ?_
    refine hg_if_ne (n := 23) (tgt := 26) dX5_survey_20 rfl (by decide) (fun h20 => ?_) (fun h20 => ?_)
    · refine hg_aload_n (n := 27) dX5_survey_26 rfl rfl ?_
      refine hg_callVd (n := 30) (c_X0_isRunning (hs_F hH hf) hc) dX5_survey_27 rfl mk_X5_90 yl_X0_isRunning yv_X0_isRunning rfl (hs_F hH hf).1 (by decide) (by decide) rfl rfl (Nat.le_of_ble_eq_true rfl) (fun h => by cases h) ?_
      refine hg_if_eq (n := 33) (tgt := 36) dX5_survey_30 rfl (by decide) (fun h30 => ?_) (fun h30 => ?_)
      · refine hg_iload_n (n := 37) dX5_survey_36 rfl rfl ?_
        refine hg_aload_n (n := 38) dX5_survey_37 rfl rfl ?_
        refine hg_getI (n := 41) dX5_survey_38 rfl fl_X5_146 rfl rfl (hs_F hH hf).1 ?_
        refine hg_icmp_ne (n := 44) (tgt := 48) dX5_survey_41 rfl (by decide) (fun h41 => ?_) (fun h41 => ?_)
        · refine hg_aload_n (n := 49) dX5_survey_48 rfl rfl ?_
          refine hg_iload_n (n := 50) dX5_survey_49 rfl rfl ?_
          refine hg_aload_n (n := 51) dX5_survey_50 rfl rfl ?_
          refine hg_getN (n := 54) (s) dX5_survey_51 rfl fl_X5_149 rfl rfl (hs_F hH hf).1 hs ?_
          refine hg_callVd (n := 57) (c_X5_doubtRuns hH hnr hn100 f s hsr) dX5_survey_54 rfl mk_X5_152 yl_X5_doubtRuns yv_X5_doubtRuns rfl hH.1 (by decide) (by decide) rfl rfl (Nat.le_of_ble_eq_true rfl) (fun h => by cases h) ?_
          refine hg_istore (n := 59) dX5_survey_57 rfl (by decide) rfl rfl ?_
          refine hg_aload_n (n := 60) dX5_survey_59 rfl rfl ?_
          refine hg_iload_n (n := 61) dX5_survey_60 rfl rfl ?_
          refine hg_putI (n := 64) dX5_survey_61 rfl fl_X5_146 rfl rfl (hs_F hH hf).1 ?_
          refine hg_aload_n (n := 65) dX5_survey_64 rfl rfl ?_
          refine hg_aload_n (n := 66) dX5_survey_65 rfl rfl ?_
          refine hg_getI (n := 69) dX5_survey_66 rfl fl_X5_124 rfl rfl hH.1 ?_
          refine hg_putI (n := 72) dX5_survey_69 rfl fl_X5_149 rfl rfl (hs_F hH hf).1 ?_
          refine hg_iload (n := 74) dX5_survey_72 rfl rfl ?_
          refine hg_ireturn dX5_survey_74 rfl ?_
          exact hQ
        · exact absurd h41 hee
      · exact absurd hr h30
    · exact absurd h20 he

set_option maxHeartbeats 4000000 in
set_option maxRecDepth 100000 in
theorem c_X5_about_b {mi : MI_} {ml : ML_} {mr : MR_} {sh : SH_} {np nr : Nat} {nn : Nat → Nat} (hH : hs_ mr sh np nr nn) (x w : Int32) (hb : z_in x 0 2 = 0 ∨ z_in w 0 6 = 0) : hg_Det false yX5_about md_X5_about [hv_r (some (1, 0)), hv_i x, hv_i w] (mi, ml, mr, sh) (some (hv_i (-2))) (mi, ml, mr, sh) := by
  intro Q hQ
  refine hg_intro rfl rfl rfl (Nat.le_of_ble_eq_true rfl) rfl ?_
  by_cases g1 : z_in x 0 2 = 0
  · skip
    refine hg_aload_n (n := 1) dX5_about_0 rfl rfl ?_
    refine hg_iload_n (n := 2) dX5_about_1 rfl rfl ?_
    refine hg_callVd (n := 5) (c_X5_furnaceAt_b hH _ g1) dX5_about_2 rfl mk_X5_83 yl_X5_furnaceAt yv_X5_furnaceAt rfl hH.1 (by decide) (by decide) rfl rfl (Nat.le_of_ble_eq_true rfl) (fun h => by cases h) ?_
    refine hg_astore_n (n := 6) dX5_about_5 rfl (by decide) rfl rfl ?_
    refine hg_aload_n (n := 7) dX5_about_6 rfl rfl ?_
    refine hg_ifnull (n := 10) (tgt := 20) dX5_about_7 rfl (by decide) (fun h7 => ?_) (fun q7 h7 => ?_)
    · refine hg_bipush (n := 22) (v := -2) dX5_about_20 rfl (by decide) ?_
      refine hg_ireturn dX5_about_22 rfl ?_
      exact hQ
    · cases h7
  · obtain ⟨f, hf0, hf1, rfl⟩ := z_nat (a := 0) (b := 2) (by decide) (by decide) g1
    have hf : f < 3 := by omega
    refine hg_aload_n (n := 1) dX5_about_0 rfl rfl ?_
    refine hg_iload_n (n := 2) dX5_about_1 rfl rfl ?_
    refine hg_callVd (n := 5) (c_X5_furnaceAt hH f hf) dX5_about_2 rfl mk_X5_83 yl_X5_furnaceAt yv_X5_furnaceAt rfl hH.1 (by decide) (by decide) rfl rfl (Nat.le_of_ble_eq_true rfl) (fun h => by cases h) ?_
    refine hg_astore_n (n := 6) dX5_about_5 rfl (by decide) rfl rfl ?_
    refine hg_aload_n (n := 7) dX5_about_6 rfl rfl ?_
    refine hg_ifnull (n := 10) (tgt := 20) dX5_about_7 rfl (by decide) (fun h7 => ?_) (fun q7 h7 => ?_)
    · cases h7
    · refine hg_iload_n (n := 11) dX5_about_10 rfl rfl ?_
      refine hg_iconst (n := 12) (v := 0) dX5_about_11 rfl (by decide) ?_
      refine hg_bipush (n := 14) (v := 6) dX5_about_12 rfl (by decide) ?_
      refine hg_callSd (n := 17) (c_X5_within _ _ _ _) dX5_about_14 rfl mk_X5_35 yl_X5_within ys_X5_within (by decide) (by decide) rfl rfl (Nat.le_of_ble_eq_true rfl) (fun h => by cases h) ?_
      refine hg_if_ne (n := 20) (tgt := 23) dX5_about_17 rfl (by decide) (fun h17 => ?_) (fun h17 => ?_)
      · exact absurd hb (by simp [g1, h17])
      · refine hg_bipush (n := 22) (v := -2) dX5_about_20 rfl (by decide) ?_
        refine hg_ireturn dX5_about_22 rfl ?_
        exact hQ

set_option maxHeartbeats 4000000 in
set_option maxRecDepth 100000 in
theorem c_X5_about {mi : MI_} {ml : ML_} {mr : MR_} {sh : SH_} {np nr : Nat} {nn : Nat → Nat} (hH : hs_ mr sh np nr nn) (f : Nat) (hf : f < 3) {pl : Nat → Option Nat} (hfp : fp_ mr f np pl) {cu : Option Nat} (hc : fc_ mr sh f cu) (w : Nat) (hw : w ≤ 6) : hg_Det false yX5_about md_X5_about [hv_r (some (1, 0)), hv_i (nI f), hv_i (nI w)] (mi, ml, mr, sh) (some (hv_i (ft_t mi f pl cu w))) (mi, ml, mr, sh) := by
  intro Q hQ
  refine hg_intro rfl rfl rfl (Nat.le_of_ble_eq_true rfl) rfl ?_
  refine hg_aload_n (n := 1) dX5_about_0 rfl rfl ?_
  refine hg_iload_n (n := 2) dX5_about_1 rfl rfl ?_
  refine hg_callVd (n := 5) (c_X5_furnaceAt hH f hf) dX5_about_2 rfl mk_X5_83 yl_X5_furnaceAt yv_X5_furnaceAt rfl hH.1 (by decide) (by decide) rfl rfl (Nat.le_of_ble_eq_true rfl) (fun h => by cases h) ?_
  refine hg_astore_n (n := 6) dX5_about_5 rfl (by decide) rfl rfl ?_
  refine hg_aload_n (n := 7) dX5_about_6 rfl rfl ?_
  refine hg_ifnull (n := 10) (tgt := 20) dX5_about_7 rfl (by decide) (fun h7 => ?_) (fun q7 h7 => ?_)
  · cases h7
  · refine hg_iload_n (n := 11) dX5_about_10 rfl rfl ?_
    refine hg_iconst (n := 12) (v := 0) dX5_about_11 rfl (by decide) ?_
    refine hg_bipush (n := 14) (v := 6) dX5_about_12 rfl (by decide) ?_
    refine hg_callSd (n := 17) (c_X5_within _ _ _ _) dX5_about_14 rfl mk_X5_35 yl_X5_within ys_X5_within (by decide) (by decide) rfl rfl (Nat.le_of_ble_eq_true rfl) (fun h => by cases h) ?_
    refine hg_if_ne (n := 20) (tgt := 23) dX5_about_17 rfl (by decide) (fun h17 => ?_) (fun h17 => ?_)
    · refine hg_aload_n (n := 24) dX5_about_23 rfl rfl ?_
      refine hg_iload_n (n := 25) dX5_about_24 rfl rfl ?_
      refine hg_callVd (n := 28) (c_X0_tell (hs_F hH hf) hfp (hs_P hH) hc w hw) dX5_about_25 rfl mk_X5_156 yl_X0_tell yv_X0_tell rfl (hs_F hH hf).1 (by decide) (by decide) rfl rfl (Nat.le_of_ble_eq_true rfl) (fun h => by cases h) ?_
      refine hg_ireturn dX5_about_28 rfl ?_
      exact hQ
    · exact absurd h17 (z_nat3 (a := 0) (b := 6) (by omega) (by omega) (by omega))

set_option maxHeartbeats 4000000 in
set_option maxRecDepth 100000 in
theorem c_X5_runAt_b {mi : MI_} {ml : ML_} {mr : MR_} {sh : SH_} {np nr : Nat} {nn : Nat → Nat} (hH : hs_ mr sh np nr nn) (x w : Int32) (hb : x < 0 ∨ z_in w 0 4 = 0) : hg_Det false yX5_runAt md_X5_runAt [hv_r (some (1, 0)), hv_i x, hv_i w] (mi, ml, mr, sh) (some (hv_i (-2))) (mi, ml, mr, sh) := by
  intro Q hQ
  refine hg_intro rfl rfl rfl (Nat.le_of_ble_eq_true rfl) rfl ?_
  refine hg_iload_n (n := 1) dX5_runAt_0 rfl rfl ?_
  refine hg_if_lt (n := 4) (tgt := 13) dX5_runAt_1 rfl (by decide) (fun h1 => ?_) (fun h1 => ?_)
  · refine hg_bipush (n := 15) (v := -2) dX5_runAt_13 rfl (by decide) ?_
    refine hg_ireturn dX5_runAt_15 rfl ?_
    exact hQ
  · refine hg_iload_n (n := 5) dX5_runAt_4 rfl rfl ?_
    refine hg_iconst (n := 6) (v := 0) dX5_runAt_5 rfl (by decide) ?_
    refine hg_iconst (n := 7) (v := 4) dX5_runAt_6 rfl (by decide) ?_
    refine hg_callSd (n := 10) (c_X5_within _ _ _ _) dX5_runAt_7 rfl mk_X5_35 yl_X5_within ys_X5_within (by decide) (by decide) rfl rfl (Nat.le_of_ble_eq_true rfl) (fun h => by cases h) ?_
    refine hg_if_ne (n := 13) (tgt := 16) dX5_runAt_10 rfl (by decide) (fun h10 => ?_) (fun h10 => ?_)
    · exact absurd hb (fun q => q.elim h1 h10)
    · refine hg_bipush (n := 15) (v := -2) dX5_runAt_13 rfl (by decide) ?_
      refine hg_ireturn dX5_runAt_15 rfl ?_
      exact hQ

set_option maxHeartbeats 4000000 in
set_option maxRecDepth 100000 in
theorem c_X5_runAt_n {mi : MI_} {ml : ML_} {mr : MR_} {sh : SH_} {np nr : Nat} {nn : Nat → Nat} (hH : hs_ mr sh np nr nn) (x w : Int32) (hx : ¬ x < 0) (hw : ¬ z_in w 0 4 = 0) (hn : ¬ x < mi 1 0 5) : hg_Det false yX5_runAt md_X5_runAt [hv_r (some (1, 0)), hv_i x, hv_i w] (mi, ml, mr, sh) (some (hv_i (-1))) (mi, ml, mr, sh) := by
  intro Q hQ
  refine hg_intro rfl rfl rfl (Nat.le_of_ble_eq_true rfl) rfl ?_
  refine hg_iload_n (n := 1) dX5_runAt_0 rfl rfl ?_
  refine hg_if_lt (n := 4) (tgt := 13) dX5_runAt_1 rfl (by decide) (fun h1 => ?_) (fun h1 => ?_)
  · exact absurd h1 hx
  · refine hg_iload_n (n := 5) dX5_runAt_4 rfl rfl ?_
    refine hg_iconst (n := 6) (v := 0) dX5_runAt_5 rfl (by decide) ?_
    refine hg_iconst (n := 7) (v := 4) dX5_runAt_6 rfl (by decide) ?_
    refine hg_callSd (n := 10) (c_X5_within _ _ _ _) dX5_runAt_7 rfl mk_X5_35 yl_X5_within ys_X5_within (by decide) (by decide) rfl rfl (Nat.le_of_ble_eq_true rfl) (fun h => by cases h) ?_
    refine hg_if_ne (n := 13) (tgt := 16) dX5_runAt_10 rfl (by decide) (fun h10 => ?_) (fun h10 => ?_)
    · refine hg_iload_n (n := 17) dX5_runAt_16 rfl rfl ?_
      refine hg_aload_n (n := 18) dX5_runAt_17 rfl rfl ?_
      refine hg_getI (n := 21) dX5_runAt_18 rfl fl_X5_124 rfl rfl hH.1 ?_
      refine hg_icmp_lt (n := 24) (tgt := 26) dX5_runAt_21 rfl (by decide) (fun h21 => ?_) (fun h21 => ?_)
      · exact absurd h21 hn
      · refine hg_iconst (n := 25) (v := -1) dX5_runAt_24 rfl (by decide) ?_
        refine hg_ireturn dX5_runAt_25 rfl ?_
        exact hQ
    · exact absurd h10 hw

set_option maxHeartbeats 4000000 in
set_option maxRecDepth 100000 in
theorem c_X5_runAt {mi : MI_} {ml : ML_} {mr : MR_} {sh : SH_} {np nr : Nat} {nn : Nat → Nat} (hH : hs_ mr sh np nr nn) (hnr : mi 1 0 5 = nI nr) (hn100 : nr ≤ 100) (r : Nat) (hr : r < nr) (w : Nat) (hw : w ≤ 4) : hg_Det false yX5_runAt md_X5_runAt [hv_r (some (1, 0)), hv_i (nI r), hv_i (nI w)] (mi, ml, mr, sh) (some (hv_i (rt_ mi r w))) (mi, ml, mr, sh) := by
  intro Q hQ
  refine hg_intro rfl rfl rfl (Nat.le_of_ble_eq_true rfl) rfl ?_
  refine hg_iload_n (n := 1) dX5_runAt_0 rfl rfl ?_
  refine hg_if_lt (n := 4) (tgt := 13) dX5_runAt_1 rfl (by decide) (fun h1 => ?_) (fun h1 => ?_)
  · exact absurd h1 (i32_nlt.mpr (z_in_ne (z_nat3 (j := r) (a := 0) (b := 100) (by omega) (by omega) (by omega))).1)
  · refine hg_iload_n (n := 5) dX5_runAt_4 rfl rfl ?_
    refine hg_iconst (n := 6) (v := 0) dX5_runAt_5 rfl (by decide) ?_
    refine hg_iconst (n := 7) (v := 4) dX5_runAt_6 rfl (by decide) ?_
    refine hg_callSd (n := 10) (c_X5_within _ _ _ _) dX5_runAt_7 rfl mk_X5_35 yl_X5_within ys_X5_within (by decide) (by decide) rfl rfl (Nat.le_of_ble_eq_true rfl) (fun h => by cases h) ?_
    refine hg_if_ne (n := 13) (tgt := 16) dX5_runAt_10 rfl (by decide) (fun h10 => ?_) (fun h10 => ?_)
    · refine hg_iload_n (n := 17) dX5_runAt_16 rfl rfl ?_
      refine hg_aload_n (n := 18) dX5_runAt_17 rfl rfl ?_
      refine hg_getN (n := 21) (nr) dX5_runAt_18 rfl fl_X5_124 rfl rfl hH.1 hnr ?_
      refine hg_icmp_ltN (n := 24) (tgt := 26) (r) (nr) dX5_runAt_21 rfl (by decide) (by omega) (by omega) (fun h21 => ?_) (fun h21 => ?_)
      · refine hg_aload_n (n := 27) dX5_runAt_26 rfl rfl ?_
        refine hg_getR (n := 30) (r := some (10, 0)) dX5_runAt_27 rfl fl_X5_23 rfl rfl hH.1 hH.2.1.2.2.1 ?_
        refine hg_iload_n (n := 31) dX5_runAt_30 rfl rfl ?_
        refine hg_aaload (n := 32) (len := 100) (r) (r := some (5, r)) dX5_runAt_31 rfl (by decide) rfl rfl hH.2.2.2.2.1 rfl (by omega) (by omega) (hs_rA hH hr) ?_
        refine hg_iload_n (n := 33) dX5_runAt_32 rfl rfl ?_
        refine hg_callVd (n := 36) (c_X3_tell (hs_R hH hr) w hw) dX5_runAt_33 rfl mk_X5_157 yl_X3_tell yv_X3_tell rfl (hs_R hH hr) (by decide) (by decide) rfl rfl (Nat.le_of_ble_eq_true rfl) (fun h => by cases h) ?_
        refine hg_ireturn dX5_runAt_36 rfl ?_
        exact hQ
      · exact absurd h21 (by omega)
    · exact absurd h10 (z_nat3 (a := 0) (b := 4) (by omega) (by omega) (by omega))

set_option maxHeartbeats 4000000 in
set_option maxRecDepth 100000 in
theorem c_X5_paper_b {mi : MI_} {ml : ML_} {mr : MR_} {sh : SH_} {np nr : Nat} {nn : Nat → Nat} (hH : hs_ mr sh np nr nn) (hnp : mi 1 0 4 = nI np) (hn12 : np ≤ 12) (x a b : Int32) (hb : z_in x 0 (mi 1 0 4 - 1) = 0 ∨ ¬ a ≤ b) : hg_Det false yX5_paper md_X5_paper [hv_r (some (1, 0)), hv_i x, hv_i a, hv_i b] (mi, ml, mr, sh) (some (hv_i (-2))) (mi, ml, mr, sh) := by
  intro Q hQ
  refine hg_intro rfl rfl rfl (Nat.le_of_ble_eq_true rfl) rfl ?_
  by_cases g1 : z_in x 0 (mi 1 0 4 - 1) = 0
  · skip
    refine hg_aload_n (n := 1) dX5_paper_0 rfl rfl ?_
    refine hg_iload_n (n := 2) dX5_paper_1 rfl rfl ?_
    refine hg_callVd (n := 5) (c_X5_partAt_b hH _ g1) dX5_paper_2 rfl mk_X5_46 yl_X5_partAt yv_X5_partAt rfl hH.1 (by decide) (by decide) rfl rfl (Nat.le_of_ble_eq_true rfl) (fun h => by cases h) ?_
    refine hg_astore (n := 7) dX5_paper_5 rfl (by decide) rfl rfl ?_
    refine hg_aload (n := 9) dX5_paper_7 rfl rfl ?_
    refine hg_ifnull (n := 12) (tgt := 17) dX5_paper_9 rfl (by decide) (fun h9 => ?_) (fun q9 h9 => ?_)
    · refine hg_bipush (n := 19) (v := -2) dX5_paper_17 rfl (by decide) ?_
      refine hg_ireturn dX5_paper_19 rfl ?_
      exact hQ
    · cases h9
  · obtain ⟨p, hp, rfl⟩ := z_ix (n := np) (by omega) (by rw [← hnp]; exact g1)
    refine hg_aload_n (n := 1) dX5_paper_0 rfl rfl ?_
    refine hg_iload_n (n := 2) dX5_paper_1 rfl rfl ?_
    refine hg_callVd (n := 5) (c_X5_partAt hH hnp hn12 p hp) dX5_paper_2 rfl mk_X5_46 yl_X5_partAt yv_X5_partAt rfl hH.1 (by decide) (by decide) rfl rfl (Nat.le_of_ble_eq_true rfl) (fun h => by cases h) ?_
    refine hg_astore (n := 7) dX5_paper_5 rfl (by decide) rfl rfl ?_
    refine hg_aload (n := 9) dX5_paper_7 rfl rfl ?_
    refine hg_ifnull (n := 12) (tgt := 17) dX5_paper_9 rfl (by decide) (fun h9 => ?_) (fun q9 h9 => ?_)
    · cases h9
    · refine hg_iload_n (n := 13) dX5_paper_12 rfl rfl ?_
      refine hg_iload_n (n := 14) dX5_paper_13 rfl rfl ?_
      refine hg_icmp_le (n := 17) (tgt := 20) dX5_paper_14 rfl (by decide) (fun h14 => ?_) (fun h14 => ?_)
      · exact absurd hb (by simp [g1, h14])
      · refine hg_bipush (n := 19) (v := -2) dX5_paper_17 rfl (by decide) ?_
        refine hg_ireturn dX5_paper_19 rfl ?_
        exact hQ

set_option maxHeartbeats 4000000 in
set_option maxRecDepth 100000 in
theorem c_X5_paper_0 {mi : MI_} {ml : ML_} {mr : MR_} {sh : SH_} {np nr : Nat} {nn : Nat → Nat} (hH : hs_ mr sh np nr nn) (hnp : mi 1 0 4 = nI np) (hn12 : np ≤ 12) (p : Nat) (hp : p < np) (a b : Int32) (hab : a ≤ b) (h0 : mr 4 p 9 = none) : hg_Det false yX5_paper md_X5_paper [hv_r (some (1, 0)), hv_i (nI p), hv_i a, hv_i b] (mi, ml, mr, sh) (some (hv_i (-10))) (mi, ml, mr, sh) := by
  intro Q hQ
  refine hg_intro rfl rfl rfl (Nat.le_of_ble_eq_true rfl) rfl ?_
  refine hg_aload_n (n := 1) dX5_paper_0 rfl rfl ?_
  refine hg_iload_n (n := 2) dX5_paper_1 rfl rfl ?_
  refine hg_callVd (n := 5) (c_X5_partAt hH hnp hn12 p hp) dX5_paper_2 rfl mk_X5_46 yl_X5_partAt yv_X5_partAt rfl hH.1 (by decide) (by decide) rfl rfl (Nat.le_of_ble_eq_true rfl) (fun h => by cases h) ?_
  refine hg_astore (n := 7) dX5_paper_5 rfl (by decide) rfl rfl ?_
  refine hg_aload (n := 9) dX5_paper_7 rfl rfl ?_
  refine hg_ifnull (n := 12) (tgt := 17) dX5_paper_9 rfl (by decide) (fun h9 => ?_) (fun q9 h9 => ?_)
  · cases h9
  · refine hg_iload_n (n := 13) dX5_paper_12 rfl rfl ?_
    refine hg_iload_n (n := 14) dX5_paper_13 rfl rfl ?_
    refine hg_icmp_le (n := 17) (tgt := 20) dX5_paper_14 rfl (by decide) (fun h14 => ?_) (fun h14 => ?_)
    · refine hg_aload (n := 22) dX5_paper_20 rfl rfl ?_
      refine hg_getR (n := 25) (r := none) dX5_paper_22 rfl fl_X5_158 rfl rfl (hs_P hH p hp).1.1 h0 ?_
      refine hg_astore (n := 27) dX5_paper_25 rfl (by decide) rfl rfl ?_
      refine hg_aload (n := 29) dX5_paper_27 rfl rfl ?_
      refine hg_ifnonnull (n := 32) (tgt := 35) dX5_paper_29 rfl (by decide) (fun q29 h29 => ?_) (fun h29 => ?_)
      · cases h29
      · refine hg_bipush (n := 34) (v := -10) dX5_paper_32 rfl (by decide) ?_
        refine hg_ireturn dX5_paper_34 rfl ?_
        exact hQ
    · exact absurd hab h14

def pp_c (Y : MI_) (p r : Nat) (a b : Int32) : Int32 := if Y 5 r 1 = 0 then (if wc_ Y r = 0 then -12 else if z_in (hn_ Y (6 * p)) a b = 0 then -13 else if Y 6 (6 * p) 0 ≤ 500 then 1 else -14) else -11
set_option maxHeartbeats 4000000 in
set_option maxRecDepth 100000 in
theorem c_X5_paper {mi : MI_} {ml : ML_} {mr : MR_} {sh : SH_} {np nr : Nat} {nn : Nat → Nat} (hH : hs_ mr sh np nr nn) (hnp : mi 1 0 4 = nI np) (hn12 : np ≤ 12) (p : Nat) (hp : p < np) (a b : Int32) (hab : a ≤ b) (r : Nat) (hr : r < nr) (h0 : mr 4 p 9 = some (5, r)) : hg_Det false yX5_paper md_X5_paper [hv_r (some (1, 0)), hv_i (nI p), hv_i a, hv_i b] (mi, ml, mr, sh) (some (hv_i (pp_c mi p r a b))) (mi, ml, mr, sh) := by
  intro Q hQ
  refine hg_intro rfl rfl rfl (Nat.le_of_ble_eq_true rfl) rfl ?_
  have h1 : 0 < nn p := (hs_P hH p hp).2.1
  have h6 := (hs_P hH p hp).2.2
  refine hg_aload_n (n := 1) dX5_paper_0 rfl rfl ?_
  refine hg_iload_n (n := 2) dX5_paper_1 rfl rfl ?_
  refine hg_callVd (n := 5) (c_X5_partAt hH hnp hn12 p hp) dX5_paper_2 rfl mk_X5_46 yl_X5_partAt yv_X5_partAt rfl hH.1 (by decide) (by decide) rfl rfl (Nat.le_of_ble_eq_true rfl) (fun h => by cases h) ?_
  refine hg_astore (n := 7) dX5_paper_5 rfl (by decide) rfl rfl ?_
  refine hg_aload (n := 9) dX5_paper_7 rfl rfl ?_
  refine hg_ifnull (n := 12) (tgt := 17) dX5_paper_9 rfl (by decide) (fun h9 => ?_) (fun q9 h9 => ?_)
  · cases h9
  · refine hg_iload_n (n := 13) dX5_paper_12 rfl rfl ?_
    refine hg_iload_n (n := 14) dX5_paper_13 rfl rfl ?_
    refine hg_icmp_le (n := 17) (tgt := 20) dX5_paper_14 rfl (by decide) (fun h14 => ?_) (fun h14 => ?_)
    · refine hg_aload (n := 22) dX5_paper_20 rfl rfl ?_
      refine hg_getR (n := 25) (r := some (5, r)) dX5_paper_22 rfl fl_X5_158 rfl rfl (hs_P hH p hp).1.1 h0 ?_
      refine hg_astore (n := 27) dX5_paper_25 rfl (by decide) rfl rfl ?_
      refine hg_aload (n := 29) dX5_paper_27 rfl rfl ?_
      refine hg_ifnonnull (n := 32) (tgt := 35) dX5_paper_29 rfl (by decide) (fun q29 h29 => ?_) (fun h29 => ?_)
      · refine hg_aload (n := 37) dX5_paper_35 rfl rfl ?_
        refine hg_getI (n := 40) dX5_paper_37 rfl fl_X5_162 rfl rfl (hs_R hH hr) ?_
        refine hg_if_eq (n := 43) (tgt := 46) dX5_paper_40 rfl (by decide) (fun h40 => ?_) (fun h40 => ?_)
        · refine hg_aload (n := 48) dX5_paper_46 rfl rfl ?_
          refine hg_callVd (n := 51) (c_X3_isWell (hs_R hH hr)) dX5_paper_48 rfl mk_X5_165 yl_X3_isWell yv_X3_isWell rfl (hs_R hH hr) (by decide) (by decide) rfl rfl (Nat.le_of_ble_eq_true rfl) (fun h => by cases h) ?_
          refine hg_if_ne (n := 54) (tgt := 57) dX5_paper_51 rfl (by decide) (fun h51 => ?_) (fun h51 => ?_)
          · refine hg_aload (n := 59) dX5_paper_57 rfl rfl ?_
            refine hg_getR (n := 62) (r := some (21, p)) dX5_paper_59 rfl fl_X5_62 rfl rfl (hs_P hH p hp).1.1 (hs_P hH p hp).1.2.1 ?_
            refine hg_iconst (n := 63) (v := 0) dX5_paper_62 rfl (by decide) ?_
            refine hg_aaload (n := 64) (len := nn p) (0) (r := some (6, 6 * p)) dX5_paper_63 rfl (by decide) rfl rfl (hs_P hH p hp).1.2.2.1 rfl (by omega) (by omega) ((hs_P hH p hp).1.2.2.2 0 h1).1 ?_
            refine hg_astore (n := 66) dX5_paper_64 rfl (by decide) rfl rfl ?_
            refine hg_aload (n := 68) dX5_paper_66 rfl rfl ?_
            refine hg_callVd (n := 71) (c_X4_hardness (s := 6 * p) ((hs_P hH p hp).1.2.2.2 0 h1).2) dX5_paper_68 rfl mk_X5_168 yl_X4_hardness yv_X4_hardness rfl ((hs_P hH p hp).1.2.2.2 0 h1).2 (by decide) (by decide) rfl rfl (Nat.le_of_ble_eq_true rfl) (fun h => by cases h) ?_
            refine hg_iload_n (n := 72) dX5_paper_71 rfl rfl ?_
            refine hg_iload_n (n := 73) dX5_paper_72 rfl rfl ?_
            refine hg_callSd (n := 76) (c_X5_within _ _ _ _) dX5_paper_73 rfl mk_X5_35 yl_X5_within ys_X5_within (by decide) (by decide) rfl rfl (Nat.le_of_ble_eq_true rfl) (fun h => by cases h) ?_
            refine hg_if_ne (n := 79) (tgt := 82) dX5_paper_76 rfl (by decide) (fun h76 => ?_) (fun h76 => ?_)
            · refine hg_aload (n := 84) dX5_paper_82 rfl rfl ?_
              refine hg_getI (n := 87) dX5_paper_84 rfl fl_X5_171 rfl rfl ((hs_P hH p hp).1.2.2.2 0 h1).2 ?_
              refine hg_sipush (n := 90) (v := 500) dX5_paper_87 rfl (by decide) ?_
              refine hg_icmp_le (n := 93) (tgt := 98) dX5_paper_90 rfl (by decide) (fun h90 => ?_) (fun h90 => ?_)
              · refine hg_iconst (n := 99) (v := 1) dX5_paper_98 rfl (by decide) ?_
                refine hg_ireturn dX5_paper_99 rfl ?_
                unfold pp_c at hQ
                rw [if_pos h40, if_neg h51, if_neg h76, if_pos h90] at hQ
                exact hQ
              · refine hg_bipush (n := 95) (v := -14) dX5_paper_93 rfl (by decide) ?_
                refine hg_goto (tgt := 99) dX5_paper_95 (by decide) ?_
                refine hg_ireturn dX5_paper_99 rfl ?_
                unfold pp_c at hQ
                rw [if_pos h40, if_neg h51, if_neg h76, if_neg h90] at hQ
                exact hQ
            · refine hg_bipush (n := 81) (v := -13) dX5_paper_79 rfl (by decide) ?_
              refine hg_ireturn dX5_paper_81 rfl ?_
              unfold pp_c at hQ
              rw [if_pos h40, if_neg h51, if_pos h76] at hQ
              exact hQ
          · refine hg_bipush (n := 56) (v := -12) dX5_paper_54 rfl (by decide) ?_
            refine hg_ireturn dX5_paper_56 rfl ?_
            unfold pp_c at hQ
            rw [if_pos h40, if_pos h51] at hQ
            exact hQ
        · refine hg_bipush (n := 45) (v := -11) dX5_paper_43 rfl (by decide) ?_
          refine hg_ireturn dX5_paper_45 rfl ?_
          unfold pp_c at hQ
          rw [if_neg h40] at hQ
          exact hQ
      · cases h29
    · exact absurd hab h14

set_option maxHeartbeats 4000000 in
set_option maxRecDepth 100000 in
theorem c_X5_job_b {mi : MI_} {ml : ML_} {mr : MR_} {sh : SH_} {np nr : Nat} {nn : Nat → Nat} (hH : hs_ mr sh np nr nn) (a b : Int32) (hb : z_in a 1 1000 = 0 ∨ z_in b 0 10000 = 0) : hg_Det false yX5_job md_X5_job [hv_r (some (1, 0)), hv_i a, hv_i b] (mi, ml, mr, sh) (some (hv_i (-2))) (mi, ml, mr, sh) := by
  intro Q hQ
  refine hg_intro rfl rfl rfl (Nat.le_of_ble_eq_true rfl) rfl ?_
  refine hg_iload_n (n := 1) dX5_job_0 rfl rfl ?_
  refine hg_iconst (n := 2) (v := 1) dX5_job_1 rfl (by decide) ?_
  refine hg_sipush (n := 5) (v := 1000) dX5_job_2 rfl (by decide) ?_
  refine hg_callSd (n := 8) (c_X5_within _ _ _ _) dX5_job_5 rfl mk_X5_35 yl_X5_within ys_X5_within (by decide) (by decide) rfl rfl (Nat.le_of_ble_eq_true rfl) (fun h => by cases h) ?_
  refine hg_if_eq (n := 11) (tgt := 22) dX5_job_8 rfl (by decide) (fun h8 => ?_) (fun h8 => ?_)
  · refine hg_bipush (n := 24) (v := -2) dX5_job_22 rfl (by decide) ?_
    refine hg_ireturn dX5_job_24 rfl ?_
    exact hQ
  · refine hg_iload_n (n := 12) dX5_job_11 rfl rfl ?_
    refine hg_iconst (n := 13) (v := 0) dX5_job_12 rfl (by decide) ?_
    refine hg_sipush (n := 16) (v := 10000) dX5_job_13 rfl (by decide) ?_
    refine hg_callSd (n := 19) (c_X5_within _ _ _ _) dX5_job_16 rfl mk_X5_35 yl_X5_within ys_X5_within (by decide) (by decide) rfl rfl (Nat.le_of_ble_eq_true rfl) (fun h => by cases h) ?_
    refine hg_if_ne (n := 22) (tgt := 25) dX5_job_19 rfl (by decide) (fun h19 => ?_) (fun h19 => ?_)
    · exact absurd hb (by simp [h8, h19])
    · refine hg_bipush (n := 24) (v := -2) dX5_job_22 rfl (by decide) ?_
      refine hg_ireturn dX5_job_24 rfl ?_
      exact hQ

set_option maxHeartbeats 4000000 in
set_option maxRecDepth 100000 in
theorem c_X5_job_f {mi : MI_} {ml : ML_} {mr : MR_} {sh : SH_} {np nr : Nat} {nn : Nat → Nat} (hH : hs_ mr sh np nr nn) (nj : Nat) (hnj : mi 2 0 4 = nI nj) (hnj7 : nj ≤ 7) (a b : Int32) (hb : ¬ (z_in a 1 1000 = 0 ∨ z_in b 0 10000 = 0)) (h7 : nj = 7) : hg_Det false yX5_job md_X5_job [hv_r (some (1, 0)), hv_i a, hv_i b] (mi, ml, mr, sh) (some (hv_i (-4))) (mi, ml, mr, sh) := by
  intro Q hQ
  refine hg_intro rfl rfl rfl (Nat.le_of_ble_eq_true rfl) rfl ?_
  refine hg_iload_n (n := 1) dX5_job_0 rfl rfl ?_
  refine hg_iconst (n := 2) (v := 1) dX5_job_1 rfl (by decide) ?_
  refine hg_sipush (n := 5) (v := 1000) dX5_job_2 rfl (by decide) ?_
  refine hg_callSd (n := 8) (c_X5_within _ _ _ _) dX5_job_5 rfl mk_X5_35 yl_X5_within ys_X5_within (by decide) (by decide) rfl rfl (Nat.le_of_ble_eq_true rfl) (fun h => by cases h) ?_
  refine hg_if_eq (n := 11) (tgt := 22) dX5_job_8 rfl (by decide) (fun h8 => ?_) (fun h8 => ?_)
  · exact absurd (Or.inl h8) hb
  · refine hg_iload_n (n := 12) dX5_job_11 rfl rfl ?_
    refine hg_iconst (n := 13) (v := 0) dX5_job_12 rfl (by decide) ?_
    refine hg_sipush (n := 16) (v := 10000) dX5_job_13 rfl (by decide) ?_
    refine hg_callSd (n := 19) (c_X5_within _ _ _ _) dX5_job_16 rfl mk_X5_35 yl_X5_within ys_X5_within (by decide) (by decide) rfl rfl (Nat.le_of_ble_eq_true rfl) (fun h => by cases h) ?_
    refine hg_if_ne (n := 22) (tgt := 25) dX5_job_19 rfl (by decide) (fun h19 => ?_) (fun h19 => ?_)
    · refine hg_aload_n (n := 26) dX5_job_25 rfl rfl ?_
      refine hg_getR (n := 29) (r := some (2, 0)) dX5_job_26 rfl fl_X5_30 rfl rfl hH.1 hH.2.1.2.2.2 ?_
      refine hg_iload_n (n := 30) dX5_job_29 rfl rfl ?_
      refine hg_iload_n (n := 31) dX5_job_30 rfl rfl ?_
      refine hg_callVd (n := 34) (c_X1_add_f (hs_J hH) nj hnj hnj7 _ _ h7) dX5_job_31 rfl mk_X5_174 yl_X1_add yv_X1_add rfl (hs_J hH).1 (by decide) (by decide) rfl rfl (Nat.le_of_ble_eq_true rfl) (fun h => by cases h) ?_
      refine hg_ireturn dX5_job_34 rfl ?_
      exact hQ
    · exact absurd (Or.inr h19) hb

set_option maxHeartbeats 4000000 in
set_option maxRecDepth 100000 in
theorem c_X5_job {mi : MI_} {ml : ML_} {mr : MR_} {sh : SH_} {np nr : Nat} {nn : Nat → Nat} (hH : hs_ mr sh np nr nn) (nj : Nat) (hnj : mi 2 0 4 = nI nj) (hnj7 : nj ≤ 7) (a b : Int32) (hb : ¬ (z_in a 1 1000 = 0 ∨ z_in b 0 10000 = 0)) (h7 : nj < 7) : hg_Det false yX5_job md_X5_job [hv_r (some (1, 0)), hv_i a, hv_i b] (mi, ml, mr, sh) (some (hv_i (nI nj))) (pl_m (ja_m mi nj a b) (nj + 1), ml, mr, sh) := by
  intro Q hQ
  refine hg_intro rfl rfl rfl (Nat.le_of_ble_eq_true rfl) rfl ?_
  refine hg_iload_n (n := 1) dX5_job_0 rfl rfl ?_
  refine hg_iconst (n := 2) (v := 1) dX5_job_1 rfl (by decide) ?_
  refine hg_sipush (n := 5) (v := 1000) dX5_job_2 rfl (by decide) ?_
  refine hg_callSd (n := 8) (c_X5_within _ _ _ _) dX5_job_5 rfl mk_X5_35 yl_X5_within ys_X5_within (by decide) (by decide) rfl rfl (Nat.le_of_ble_eq_true rfl) (fun h => by cases h) ?_
  refine hg_if_eq (n := 11) (tgt := 22) dX5_job_8 rfl (by decide) (fun h8 => ?_) (fun h8 => ?_)
  · exact absurd (Or.inl h8) hb
  · refine hg_iload_n (n := 12) dX5_job_11 rfl rfl ?_
    refine hg_iconst (n := 13) (v := 0) dX5_job_12 rfl (by decide) ?_
    refine hg_sipush (n := 16) (v := 10000) dX5_job_13 rfl (by decide) ?_
    refine hg_callSd (n := 19) (c_X5_within _ _ _ _) dX5_job_16 rfl mk_X5_35 yl_X5_within ys_X5_within (by decide) (by decide) rfl rfl (Nat.le_of_ble_eq_true rfl) (fun h => by cases h) ?_
    refine hg_if_ne (n := 22) (tgt := 25) dX5_job_19 rfl (by decide) (fun h19 => ?_) (fun h19 => ?_)
    · refine hg_aload_n (n := 26) dX5_job_25 rfl rfl ?_
      refine hg_getR (n := 29) (r := some (2, 0)) dX5_job_26 rfl fl_X5_30 rfl rfl hH.1 hH.2.1.2.2.2 ?_
      refine hg_iload_n (n := 30) dX5_job_29 rfl rfl ?_
      refine hg_iload_n (n := 31) dX5_job_30 rfl rfl ?_
      refine hg_callVd (n := 34) (c_X1_add (hs_J hH) nj hnj hnj7 _ _ h7) dX5_job_31 rfl mk_X5_174 yl_X1_add yv_X1_add rfl (hs_J hH).1 (by decide) (by decide) rfl rfl (Nat.le_of_ble_eq_true rfl) (fun h => by cases h) ?_
      refine hg_ireturn dX5_job_34 rfl ?_
      exact hQ
    · exact absurd (Or.inr h19) hb

set_option maxHeartbeats 4000000 in
set_option maxRecDepth 100000 in
theorem c_X5_clearJobs {mi : MI_} {ml : ML_} {mr : MR_} {sh : SH_} {np nr : Nat} {nn : Nat → Nat} (hH : hs_ mr sh np nr nn) (nj : Nat) (hnj : mi 2 0 4 = nI nj) (hnj7 : nj ≤ 7)  : hg_Det false yX5_clearJobs md_X5_clearJobs [hv_r (some (1, 0))] (mi, ml, mr, sh) (some (hv_i (nI nj))) (pl_m (u_3 mi 2 0 4 (nI 0)) 0, ml, mr, sh) := by
  intro Q hQ
  refine hg_intro rfl rfl rfl (Nat.le_of_ble_eq_true rfl) rfl ?_
  refine hg_aload_n (n := 1) dX5_clearJobs_0 rfl rfl ?_
  refine hg_getR (n := 4) (r := some (2, 0)) dX5_clearJobs_1 rfl fl_X5_30 rfl rfl hH.1 hH.2.1.2.2.2 ?_
  refine hg_callVd (n := 7) (c_X1_removeAll (hs_J hH) nj hnj hnj7) dX5_clearJobs_4 rfl mk_X5_177 yl_X1_removeAll yv_X1_removeAll rfl (hs_J hH).1 (by decide) (by decide) rfl rfl (Nat.le_of_ble_eq_true rfl) (fun h => by cases h) ?_
  refine hg_ireturn dX5_clearJobs_7 rfl ?_
  exact hQ

set_option maxHeartbeats 4000000 in
set_option maxRecDepth 100000 in
theorem c_X5_lateness {mi : MI_} {ml : ML_} {mr : MR_} {sh : SH_} {np nr : Nat} {nn : Nat → Nat} (hH : hs_ mr sh np nr nn)  : hg_Det false yX5_lateness md_X5_lateness [hv_r (some (1, 0))] (mi, ml, mr, sh) (some (hv_i (mi 13 0 0))) (mi, ml, mr, sh) := by
  intro Q hQ
  refine hg_intro rfl rfl rfl (Nat.le_of_ble_eq_true rfl) rfl ?_
  refine hg_aload_n (n := 1) dX5_lateness_0 rfl rfl ?_
  refine hg_getR (n := 4) (r := some (2, 0)) dX5_lateness_1 rfl fl_X5_30 rfl rfl hH.1 hH.2.1.2.2.2 ?_
  refine hg_callVd (n := 7) (c_X1_leastLateness (hs_J hH)) dX5_lateness_4 rfl mk_X5_180 yl_X1_leastLateness yv_X1_leastLateness rfl (hs_J hH).1 (by decide) (by decide) rfl rfl (Nat.le_of_ble_eq_true rfl) (fun h => by cases h) ?_
  refine hg_ireturn dX5_lateness_7 rfl ?_
  exact hQ

set_option maxHeartbeats 4000000 in
set_option maxRecDepth 100000 in
theorem c_X5_order_b {mi : MI_} {ml : ML_} {mr : MR_} {sh : SH_} {np nr : Nat} {nn : Nat → Nat} (hH : hs_ mr sh np nr nn) (x : Int32) (hb : z_in x 0 (mi 2 0 4 - 1) = 0) : hg_Det false yX5_order md_X5_order [hv_r (some (1, 0)), hv_i x] (mi, ml, mr, sh) (some (hv_i (-1))) (mi, ml, mr, sh) := by
  intro Q hQ
  refine hg_intro rfl rfl rfl (Nat.le_of_ble_eq_true rfl) rfl ?_
  refine hg_iload_n (n := 1) dX5_order_0 rfl rfl ?_
  refine hg_iconst (n := 2) (v := 0) dX5_order_1 rfl (by decide) ?_
  refine hg_aload_n (n := 3) dX5_order_2 rfl rfl ?_
  refine hg_getR (n := 6) (r := some (2, 0)) dX5_order_3 rfl fl_X5_30 rfl rfl hH.1 hH.2.1.2.2.2 ?_
  refine hg_getI (n := 9) dX5_order_6 rfl fl_X5_183 rfl rfl (hs_J hH).1 ?_
  refine hg_iconst (n := 10) (v := 1) dX5_order_9 rfl (by decide) ?_
  refine hg_isub (n := 11) dX5_order_10 rfl ?_
  refine hg_callSd (n := 14) (c_X5_within _ _ _ _) dX5_order_11 rfl mk_X5_35 yl_X5_within ys_X5_within (by decide) (by decide) rfl rfl (Nat.le_of_ble_eq_true rfl) (fun h => by cases h) ?_
  refine hg_if_eq (n := 17) (tgt := 29) dX5_order_14 rfl (by decide) (fun h14 => ?_) (fun h14 => ?_)
  · refine hg_iconst (n := 30) (v := -1) dX5_order_29 rfl (by decide) ?_
    refine hg_ireturn dX5_order_30 rfl ?_
    exact hQ
  · exact absurd hb h14

set_option maxHeartbeats 4000000 in
set_option maxRecDepth 100000 in
theorem c_X5_order {mi : MI_} {ml : ML_} {mr : MR_} {sh : SH_} {np nr : Nat} {nn : Nat → Nat} (hH : hs_ mr sh np nr nn) (nj : Nat) (hnj : mi 2 0 4 = nI nj) (hnj7 : nj ≤ 7) (i : Nat) (hi : i < nj) : hg_Det false yX5_order md_X5_order [hv_r (some (1, 0)), hv_i (nI i)] (mi, ml, mr, sh) (some (hv_i (mi 14 0 i))) (mi, ml, mr, sh) := by
  intro Q hQ
  refine hg_intro rfl rfl rfl (Nat.le_of_ble_eq_true rfl) rfl ?_
  refine hg_iload_n (n := 1) dX5_order_0 rfl rfl ?_
  refine hg_iconst (n := 2) (v := 0) dX5_order_1 rfl (by decide) ?_
  refine hg_aload_n (n := 3) dX5_order_2 rfl rfl ?_
  refine hg_getR (n := 6) (r := some (2, 0)) dX5_order_3 rfl fl_X5_30 rfl rfl hH.1 hH.2.1.2.2.2 ?_
  refine hg_getI (n := 9) dX5_order_6 rfl fl_X5_183 rfl rfl (hs_J hH).1 ?_
  refine hg_iconst (n := 10) (v := 1) dX5_order_9 rfl (by decide) ?_
  refine hg_isub (n := 11) dX5_order_10 rfl ?_
  refine hg_callSd (n := 14) (c_X5_within _ _ _ _) dX5_order_11 rfl mk_X5_35 yl_X5_within ys_X5_within (by decide) (by decide) rfl rfl (Nat.le_of_ble_eq_true rfl) (fun h => by cases h) ?_
  refine hg_if_eq (n := 17) (tgt := 29) dX5_order_14 rfl (by decide) (fun h14 => ?_) (fun h14 => ?_)
  · exact absurd h14 (by rw [hnj, z_ix2 (by omega) hi]; decide)
  · refine hg_aload_n (n := 18) dX5_order_17 rfl rfl ?_
    refine hg_getR (n := 21) (r := some (2, 0)) dX5_order_18 rfl fl_X5_30 rfl rfl hH.1 hH.2.1.2.2.2 ?_
    refine hg_getR (n := 24) (r := some (14, 0)) dX5_order_21 rfl fl_X5_186 rfl rfl (hs_J hH).1 (hs_J hH).2.1.2.2.2 ?_
    refine hg_iload_n (n := 25) dX5_order_24 rfl rfl ?_
    refine hg_iaload (n := 26) (len := 7) (i) dX5_order_25 rfl (by decide) rfl (hs_J hH).2.2.2.2.2 rfl (by omega) (by decide) ?_
    refine hg_goto (tgt := 30) dX5_order_26 (by decide) ?_
    refine hg_ireturn dX5_order_30 rfl ?_
    exact hQ

