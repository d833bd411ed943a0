set_option maxHeartbeats 4000000 in
set_option maxRecDepth 100000 in
theorem c_X6_order_b {mi : MI_} {ml : ML_} {mr : MR_} {sh : SH_} (hM : mo_ mr sh) (x : Int32) (hb : z_in x 0 (mi 7 0 35 - 1) = 0) : hg_Det false yX6_order md_X6_order [hv_r (some (7, 0)), hv_i x] (mi, ml, mr, sh) (some (hv_i (-1))) (mi, ml, mr, sh) := by
  intro Q hQ
  refine hg_intro rfl rfl rfl (Nat.le_of_ble_eq_true rfl) rfl ?_
  refine hg_iload_n (n := 1) dX6_order_0 rfl rfl ?_
  refine hg_iconst (n := 2) (v := 0) dX6_order_1 rfl (by decide) ?_
  refine hg_aload_n (n := 3) dX6_order_2 rfl rfl ?_
  refine hg_getI (n := 6) dX6_order_3 rfl fl_X6_183 rfl rfl (mo_s hM) ?_
  refine hg_iconst (n := 7) (v := 1) dX6_order_6 rfl (by decide) ?_
  refine hg_isub (n := 8) dX6_order_7 rfl ?_
  refine hg_callSd (n := 11) (c_X6_in _ _ _ _) dX6_order_8 rfl mk_X6_1 yl_X6_in ys_X6_in (by decide) (by decide) rfl rfl (Nat.le_of_ble_eq_true rfl) (fun h => by cases h) ?_
  refine hg_if_ne (n := 14) (tgt := 16) dX6_order_11 rfl (by decide) (fun h11 => ?_) (fun h11 => ?_)
  · exact absurd hb h11
  · refine hg_iconst (n := 15) (v := -1) dX6_order_14 rfl (by decide) ?_
    refine hg_ireturn dX6_order_15 rfl ?_
    exact hQ

set_option maxHeartbeats 4000000 in
set_option maxRecDepth 100000 in
theorem c_X6_order {mi : MI_} {ml : ML_} {mr : MR_} {sh : SH_} (hM : mo_ mr sh) (nj : Nat) (hnj : mi 7 0 35 = nI nj) (hnj7 : nj ≤ 7) (i : Nat) (hi : i < nj) (dn fd : Nat → Nat) (hd0 : dn 0 = 0) (hds : ∀ n, n ≤ i → dn (n + 1) = dn n ||| 2 ^ fd n) (hfd : ∀ n, n ≤ i → fd n < 7 ∧ dn n < 128 ∧ dn n / 2 ^ fd n % 2 = 0 ∧ lb_ (wg_ mi nj (2 ^ nj)) nj (dn n) (fd n) + wg_ mi nj (2 ^ nj) 68 0 (dn n ||| 2 ^ fd n) = wg_ mi nj (2 ^ nj) 68 0 (dn n) ∧ ∀ k, k < fd n → dn n / 2 ^ k % 2 = 1 ∨ ¬ lb_ (wg_ mi nj (2 ^ nj)) nj (dn n) k + wg_ mi nj (2 ^ nj) 68 0 (dn n ||| 2 ^ k) = wg_ mi nj (2 ^ nj) 68 0 (dn n)) : hg_Det false yX6_order md_X6_order [hv_r (some (7, 0)), hv_i (nI i)] (mi, ml, mr, sh) (some (hv_i (nI (fd i)))) (wg_ mi nj (2 ^ nj), ml, mr, sh) := by
  intro Q hQ
  refine hg_intro rfl rfl rfl (Nat.le_of_ble_eq_true rfl) rfl ?_
  have l1 : ∀ m n v, n + m = i + 1 → (n ≠ 0 → v = nI (fd (n - 1))) → hg_G md_X6_order false sh Q 0 0 27 [some (hv_r (some (7, 0))), some (hv_i (nI i)), some (hv_i (nI (dn n))), some (hv_i v), some (hv_i (nI n))] [] (wg_ mi nj (2 ^ nj), ml, mr, sh) := by
    intro m
    induction m with
    | zero =>
      intro n v hn hv
      refine hg_iload (n := 29) dX6_order_27 rfl rfl ?_
      refine hg_iload_n (n := 30) dX6_order_29 rfl rfl ?_
      refine hg_icmp_gtN (n := 33) (tgt := 88) (n) (i) dX6_order_30 rfl (by decide) (by omega) (by omega) (fun h30 => ?_) (fun h30 => ?_)
      · have e := show n = i + 1 by omega
        subst e
        have ev := hv (by omega)
        subst ev
        refine hg_iload_n (n := 89) dX6_order_88 rfl rfl ?_
        refine hg_ireturn dX6_order_89 rfl ?_
        exact hQ
      · exact absurd h30 (by omega)
    | succ m ih0 =>
      intro n v hn hv
      obtain ⟨g1, g2, g3, g4, g5⟩ := hfd n (by omega)
      have l2 : ∀ r k, k + r = fd n → hg_G md_X6_order false sh Q 0 0 35 [some (hv_r (some (7, 0))), some (hv_i (nI i)), some (hv_i (nI (dn n))), some (hv_i (nI k)), some (hv_i (nI n))] [] (wg_ mi nj (2 ^ nj), ml, mr, sh) := by
        intro r
        induction r with
        | zero =>
          intro k hk
          have e := show k = fd n by omega
          subst e
          have hdk := q_div (k := fd n) (show dn n < 128 by omega)
          refine hg_iload_n (n := 36) dX6_order_35 rfl rfl ?_
          refine hg_iload_n (n := 37) dX6_order_36 rfl rfl ?_
          refine hg_ishrN (n := 38) (dn n) (fd n) dX6_order_37 rfl (by omega) (by omega) ?_
          refine hg_iconst (n := 39) (v := 1) dX6_order_38 rfl (by decide) ?_
          refine hg_iand1N (n := 40) ((dn n) / 2 ^ (fd n)) dX6_order_39 rfl (by omega) ?_
          refine hg_iconst (n := 41) (v := 1) dX6_order_40 rfl (by decide) ?_
          refine hg_icmp_eqN (n := 44) (tgt := 70) ((dn n) / 2 ^ (fd n) % 2) (1) dX6_order_41 rfl (by decide) (by omega) (by omega) (fun h41 => ?_) (fun h41 => ?_)
          · exact absurd h41 (by omega)
          · refine hg_aload_n (n := 45) dX6_order_44 rfl rfl ?_
            refine hg_iload_n (n := 46) dX6_order_45 rfl rfl ?_
            refine hg_iload_n (n := 47) dX6_order_46 rfl rfl ?_
            refine hg_callVd (n := 50) (c_X6_lateBy hM nj ((wg_k (by decide) _).trans hnj) hnj7 (dn n) (fd n) (by omega) (by omega)) dX6_order_47 rfl mk_X6_187 yl_X6_lateBy yv_X6_lateBy rfl (mo_s hM) (by decide) (by decide) rfl rfl (Nat.le_of_ble_eq_true rfl) (fun h => by cases h) ?_
            refine hg_aload_n (n := 51) dX6_order_50 rfl rfl ?_
            refine hg_getR (n := 54) (r := some (68, 0)) dX6_order_51 rfl fl_X6_150 rfl rfl (mo_s hM) (mo_r hM 38 (by decide)) ?_
            refine hg_iload_n (n := 55) dX6_order_54 rfl rfl ?_
            refine hg_iconst (n := 56) (v := 1) dX6_order_55 rfl (by decide) ?_
            refine hg_iload_n (n := 57) dX6_order_56 rfl rfl ?_
            refine hg_ishl1 (n := 58) (fd n) dX6_order_57 rfl (by omega) ?_
            refine hg_iorN (n := 59) (dn n) (2 ^ (fd n)) dX6_order_58 rfl ?_
            refine hg_iaload (n := 60) (len := 128) (dn n ||| 2 ^ (fd n)) dX6_order_59 rfl (by decide) rfl (mo_a hM 38 (by decide)) rfl (or_lt7 (by omega) (by omega)) (by decide) ?_
            refine hg_iadd (n := 61) dX6_order_60 rfl ?_
            refine hg_aload_n (n := 62) dX6_order_61 rfl rfl ?_
            refine hg_getR (n := 65) (r := some (68, 0)) dX6_order_62 rfl fl_X6_150 rfl rfl (mo_s hM) (mo_r hM 38 (by decide)) ?_
            refine hg_iload_n (n := 66) dX6_order_65 rfl rfl ?_
            refine hg_iaload (n := 67) (len := 128) (dn n) dX6_order_66 rfl (by decide) rfl (mo_a hM 38 (by decide)) rfl (by omega) (by decide) ?_
            refine hg_icmp_eq (n := 70) (tgt := 76) dX6_order_67 rfl (by decide) (fun h67 => ?_) (fun h67 => ?_)
            · refine hg_iload_n (n := 77) dX6_order_76 rfl rfl ?_
              refine hg_iconst (n := 78) (v := 1) dX6_order_77 rfl (by decide) ?_
              refine hg_iload_n (n := 79) dX6_order_78 rfl rfl ?_
              refine hg_ishl1 (n := 80) (fd n) dX6_order_79 rfl (by omega) ?_
              refine hg_iorN (n := 81) (dn n) (2 ^ (fd n)) dX6_order_80 rfl ?_
              refine hg_istore_n (n := 82) dX6_order_81 rfl (by decide) rfl rfl ?_
              refine hg_iincN (n := 85) (n) 1 dX6_order_82 rfl rfl (by decide) (by decide) rfl rfl ?_
              refine hg_goto (tgt := 27) dX6_order_85 (by decide) ?_
              rw [← hds n (by omega)]
              exact ih0 (n + 1) _ (by omega) (fun _ => rfl)
            · exact absurd g4 h67
        | succ r ih =>
          intro k hk
          have hdk := q_div (k := k) (show dn n < 128 by omega)
          refine hg_iload_n (n := 36) dX6_order_35 rfl rfl ?_
          refine hg_iload_n (n := 37) dX6_order_36 rfl rfl ?_
          refine hg_ishrN (n := 38) (dn n) (k) dX6_order_37 rfl (by omega) (by omega) ?_
          refine hg_iconst (n := 39) (v := 1) dX6_order_38 rfl (by decide) ?_
          refine hg_iand1N (n := 40) ((dn n) / 2 ^ (k)) dX6_order_39 rfl (by omega) ?_
          refine hg_iconst (n := 41) (v := 1) dX6_order_40 rfl (by decide) ?_
          refine hg_icmp_eqN (n := 44) (tgt := 70) ((dn n) / 2 ^ (k) % 2) (1) dX6_order_41 rfl (by decide) (by omega) (by omega) (fun h41 => ?_) (fun h41 => ?_)
          · refine hg_iincN (n := 73) (k) 1 dX6_order_70 rfl rfl (by decide) (by decide) rfl rfl ?_
            refine hg_goto (tgt := 35) dX6_order_73 (by decide) ?_
            exact ih (k + 1) (by omega)
          · refine hg_aload_n (n := 45) dX6_order_44 rfl rfl ?_
            refine hg_iload_n (n := 46) dX6_order_45 rfl rfl ?_
            refine hg_iload_n (n := 47) dX6_order_46 rfl rfl ?_
            refine hg_callVd (n := 50) (c_X6_lateBy hM nj ((wg_k (by decide) _).trans hnj) hnj7 (dn n) (k) (by omega) (by omega)) dX6_order_47 rfl mk_X6_187 yl_X6_lateBy yv_X6_lateBy rfl (mo_s hM) (by decide) (by decide) rfl rfl (Nat.le_of_ble_eq_true rfl) (fun h => by cases h) ?_
            refine hg_aload_n (n := 51) dX6_order_50 rfl rfl ?_
            refine hg_getR (n := 54) (r := some (68, 0)) dX6_order_51 rfl fl_X6_150 rfl rfl (mo_s hM) (mo_r hM 38 (by decide)) ?_
            refine hg_iload_n (n := 55) dX6_order_54 rfl rfl ?_
            refine hg_iconst (n := 56) (v := 1) dX6_order_55 rfl (by decide) ?_
            refine hg_iload_n (n := 57) dX6_order_56 rfl rfl ?_
            refine hg_ishl1 (n := 58) (k) dX6_order_57 rfl (by omega) ?_
            refine hg_iorN (n := 59) (dn n) (2 ^ (k)) dX6_order_58 rfl ?_
            refine hg_iaload (n := 60) (len := 128) (dn n ||| 2 ^ (k)) dX6_order_59 rfl (by decide) rfl (mo_a hM 38 (by decide)) rfl (or_lt7 (by omega) (by omega)) (by decide) ?_
            refine hg_iadd (n := 61) dX6_order_60 rfl ?_
            refine hg_aload_n (n := 62) dX6_order_61 rfl rfl ?_
            refine hg_getR (n := 65) (r := some (68, 0)) dX6_order_62 rfl fl_X6_150 rfl rfl (mo_s hM) (mo_r hM 38 (by decide)) ?_
            refine hg_iload_n (n := 66) dX6_order_65 rfl rfl ?_
            refine hg_iaload (n := 67) (len := 128) (dn n) dX6_order_66 rfl (by decide) rfl (mo_a hM 38 (by decide)) rfl (by omega) (by decide) ?_
            refine hg_icmp_eq (n := 70) (tgt := 76) dX6_order_67 rfl (by decide) (fun h67 => ?_) (fun h67 => ?_)
            · exact ((g5 k (by omega)).elim (fun q => absurd q h41) (fun q => absurd h67 q))
            · refine hg_iincN (n := 73) (k) 1 dX6_order_70 rfl rfl (by decide) (by decide) rfl rfl ?_
              refine hg_goto (tgt := 35) dX6_order_73 (by decide) ?_
              exact ih (k + 1) (by omega)
      refine hg_iload (n := 29) dX6_order_27 rfl rfl ?_
      refine hg_iload_n (n := 30) dX6_order_29 rfl rfl ?_
      refine hg_icmp_gtN (n := 33) (tgt := 88) (n) (i) dX6_order_30 rfl (by decide) (by omega) (by omega) (fun h30 => ?_) (fun h30 => ?_)
      · exact absurd h30 (by omega)
      · refine hg_iconst (n := 34) (v := 0) dX6_order_33 rfl (by decide) ?_
        refine hg_istore_n (n := 35) dX6_order_34 rfl (by decide) rfl rfl ?_
        exact l2 (fd n) 0 (by omega)
  refine hg_iload_n (n := 1) dX6_order_0 rfl rfl ?_
  refine hg_iconst (n := 2) (v := 0) dX6_order_1 rfl (by decide) ?_
  refine hg_aload_n (n := 3) dX6_order_2 rfl rfl ?_
  refine hg_getN (n := 6) (nj) dX6_order_3 rfl fl_X6_183 rfl rfl (mo_s hM) hnj ?_
  refine hg_iconst (n := 7) (v := 1) dX6_order_6 rfl (by decide) ?_
  refine hg_isubN (n := 8) (nj) (1) dX6_order_7 rfl (by omega) ?_
  refine hg_callSd (n := 11) (c_X6_in _ _ _ _) dX6_order_8 rfl mk_X6_1 yl_X6_in ys_X6_in (by decide) (by decide) rfl rfl (Nat.le_of_ble_eq_true rfl) (fun h => by cases h) ?_
  refine hg_if_ne (n := 14) (tgt := 16) dX6_order_11 rfl (by decide) (fun h11 => ?_) (fun h11 => ?_)
  · refine hg_aload_n (n := 17) dX6_order_16 rfl rfl ?_
    refine hg_callVd (n := 20) (c_X6_weigh hM nj hnj hnj7) dX6_order_17 rfl mk_X6_190 yl_X6_weigh yv_X6_weigh rfl (mo_s hM) (by decide) (by decide) rfl rfl (Nat.le_of_ble_eq_true rfl) (fun h => by cases h) ?_
    refine hg_iconst (n := 21) (v := 0) dX6_order_20 rfl (by decide) ?_
    refine hg_istore_n (n := 22) dX6_order_21 rfl (by decide) rfl rfl ?_
    refine hg_iconst (n := 23) (v := -1) dX6_order_22 rfl (by decide) ?_
    refine hg_istore_n (n := 24) dX6_order_23 rfl (by decide) rfl rfl ?_
    refine hg_iconst (n := 25) (v := 0) dX6_order_24 rfl (by decide) ?_
    refine hg_istore (n := 27) dX6_order_25 rfl (by decide) rfl rfl ?_
    have e0 : nI 0 = nI (dn 0) := by rw [hd0]
    refine hg_ls (l1 (i + 1) 0 (-1) (by omega) (fun q => absurd rfl q)) ⟨rfl, rfl, congrArg (fun z => some (hv_i z)) e0, rfl, rfl, trivial⟩
  · exact absurd h11 (z_nat3 (a := 0) (b := nj - 1) (by omega) (by omega) (by omega))

