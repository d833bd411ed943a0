/-- the jobs, as the memory holds them -/
def jl_ (mr : MR_) (sh : SH_) : Prop := sh 2 0 = some 5 ∧ (mr 2 0 0 = some (11, 0) ∧ mr 2 0 1 = some (12, 0) ∧ mr 2 0 2 = some (13, 0) ∧ mr 2 0 3 = some (14, 0)) ∧ sh 11 0 = some 7 ∧ sh 12 0 = some 7 ∧ sh 13 0 = some 128 ∧ sh 14 0 = some 7
def el_ (Y : MI_) (d k : Nat) : Nat → Int32
  | 0 => Y 11 0 k
  | c + 1 => if d / 2 ^ c % 2 = 1 then el_ Y d k c + Y 11 0 c else el_ Y d k c
def lw_ (Y : MI_) (nj d k : Nat) : Int32 := (if 0 < el_ Y d k nj - Y 12 0 k then el_ Y d k nj - Y 12 0 k else 0) + Y 13 0 (d ||| 2 ^ k)
def nx_ (Y : MI_) (nj d : Nat) : Nat → Nat × Int32
  | 0 => (0, 2147483647)
  | c + 1 => if d / 2 ^ c % 2 = 0 then (if (nx_ Y nj d c).2 ≤ lw_ Y nj d c then nx_ Y nj d c else (c, lw_ Y nj d c)) else nx_ Y nj d c
theorem nx_lt {Y : MI_} {nj d : Nat} : ∀ c, c ≤ 7 → (nx_ Y nj d c).1 < 7
  | 0, _ => Nat.le_of_ble_eq_true rfl
  | c + 1, h => by
    rw [nx_]
    split
    · split
      · exact nx_lt c (by omega)
      · show c < 7
        omega
    · exact nx_lt c (by omega)
def pw_ (Y : MI_) (nj : Nat) : Nat → MI_
  | 0 => u_3 Y 13 0 (2 ^ nj - 1) 0
  | c + 1 => u_3 (pw_ Y nj c) 13 0 (2 ^ nj - 2 - c) (lw_ (pw_ Y nj c) nj (2 ^ nj - 2 - c) (nx_ (pw_ Y nj c) nj (2 ^ nj - 2 - c) nj).1)
theorem pw_k {Y : MI_} {nj k i j : Nat} (h : k ≠ 13) : ∀ c, pw_ Y nj c k i j = Y k i j
  | 0 => u_3_k h
  | c + 1 => (u_3_k h).trans (pw_k h c)
def pb_ (Y : MI_) (nj : Nat) : Nat → MI_ × Nat
  | 0 => (Y, 0)
  | i + 1 => (u_3 (pb_ Y nj i).1 14 0 i (nI (nx_ (pb_ Y nj i).1 nj (pb_ Y nj i).2 nj).1), (pb_ Y nj i).2 ||| 2 ^ (nx_ (pb_ Y nj i).1 nj (pb_ Y nj i).2 nj).1)
theorem pb_k {Y : MI_} {nj k i j : Nat} (h : k ≠ 14) : ∀ c, (pb_ Y nj c).1 k i j = Y k i j
  | 0 => rfl
  | c + 1 => (u_3_k h).trans (pb_k h c)
theorem pb_lt {Y : MI_} {nj : Nat} (h7 : nj ≤ 7) : ∀ c, (pb_ Y nj c).2 < 128
  | 0 => Nat.le_of_ble_eq_true rfl
  | c + 1 => or_lt7 (pb_lt h7 c) (nx_lt nj h7)
def pl_m (Y : MI_) (nj : Nat) : MI_ := (pb_ (pw_ Y nj (2 ^ nj - 1)) nj nj).1
set_option maxHeartbeats 4000000 in
set_option maxRecDepth 100000 in
theorem c_X1_latenessWith {mi : MI_} {ml : ML_} {mr : MR_} {sh : SH_} (hJ : jl_ mr sh) (nj : Nat) (hnj : mi 2 0 4 = nI nj) (hnj7 : nj ≤ 7) (k d : Nat) (hk : k < 7) (hd : d < 128) : hg_Det false yX1_latenessWith md_X1_latenessWith [hv_r (some (2, 0)), hv_i (nI k), hv_i (nI d)] (mi, ml, mr, sh) (some (hv_i (lw_ mi nj d k))) (mi, ml, mr, sh) := by
  intro Q hQ
  refine hg_intro rfl rfl rfl (Nat.le_of_ble_eq_true rfl) rfl ?_
  have loop : ∀ m c, c + m = nj → hg_G md_X1_latenessWith false sh Q 0 0 10 [some (hv_r (some (2, 0))), some (hv_i (nI k)), some (hv_i (nI d)), some (hv_i (el_ mi d k c)), some (hv_i (nI c))] [] (mi, ml, mr, sh) := by
    intro m
    induction m with
    | zero =>
      intro c hc
      refine hg_iload (n := 12) dX1_latenessWith_10 rfl rfl ?_
      refine hg_aload_n (n := 13) dX1_latenessWith_12 rfl rfl ?_
      refine hg_getN (n := 16) (nj) dX1_latenessWith_13 rfl fl_X1_24 rfl rfl hJ.1 hnj ?_
      refine hg_icmp_geN (n := 19) (tgt := 45) (c) (nj) dX1_latenessWith_16 rfl (by decide) (by omega) (by omega) (fun h16 => ?_) (fun h16 => ?_)
      · have e := show c = nj by omega
        subst e
        refine hg_iconst (n := 46) (v := 0) dX1_latenessWith_45 rfl (by decide) ?_
        refine hg_iload_n (n := 47) dX1_latenessWith_46 rfl rfl ?_
        refine hg_aload_n (n := 48) dX1_latenessWith_47 rfl rfl ?_
        refine hg_getR (n := 51) (r := some (12, 0)) dX1_latenessWith_48 rfl fl_X1_15 rfl rfl hJ.1 hJ.2.1.2.1 ?_
        refine hg_iload_n (n := 52) dX1_latenessWith_51 rfl rfl ?_
        refine hg_iaload (n := 53) (len := 7) (k) dX1_latenessWith_52 rfl (by decide) rfl hJ.2.2.2.1 rfl (by omega) (by decide) ?_
        refine hg_isub (n := 54) dX1_latenessWith_53 rfl ?_
        refine hg_max (n := 57) dX1_latenessWith_54 rfl mk_X1_42 mmax_s math_i mmax_c (by decide) (Nat.le_of_ble_eq_true rfl) ?_
        refine hg_aload_n (n := 58) dX1_latenessWith_57 rfl rfl ?_
        refine hg_getR (n := 61) (r := some (13, 0)) dX1_latenessWith_58 rfl fl_X1_18 rfl rfl hJ.1 hJ.2.1.2.2.1 ?_
        refine hg_iload_n (n := 62) dX1_latenessWith_61 rfl rfl ?_
        refine hg_iconst (n := 63) (v := 1) dX1_latenessWith_62 rfl (by decide) ?_
        refine hg_iload_n (n := 64) dX1_latenessWith_63 rfl rfl ?_
        refine hg_ishl1 (n := 65) (k) dX1_latenessWith_64 rfl (by omega) ?_
        refine hg_iorN (n := 66) (d) (2 ^ (k)) dX1_latenessWith_65 rfl ?_
        refine hg_iaload (n := 67) (len := 128) (d ||| 2 ^ (k)) dX1_latenessWith_66 rfl (by decide) rfl hJ.2.2.2.2.1 rfl (or_lt7 hd hk) (by decide) ?_
        refine hg_iadd (n := 68) dX1_latenessWith_67 rfl ?_
        refine hg_ireturn dX1_latenessWith_68 rfl ?_
        exact hQ
      · exact absurd h16 (by omega)
    | succ m ih =>
      intro c hc
      have hdc := q_div (k := c) hd
      have s39 : ∀ x, x = el_ mi d k (c + 1) → hg_G md_X1_latenessWith false sh Q 0 0 39 [some (hv_r (some (2, 0))), some (hv_i (nI k)), some (hv_i (nI d)), some (hv_i x), some (hv_i (nI c))] [] (mi, ml, mr, sh) := by
        intro x hx
        subst hx
        refine hg_iincN (n := 42) (c) 1 dX1_latenessWith_39 rfl rfl (by decide) (by decide) rfl rfl ?_
        refine hg_goto (tgt := 10) dX1_latenessWith_42 (by decide) ?_
        exact ih (c + 1) (by omega)
      refine hg_iload (n := 12) dX1_latenessWith_10 rfl rfl ?_
      refine hg_aload_n (n := 13) dX1_latenessWith_12 rfl rfl ?_
      refine hg_getN (n := 16) (nj) dX1_latenessWith_13 rfl fl_X1_24 rfl rfl hJ.1 hnj ?_
      refine hg_icmp_geN (n := 19) (tgt := 45) (c) (nj) dX1_latenessWith_16 rfl (by decide) (by omega) (by omega) (fun h16 => ?_) (fun h16 => ?_)
      · exact absurd h16 (by omega)
      · refine hg_iload_n (n := 20) dX1_latenessWith_19 rfl rfl ?_
        refine hg_iload (n := 22) dX1_latenessWith_20 rfl rfl ?_
        refine hg_ishrN (n := 23) (d) (c) dX1_latenessWith_22 rfl (by omega) (by omega) ?_
        refine hg_iconst (n := 24) (v := 1) dX1_latenessWith_23 rfl (by decide) ?_
        refine hg_iand1N (n := 25) (d / 2 ^ c) dX1_latenessWith_24 rfl (by omega) ?_
        refine hg_iconst (n := 26) (v := 1) dX1_latenessWith_25 rfl (by decide) ?_
        refine hg_icmp_neN (n := 29) (tgt := 39) (d / 2 ^ c % 2) (1) dX1_latenessWith_26 rfl (by decide) (by omega) (by omega) (fun h26 => ?_) (fun h26 => ?_)
        · exact s39 _ (by rw [el_, if_neg h26])
        · refine hg_iload_n (n := 30) dX1_latenessWith_29 rfl rfl ?_
          refine hg_aload_n (n := 31) dX1_latenessWith_30 rfl rfl ?_
          refine hg_getR (n := 34) (r := some (11, 0)) dX1_latenessWith_31 rfl fl_X1_9 rfl rfl hJ.1 hJ.2.1.1 ?_
          refine hg_iload (n := 36) dX1_latenessWith_34 rfl rfl ?_
          refine hg_iaload (n := 37) (len := 7) (c) dX1_latenessWith_36 rfl (by decide) rfl hJ.2.2.1 rfl (by omega) (by decide) ?_
          refine hg_iadd (n := 38) dX1_latenessWith_37 rfl ?_
          refine hg_istore_n (n := 39) dX1_latenessWith_38 rfl (by decide) rfl rfl ?_
          exact s39 _ (by rw [el_, if_pos h26])
  refine hg_aload_n (n := 1) dX1_latenessWith_0 rfl rfl ?_
  refine hg_getR (n := 4) (r := some (11, 0)) dX1_latenessWith_1 rfl fl_X1_9 rfl rfl hJ.1 hJ.2.1.1 ?_
  refine hg_iload_n (n := 5) dX1_latenessWith_4 rfl rfl ?_
  refine hg_iaload (n := 6) (len := 7) (k) dX1_latenessWith_5 rfl (by decide) rfl hJ.2.2.1 rfl (by omega) (by decide) ?_
  refine hg_istore_n (n := 7) dX1_latenessWith_6 rfl (by decide) rfl rfl ?_
  refine hg_iconst (n := 8) (v := 0) dX1_latenessWith_7 rfl (by decide) ?_
  refine hg_istore (n := 10) dX1_latenessWith_8 rfl (by decide) rfl rfl ?_
  exact loop nj 0 (by omega)

set_option maxHeartbeats 4000000 in
set_option maxRecDepth 100000 in
theorem c_X1_nextOf {mi : MI_} {ml : ML_} {mr : MR_} {sh : SH_} (hJ : jl_ mr sh) (nj : Nat) (hnj : mi 2 0 4 = nI nj) (hnj7 : nj ≤ 7) (d : Nat) (hd : d < 128) : hg_Det false yX1_nextOf md_X1_nextOf [hv_r (some (2, 0)), hv_i (nI d)] (mi, ml, mr, sh) (some (hv_i (nI ((nx_ mi nj d nj).1)))) (mi, ml, mr, sh) := by
  intro Q hQ
  refine hg_intro rfl rfl rfl (Nat.le_of_ble_eq_true rfl) rfl ?_
  have loop : ∀ m c, c + m = nj → hg_G md_X1_nextOf false sh Q 0 0 8 [some (hv_r (some (2, 0))), some (hv_i (nI d)), some (hv_i (nI ((nx_ mi nj d c).1))), some (hv_i (nx_ mi nj d c).2), some (hv_i (nI c)), none] [] (mi, ml, mr, sh) := by
    intro m
    induction m with
    | zero =>
      intro c hc
      refine hg_iload (n := 10) dX1_nextOf_8 rfl rfl ?_
      refine hg_aload_n (n := 11) dX1_nextOf_10 rfl rfl ?_
      refine hg_getN (n := 14) (nj) dX1_nextOf_11 rfl fl_X1_24 rfl rfl hJ.1 hnj ?_
      refine hg_icmp_geN (n := 17) (tgt := 53) (c) (nj) dX1_nextOf_14 rfl (by decide) (by omega) (by omega) (fun h14 => ?_) (fun h14 => ?_)
      · have e := show c = nj by omega
        subst e
        refine hg_iload_n (n := 54) dX1_nextOf_53 rfl rfl ?_
        refine hg_ireturn dX1_nextOf_54 rfl ?_
        exact hQ
      · exact absurd h14 (by omega)
    | succ m ih =>
      intro c hc
      have hdc := q_div (k := c) hd
      have s47 : ∀ x y, (x, y) = nx_ mi nj d (c + 1) → hg_G md_X1_nextOf false sh Q 0 0 47 [some (hv_r (some (2, 0))), some (hv_i (nI d)), some (hv_i (nI x)), some (hv_i y), some (hv_i (nI c)), none] [] (mi, ml, mr, sh) := by
        intro x y hx
        obtain ⟨h1, h2⟩ : x = (nx_ mi nj d (c + 1)).1 ∧ y = (nx_ mi nj d (c + 1)).2 := by rw [← hx]; exact ⟨rfl, rfl⟩
        subst h1 h2
        refine hg_iincN (n := 50) (c) 1 dX1_nextOf_47 rfl rfl (by decide) (by decide) rfl rfl ?_
        refine hg_goto (tgt := 8) dX1_nextOf_50 (by decide) ?_
        exact ih (c + 1) (by omega)
      refine hg_iload (n := 10) dX1_nextOf_8 rfl rfl ?_
      refine hg_aload_n (n := 11) dX1_nextOf_10 rfl rfl ?_
      refine hg_getN (n := 14) (nj) dX1_nextOf_11 rfl fl_X1_24 rfl rfl hJ.1 hnj ?_
      refine hg_icmp_geN (n := 17) (tgt := 53) (c) (nj) dX1_nextOf_14 rfl (by decide) (by omega) (by omega) (fun h14 => ?_) (fun h14 => ?_)
      · exact absurd h14 (by omega)
      · refine hg_iload_n (n := 18) dX1_nextOf_17 rfl rfl ?_
        refine hg_iload (n := 20) dX1_nextOf_18 rfl rfl ?_
        refine hg_ishrN (n := 21) (d) (c) dX1_nextOf_20 rfl (by omega) (by omega) ?_
        refine hg_iconst (n := 22) (v := 1) dX1_nextOf_21 rfl (by decide) ?_
        refine hg_iand1N (n := 23) (d / 2 ^ c) dX1_nextOf_22 rfl (by omega) ?_
        refine hg_if_neN (n := 26) (tgt := 47) (d / 2 ^ c % 2) dX1_nextOf_23 rfl (by decide) (by omega) (fun h23 => ?_) (fun h23 => ?_)
        · exact hg_ls (s47 _ _ (by rw [nx_, if_neg h23])) ⟨rfl, rfl, rfl, rfl, rfl, trivial⟩
        · refine hg_aload_n (n := 27) dX1_nextOf_26 rfl rfl ?_
          refine hg_iload (n := 29) dX1_nextOf_27 rfl rfl ?_
          refine hg_iload_n (n := 30) dX1_nextOf_29 rfl rfl ?_
          refine hg_callVd (n := 33) (c_X1_latenessWith hJ nj hnj hnj7 (c) (d) (by omega) (by omega)) dX1_nextOf_30 rfl mk_X1_35 yl_X1_latenessWith yv_X1_latenessWith rfl hJ.1 (by decide) (by decide) rfl rfl (Nat.le_of_ble_eq_true rfl) (fun h => by cases h) ?_
          refine hg_istore (n := 35) dX1_nextOf_33 rfl (by decide) rfl rfl ?_
          refine hg_iload (n := 37) dX1_nextOf_35 rfl rfl ?_
          refine hg_iload_n (n := 38) dX1_nextOf_37 rfl rfl ?_
          refine hg_icmp_ge (n := 41) (tgt := 47) dX1_nextOf_38 rfl (by decide) (fun h38 => ?_) (fun h38 => ?_)
          · exact hg_ls (s47 _ _ (by rw [nx_, if_pos h23, if_pos h38])) ⟨rfl, rfl, rfl, rfl, rfl, trivial⟩
          · refine hg_iload (n := 43) dX1_nextOf_41 rfl rfl ?_
            refine hg_istore_n (n := 44) dX1_nextOf_43 rfl (by decide) rfl rfl ?_
            refine hg_iload (n := 46) dX1_nextOf_44 rfl rfl ?_
            refine hg_istore_n (n := 47) dX1_nextOf_46 rfl (by decide) rfl rfl ?_
            exact hg_ls (s47 _ _ (by rw [nx_, if_pos h23, if_neg h38])) ⟨rfl, rfl, rfl, rfl, rfl, trivial⟩
  refine hg_iconst (n := 1) (v := 0) dX1_nextOf_0 rfl (by decide) ?_
  refine hg_istore_n (n := 2) dX1_nextOf_1 rfl (by decide) rfl rfl ?_
  refine hg_ldc (n := 4) dX1_nextOf_2 rfl kc_X1_41 ?_
  refine hg_istore_n (n := 5) dX1_nextOf_4 rfl (by decide) rfl rfl ?_
  refine hg_iconst (n := 6) (v := 0) dX1_nextOf_5 rfl (by decide) ?_
  refine hg_istore (n := 8) dX1_nextOf_6 rfl (by decide) rfl rfl ?_
  exact loop nj 0 (by omega)

theorem sub_m1 (x : Int32) : x - 1 = x + (-1) := by rw [Int32.sub_eq_add_neg]
set_option maxHeartbeats 4000000 in
set_option maxRecDepth 100000 in
theorem c_X1_plan {mi : MI_} {ml : ML_} {mr : MR_} {sh : SH_} (hJ : jl_ mr sh) (nj : Nat) (hnj : mi 2 0 4 = nI nj) (hnj7 : nj ≤ 7)  : hg_Det false yX1_plan md_X1_plan [hv_r (some (2, 0))] (mi, ml, mr, sh) none (pl_m mi nj, ml, mr, sh) := by
  intro Q hQ
  refine hg_intro rfl rfl rfl (Nat.le_of_ble_eq_true rfl) rfl ?_
  have l2 : ∀ m i, i + m = nj → hg_G md_X1_plan false sh Q 0 0 52 [some (hv_r (some (2, 0))), none, some (hv_i (nI ((pb_ (pw_ mi nj (2 ^ nj - 1)) nj i).2))), some (hv_i (nI i))] [] ((pb_ (pw_ mi nj (2 ^ nj - 1)) nj i).1, ml, mr, sh) := by
    intro m
    induction m with
    | zero =>
      intro i hi
      refine hg_iload_n (n := 53) dX1_plan_52 rfl rfl ?_
      refine hg_aload_n (n := 54) dX1_plan_53 rfl rfl ?_
      refine hg_getN (n := 57) (nj) dX1_plan_54 rfl fl_X1_24 rfl rfl hJ.1 ((pb_k (by decide) i).trans ((pw_k (by decide) (2 ^ nj - 1)).trans hnj)) ?_
      refine hg_icmp_geN (n := 60) (tgt := 88) (i) (nj) dX1_plan_57 rfl (by decide) (by omega) (by omega) (fun h57 => ?_) (fun h57 => ?_)
      · have e := show i = nj by omega
        subst e
        refine hg_return dX1_plan_88 rfl ?_
        exact hQ
      · exact absurd h57 (by omega)
    | succ m ih =>
      intro i hi
      have hb9 := pb_lt (Y := pw_ mi nj (2 ^ nj - 1)) hnj7 i
      have hk9 := nx_lt (Y := (pb_ (pw_ mi nj (2 ^ nj - 1)) nj i).1) (nj := nj) (d := (pb_ (pw_ mi nj (2 ^ nj - 1)) nj i).2) nj hnj7
      refine hg_iload_n (n := 53) dX1_plan_52 rfl rfl ?_
      refine hg_aload_n (n := 54) dX1_plan_53 rfl rfl ?_
      refine hg_getN (n := 57) (nj) dX1_plan_54 rfl fl_X1_24 rfl rfl hJ.1 ((pb_k (by decide) i).trans ((pw_k (by decide) (2 ^ nj - 1)).trans hnj)) ?_
      refine hg_icmp_geN (n := 60) (tgt := 88) (i) (nj) dX1_plan_57 rfl (by decide) (by omega) (by omega) (fun h57 => ?_) (fun h57 => ?_)
      · exact absurd h57 (by omega)
      · refine hg_aload_n (n := 61) dX1_plan_60 rfl rfl ?_
        refine hg_getR (n := 64) (r := some (14, 0)) dX1_plan_61 rfl fl_X1_21 rfl rfl hJ.1 hJ.2.1.2.2.2 ?_
        refine hg_iload_n (n := 65) dX1_plan_64 rfl rfl ?_
        refine hg_aload_n (n := 66) dX1_plan_65 rfl rfl ?_
        refine hg_iload_n (n := 67) dX1_plan_66 rfl rfl ?_
        refine hg_callVd (n := 70) (c_X1_nextOf hJ nj ((pb_k (by decide) i).trans ((pw_k (by decide) (2 ^ nj - 1)).trans hnj)) hnj7 ((pb_ (pw_ mi nj (2 ^ nj - 1)) nj i).2) hb9) dX1_plan_67 rfl mk_X1_31 yl_X1_nextOf yv_X1_nextOf rfl hJ.1 (by decide) (by decide) rfl rfl (Nat.le_of_ble_eq_true rfl) (fun h => by cases h) ?_
        refine hg_iastore (n := 71) (len := 7) (i) dX1_plan_70 rfl (by decide) rfl hJ.2.2.2.2.2 rfl (by omega) (by decide) ?_
        refine hg_iload_n (n := 72) dX1_plan_71 rfl rfl ?_
        refine hg_iconst (n := 73) (v := 1) dX1_plan_72 rfl (by decide) ?_
        refine hg_aload_n (n := 74) dX1_plan_73 rfl rfl ?_
        refine hg_getR (n := 77) (r := some (14, 0)) dX1_plan_74 rfl fl_X1_21 rfl rfl hJ.1 hJ.2.1.2.2.2 ?_
        refine hg_iload_n (n := 78) dX1_plan_77 rfl rfl ?_
        refine hg_ialoadN (n := 79) (len := 7) ((nx_ (pb_ (pw_ mi nj (2 ^ nj - 1)) nj i).1 nj (pb_ (pw_ mi nj (2 ^ nj - 1)) nj i).2 nj).1) (i) dX1_plan_78 rfl (by decide) rfl hJ.2.2.2.2.2 rfl (by omega) (by decide) (u_3_eq _ _) ?_
        refine hg_ishl1 (n := 80) ((nx_ (pb_ (pw_ mi nj (2 ^ nj - 1)) nj i).1 nj (pb_ (pw_ mi nj (2 ^ nj - 1)) nj i).2 nj).1) dX1_plan_79 rfl (by omega) ?_
        refine hg_iorN (n := 81) ((pb_ (pw_ mi nj (2 ^ nj - 1)) nj i).2) (2 ^ ((nx_ (pb_ (pw_ mi nj (2 ^ nj - 1)) nj i).1 nj (pb_ (pw_ mi nj (2 ^ nj - 1)) nj i).2 nj).1)) dX1_plan_80 rfl ?_
        refine hg_istore_n (n := 82) dX1_plan_81 rfl (by decide) rfl rfl ?_
        refine hg_iincN (n := 85) (i) 1 dX1_plan_82 rfl rfl (by decide) (by decide) rfl rfl ?_
        refine hg_goto (tgt := 52) dX1_plan_85 (by decide) ?_
        exact hg_ls (ih (i + 1) (by omega)) ⟨rfl, rfl, rfl, trivial⟩
  have l1 : ∀ m c, m + c = 2 ^ nj - 1 → hg_G md_X1_plan false sh Q 0 0 20 [some (hv_r (some (2, 0))), some (hv_i (nI (2 ^ nj - 1))), some (hv_i (nI m + (-1))), none] [] (pw_ mi nj c, ml, mr, sh) := by
    intro m
    induction m with
    | zero =>
      intro c hc
      refine hg_iload_n (n := 21) dX1_plan_20 rfl rfl ?_
      refine hg_if_lt (n := 24) (tgt := 48) dX1_plan_21 rfl (by decide) (fun h21 => ?_) (fun h21 => ?_)
      · refine hg_iconst (n := 49) (v := 0) dX1_plan_48 rfl (by decide) ?_
        refine hg_istore_n (n := 50) dX1_plan_49 rfl (by decide) rfl rfl ?_
        refine hg_iconst (n := 51) (v := 0) dX1_plan_50 rfl (by decide) ?_
        refine hg_istore_n (n := 52) dX1_plan_51 rfl (by decide) rfl rfl ?_
        have e := show c = 2 ^ nj - 1 by omega
        subst e
        exact hg_ls (l2 nj 0 (by omega)) ⟨rfl, rfl, rfl, trivial⟩
      · exact absurd (by decide) h21
    | succ m ih =>
      intro c hc
      have hp7 := q_pow hnj7
      have hm9 : 2 ^ nj - 2 - c = m := by omega
      have hk9 := nx_lt (Y := pw_ mi nj c) (nj := nj) (d := m) nj hnj7
      rw [pk_m1]
      refine hg_iload_n (n := 21) dX1_plan_20 rfl rfl ?_
      refine hg_if_ltN (n := 24) (tgt := 48) (m) dX1_plan_21 rfl (by omega) ?_ (by decide)
      refine hg_aload_n (n := 25) dX1_plan_24 rfl rfl ?_
      refine hg_iload_n (n := 26) dX1_plan_25 rfl rfl ?_
      refine hg_callVd (n := 29) (c_X1_nextOf hJ nj ((pw_k (by decide) c).trans hnj) hnj7 (m) (by omega)) dX1_plan_26 rfl mk_X1_31 yl_X1_nextOf yv_X1_nextOf rfl hJ.1 (by decide) (by decide) rfl rfl (Nat.le_of_ble_eq_true rfl) (fun h => by cases h) ?_
      refine hg_istore_n (n := 30) dX1_plan_29 rfl (by decide) rfl rfl ?_
      refine hg_aload_n (n := 31) dX1_plan_30 rfl rfl ?_
      refine hg_getR (n := 34) (r := some (13, 0)) dX1_plan_31 rfl fl_X1_18 rfl rfl hJ.1 hJ.2.1.2.2.1 ?_
      refine hg_iload_n (n := 35) dX1_plan_34 rfl rfl ?_
      refine hg_aload_n (n := 36) dX1_plan_35 rfl rfl ?_
      refine hg_iload_n (n := 37) dX1_plan_36 rfl rfl ?_
      refine hg_iload_n (n := 38) dX1_plan_37 rfl rfl ?_
      refine hg_callVd (n := 41) (c_X1_latenessWith hJ nj ((pw_k (by decide) c).trans hnj) hnj7 ((nx_ (pw_ mi nj c) nj (m) nj).1) (m) (by omega) (by omega)) dX1_plan_38 rfl mk_X1_35 yl_X1_latenessWith yv_X1_latenessWith rfl hJ.1 (by decide) (by decide) rfl rfl (Nat.le_of_ble_eq_true rfl) (fun h => by cases h) ?_
      refine hg_iastore (n := 42) (len := 128) (m) dX1_plan_41 rfl (by decide) rfl hJ.2.2.2.2.1 rfl (by omega) (by decide) ?_
      refine hg_iincI (n := 45) (-1) dX1_plan_42 rfl rfl (by decide) (by decide) rfl rfl ?_
      refine hg_goto (tgt := 20) dX1_plan_45 (by decide) ?_
      refine hg_ls (hg_memo ?_ (ih (c + 1) (by omega))) ⟨rfl, rfl, rfl, trivial⟩
      rw [pw_, hm9]
  have hp1 := q_pow1 nj
  refine hg_iconst (n := 1) (v := 1) dX1_plan_0 rfl (by decide) ?_
  refine hg_aload_n (n := 2) dX1_plan_1 rfl rfl ?_
  refine hg_getN (n := 5) (nj) dX1_plan_2 rfl fl_X1_24 rfl rfl hJ.1 hnj ?_
  refine hg_ishl1 (n := 6) (nj) dX1_plan_5 rfl (by omega) ?_
  refine hg_iconst (n := 7) (v := 1) dX1_plan_6 rfl (by decide) ?_
  refine hg_isubN (n := 8) (2 ^ (nj)) (1) dX1_plan_7 rfl (by omega) ?_
  refine hg_istore_n (n := 9) dX1_plan_8 rfl (by decide) rfl rfl ?_
  refine hg_aload_n (n := 10) dX1_plan_9 rfl rfl ?_
  refine hg_getR (n := 13) (r := some (13, 0)) dX1_plan_10 rfl fl_X1_18 rfl rfl hJ.1 hJ.2.1.2.2.1 ?_
  refine hg_iload_n (n := 14) dX1_plan_13 rfl rfl ?_
  refine hg_iconst (n := 15) (v := 0) dX1_plan_14 rfl (by decide) ?_
  refine hg_iastore (n := 16) (len := 128) ((2 ^ (nj)) - 1) dX1_plan_15 rfl (by decide) rfl hJ.2.2.2.2.1 rfl (by have := q_pow hnj7; omega) (by decide) ?_
  refine hg_iload_n (n := 17) dX1_plan_16 rfl rfl ?_
  refine hg_iconst (n := 18) (v := 1) dX1_plan_17 rfl (by decide) ?_
  refine hg_isub (n := 19) dX1_plan_18 rfl ?_
  refine hg_istore_n (n := 20) dX1_plan_19 rfl (by decide) rfl rfl ?_
  refine hg_ls (l1 (2 ^ nj - 1) 0 (by omega)) ?_
  exact ⟨rfl, rfl, congrArg (fun z => some (hv_i z)) (sub_m1 _), trivial⟩

set_option maxHeartbeats 4000000 in
set_option maxRecDepth 100000 in
theorem c_X1_add_f {mi : MI_} {ml : ML_} {mr : MR_} {sh : SH_} (hJ : jl_ mr sh) (nj : Nat) (hnj : mi 2 0 4 = nI nj) (hnj7 : nj ≤ 7) (a b : Int32) (h7 : nj = 7) : hg_Det false yX1_add md_X1_add [hv_r (some (2, 0)), hv_i a, hv_i b] (mi, ml, mr, sh) (some (hv_i (-4))) (mi, ml, mr, sh) := by
  intro Q hQ
  refine hg_intro rfl rfl rfl (Nat.le_of_ble_eq_true rfl) rfl ?_
  refine hg_aload_n (n := 1) dX1_add_0 rfl rfl ?_
  refine hg_getN (n := 4) (nj) dX1_add_1 rfl fl_X1_24 rfl rfl hJ.1 hnj ?_
  refine hg_bipush (n := 6) (v := 7) dX1_add_4 rfl (by decide) ?_
  refine hg_icmp_ltN (n := 9) (tgt := 12) (nj) (7) dX1_add_6 rfl (by decide) (by omega) (by omega) (fun h6 => ?_) (fun h6 => ?_)
  · exact absurd h6 (by omega)
  · refine hg_bipush (n := 11) (v := -4) dX1_add_9 rfl (by decide) ?_
    refine hg_ireturn dX1_add_11 rfl ?_
    exact hQ

def ja_2 (Y : MI_) (nj : Nat) (a b : Int32) : MI_ := u_3 (u_3 Y 11 0 nj a) 12 0 nj b
def ja_m (Y : MI_) (nj : Nat) (a b : Int32) : MI_ := u_3 (ja_2 Y nj a b) 2 0 4 (nI (nj + 1))
theorem pl_k {Y : MI_} {nj k i j : Nat} (h : k ≠ 13 ∧ k ≠ 14) : pl_m Y nj k i j = Y k i j := by
  unfold pl_m
  rw [pb_k h.2, pw_k h.1]
set_option maxHeartbeats 4000000 in
set_option maxRecDepth 100000 in
theorem c_X1_add {mi : MI_} {ml : ML_} {mr : MR_} {sh : SH_} (hJ : jl_ mr sh) (nj : Nat) (hnj : mi 2 0 4 = nI nj) (hnj7 : nj ≤ 7) (a b : Int32) (h7 : nj < 7) : hg_Det false yX1_add md_X1_add [hv_r (some (2, 0)), hv_i a, hv_i b] (mi, ml, mr, sh) (some (hv_i (nI nj))) (pl_m (ja_m mi nj a b) (nj + 1), ml, mr, sh) := by
  intro Q hQ
  refine hg_intro rfl rfl rfl (Nat.le_of_ble_eq_true rfl) rfl ?_
  refine hg_aload_n (n := 1) dX1_add_0 rfl rfl ?_
  refine hg_getN (n := 4) (nj) dX1_add_1 rfl fl_X1_24 rfl rfl hJ.1 hnj ?_
  refine hg_bipush (n := 6) (v := 7) dX1_add_4 rfl (by decide) ?_
  refine hg_icmp_ltN (n := 9) (tgt := 12) (nj) (7) dX1_add_6 rfl (by decide) (by omega) (by omega) (fun h6 => ?_) (fun h6 => ?_)
  · refine hg_aload_n (n := 13) dX1_add_12 rfl rfl ?_
    refine hg_getR (n := 16) (r := some (11, 0)) dX1_add_13 rfl fl_X1_9 rfl rfl hJ.1 hJ.2.1.1 ?_
    refine hg_aload_n (n := 17) dX1_add_16 rfl rfl ?_
    refine hg_getN (n := 20) (nj) dX1_add_17 rfl fl_X1_24 rfl rfl hJ.1 hnj ?_
    refine hg_iload_n (n := 21) dX1_add_20 rfl rfl ?_
    refine hg_iastore (n := 22) (len := 7) (nj) dX1_add_21 rfl (by decide) rfl hJ.2.2.1 rfl (by omega) (by decide) ?_
    refine hg_aload_n (n := 23) dX1_add_22 rfl rfl ?_
    refine hg_getR (n := 26) (r := some (12, 0)) dX1_add_23 rfl fl_X1_15 rfl rfl hJ.1 hJ.2.1.2.1 ?_
    refine hg_aload_n (n := 27) dX1_add_26 rfl rfl ?_
    refine hg_getN (n := 30) (nj) dX1_add_27 rfl fl_X1_24 rfl rfl hJ.1 ((u_3_k (by decide)).trans hnj) ?_
    refine hg_iload_n (n := 31) dX1_add_30 rfl rfl ?_
    refine hg_iastore (n := 32) (len := 7) (nj) dX1_add_31 rfl (by decide) rfl hJ.2.2.2.1 rfl (by omega) (by decide) ?_
    refine hg_aload_n (n := 33) dX1_add_32 rfl rfl ?_
    refine hg_dup (n := 34) dX1_add_33 rfl rfl ?_
    refine hg_getN (n := 37) (nj) dX1_add_34 rfl fl_X1_24 rfl rfl hJ.1 ((u_3_k (by decide)).trans ((u_3_k (by decide)).trans hnj)) ?_
    refine hg_iconst (n := 38) (v := 1) dX1_add_37 rfl (by decide) ?_
    refine hg_iaddN (n := 39) (nj) (1) dX1_add_38 rfl ?_
    refine hg_putI (n := 42) dX1_add_39 rfl fl_X1_24 rfl rfl hJ.1 ?_
    refine hg_aload_n (n := 43) dX1_add_42 rfl rfl ?_
    refine hg_callVd (n := 46) (c_X1_plan hJ (nj + 1) (u_3_eq _ _) (by omega)) dX1_add_43 rfl mk_X1_28 yl_X1_plan yv_X1_plan rfl hJ.1 (by decide) (by decide) rfl rfl (Nat.le_of_ble_eq_true rfl) (fun h => by cases h) ?_
    refine hg_aload_n (n := 47) dX1_add_46 rfl rfl ?_
    refine hg_getN (n := 50) (nj + 1) dX1_add_47 rfl fl_X1_24 rfl rfl hJ.1 ((pl_k (by decide)).trans (u_3_eq _ _)) ?_
    refine hg_iconst (n := 51) (v := 1) dX1_add_50 rfl (by decide) ?_
    refine hg_isubN (n := 52) (nj + 1) (1) dX1_add_51 rfl (by omega) ?_
    refine hg_ireturn dX1_add_52 rfl ?_
    exact hQ
  · exact absurd h6 (by omega)

set_option maxHeartbeats 4000000 in
set_option maxRecDepth 100000 in
theorem c_X1_removeAll {mi : MI_} {ml : ML_} {mr : MR_} {sh : SH_} (hJ : jl_ mr sh) (nj : Nat) (hnj : mi 2 0 4 = nI nj) (hnj7 : nj ≤ 7)  : hg_Det false yX1_removeAll md_X1_removeAll [hv_r (some (2, 0))] (mi, ml, mr, sh) (some (hv_i (nI nj))) (pl_m (u_3 mi 2 0 4 (nI 0)) 0, ml, mr, sh) := by
  intro Q hQ
  refine hg_intro rfl rfl rfl (Nat.le_of_ble_eq_true rfl) rfl ?_
  refine hg_aload_n (n := 1) dX1_removeAll_0 rfl rfl ?_
  refine hg_getN (n := 4) (nj) dX1_removeAll_1 rfl fl_X1_24 rfl rfl hJ.1 hnj ?_
  refine hg_istore_n (n := 5) dX1_removeAll_4 rfl (by decide) rfl rfl ?_
  refine hg_aload_n (n := 6) dX1_removeAll_5 rfl rfl ?_
  refine hg_iconst (n := 7) (v := 0) dX1_removeAll_6 rfl (by decide) ?_
  refine hg_putI (n := 10) dX1_removeAll_7 rfl fl_X1_24 rfl rfl hJ.1 ?_
  refine hg_aload_n (n := 11) dX1_removeAll_10 rfl rfl ?_
  refine hg_callVd (n := 14) (c_X1_plan hJ 0 (u_3_eq _ _) (by omega)) dX1_removeAll_11 rfl mk_X1_28 yl_X1_plan yv_X1_plan rfl hJ.1 (by decide) (by decide) rfl rfl (Nat.le_of_ble_eq_true rfl) (fun h => by cases h) ?_
  refine hg_iload_n (n := 15) dX1_removeAll_14 rfl rfl ?_
  refine hg_ireturn dX1_removeAll_15 rfl ?_
  exact hQ

set_option maxHeartbeats 4000000 in
set_option maxRecDepth 100000 in
theorem c_X1_leastLateness {mi : MI_} {ml : ML_} {mr : MR_} {sh : SH_} (hJ : jl_ mr sh) : hg_Det false yX1_leastLateness md_X1_leastLateness [hv_r (some (2, 0))] (mi, ml, mr, sh) (some (hv_i (mi 13 0 0))) (mi, ml, mr, sh) := by
  intro Q hQ
  refine hg_intro rfl rfl rfl (Nat.le_of_ble_eq_true rfl) rfl ?_
  refine hg_aload_n (n := 1) dX1_leastLateness_0 rfl rfl ?_
  refine hg_getR (n := 4) (r := some (13, 0)) dX1_leastLateness_1 rfl fl_X1_18 rfl rfl hJ.1 hJ.2.1.2.2.1 ?_
  refine hg_iconst (n := 5) (v := 0) dX1_leastLateness_4 rfl (by decide) ?_
  refine hg_iaload (n := 6) (len := 128) (0) dX1_leastLateness_5 rfl (by decide) rfl hJ.2.2.2.2.1 rfl (by omega) (by decide) ?_
  refine hg_ireturn dX1_leastLateness_6 rfl ?_
  exact hQ

