theorem lv_u {sh : SH_} {k i k' i' m : Nat} (h : ∃ n, sh k i = some n) : ∃ n, u_2 sh k' i' (some m) k i = some n := by
  unfold u_2
  split
  · exact ⟨m, rfl⟩
  · exact h
theorem lv_nil {sh : SH_} : ∀ v ∈ ([] : List V_), hv_lv sh v := fun v h => by cases h
theorem lv_cons {sh : SH_} {v : V_} {st : List V_} (h : hv_lv sh v) (t : ∀ v ∈ st, hv_lv sh v) : ∀ w ∈ v :: st, hv_lv sh w := by
  intro w hw
  rcases List.mem_cons.mp hw with rfl | hw
  · exact h
  · exact t w hw
theorem ol_nil {sh : SH_} : ∀ v, some v ∈ ([] : List (Option V_)) → hv_lv sh v := fun v h => by cases h
theorem ol_none {sh : SH_} {ls : List (Option V_)} (t : ∀ v, some v ∈ ls → hv_lv sh v) : ∀ v, some v ∈ none :: ls → hv_lv sh v := by
  intro w hw
  rcases List.mem_cons.mp hw with h | hw
  · cases h
  · exact t w hw
theorem ol_some {sh : SH_} {v : V_} {ls : List (Option V_)} (h : hv_lv sh v) (t : ∀ v, some v ∈ ls → hv_lv sh v) : ∀ w, some w ∈ some v :: ls → hv_lv sh w := by
  intro w hw
  rcases List.mem_cons.mp hw with e | hw
  · cases e; exact h
  · exact t w hw
theorem hg_bud {d : Md_} {al : Bool} {sh0 : SH_} {Q : Option V_ → Me_ → Prop} {bc bs bc' bs' pc : Nat} {ls : List (Option V_)} {st : List V_} {M : Me_} (h1 : bc ≤ bc') (h2 : bs ≤ bs') (kk : hg_G d al sh0 Q bc bs pc ls st M) : hg_G d al sh0 Q bc' bs' pc ls st M := by
  intro p l e R s m args below meth c D ad0 ad base H locs cells slots arr X Y
  exact kk p l e R s m args below meth c D ad0 ad base H locs cells slots arr X ⟨Y.1, Y.2.1, by have := Y.2.2.1; omega, by have := Y.2.2.2.1; omega, Y.2.2.2.2⟩
def nw_ (k i n : Nat) (M : Me_) : Me_ := (u_n M.1 k i 0, u_n M.2.1 k i 0, u_n M.2.2.1 k i none, u_2 M.2.2.2 k i (some n))
def na_ (k i n k0 i0 j : Nat) (M : Me_) : Me_ := (u_n M.1 k i 0, u_n M.2.1 k i 0, u_3 (u_n M.2.2.1 k i none) k0 i0 j (some (k, i)), u_2 M.2.2.2 k i (some n))
def x1_ (M : Me_) : Me_ := na_ 14 0 7 2 0 3 (na_ 13 0 128 2 0 2 (na_ 12 0 7 2 0 1 (na_ 11 0 7 2 0 0 M)))
def x0_a (f : Nat) (M : Me_) : Me_ := na_ 20 f 8 3 f 5 (na_ 19 f 8 3 f 4 (na_ 18 f 8 3 f 3 (na_ 17 f 4 3 f 2 (na_ 16 f 4 3 f 1 (na_ 15 f 4 3 f 0 M)))))
def x0_ (f : Nat) (M : Me_) : Me_ := (u_3 (x0_a f M).1 3 f 10 200, (x0_a f M).2)
def x5_a (M : Me_) : Me_ := na_ 10 0 100 1 0 2 (na_ 9 0 3 1 0 1 (na_ 8 0 12 1 0 0 M))
def x5_j (M : Me_) : Me_ := ((x1_ (nw_ 2 0 5 M)).1, (x1_ (nw_ 2 0 5 M)).2.1, u_3 (x1_ (nw_ 2 0 5 M)).2.2.1 1 0 3 (some (2, 0)), (x1_ (nw_ 2 0 5 M)).2.2.2)
def x5_f (f : Nat) (M : Me_) : Me_ := ((x0_ f (nw_ 3 f 13 M)).1, (x0_ f (nw_ 3 f 13 M)).2.1, u_3 (x0_ f (nw_ 3 f 13 M)).2.2.1 9 0 f (some (3, f)), (x0_ f (nw_ 3 f 13 M)).2.2.2)
def x5_ (M : Me_) : Me_ := x5_f 2 (x5_f 1 (x5_f 0 (x5_j (x5_a M))))
set_option maxHeartbeats 4000000 in
set_option maxRecDepth 100000 in
theorem c_X1_init {mi : MI_} {ml : ML_} {mr : MR_} {sh : SH_} (hs : sh 2 0 = some 5) (hE : ∀ k, k = 11 ∨ k = 12 ∨ k = 13 ∨ k = 14 → sh k 0 = none) : hg_Det true yX1_init md_X1_init [hv_r (some (2, 0))] (mi, ml, mr, sh) none (x1_ (mi, ml, mr, sh)) := by
  intro Q hQ
  refine hg_intro rfl rfl rfl (Nat.le_of_ble_eq_true rfl) rfl ?_
  refine hg_aload_n (n := 1) dX1_init_0 rfl rfl ?_
  refine hg_objInit (n := 4) dX1_init_1 rfl mk_X1_3 oi_i oi_c (by decide) (Nat.le_of_ble_eq_true rfl) ?_
  refine hg_aload_n (n := 5) dX1_init_4 rfl rfl ?_
  refine hg_bipush (n := 7) (v := 7) dX1_init_5 rfl (by decide) ?_
  refine hg_newarray (n := 9) (k := 11) (i := 0) (a := 0) (N := 7) dX1_init_7 rfl ac_int rfl (by decide) rfl (by decide) rfl ⟨rfl, by decide, (hE 11 (by omega)), (hE 11 (by omega)), (lv_cons ⟨_, hs⟩ lv_nil), (ol_some ⟨_, hs⟩ ol_nil)⟩ ⟨Nat.le_of_ble_eq_true rfl, Nat.le_of_ble_eq_true rfl⟩ ?_
  refine hg_putRF (n := 12) dX1_init_9 rfl fl_X1_9 rfl rfl rfl rfl rfl hs (fun q h => by cases h; exact ⟨_, if_pos ⟨rfl, rfl⟩⟩) ?_
  refine hg_aload_n (n := 13) dX1_init_12 rfl rfl ?_
  refine hg_bipush (n := 15) (v := 7) dX1_init_13 rfl (by decide) ?_
  refine hg_newarray (n := 17) (k := 12) (i := 0) (a := 0) (N := 7) dX1_init_15 rfl ac_int rfl (by decide) rfl (by decide) rfl ⟨rfl, by decide, (hE 12 (by omega)), (hE 12 (by omega)), (lv_cons ⟨_, hs⟩ lv_nil), (ol_some ⟨_, hs⟩ ol_nil)⟩ ⟨Nat.le_of_ble_eq_true rfl, Nat.le_of_ble_eq_true rfl⟩ ?_
  refine hg_putRF (n := 20) dX1_init_17 rfl fl_X1_15 rfl rfl rfl rfl rfl hs (fun q h => by cases h; exact ⟨_, if_pos ⟨rfl, rfl⟩⟩) ?_
  refine hg_aload_n (n := 21) dX1_init_20 rfl rfl ?_
  refine hg_sipush (n := 24) (v := 128) dX1_init_21 rfl (by decide) ?_
  refine hg_newarray (n := 26) (k := 13) (i := 0) (a := 0) (N := 128) dX1_init_24 rfl ac_int rfl (by decide) rfl (by decide) rfl ⟨rfl, by decide, (hE 13 (by omega)), (hE 13 (by omega)), (lv_cons ⟨_, hs⟩ lv_nil), (ol_some ⟨_, hs⟩ ol_nil)⟩ ⟨Nat.le_of_ble_eq_true rfl, Nat.le_of_ble_eq_true rfl⟩ ?_
  refine hg_putRF (n := 29) dX1_init_26 rfl fl_X1_18 rfl rfl rfl rfl rfl hs (fun q h => by cases h; exact ⟨_, if_pos ⟨rfl, rfl⟩⟩) ?_
  refine hg_aload_n (n := 30) dX1_init_29 rfl rfl ?_
  refine hg_bipush (n := 32) (v := 7) dX1_init_30 rfl (by decide) ?_
  refine hg_newarray (n := 34) (k := 14) (i := 0) (a := 0) (N := 7) dX1_init_32 rfl ac_int rfl (by decide) rfl (by decide) rfl ⟨rfl, by decide, (hE 14 (by omega)), (hE 14 (by omega)), (lv_cons ⟨_, hs⟩ lv_nil), (ol_some ⟨_, hs⟩ ol_nil)⟩ ⟨Nat.le_of_ble_eq_true rfl, Nat.le_of_ble_eq_true rfl⟩ ?_
  refine hg_putRF (n := 37) dX1_init_34 rfl fl_X1_21 rfl rfl rfl rfl rfl hs (fun q h => by cases h; exact ⟨_, if_pos ⟨rfl, rfl⟩⟩) ?_
  refine hg_return dX1_init_37 rfl ?_
  exact hQ

set_option maxHeartbeats 4000000 in
set_option maxRecDepth 100000 in
theorem c_X0_init {mi : MI_} {ml : ML_} {mr : MR_} {sh : SH_} {f : Nat} (hs : sh 3 f = some 13) (hE : ∀ k, 15 ≤ k → k ≤ 20 → sh k f = none) : hg_Det true yX0_init md_X0_init [hv_r (some (3, f))] (mi, ml, mr, sh) none (x0_ f (mi, ml, mr, sh)) := by
  intro Q hQ
  refine hg_intro rfl rfl rfl (Nat.le_of_ble_eq_true rfl) rfl ?_
  refine hg_aload_n (n := 1) dX0_init_0 rfl rfl ?_
  refine hg_objInit (n := 4) dX0_init_1 rfl mk_X0_3 oi_i oi_c (by decide) (Nat.le_of_ble_eq_true rfl) ?_
  refine hg_aload_n (n := 5) dX0_init_4 rfl rfl ?_
  refine hg_iconst (n := 6) (v := 4) dX0_init_5 rfl (by decide) ?_
  refine hg_anewarray (n := 9) (k := 15) (i := f) (a := 3) (N := 4) dX0_init_6 rfl ck_X0_9 ao_RX2 rfl rfl (by decide) rfl ⟨rfl, by decide, (hE 15 (by decide) (by decide)), (hE 15 (by decide) (by decide)), (lv_cons ⟨_, hs⟩ lv_nil), (ol_some ⟨_, hs⟩ ol_nil)⟩ ⟨Nat.le_of_ble_eq_true rfl, Nat.le_of_ble_eq_true rfl⟩ ?_
  refine hg_putRF (n := 12) dX0_init_9 rfl fl_X0_11 rfl rfl rfl rfl rfl hs (fun q h => by cases h; exact ⟨_, if_pos ⟨rfl, rfl⟩⟩) ?_
  refine hg_aload_n (n := 13) dX0_init_12 rfl rfl ?_
  refine hg_iconst (n := 14) (v := 4) dX0_init_13 rfl (by decide) ?_
  refine hg_newarray (n := 16) (k := 16) (i := f) (a := 2) (N := 4) dX0_init_14 rfl ac_boolean rfl (by decide) rfl (by decide) rfl ⟨rfl, by decide, (hE 16 (by decide) (by decide)), (hE 16 (by decide) (by decide)), (lv_cons ⟨_, hs⟩ lv_nil), (ol_some ⟨_, hs⟩ ol_nil)⟩ ⟨Nat.le_of_ble_eq_true rfl, Nat.le_of_ble_eq_true rfl⟩ ?_
  refine hg_putRF (n := 19) dX0_init_16 rfl fl_X0_17 rfl rfl rfl rfl rfl hs (fun q h => by cases h; exact ⟨_, if_pos ⟨rfl, rfl⟩⟩) ?_
  refine hg_aload_n (n := 20) dX0_init_19 rfl rfl ?_
  refine hg_iconst (n := 21) (v := 4) dX0_init_20 rfl (by decide) ?_
  refine hg_newarray (n := 23) (k := 17) (i := f) (a := 0) (N := 4) dX0_init_21 rfl ac_int rfl (by decide) rfl (by decide) rfl ⟨rfl, by decide, (hE 17 (by decide) (by decide)), (hE 17 (by decide) (by decide)), (lv_cons ⟨_, hs⟩ lv_nil), (ol_some ⟨_, hs⟩ ol_nil)⟩ ⟨Nat.le_of_ble_eq_true rfl, Nat.le_of_ble_eq_true rfl⟩ ?_
  refine hg_putRF (n := 26) dX0_init_23 rfl fl_X0_21 rfl rfl rfl rfl rfl hs (fun q h => by cases h; exact ⟨_, if_pos ⟨rfl, rfl⟩⟩) ?_
  refine hg_aload_n (n := 27) dX0_init_26 rfl rfl ?_
  refine hg_bipush (n := 29) (v := 8) dX0_init_27 rfl (by decide) ?_
  refine hg_newarray (n := 31) (k := 18) (i := f) (a := 0) (N := 8) dX0_init_29 rfl ac_int rfl (by decide) rfl (by decide) rfl ⟨rfl, by decide, (hE 18 (by decide) (by decide)), (hE 18 (by decide) (by decide)), (lv_cons ⟨_, hs⟩ lv_nil), (ol_some ⟨_, hs⟩ ol_nil)⟩ ⟨Nat.le_of_ble_eq_true rfl, Nat.le_of_ble_eq_true rfl⟩ ?_
  refine hg_putRF (n := 34) dX0_init_31 rfl fl_X0_25 rfl rfl rfl rfl rfl hs (fun q h => by cases h; exact ⟨_, if_pos ⟨rfl, rfl⟩⟩) ?_
  refine hg_aload_n (n := 35) dX0_init_34 rfl rfl ?_
  refine hg_bipush (n := 37) (v := 8) dX0_init_35 rfl (by decide) ?_
  refine hg_newarray (n := 39) (k := 19) (i := f) (a := 0) (N := 8) dX0_init_37 rfl ac_int rfl (by decide) rfl (by decide) rfl ⟨rfl, by decide, (hE 19 (by decide) (by decide)), (hE 19 (by decide) (by decide)), (lv_cons ⟨_, hs⟩ lv_nil), (ol_some ⟨_, hs⟩ ol_nil)⟩ ⟨Nat.le_of_ble_eq_true rfl, Nat.le_of_ble_eq_true rfl⟩ ?_
  refine hg_putRF (n := 42) dX0_init_39 rfl fl_X0_28 rfl rfl rfl rfl rfl hs (fun q h => by cases h; exact ⟨_, if_pos ⟨rfl, rfl⟩⟩) ?_
  refine hg_aload_n (n := 43) dX0_init_42 rfl rfl ?_
  refine hg_bipush (n := 45) (v := 8) dX0_init_43 rfl (by decide) ?_
  refine hg_newarray (n := 47) (k := 20) (i := f) (a := 0) (N := 8) dX0_init_45 rfl ac_int rfl (by decide) rfl (by decide) rfl ⟨rfl, by decide, (hE 20 (by decide) (by decide)), (hE 20 (by decide) (by decide)), (lv_cons ⟨_, hs⟩ lv_nil), (ol_some ⟨_, hs⟩ ol_nil)⟩ ⟨Nat.le_of_ble_eq_true rfl, Nat.le_of_ble_eq_true rfl⟩ ?_
  refine hg_putRF (n := 50) dX0_init_47 rfl fl_X0_31 rfl rfl rfl rfl rfl hs (fun q h => by cases h; exact ⟨_, if_pos ⟨rfl, rfl⟩⟩) ?_
  refine hg_aload_n (n := 51) dX0_init_50 rfl rfl ?_
  refine hg_sipush (n := 54) (v := 200) dX0_init_51 rfl (by decide) ?_
  refine hg_putI (n := 57) dX0_init_54 rfl fl_X0_34 rfl rfl hs ?_
  refine hg_return dX0_init_57 rfl ?_
  exact hQ

set_option maxHeartbeats 4000000 in
set_option maxRecDepth 100000 in
theorem c_X5_init {mi : MI_} {ml : ML_} {mr : MR_} {sh : SH_} (hs : sh 1 0 = some 6) (hE : ∀ k i, k ≠ 0 → k ≠ 1 → sh k i = none) : hg_Det true yX5_init md_X5_init [hv_r (some (1, 0))] (mi, ml, mr, sh) none (x5_ (mi, ml, mr, sh)) := by
  intro Q hQ
  refine hg_intro rfl rfl rfl (Nat.le_of_ble_eq_true rfl) rfl ?_
  refine hg_aload_n (n := 1) dX5_init_0 rfl rfl ?_
  refine hg_objInit (n := 4) dX5_init_1 rfl mk_X5_1 oi_i oi_c (by decide) (Nat.le_of_ble_eq_true rfl) ?_
  refine hg_aload_n (n := 5) dX5_init_4 rfl rfl ?_
  refine hg_bipush (n := 7) (v := 12) dX5_init_5 rfl (by decide) ?_
  refine hg_anewarray (n := 10) (k := 8) (i := 0) (a := 3) (N := 12) dX5_init_7 rfl ck_X5_9 ao_RX2 rfl rfl (by decide) rfl ⟨rfl, by decide, (hE 8 0 (by decide) (by decide)), (hE 8 0 (by decide) (by decide)), (lv_cons ⟨_, hs⟩ lv_nil), (ol_some ⟨_, hs⟩ (ol_none ol_nil))⟩ ⟨Nat.le_of_ble_eq_true rfl, Nat.le_of_ble_eq_true rfl⟩ ?_
  refine hg_putRF (n := 13) dX5_init_10 rfl fl_X5_11 rfl rfl rfl rfl rfl hs (fun q h => by cases h; exact ⟨_, rfl⟩) ?_
  refine hg_aload_n (n := 14) dX5_init_13 rfl rfl ?_
  refine hg_iconst (n := 15) (v := 3) dX5_init_14 rfl (by decide) ?_
  refine hg_anewarray (n := 18) (k := 9) (i := 0) (a := 4) (N := 3) dX5_init_15 rfl ck_X5_15 ao_RX0 rfl rfl (by decide) rfl ⟨rfl, by decide, (hE 9 0 (by decide) (by decide)), (hE 9 0 (by decide) (by decide)), (lv_cons ⟨_, hs⟩ lv_nil), (ol_some ⟨_, hs⟩ (ol_none ol_nil))⟩ ⟨Nat.le_of_ble_eq_true rfl, Nat.le_of_ble_eq_true rfl⟩ ?_
  refine hg_putRF (n := 21) dX5_init_18 rfl fl_X5_17 rfl rfl rfl rfl rfl hs (fun q h => by cases h; exact ⟨_, rfl⟩) ?_
  refine hg_aload_n (n := 22) dX5_init_21 rfl rfl ?_
  refine hg_bipush (n := 24) (v := 100) dX5_init_22 rfl (by decide) ?_
  refine hg_anewarray (n := 27) (k := 10) (i := 0) (a := 5) (N := 100) dX5_init_24 rfl ck_X5_21 ao_RX3 rfl rfl (by decide) rfl ⟨rfl, by decide, (hE 10 0 (by decide) (by decide)), (hE 10 0 (by decide) (by decide)), (lv_cons ⟨_, hs⟩ lv_nil), (ol_some ⟨_, hs⟩ (ol_none ol_nil))⟩ ⟨Nat.le_of_ble_eq_true rfl, Nat.le_of_ble_eq_true rfl⟩ ?_
  refine hg_putRF (n := 30) dX5_init_27 rfl fl_X5_23 rfl rfl rfl rfl rfl hs (fun q h => by cases h; exact ⟨_, rfl⟩) ?_
  refine hg_aload_n (n := 31) dX5_init_30 rfl rfl ?_
  refine hg_new (n := 34) (k := 2) (i := 0) dX5_init_31 rfl ck_X5_27 hc_1 (by decide) rfl ⟨rfl, by decide, (hE 2 0 (by decide) (by decide)), (hE 2 0 (by decide) (by decide)), (lv_cons ⟨_, hs⟩ lv_nil), (ol_some ⟨_, hs⟩ (ol_none ol_nil))⟩ ⟨Nat.le_of_ble_eq_true rfl, Nat.le_of_ble_eq_true rfl⟩ ?_
  refine hg_dup (n := 35) dX5_init_34 rfl rfl ?_
  refine hg_callINd (n := 38) (c_X1_init rfl (fun k hk => by rcases hk with rfl | rfl | rfl | rfl <;> exact hE _ _ (by decide) (by decide))) dX5_init_35 rfl mk_X5_29 yl_X1_init rfl rfl yi_X1_init (by decide) (by decide) rfl rfl (Nat.le_of_ble_eq_true rfl) (fun _ => ⟨rfl, (lv_cons ⟨_, rfl⟩ (lv_cons ⟨_, hs⟩ lv_nil)), (ol_some ⟨_, hs⟩ (ol_none ol_nil)), fun k i n h => (lv_u (lv_u (lv_u (lv_u ⟨n, h⟩))))⟩) ?_
  refine hg_putRF (n := 41) dX5_init_38 rfl fl_X5_30 rfl rfl rfl rfl rfl hs (fun q h => by cases h; exact ⟨_, rfl⟩) ?_
  refine hg_iconst (n := 42) (v := 0) dX5_init_41 rfl (by decide) ?_
  refine hg_istore_n (n := 43) dX5_init_42 rfl (by decide) rfl rfl ?_
  refine hg_iload_n (n := 44) dX5_init_43 rfl rfl ?_
  refine hg_iconst (n := 45) (v := 3) dX5_init_44 rfl (by decide) ?_
  refine hg_icmp_geN (n := 48) (tgt := 67) (0) (3) dX5_init_45 rfl (by decide) (by omega) (by omega) (fun h45 => ?_) (fun h45 => ?_)
  · exact absurd h45 (by omega)
  · refine hg_aload_n (n := 49) dX5_init_48 rfl rfl ?_
    refine hg_getR (n := 52) (r := some (9, 0)) dX5_init_49 rfl fl_X5_17 rfl rfl hs rfl ?_
    refine hg_iload_n (n := 53) dX5_init_52 rfl rfl ?_
    refine hg_new (n := 56) (k := 3) (i := 0) dX5_init_53 rfl ck_X5_15 hc_0 (by decide) rfl ⟨rfl, by decide, (hE 3 0 (by decide) (by decide)), (hE 3 0 (by decide) (by decide)), (lv_cons trivial (lv_cons ⟨_, rfl⟩ lv_nil)), (ol_some ⟨_, hs⟩ (ol_some trivial ol_nil))⟩ ⟨Nat.le_of_ble_eq_true rfl, Nat.le_of_ble_eq_true rfl⟩ ?_
    refine hg_dup (n := 57) dX5_init_56 rfl rfl ?_
    refine hg_callINd (n := 60) (c_X0_init rfl (fun k h1 h2 => by rcases (show k = 15 ∨ k = 16 ∨ k = 17 ∨ k = 18 ∨ k = 19 ∨ k = 20 by omega) with rfl | rfl | rfl | rfl | rfl | rfl <;> exact hE _ _ (by decide) (by decide))) dX5_init_57 rfl mk_X5_34 yl_X0_init rfl rfl yi_X0_init (by decide) (by decide) rfl rfl (Nat.le_of_ble_eq_true rfl) (fun _ => ⟨rfl, (lv_cons ⟨_, rfl⟩ (lv_cons trivial (lv_cons ⟨_, rfl⟩ lv_nil))), (ol_some ⟨_, hs⟩ (ol_some trivial ol_nil)), fun k i n h => (lv_u (lv_u (lv_u (lv_u (lv_u (lv_u (lv_u (lv_u (lv_u ⟨n, h⟩)))))))))⟩) ?_
    refine hg_aastore (n := 61) (len := 3) (0) dX5_init_60 rfl (by decide) rfl hc_0 rfl rfl rfl (by omega) (by omega) rfl rfl ?_
    refine hg_iincN (n := 64) (0) 1 dX5_init_61 rfl rfl (by decide) (by decide) rfl rfl ?_
    refine hg_goto (tgt := 43) dX5_init_64 (by decide) ?_
    refine hg_iload_n (n := 44) dX5_init_43 rfl rfl ?_
    refine hg_iconst (n := 45) (v := 3) dX5_init_44 rfl (by decide) ?_
    refine hg_icmp_geN (n := 48) (tgt := 67) (1) (3) dX5_init_45 rfl (by decide) (by omega) (by omega) (fun h45 => ?_) (fun h45 => ?_)
    · exact absurd h45 (by omega)
    · refine hg_aload_n (n := 49) dX5_init_48 rfl rfl ?_
      refine hg_getR (n := 52) (r := some (9, 0)) dX5_init_49 rfl fl_X5_17 rfl rfl hs rfl ?_
      refine hg_iload_n (n := 53) dX5_init_52 rfl rfl ?_
      refine hg_new (n := 56) (k := 3) (i := 1) dX5_init_53 rfl ck_X5_15 hc_0 (by decide) rfl ⟨rfl, by decide, (hE 3 1 (by decide) (by decide)), (hE 3 1 (by decide) (by decide)), (lv_cons trivial (lv_cons ⟨_, rfl⟩ lv_nil)), (ol_some ⟨_, hs⟩ (ol_some trivial ol_nil))⟩ ⟨Nat.le_of_ble_eq_true rfl, Nat.le_of_ble_eq_true rfl⟩ ?_
      refine hg_dup (n := 57) dX5_init_56 rfl rfl ?_
      refine hg_callINd (n := 60) (c_X0_init rfl (fun k h1 h2 => by rcases (show k = 15 ∨ k = 16 ∨ k = 17 ∨ k = 18 ∨ k = 19 ∨ k = 20 by omega) with rfl | rfl | rfl | rfl | rfl | rfl <;> exact hE _ _ (by decide) (by decide))) dX5_init_57 rfl mk_X5_34 yl_X0_init rfl rfl yi_X0_init (by decide) (by decide) rfl rfl (Nat.le_of_ble_eq_true rfl) (fun _ => ⟨rfl, (lv_cons ⟨_, rfl⟩ (lv_cons trivial (lv_cons ⟨_, rfl⟩ lv_nil))), (ol_some ⟨_, hs⟩ (ol_some trivial ol_nil)), fun k i n h => (lv_u (lv_u (lv_u (lv_u (lv_u (lv_u (lv_u (lv_u (lv_u (lv_u (lv_u (lv_u (lv_u (lv_u (lv_u (lv_u ⟨n, h⟩))))))))))))))))⟩) ?_
      refine hg_aastore (n := 61) (len := 3) (1) dX5_init_60 rfl (by decide) rfl hc_0 rfl rfl rfl (by omega) (by omega) rfl rfl ?_
      refine hg_iincN (n := 64) (1) 1 dX5_init_61 rfl rfl (by decide) (by decide) rfl rfl ?_
      refine hg_goto (tgt := 43) dX5_init_64 (by decide) ?_
      refine hg_iload_n (n := 44) dX5_init_43 rfl rfl ?_
      refine hg_iconst (n := 45) (v := 3) dX5_init_44 rfl (by decide) ?_
      refine hg_icmp_geN (n := 48) (tgt := 67) (2) (3) dX5_init_45 rfl (by decide) (by omega) (by omega) (fun h45 => ?_) (fun h45 => ?_)
      · exact absurd h45 (by omega)
      · refine hg_aload_n (n := 49) dX5_init_48 rfl rfl ?_
        refine hg_getR (n := 52) (r := some (9, 0)) dX5_init_49 rfl fl_X5_17 rfl rfl hs rfl ?_
        refine hg_iload_n (n := 53) dX5_init_52 rfl rfl ?_
        refine hg_new (n := 56) (k := 3) (i := 2) dX5_init_53 rfl ck_X5_15 hc_0 (by decide) rfl ⟨rfl, by decide, (hE 3 2 (by decide) (by decide)), (hE 3 2 (by decide) (by decide)), (lv_cons trivial (lv_cons ⟨_, rfl⟩ lv_nil)), (ol_some ⟨_, hs⟩ (ol_some trivial ol_nil))⟩ ⟨Nat.le_of_ble_eq_true rfl, Nat.le_of_ble_eq_true rfl⟩ ?_
        refine hg_dup (n := 57) dX5_init_56 rfl rfl ?_
        refine hg_callINd (n := 60) (c_X0_init rfl (fun k h1 h2 => by rcases (show k = 15 ∨ k = 16 ∨ k = 17 ∨ k = 18 ∨ k = 19 ∨ k = 20 by omega) with rfl | rfl | rfl | rfl | rfl | rfl <;> exact hE _ _ (by decide) (by decide))) dX5_init_57 rfl mk_X5_34 yl_X0_init rfl rfl yi_X0_init (by decide) (by decide) rfl rfl (Nat.le_of_ble_eq_true rfl) (fun _ => ⟨rfl, (lv_cons ⟨_, rfl⟩ (lv_cons trivial (lv_cons ⟨_, rfl⟩ lv_nil))), (ol_some ⟨_, hs⟩ (ol_some trivial ol_nil)), fun k i n h => (lv_u (lv_u (lv_u (lv_u (lv_u (lv_u (lv_u (lv_u (lv_u (lv_u (lv_u (lv_u (lv_u (lv_u (lv_u (lv_u (lv_u (lv_u (lv_u (lv_u (lv_u (lv_u (lv_u ⟨n, h⟩)))))))))))))))))))))))⟩) ?_
        refine hg_aastore (n := 61) (len := 3) (2) dX5_init_60 rfl (by decide) rfl hc_0 rfl rfl rfl (by omega) (by omega) rfl rfl ?_
        refine hg_iincN (n := 64) (2) 1 dX5_init_61 rfl rfl (by decide) (by decide) rfl rfl ?_
        refine hg_goto (tgt := 43) dX5_init_64 (by decide) ?_
        refine hg_iload_n (n := 44) dX5_init_43 rfl rfl ?_
        refine hg_iconst (n := 45) (v := 3) dX5_init_44 rfl (by decide) ?_
        refine hg_icmp_geN (n := 48) (tgt := 67) (3) (3) dX5_init_45 rfl (by decide) (by omega) (by omega) (fun h45 => ?_) (fun h45 => ?_)
        · refine hg_return dX5_init_67 rfl ?_
          exact hQ
        · exact absurd h45 (by omega)

