set_option maxHeartbeats 4000000 in
set_option maxRecDepth 100000 in
theorem c_X6_part_b {mi : MI_} {ml : ML_} {mr : MR_} {sh : SH_} (hM : mo_ mr sh) (a m k s p b : Int32) (hb : z_in a 1 6 = 0 ∨ z_in m 1 1000 = 0 ∨ z_in k 1 300 = 0 ∨ z_in s 1 300 = 0 ∨ z_in p 0 200 = 0 ∨ z_in b 0 200 = 0) : hg_Det false yX6_part md_X6_part [hv_r (some (7, 0)), hv_i a, hv_i m, hv_i k, hv_i s, hv_i p, hv_i b] (mi, ml, mr, sh) (some (hv_i (-2))) (mi, ml, mr, sh) := by
  intro Q hQ
  refine hg_intro rfl rfl rfl (Nat.le_of_ble_eq_true rfl) rfl ?_
  have s0 : hg_G md_X6_part false sh Q 0 0 73 [some (hv_r (some (7, 0))), some (hv_i a), some (hv_i m), some (hv_i k), some (hv_i s), some (hv_i p), some (hv_i b), none, none, none, none] [hv_i 0] (mi, ml, mr, sh) := by
    refine hg_istore (n := 75) dX6_part_73 rfl (by decide) rfl rfl ?_
    refine hg_iload (n := 77) dX6_part_75 rfl rfl ?_
    refine hg_if_ne (n := 80) (tgt := 83) dX6_part_77 rfl (by decide) (fun h77 => ?_) (fun h77 => ?_)
    · exact absurd rfl h77
    · refine hg_bipush (n := 82) (v := -2) dX6_part_80 rfl (by decide) ?_
      refine hg_ireturn dX6_part_82 rfl ?_
      exact hQ
  refine hg_iload_n (n := 1) dX6_part_0 rfl rfl ?_
  refine hg_iconst (n := 2) (v := 1) dX6_part_1 rfl (by decide) ?_
  refine hg_bipush (n := 4) (v := 6) dX6_part_2 rfl (by decide) ?_
  refine hg_callSd (n := 7) (c_X6_in _ _ _ _) dX6_part_4 rfl mk_X6_1 yl_X6_in ys_X6_in (by decide) (by decide) rfl rfl (Nat.le_of_ble_eq_true rfl) (fun h => by cases h) ?_
  refine hg_if_eq (n := 10) (tgt := 72) dX6_part_7 rfl (by decide) (fun h7 => ?_) (fun h7 => ?_)
  · refine hg_iconst (n := 73) (v := 0) dX6_part_72 rfl (by decide) ?_
    exact s0
  · refine hg_iload_n (n := 11) dX6_part_10 rfl rfl ?_
    refine hg_iconst (n := 12) (v := 1) dX6_part_11 rfl (by decide) ?_
    refine hg_sipush (n := 15) (v := 1000) dX6_part_12 rfl (by decide) ?_
    refine hg_callSd (n := 18) (c_X6_in _ _ _ _) dX6_part_15 rfl mk_X6_1 yl_X6_in ys_X6_in (by decide) (by decide) rfl rfl (Nat.le_of_ble_eq_true rfl) (fun h => by cases h) ?_
    refine hg_if_eq (n := 21) (tgt := 72) dX6_part_18 rfl (by decide) (fun h18 => ?_) (fun h18 => ?_)
    · refine hg_iconst (n := 73) (v := 0) dX6_part_72 rfl (by decide) ?_
      exact s0
    · refine hg_iload_n (n := 22) dX6_part_21 rfl rfl ?_
      refine hg_iconst (n := 23) (v := 1) dX6_part_22 rfl (by decide) ?_
      refine hg_sipush (n := 26) (v := 300) dX6_part_23 rfl (by decide) ?_
      refine hg_callSd (n := 29) (c_X6_in _ _ _ _) dX6_part_26 rfl mk_X6_1 yl_X6_in ys_X6_in (by decide) (by decide) rfl rfl (Nat.le_of_ble_eq_true rfl) (fun h => by cases h) ?_
      refine hg_if_eq (n := 32) (tgt := 72) dX6_part_29 rfl (by decide) (fun h29 => ?_) (fun h29 => ?_)
      · refine hg_iconst (n := 73) (v := 0) dX6_part_72 rfl (by decide) ?_
        exact s0
      · refine hg_iload (n := 34) dX6_part_32 rfl rfl ?_
        refine hg_iconst (n := 35) (v := 1) dX6_part_34 rfl (by decide) ?_
        refine hg_sipush (n := 38) (v := 300) dX6_part_35 rfl (by decide) ?_
        refine hg_callSd (n := 41) (c_X6_in _ _ _ _) dX6_part_38 rfl mk_X6_1 yl_X6_in ys_X6_in (by decide) (by decide) rfl rfl (Nat.le_of_ble_eq_true rfl) (fun h => by cases h) ?_
        refine hg_if_eq (n := 44) (tgt := 72) dX6_part_41 rfl (by decide) (fun h41 => ?_) (fun h41 => ?_)
        · refine hg_iconst (n := 73) (v := 0) dX6_part_72 rfl (by decide) ?_
          exact s0
        · refine hg_iload (n := 46) dX6_part_44 rfl rfl ?_
          refine hg_iconst (n := 47) (v := 0) dX6_part_46 rfl (by decide) ?_
          refine hg_sipush (n := 50) (v := 200) dX6_part_47 rfl (by decide) ?_
          refine hg_callSd (n := 53) (c_X6_in _ _ _ _) dX6_part_50 rfl mk_X6_1 yl_X6_in ys_X6_in (by decide) (by decide) rfl rfl (Nat.le_of_ble_eq_true rfl) (fun h => by cases h) ?_
          refine hg_if_eq (n := 56) (tgt := 72) dX6_part_53 rfl (by decide) (fun h53 => ?_) (fun h53 => ?_)
          · refine hg_iconst (n := 73) (v := 0) dX6_part_72 rfl (by decide) ?_
            exact s0
          · refine hg_iload (n := 58) dX6_part_56 rfl rfl ?_
            refine hg_iconst (n := 59) (v := 0) dX6_part_58 rfl (by decide) ?_
            refine hg_sipush (n := 62) (v := 200) dX6_part_59 rfl (by decide) ?_
            refine hg_callSd (n := 65) (c_X6_in _ _ _ _) dX6_part_62 rfl mk_X6_1 yl_X6_in ys_X6_in (by decide) (by decide) rfl rfl (Nat.le_of_ble_eq_true rfl) (fun h => by cases h) ?_
            refine hg_if_eq (n := 68) (tgt := 72) dX6_part_65 rfl (by decide) (fun h65 => ?_) (fun h65 => ?_)
            · refine hg_iconst (n := 73) (v := 0) dX6_part_72 rfl (by decide) ?_
              exact s0
            · refine hg_iconst (n := 69) (v := 1) dX6_part_68 rfl (by decide) ?_
              refine hg_goto (tgt := 73) dX6_part_69 (by decide) ?_
              exact absurd hb (by simp [h7, h18, h29, h41, h53, h65])

set_option maxHeartbeats 4000000 in
set_option maxRecDepth 100000 in
theorem c_X6_part_f {mi : MI_} {ml : ML_} {mr : MR_} {sh : SH_} (hM : mo_ mr sh) (np : Nat) (hnp : mi 7 0 0 = nI np) (h12 : np = 12) (a m k s p b : Int32) (hb : ¬ (z_in a 1 6 = 0 ∨ z_in m 1 1000 = 0 ∨ z_in k 1 300 = 0 ∨ z_in s 1 300 = 0 ∨ z_in p 0 200 = 0 ∨ z_in b 0 200 = 0)) : hg_Det false yX6_part md_X6_part [hv_r (some (7, 0)), hv_i a, hv_i m, hv_i k, hv_i s, hv_i p, hv_i b] (mi, ml, mr, sh) (some (hv_i (-4))) (mi, ml, mr, sh) := by
  intro Q hQ
  refine hg_intro rfl rfl rfl (Nat.le_of_ble_eq_true rfl) rfl ?_
  have s1 : hg_G md_X6_part false sh Q 0 0 73 [some (hv_r (some (7, 0))), some (hv_i a), some (hv_i m), some (hv_i k), some (hv_i s), some (hv_i p), some (hv_i b), none, none, none, none] [hv_i 1] (mi, ml, mr, sh) := by
    refine hg_istore (n := 75) dX6_part_73 rfl (by decide) rfl rfl ?_
    refine hg_iload (n := 77) dX6_part_75 rfl rfl ?_
    refine hg_if_ne (n := 80) (tgt := 83) dX6_part_77 rfl (by decide) (fun h77 => ?_) (fun h77 => ?_)
    · refine hg_aload_n (n := 84) dX6_part_83 rfl rfl ?_
      refine hg_getN (n := 87) (np) dX6_part_84 rfl fl_X6_7 rfl rfl (mo_s hM) hnp ?_
      refine hg_bipush (n := 89) (v := 12) dX6_part_87 rfl (by decide) ?_
      refine hg_icmp_neN (n := 92) (tgt := 95) (np) (12) dX6_part_89 rfl (by decide) (by omega) (by omega) (fun h89 => ?_) (fun h89 => ?_)
      · exact absurd h12 h89
      · refine hg_bipush (n := 94) (v := -4) dX6_part_92 rfl (by decide) ?_
        refine hg_ireturn dX6_part_94 rfl ?_
        exact hQ
    · exact absurd h77 (by decide)
  refine hg_iload_n (n := 1) dX6_part_0 rfl rfl ?_
  refine hg_iconst (n := 2) (v := 1) dX6_part_1 rfl (by decide) ?_
  refine hg_bipush (n := 4) (v := 6) dX6_part_2 rfl (by decide) ?_
  refine hg_callSd (n := 7) (c_X6_in _ _ _ _) dX6_part_4 rfl mk_X6_1 yl_X6_in ys_X6_in (by decide) (by decide) rfl rfl (Nat.le_of_ble_eq_true rfl) (fun h => by cases h) ?_
  refine hg_if_eq (n := 10) (tgt := 72) dX6_part_7 rfl (by decide) (fun h7 => ?_) (fun h7 => ?_)
  · refine hg_iconst (n := 73) (v := 0) dX6_part_72 rfl (by decide) ?_
    exact absurd hb (by simp [*])
  · refine hg_iload_n (n := 11) dX6_part_10 rfl rfl ?_
    refine hg_iconst (n := 12) (v := 1) dX6_part_11 rfl (by decide) ?_
    refine hg_sipush (n := 15) (v := 1000) dX6_part_12 rfl (by decide) ?_
    refine hg_callSd (n := 18) (c_X6_in _ _ _ _) dX6_part_15 rfl mk_X6_1 yl_X6_in ys_X6_in (by decide) (by decide) rfl rfl (Nat.le_of_ble_eq_true rfl) (fun h => by cases h) ?_
    refine hg_if_eq (n := 21) (tgt := 72) dX6_part_18 rfl (by decide) (fun h18 => ?_) (fun h18 => ?_)
    · refine hg_iconst (n := 73) (v := 0) dX6_part_72 rfl (by decide) ?_
      exact absurd hb (by simp [*])
    · refine hg_iload_n (n := 22) dX6_part_21 rfl rfl ?_
      refine hg_iconst (n := 23) (v := 1) dX6_part_22 rfl (by decide) ?_
      refine hg_sipush (n := 26) (v := 300) dX6_part_23 rfl (by decide) ?_
      refine hg_callSd (n := 29) (c_X6_in _ _ _ _) dX6_part_26 rfl mk_X6_1 yl_X6_in ys_X6_in (by decide) (by decide) rfl rfl (Nat.le_of_ble_eq_true rfl) (fun h => by cases h) ?_
      refine hg_if_eq (n := 32) (tgt := 72) dX6_part_29 rfl (by decide) (fun h29 => ?_) (fun h29 => ?_)
      · refine hg_iconst (n := 73) (v := 0) dX6_part_72 rfl (by decide) ?_
        exact absurd hb (by simp [*])
      · refine hg_iload (n := 34) dX6_part_32 rfl rfl ?_
        refine hg_iconst (n := 35) (v := 1) dX6_part_34 rfl (by decide) ?_
        refine hg_sipush (n := 38) (v := 300) dX6_part_35 rfl (by decide) ?_
        refine hg_callSd (n := 41) (c_X6_in _ _ _ _) dX6_part_38 rfl mk_X6_1 yl_X6_in ys_X6_in (by decide) (by decide) rfl rfl (Nat.le_of_ble_eq_true rfl) (fun h => by cases h) ?_
        refine hg_if_eq (n := 44) (tgt := 72) dX6_part_41 rfl (by decide) (fun h41 => ?_) (fun h41 => ?_)
        · refine hg_iconst (n := 73) (v := 0) dX6_part_72 rfl (by decide) ?_
          exact absurd hb (by simp [*])
        · refine hg_iload (n := 46) dX6_part_44 rfl rfl ?_
          refine hg_iconst (n := 47) (v := 0) dX6_part_46 rfl (by decide) ?_
          refine hg_sipush (n := 50) (v := 200) dX6_part_47 rfl (by decide) ?_
          refine hg_callSd (n := 53) (c_X6_in _ _ _ _) dX6_part_50 rfl mk_X6_1 yl_X6_in ys_X6_in (by decide) (by decide) rfl rfl (Nat.le_of_ble_eq_true rfl) (fun h => by cases h) ?_
          refine hg_if_eq (n := 56) (tgt := 72) dX6_part_53 rfl (by decide) (fun h53 => ?_) (fun h53 => ?_)
          · refine hg_iconst (n := 73) (v := 0) dX6_part_72 rfl (by decide) ?_
            exact absurd hb (by simp [*])
          · refine hg_iload (n := 58) dX6_part_56 rfl rfl ?_
            refine hg_iconst (n := 59) (v := 0) dX6_part_58 rfl (by decide) ?_
            refine hg_sipush (n := 62) (v := 200) dX6_part_59 rfl (by decide) ?_
            refine hg_callSd (n := 65) (c_X6_in _ _ _ _) dX6_part_62 rfl mk_X6_1 yl_X6_in ys_X6_in (by decide) (by decide) rfl rfl (Nat.le_of_ble_eq_true rfl) (fun h => by cases h) ?_
            refine hg_if_eq (n := 68) (tgt := 72) dX6_part_65 rfl (by decide) (fun h65 => ?_) (fun h65 => ?_)
            · refine hg_iconst (n := 73) (v := 0) dX6_part_72 rfl (by decide) ?_
              exact absurd hb (by simp [*])
            · refine hg_iconst (n := 69) (v := 1) dX6_part_68 rfl (by decide) ?_
              refine hg_goto (tgt := 73) dX6_part_69 (by decide) ?_
              exact s1

def pa_1 (X : MI_) (n : Nat) (a m k s p b : Int32) : MI_ := u_3 (u_3 (u_3 (u_3 (u_3 (u_3 (u_3 (u_3 X 31 0 n a) 32 0 n m) 33 0 n k) 34 0 n s) 35 0 n p) 36 0 n b) 38 0 n (-1)) 39 0 n (-1)
def pa_4 (X : MI_) (n i : Nat) : Nat → MI_
  | 0 => X
  | c + 1 => u_3 (pa_4 X n i c) 41 0 (24 * n + 4 * i + c) (if c = 1 then 1000 else 0)
def pa_6 (X : MI_) (n : Nat) : Nat → MI_
  | 0 => X
  | i + 1 => pa_4 (u_3 (u_3 (pa_6 X n i) 40 0 (6 * n + i) 200) 42 0 (6 * n + i) 0) n i 4
def pa_m (X : MI_) (n : Nat) (a m k s p b : Int32) : MI_ := u_3 (pa_6 (pa_1 X n a m k s p b) n 6) 7 0 0 (pa_6 (pa_1 X n a m k s p b) n 6 7 0 0 + 1)
set_option maxHeartbeats 4000000 in
set_option maxRecDepth 100000 in
theorem c_X6_part {mi : MI_} {ml : ML_} {mr : MR_} {sh : SH_} (hM : mo_ mr sh) (np : Nat) (hnp : mi 7 0 0 = nI np) (h12 : np < 12) (a m k s p b : Int32) (hb : ¬ (z_in a 1 6 = 0 ∨ z_in m 1 1000 = 0 ∨ z_in k 1 300 = 0 ∨ z_in s 1 300 = 0 ∨ z_in p 0 200 = 0 ∨ z_in b 0 200 = 0)) : hg_Det false yX6_part md_X6_part [hv_r (some (7, 0)), hv_i a, hv_i m, hv_i k, hv_i s, hv_i p, hv_i b] (mi, ml, mr, sh) (some (hv_i (nI np))) (pa_m mi np a m k s p b, u_3 ml 37 0 np 0, mr, sh) := by
  intro Q hQ
  refine hg_intro rfl rfl rfl (Nat.le_of_ble_eq_true rfl) rfl ?_
  have l6 : ∀ r i, i + r = 6 → hg_G md_X6_part false sh Q 0 0 179 [some (hv_r (some (7, 0))), some (hv_i a), some (hv_i m), some (hv_i k), some (hv_i s), some (hv_i p), some (hv_i b), none, some (hv_i (nI np)), some (hv_i (nI i)), none] [] (pa_6 (pa_1 mi np a m k s p b) np i, u_3 ml 37 0 np 0, mr, sh) := by
    intro r
    induction r with
    | zero =>
      intro i hi
      refine hg_iload (n := 181) dX6_part_179 rfl rfl ?_
      refine hg_bipush (n := 183) (v := 6) dX6_part_181 rfl (by decide) ?_
      refine hg_icmp_geN (n := 186) (tgt := 268) (i) (6) dX6_part_183 rfl (by decide) (by omega) (by omega) (fun h183 => ?_) (fun h183 => ?_)
      · have e := show i = 6 by omega
        subst e
        refine hg_aload_n (n := 269) dX6_part_268 rfl rfl ?_
        refine hg_dup (n := 270) dX6_part_269 rfl rfl ?_
        refine hg_getI (n := 273) dX6_part_270 rfl fl_X6_7 rfl rfl (mo_s hM) ?_
        refine hg_iconst (n := 274) (v := 1) dX6_part_273 rfl (by decide) ?_
        refine hg_iadd (n := 275) dX6_part_274 rfl ?_
        refine hg_putI (n := 278) dX6_part_275 rfl fl_X6_7 rfl rfl (mo_s hM) ?_
        refine hg_iload (n := 280) dX6_part_278 rfl rfl ?_
        refine hg_ireturn dX6_part_280 rfl ?_
        exact hQ
      · exact absurd h183 (by omega)
    | succ r ih0 =>
      intro i hi
      have l4 : ∀ r c, c + r = 4 → hg_G md_X6_part false sh Q 0 0 219 [some (hv_r (some (7, 0))), some (hv_i a), some (hv_i m), some (hv_i k), some (hv_i s), some (hv_i p), some (hv_i b), none, some (hv_i (nI np)), some (hv_i (nI i)), some (hv_i (nI c))] [] (pa_4 (u_3 (u_3 (pa_6 (pa_1 mi np a m k s p b) np i) 40 0 (6 * np + i) 200) 42 0 (6 * np + i) 0) np i c, u_3 ml 37 0 np 0, mr, sh) := by
        intro r
        induction r with
        | zero =>
          intro c hc
          refine hg_iload (n := 221) dX6_part_219 rfl rfl ?_
          refine hg_iconst (n := 222) (v := 4) dX6_part_221 rfl (by decide) ?_
          refine hg_icmp_geN (n := 225) (tgt := 262) (c) (4) dX6_part_222 rfl (by decide) (by omega) (by omega) (fun h222 => ?_) (fun h222 => ?_)
          · have e := show c = 4 by omega
            subst e
            refine hg_iincN (n := 265) (i) 1 dX6_part_262 rfl rfl (by decide) (by decide) rfl rfl ?_
            refine hg_goto (tgt := 179) dX6_part_265 (by decide) ?_
            exact hg_ls (ih0 (i + 1) (by omega)) ⟨rfl, rfl, rfl, rfl, rfl, rfl, rfl, rfl, rfl, trivial⟩
          · exact absurd h222 (by omega)
        | succ r ih =>
          intro c hc
          refine hg_iload (n := 221) dX6_part_219 rfl rfl ?_
          refine hg_iconst (n := 222) (v := 4) dX6_part_221 rfl (by decide) ?_
          refine hg_icmp_geN (n := 225) (tgt := 262) (c) (4) dX6_part_222 rfl (by decide) (by omega) (by omega) (fun h222 => ?_) (fun h222 => ?_)
          · exact absurd h222 (by omega)
          · refine hg_aload_n (n := 226) dX6_part_225 rfl rfl ?_
            refine hg_getR (n := 229) (r := some (41, 0)) dX6_part_226 rfl fl_X6_46 rfl rfl (mo_s hM) (mo_r hM 11 (by decide)) ?_
            refine hg_bipush (n := 231) (v := 24) dX6_part_229 rfl (by decide) ?_
            refine hg_iload (n := 233) dX6_part_231 rfl rfl ?_
            refine hg_imulN (n := 234) (24) (np) dX6_part_233 rfl ?_
            refine hg_iconst (n := 235) (v := 4) dX6_part_234 rfl (by decide) ?_
            refine hg_iload (n := 237) dX6_part_235 rfl rfl ?_
            refine hg_imulN (n := 238) (4) (i) dX6_part_237 rfl ?_
            refine hg_iaddN (n := 239) (24 * np) (4 * i) dX6_part_238 rfl ?_
            refine hg_iload (n := 241) dX6_part_239 rfl rfl ?_
            refine hg_iaddN (n := 242) ((24 * np) + (4 * i)) (c) dX6_part_241 rfl ?_
            refine hg_iload (n := 244) dX6_part_242 rfl rfl ?_
            refine hg_iconst (n := 245) (v := 1) dX6_part_244 rfl (by decide) ?_
            refine hg_icmp_neN (n := 248) (tgt := 254) (c) (1) dX6_part_245 rfl (by decide) (by omega) (by omega) (fun h245 => ?_) (fun h245 => ?_)
            · refine hg_iconst (n := 255) (v := 0) dX6_part_254 rfl (by decide) ?_
              refine hg_iastore (n := 256) (len := 288) (((24 * np) + (4 * i)) + c) dX6_part_255 rfl (by decide) rfl (mo_a hM 11 (by decide)) rfl (by omega) (by decide) ?_
              refine hg_iincN (n := 259) (c) 1 dX6_part_256 rfl rfl (by decide) (by decide) rfl rfl ?_
              refine hg_goto (tgt := 219) dX6_part_259 (by decide) ?_
              refine hg_memo ?_ (ih (c + 1) (by omega))
              rw [pa_4, if_neg (by omega)]
            · refine hg_sipush (n := 251) (v := 1000) dX6_part_248 rfl (by decide) ?_
              refine hg_goto (tgt := 255) dX6_part_251 (by decide) ?_
              refine hg_iastore (n := 256) (len := 288) (((24 * np) + (4 * i)) + c) dX6_part_255 rfl (by decide) rfl (mo_a hM 11 (by decide)) rfl (by omega) (by decide) ?_
              refine hg_iincN (n := 259) (c) 1 dX6_part_256 rfl rfl (by decide) (by decide) rfl rfl ?_
              refine hg_goto (tgt := 219) dX6_part_259 (by decide) ?_
              refine hg_memo ?_ (ih (c + 1) (by omega))
              rw [pa_4, if_pos (by omega)]
      refine hg_iload (n := 181) dX6_part_179 rfl rfl ?_
      refine hg_bipush (n := 183) (v := 6) dX6_part_181 rfl (by decide) ?_
      refine hg_icmp_geN (n := 186) (tgt := 268) (i) (6) dX6_part_183 rfl (by decide) (by omega) (by omega) (fun h183 => ?_) (fun h183 => ?_)
      · exact absurd h183 (by omega)
      · refine hg_aload_n (n := 187) dX6_part_186 rfl rfl ?_
        refine hg_getR (n := 190) (r := some (40, 0)) dX6_part_187 rfl fl_X6_40 rfl rfl (mo_s hM) (mo_r hM 10 (by decide)) ?_
        refine hg_bipush (n := 192) (v := 6) dX6_part_190 rfl (by decide) ?_
        refine hg_iload (n := 194) dX6_part_192 rfl rfl ?_
        refine hg_imulN (n := 195) (6) (np) dX6_part_194 rfl ?_
        refine hg_iload (n := 197) dX6_part_195 rfl rfl ?_
        refine hg_iaddN (n := 198) (6 * np) (i) dX6_part_197 rfl ?_
        refine hg_sipush (n := 201) (v := 200) dX6_part_198 rfl (by decide) ?_
        refine hg_iastore (n := 202) (len := 72) ((6 * np) + i) dX6_part_201 rfl (by decide) rfl (mo_a hM 10 (by decide)) rfl (by omega) (by decide) ?_
        refine hg_aload_n (n := 203) dX6_part_202 rfl rfl ?_
        refine hg_getR (n := 206) (r := some (42, 0)) dX6_part_203 rfl fl_X6_43 rfl rfl (mo_s hM) (mo_r hM 12 (by decide)) ?_
        refine hg_bipush (n := 208) (v := 6) dX6_part_206 rfl (by decide) ?_
        refine hg_iload (n := 210) dX6_part_208 rfl rfl ?_
        refine hg_imulN (n := 211) (6) (np) dX6_part_210 rfl ?_
        refine hg_iload (n := 213) dX6_part_211 rfl rfl ?_
        refine hg_iaddN (n := 214) (6 * np) (i) dX6_part_213 rfl ?_
        refine hg_iconst (n := 215) (v := 0) dX6_part_214 rfl (by decide) ?_
        refine hg_iastore (n := 216) (len := 72) ((6 * np) + i) dX6_part_215 rfl (by decide) rfl (mo_a hM 12 (by decide)) rfl (by omega) (by decide) ?_
        refine hg_iconst (n := 217) (v := 0) dX6_part_216 rfl (by decide) ?_
        refine hg_istore (n := 219) dX6_part_217 rfl (by decide) rfl rfl ?_
        exact l4 4 0 (by omega)
  have s1 : hg_G md_X6_part false sh Q 0 0 73 [some (hv_r (some (7, 0))), some (hv_i a), some (hv_i m), some (hv_i k), some (hv_i s), some (hv_i p), some (hv_i b), none, none, none, none] [hv_i 1] (mi, ml, mr, sh) := by
    refine hg_istore (n := 75) dX6_part_73 rfl (by decide) rfl rfl ?_
    refine hg_iload (n := 77) dX6_part_75 rfl rfl ?_
    refine hg_if_ne (n := 80) (tgt := 83) dX6_part_77 rfl (by decide) (fun h77 => ?_) (fun h77 => ?_)
    · refine hg_aload_n (n := 84) dX6_part_83 rfl rfl ?_
      refine hg_getN (n := 87) (np) dX6_part_84 rfl fl_X6_7 rfl rfl (mo_s hM) hnp ?_
      refine hg_bipush (n := 89) (v := 12) dX6_part_87 rfl (by decide) ?_
      refine hg_icmp_neN (n := 92) (tgt := 95) (np) (12) dX6_part_89 rfl (by decide) (by omega) (by omega) (fun h89 => ?_) (fun h89 => ?_)
      · refine hg_aload_n (n := 96) dX6_part_95 rfl rfl ?_
        refine hg_getN (n := 99) (np) dX6_part_96 rfl fl_X6_7 rfl rfl (mo_s hM) hnp ?_
        refine hg_istore (n := 101) dX6_part_99 rfl (by decide) rfl rfl ?_
        refine hg_aload_n (n := 102) dX6_part_101 rfl rfl ?_
        refine hg_getR (n := 105) (r := some (31, 0)) dX6_part_102 rfl fl_X6_11 rfl rfl (mo_s hM) (mo_r hM 1 (by decide)) ?_
        refine hg_iload (n := 107) dX6_part_105 rfl rfl ?_
        refine hg_iload_n (n := 108) dX6_part_107 rfl rfl ?_
        refine hg_iastore (n := 109) (len := 12) (np) dX6_part_108 rfl (by decide) rfl (mo_a hM 1 (by decide)) rfl (by omega) (by decide) ?_
        refine hg_aload_n (n := 110) dX6_part_109 rfl rfl ?_
        refine hg_getR (n := 113) (r := some (32, 0)) dX6_part_110 rfl fl_X6_15 rfl rfl (mo_s hM) (mo_r hM 2 (by decide)) ?_
        refine hg_iload (n := 115) dX6_part_113 rfl rfl ?_
        refine hg_iload_n (n := 116) dX6_part_115 rfl rfl ?_
        refine hg_iastore (n := 117) (len := 12) (np) dX6_part_116 rfl (by decide) rfl (mo_a hM 2 (by decide)) rfl (by omega) (by decide) ?_
        refine hg_aload_n (n := 118) dX6_part_117 rfl rfl ?_
        refine hg_getR (n := 121) (r := some (33, 0)) dX6_part_118 rfl fl_X6_18 rfl rfl (mo_s hM) (mo_r hM 3 (by decide)) ?_
        refine hg_iload (n := 123) dX6_part_121 rfl rfl ?_
        refine hg_iload_n (n := 124) dX6_part_123 rfl rfl ?_
        refine hg_iastore (n := 125) (len := 12) (np) dX6_part_124 rfl (by decide) rfl (mo_a hM 3 (by decide)) rfl (by omega) (by decide) ?_
        refine hg_aload_n (n := 126) dX6_part_125 rfl rfl ?_
        refine hg_getR (n := 129) (r := some (34, 0)) dX6_part_126 rfl fl_X6_21 rfl rfl (mo_s hM) (mo_r hM 4 (by decide)) ?_
        refine hg_iload (n := 131) dX6_part_129 rfl rfl ?_
        refine hg_iload (n := 133) dX6_part_131 rfl rfl ?_
        refine hg_iastore (n := 134) (len := 12) (np) dX6_part_133 rfl (by decide) rfl (mo_a hM 4 (by decide)) rfl (by omega) (by decide) ?_
        refine hg_aload_n (n := 135) dX6_part_134 rfl rfl ?_
        refine hg_getR (n := 138) (r := some (35, 0)) dX6_part_135 rfl fl_X6_24 rfl rfl (mo_s hM) (mo_r hM 5 (by decide)) ?_
        refine hg_iload (n := 140) dX6_part_138 rfl rfl ?_
        refine hg_iload (n := 142) dX6_part_140 rfl rfl ?_
        refine hg_iastore (n := 143) (len := 12) (np) dX6_part_142 rfl (by decide) rfl (mo_a hM 5 (by decide)) rfl (by omega) (by decide) ?_
        refine hg_aload_n (n := 144) dX6_part_143 rfl rfl ?_
        refine hg_getR (n := 147) (r := some (36, 0)) dX6_part_144 rfl fl_X6_27 rfl rfl (mo_s hM) (mo_r hM 6 (by decide)) ?_
        refine hg_iload (n := 149) dX6_part_147 rfl rfl ?_
        refine hg_iload (n := 151) dX6_part_149 rfl rfl ?_
        refine hg_iastore (n := 152) (len := 12) (np) dX6_part_151 rfl (by decide) rfl (mo_a hM 6 (by decide)) rfl (by omega) (by decide) ?_
        refine hg_aload_n (n := 153) dX6_part_152 rfl rfl ?_
        refine hg_getR (n := 156) (r := some (37, 0)) dX6_part_153 rfl fl_X6_30 rfl rfl (mo_s hM) (mo_r hM 7 (by decide)) ?_
        refine hg_iload (n := 158) dX6_part_156 rfl rfl ?_
        refine hg_lconst (n := 159) (v := 0) dX6_part_158 rfl (by decide) ?_
        refine hg_lastore (n := 160) (len := 12) (np) dX6_part_159 rfl (by decide) rfl (mo_a hM 7 (by decide)) rfl (by omega) (by decide) ?_
        refine hg_aload_n (n := 161) dX6_part_160 rfl rfl ?_
        refine hg_getR (n := 164) (r := some (38, 0)) dX6_part_161 rfl fl_X6_34 rfl rfl (mo_s hM) (mo_r hM 8 (by decide)) ?_
        refine hg_iload (n := 166) dX6_part_164 rfl rfl ?_
        refine hg_iconst (n := 167) (v := -1) dX6_part_166 rfl (by decide) ?_
        refine hg_iastore (n := 168) (len := 12) (np) dX6_part_167 rfl (by decide) rfl (mo_a hM 8 (by decide)) rfl (by omega) (by decide) ?_
        refine hg_aload_n (n := 169) dX6_part_168 rfl rfl ?_
        refine hg_getR (n := 172) (r := some (39, 0)) dX6_part_169 rfl fl_X6_37 rfl rfl (mo_s hM) (mo_r hM 9 (by decide)) ?_
        refine hg_iload (n := 174) dX6_part_172 rfl rfl ?_
        refine hg_iconst (n := 175) (v := -1) dX6_part_174 rfl (by decide) ?_
        refine hg_iastore (n := 176) (len := 12) (np) dX6_part_175 rfl (by decide) rfl (mo_a hM 9 (by decide)) rfl (by omega) (by decide) ?_
        refine hg_iconst (n := 177) (v := 0) dX6_part_176 rfl (by decide) ?_
        refine hg_istore (n := 179) dX6_part_177 rfl (by decide) rfl rfl ?_
        exact hg_ls (l6 6 0 (by omega)) ⟨rfl, rfl, rfl, rfl, rfl, rfl, rfl, rfl, rfl, trivial⟩
      · exact absurd h89 (by omega)
    · exact absurd h77 (by decide)
  refine hg_iload_n (n := 1) dX6_part_0 rfl rfl ?_
  refine hg_iconst (n := 2) (v := 1) dX6_part_1 rfl (by decide) ?_
  refine hg_bipush (n := 4) (v := 6) dX6_part_2 rfl (by decide) ?_
  refine hg_callSd (n := 7) (c_X6_in _ _ _ _) dX6_part_4 rfl mk_X6_1 yl_X6_in ys_X6_in (by decide) (by decide) rfl rfl (Nat.le_of_ble_eq_true rfl) (fun h => by cases h) ?_
  refine hg_if_eq (n := 10) (tgt := 72) dX6_part_7 rfl (by decide) (fun h7 => ?_) (fun h7 => ?_)
  · refine hg_iconst (n := 73) (v := 0) dX6_part_72 rfl (by decide) ?_
    exact absurd hb (by simp [*])
  · refine hg_iload_n (n := 11) dX6_part_10 rfl rfl ?_
    refine hg_iconst (n := 12) (v := 1) dX6_part_11 rfl (by decide) ?_
    refine hg_sipush (n := 15) (v := 1000) dX6_part_12 rfl (by decide) ?_
    refine hg_callSd (n := 18) (c_X6_in _ _ _ _) dX6_part_15 rfl mk_X6_1 yl_X6_in ys_X6_in (by decide) (by decide) rfl rfl (Nat.le_of_ble_eq_true rfl) (fun h => by cases h) ?_
    refine hg_if_eq (n := 21) (tgt := 72) dX6_part_18 rfl (by decide) (fun h18 => ?_) (fun h18 => ?_)
    · refine hg_iconst (n := 73) (v := 0) dX6_part_72 rfl (by decide) ?_
      exact absurd hb (by simp [*])
    · refine hg_iload_n (n := 22) dX6_part_21 rfl rfl ?_
      refine hg_iconst (n := 23) (v := 1) dX6_part_22 rfl (by decide) ?_
      refine hg_sipush (n := 26) (v := 300) dX6_part_23 rfl (by decide) ?_
      refine hg_callSd (n := 29) (c_X6_in _ _ _ _) dX6_part_26 rfl mk_X6_1 yl_X6_in ys_X6_in (by decide) (by decide) rfl rfl (Nat.le_of_ble_eq_true rfl) (fun h => by cases h) ?_
      refine hg_if_eq (n := 32) (tgt := 72) dX6_part_29 rfl (by decide) (fun h29 => ?_) (fun h29 => ?_)
      · refine hg_iconst (n := 73) (v := 0) dX6_part_72 rfl (by decide) ?_
        exact absurd hb (by simp [*])
      · refine hg_iload (n := 34) dX6_part_32 rfl rfl ?_
        refine hg_iconst (n := 35) (v := 1) dX6_part_34 rfl (by decide) ?_
        refine hg_sipush (n := 38) (v := 300) dX6_part_35 rfl (by decide) ?_
        refine hg_callSd (n := 41) (c_X6_in _ _ _ _) dX6_part_38 rfl mk_X6_1 yl_X6_in ys_X6_in (by decide) (by decide) rfl rfl (Nat.le_of_ble_eq_true rfl) (fun h => by cases h) ?_
        refine hg_if_eq (n := 44) (tgt := 72) dX6_part_41 rfl (by decide) (fun h41 => ?_) (fun h41 => ?_)
        · refine hg_iconst (n := 73) (v := 0) dX6_part_72 rfl (by decide) ?_
          exact absurd hb (by simp [*])
        · refine hg_iload (n := 46) dX6_part_44 rfl rfl ?_
          refine hg_iconst (n := 47) (v := 0) dX6_part_46 rfl (by decide) ?_
          refine hg_sipush (n := 50) (v := 200) dX6_part_47 rfl (by decide) ?_
          refine hg_callSd (n := 53) (c_X6_in _ _ _ _) dX6_part_50 rfl mk_X6_1 yl_X6_in ys_X6_in (by decide) (by decide) rfl rfl (Nat.le_of_ble_eq_true rfl) (fun h => by cases h) ?_
          refine hg_if_eq (n := 56) (tgt := 72) dX6_part_53 rfl (by decide) (fun h53 => ?_) (fun h53 => ?_)
          · refine hg_iconst (n := 73) (v := 0) dX6_part_72 rfl (by decide) ?_
            exact absurd hb (by simp [*])
          · refine hg_iload (n := 58) dX6_part_56 rfl rfl ?_
            refine hg_iconst (n := 59) (v := 0) dX6_part_58 rfl (by decide) ?_
            refine hg_sipush (n := 62) (v := 200) dX6_part_59 rfl (by decide) ?_
            refine hg_callSd (n := 65) (c_X6_in _ _ _ _) dX6_part_62 rfl mk_X6_1 yl_X6_in ys_X6_in (by decide) (by decide) rfl rfl (Nat.le_of_ble_eq_true rfl) (fun h => by cases h) ?_
            refine hg_if_eq (n := 68) (tgt := 72) dX6_part_65 rfl (by decide) (fun h65 => ?_) (fun h65 => ?_)
            · refine hg_iconst (n := 73) (v := 0) dX6_part_72 rfl (by decide) ?_
              exact absurd hb (by simp [*])
            · refine hg_iconst (n := 69) (v := 1) dX6_part_68 rfl (by decide) ?_
              refine hg_goto (tgt := 73) dX6_part_69 (by decide) ?_
              exact s1

