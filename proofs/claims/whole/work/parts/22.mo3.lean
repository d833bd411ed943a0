/-- a row of an array anew: places lo .. lo + cnt - 1 hold f -/
def m_seg (X : MI_) (k lo cnt : Nat) (f : Nat → Int32) : MI_ := fun k' i' j => if k' = k ∧ i' = 0 ∧ lo ≤ j ∧ j < lo + cnt then f j else X k' i' j
theorem m_seg_0 (X : MI_) (k lo : Nat) (f : Nat → Int32) : m_seg X k lo 0 f = X := by
  funext k' i' j
  unfold m_seg
  rw [if_neg (by omega)]
theorem m_seg_s (X : MI_) (k lo cnt : Nat) (f : Nat → Int32) {j : Nat} {x : Int32} (hj : j = lo + cnt) (hx : x = f j) : u_3 (m_seg X k lo cnt f) k 0 j x = m_seg X k lo (cnt + 1) f := by
  subst hj hx
  funext k' i' j
  unfold u_3 m_seg
  by_cases h1 : k' = k ∧ i' = 0
  · obtain ⟨rfl, rfl⟩ := h1
    by_cases h2 : j = lo + cnt
    · subst h2
      rw [if_pos ⟨rfl, rfl, rfl⟩, if_pos ⟨rfl, rfl, by omega, by omega⟩]
    · rw [if_neg (fun q => h2 q.2.2)]
      by_cases h3 : lo ≤ j ∧ j < lo + cnt
      · rw [if_pos ⟨rfl, rfl, h3.1, h3.2⟩, if_pos ⟨rfl, rfl, h3.1, by omega⟩]
      · rw [if_neg (fun q => h3 q.2.2), if_neg (fun q => h3 ⟨q.2.2.1, by omega⟩)]
  · rw [if_neg (fun q => h1 ⟨q.1, q.2.1⟩), if_neg (fun q => h1 ⟨q.1, q.2.1⟩), if_neg (fun q => h1 ⟨q.1, q.2.1⟩)]
theorem m_seg_ne (X : MI_) (k lo cnt : Nat) (f : Nat → Int32) {k' i' j : Nat} (h : k' ≠ k) : m_seg X k lo cnt f k' i' j = X k' i' j := if_neg (fun q => h q.1)
theorem m_seg_in (X : MI_) (k lo cnt : Nat) (f : Nat → Int32) {j : Nat} (h : lo ≤ j) (h2 : j < lo + cnt) : m_seg X k lo cnt f k 0 j = f j := if_pos ⟨rfl, rfl, h, h2⟩
theorem m_seg_out (X : MI_) (k lo cnt : Nat) (f : Nat → Int32) {i j : Nat} (h : j < lo ∨ lo + cnt ≤ j) : m_seg X k lo cnt f k i j = X k i j := if_neg (fun q => by omega)
theorem u_3_ne {α : Type} (X : Nat → Nat → Nat → α) {k i f k' i' f' : Nat} (x : α) (h : ¬ (k' = k ∧ i' = i ∧ f' = f)) : u_3 X k i f x k' i' f' = X k' i' f' := if_neg h
theorem u_3_eq {α : Type} (X : Nat → Nat → Nat → α) {k i f : Nat} (x : α) : u_3 X k i f x k i f = x := if_pos ⟨rfl, rfl, rfl⟩
/-- what flows into the shell i of the part p -/
def fl_ (X : MI_) (p n : Nat) (g : Int32) (i : Nat) : Int32 := if i = 0 then (g - X 40 0 (6 * p)) * X 34 0 p / 1000 else if i < n then (X 40 0 (6 * p + i - 1) - X 40 0 (6 * p + i)) * X 33 0 p / 1000 else 0
def wa_ (X : MI_) (p n : Nat) (g : Int32) (j : Nat) : Int32 := X 40 0 j + (fl_ X p n g (j - 6 * p) - fl_ X p n g (j - 6 * p + 1))
def ch_l (X : MI_) (p : Nat) : Nat → MI_
  | 0 => X
  | i + 1 => ch_m (ch_l X p i) p (6 * p + i)
def st_w (X : MI_) (p n : Nat) (g : Int32) : MI_ := m_seg (m_seg X 43 0 (n + 1) (fl_ X p n g)) 40 (6 * p) n (wa_ X p n g)
def st_m (X : MI_) (p n : Nat) (g : Int32) : MI_ := ch_l (st_w X p n g) p n
def st_l (X : MI_) (T : ML_) (p n : Nat) (g : Int32) : ML_ := u_3 T 37 0 p (T 37 0 p + (fl_ X p n g 0).toInt64)
set_option maxHeartbeats 4000000 in
set_option maxRecDepth 100000 in
theorem c_X6_steps {mi : MI_} {ml : ML_} {mr : MR_} {sh : SH_} (hM : mo_ mr sh) (p n : Nat) (g : Int32) (hp : p < 12) (hn : mi 31 0 p = nI n) (h1 : 1 ≤ n) (h6 : n ≤ 6) : hg_Det false yX6_steps md_X6_steps [hv_r (some (7, 0)), hv_i (nI p), hv_i g] (mi, ml, mr, sh) none (st_m mi p n g, st_l mi ml p n g, mr, sh) := by
  intro Q hQ
  refine hg_intro rfl rfl rfl (Nat.le_of_ble_eq_true rfl) rfl ?_
  have l3 : ∀ m i, i + m = n → hg_G md_X6_steps false sh Q 0 0 169 [some (hv_r (some (7, 0))), some (hv_i (nI p)), some (hv_i g), some (hv_i (nI (6 * p))), some (hv_i (nI n)), some (hv_i (nI i))] [] (ch_l (st_w mi p n g) p i, st_l mi ml p n g, mr, sh) := by
    intro m
    induction m with
    | zero =>
      intro i hi
      refine hg_iload (n := 171) dX6_steps_169 rfl rfl ?_
      refine hg_iload (n := 173) dX6_steps_171 rfl rfl ?_
      refine hg_icmp_geN (n := 176) (tgt := 191) (i) (n) dX6_steps_173 rfl (by decide) (by omega) (by omega) (fun h173 => ?_) (fun h173 => ?_)
      · refine hg_return dX6_steps_191 rfl ?_
        have e := show i = n by omega
        subst e
        exact hQ
      · exact absurd h173 (by omega)
    | succ m ih =>
      intro i hi
      refine hg_iload (n := 171) dX6_steps_169 rfl rfl ?_
      refine hg_iload (n := 173) dX6_steps_171 rfl rfl ?_
      refine hg_icmp_geN (n := 176) (tgt := 191) (i) (n) dX6_steps_173 rfl (by decide) (by omega) (by omega) (fun h173 => ?_) (fun h173 => ?_)
      · exact absurd h173 (by omega)
      · refine hg_aload_n (n := 177) dX6_steps_176 rfl rfl ?_
        refine hg_iload_n (n := 178) dX6_steps_177 rfl rfl ?_
        refine hg_iload_n (n := 179) dX6_steps_178 rfl rfl ?_
        refine hg_iload (n := 181) dX6_steps_179 rfl rfl ?_
        refine hg_iaddN (n := 182) (6 * p) (i) dX6_steps_181 rfl ?_
        refine hg_callVd (n := 185) (c_X6_change hM (p) ((6 * p) + i) (by omega) (by omega)) dX6_steps_182 rfl mk_X6_52 yl_X6_change yv_X6_change rfl (mo_s hM) (by decide) (by decide) rfl rfl (Nat.le_of_ble_eq_true rfl) (fun h => by cases h) ?_
        refine hg_iincN (n := 188) (i) 1 dX6_steps_185 rfl rfl (by decide) (by decide) rfl rfl ?_
        refine hg_goto (tgt := 169) dX6_steps_188 (by decide) ?_
        exact ih (i + 1) (by omega)
  have l2 : ∀ m i, i + m = n → hg_G md_X6_steps false sh Q 0 0 108 [some (hv_r (some (7, 0))), some (hv_i (nI p)), some (hv_i g), some (hv_i (nI (6 * p))), some (hv_i (nI n)), some (hv_i (nI i))] [] (m_seg (m_seg mi 43 0 (n + 1) (fl_ mi p n g)) 40 (6 * p) i (wa_ mi p n g), ml, mr, sh) := by
    intro m
    induction m with
    | zero =>
      intro i hi
      refine hg_iload (n := 110) dX6_steps_108 rfl rfl ?_
      refine hg_iload (n := 112) dX6_steps_110 rfl rfl ?_
      refine hg_icmp_geN (n := 115) (tgt := 150) (i) (n) dX6_steps_112 rfl (by decide) (by omega) (by omega) (fun h112 => ?_) (fun h112 => ?_)
      · refine hg_aload_n (n := 151) dX6_steps_150 rfl rfl ?_
        refine hg_getR (n := 154) (r := some (37, 0)) dX6_steps_151 rfl fl_X6_30 rfl rfl (mo_s hM) (mo_r hM 7 (by decide)) ?_
        refine hg_iload_n (n := 155) dX6_steps_154 rfl rfl ?_
        refine hg_dup2 (n := 156) dX6_steps_155 rfl rfl rfl ?_
        refine hg_laload (n := 157) (len := 12) (p) dX6_steps_156 rfl (by decide) rfl (mo_a hM 7 (by decide)) rfl (by omega) (by decide) ?_
        refine hg_aload_n (n := 158) dX6_steps_157 rfl rfl ?_
        refine hg_getR (n := 161) (r := some (43, 0)) dX6_steps_158 rfl fl_X6_49 rfl rfl (mo_s hM) (mo_r hM 13 (by decide)) ?_
        refine hg_iconst (n := 162) (v := 0) dX6_steps_161 rfl (by decide) ?_
        refine hg_iaload (n := 163) (len := 8) (0) dX6_steps_162 rfl (by decide) rfl (mo_a hM 13 (by decide)) rfl (by omega) (by decide) ?_
        refine hg_i2l (n := 164) dX6_steps_163 rfl ?_
        refine hg_ladd (n := 165) dX6_steps_164 rfl ?_
        refine hg_lastore (n := 166) (len := 12) (p) dX6_steps_165 rfl (by decide) rfl (mo_a hM 7 (by decide)) rfl (by omega) (by decide) ?_
        refine hg_iconst (n := 167) (v := 0) dX6_steps_166 rfl (by decide) ?_
        refine hg_istore (n := 169) dX6_steps_167 rfl (by decide) rfl rfl ?_
        have e := show i = n by omega
        subst e
        refine hg_memo ?_ (l3 i 0 (by omega))
        show (_, _, mr, sh) = (_, _, mr, sh)
        unfold st_l
        rw [m_seg_ne _ _ _ _ _ (by decide), m_seg_in _ _ _ _ _ (by omega) (by omega)]
        rfl
      · exact absurd h112 (by omega)
    | succ m ih =>
      intro i hi
      refine hg_iload (n := 110) dX6_steps_108 rfl rfl ?_
      refine hg_iload (n := 112) dX6_steps_110 rfl rfl ?_
      refine hg_icmp_geN (n := 115) (tgt := 150) (i) (n) dX6_steps_112 rfl (by decide) (by omega) (by omega) (fun h112 => ?_) (fun h112 => ?_)
      · exact absurd h112 (by omega)
      · refine hg_aload_n (n := 116) dX6_steps_115 rfl rfl ?_
        refine hg_getR (n := 119) (r := some (40, 0)) dX6_steps_116 rfl fl_X6_40 rfl rfl (mo_s hM) (mo_r hM 10 (by decide)) ?_
        refine hg_iload_n (n := 120) dX6_steps_119 rfl rfl ?_
        refine hg_iload (n := 122) dX6_steps_120 rfl rfl ?_
        refine hg_iaddN (n := 123) (6 * p) (i) dX6_steps_122 rfl ?_
        refine hg_dup2 (n := 124) dX6_steps_123 rfl rfl rfl ?_
        refine hg_iaload (n := 125) (len := 72) ((6 * p) + i) dX6_steps_124 rfl (by decide) rfl (mo_a hM 10 (by decide)) rfl (by omega) (by decide) ?_
        refine hg_aload_n (n := 126) dX6_steps_125 rfl rfl ?_
        refine hg_getR (n := 129) (r := some (43, 0)) dX6_steps_126 rfl fl_X6_49 rfl rfl (mo_s hM) (mo_r hM 13 (by decide)) ?_
        refine hg_iload (n := 131) dX6_steps_129 rfl rfl ?_
        refine hg_iaload (n := 132) (len := 8) (i) dX6_steps_131 rfl (by decide) rfl (mo_a hM 13 (by decide)) rfl (by omega) (by decide) ?_
        refine hg_aload_n (n := 133) dX6_steps_132 rfl rfl ?_
        refine hg_getR (n := 136) (r := some (43, 0)) dX6_steps_133 rfl fl_X6_49 rfl rfl (mo_s hM) (mo_r hM 13 (by decide)) ?_
        refine hg_iload (n := 138) dX6_steps_136 rfl rfl ?_
        refine hg_iconst (n := 139) (v := 1) dX6_steps_138 rfl (by decide) ?_
        refine hg_iaddN (n := 140) (i) (1) dX6_steps_139 rfl ?_
        refine hg_iaload (n := 141) (len := 8) (i + 1) dX6_steps_140 rfl (by decide) rfl (mo_a hM 13 (by decide)) rfl (by omega) (by decide) ?_
        refine hg_isub (n := 142) dX6_steps_141 rfl ?_
        refine hg_iadd (n := 143) dX6_steps_142 rfl ?_
        refine hg_iastore (n := 144) (len := 72) ((6 * p) + i) dX6_steps_143 rfl (by decide) rfl (mo_a hM 10 (by decide)) rfl (by omega) (by decide) ?_
        refine hg_iincN (n := 147) (i) 1 dX6_steps_144 rfl rfl (by decide) (by decide) rfl rfl ?_
        refine hg_goto (tgt := 108) dX6_steps_147 (by decide) ?_
        refine hg_memo ?_ (ih (i + 1) (by omega))
        rw [m_seg_s _ _ _ _ _ rfl ?_]
        rw [m_seg_out _ _ _ _ _ (Or.inr (Nat.le_refl _)), m_seg_ne _ _ _ _ _ (by decide), m_seg_ne _ _ _ _ _ (by decide), m_seg_in _ _ _ _ _ (by omega) (by omega), m_seg_ne _ _ _ _ _ (by decide), m_seg_in _ _ _ _ _ (by omega) (by omega)]
        unfold wa_
        rw [show 6 * p + i - 6 * p = i by omega]
  have l1 : ∀ m i, i + 1 + m = n → hg_G md_X6_steps false sh Q 0 0 41 [some (hv_r (some (7, 0))), some (hv_i (nI p)), some (hv_i g), some (hv_i (nI (6 * p))), some (hv_i (nI n)), some (hv_i (nI i))] [] (m_seg mi 43 0 (i + 1) (fl_ mi p n g), ml, mr, sh) := by
    intro m
    induction m with
    | zero =>
      intro i hi
      refine hg_iload (n := 43) dX6_steps_41 rfl rfl ?_
      refine hg_iconst (n := 44) (v := 1) dX6_steps_43 rfl (by decide) ?_
      refine hg_iaddN (n := 45) (i) (1) dX6_steps_44 rfl ?_
      refine hg_iload (n := 47) dX6_steps_45 rfl rfl ?_
      refine hg_icmp_geN (n := 50) (tgt := 97) (i + 1) (n) dX6_steps_47 rfl (by decide) (by omega) (by omega) (fun h47 => ?_) (fun h47 => ?_)
      · refine hg_aload_n (n := 98) dX6_steps_97 rfl rfl ?_
        refine hg_getR (n := 101) (r := some (43, 0)) dX6_steps_98 rfl fl_X6_49 rfl rfl (mo_s hM) (mo_r hM 13 (by decide)) ?_
        refine hg_iload (n := 103) dX6_steps_101 rfl rfl ?_
        refine hg_iconst (n := 104) (v := 0) dX6_steps_103 rfl (by decide) ?_
        refine hg_iastore (n := 105) (len := 8) (n) dX6_steps_104 rfl (by decide) rfl (mo_a hM 13 (by decide)) rfl (by omega) (by decide) ?_
        refine hg_iconst (n := 106) (v := 0) dX6_steps_105 rfl (by decide) ?_
        refine hg_istore (n := 108) dX6_steps_106 rfl (by decide) rfl rfl ?_
        have e := show n = i + 1 by omega
        subst e
        refine hg_memo ?_ (l2 (i + 1) 0 (by omega))
        rw [m_seg_s _ _ _ _ _ (by omega) (by unfold fl_; rw [if_neg (by omega), if_neg (by omega)])]
        rw [m_seg_0]
      · exact absurd h47 (by omega)
    | succ m ih =>
      intro i hi
      refine hg_iload (n := 43) dX6_steps_41 rfl rfl ?_
      refine hg_iconst (n := 44) (v := 1) dX6_steps_43 rfl (by decide) ?_
      refine hg_iaddN (n := 45) (i) (1) dX6_steps_44 rfl ?_
      refine hg_iload (n := 47) dX6_steps_45 rfl rfl ?_
      refine hg_icmp_geN (n := 50) (tgt := 97) (i + 1) (n) dX6_steps_47 rfl (by decide) (by omega) (by omega) (fun h47 => ?_) (fun h47 => ?_)
      · exact absurd h47 (by omega)
      · refine hg_aload_n (n := 51) dX6_steps_50 rfl rfl ?_
        refine hg_getR (n := 54) (r := some (43, 0)) dX6_steps_51 rfl fl_X6_49 rfl rfl (mo_s hM) (mo_r hM 13 (by decide)) ?_
        refine hg_iload (n := 56) dX6_steps_54 rfl rfl ?_
        refine hg_iconst (n := 57) (v := 1) dX6_steps_56 rfl (by decide) ?_
        refine hg_iaddN (n := 58) (i) (1) dX6_steps_57 rfl ?_
        refine hg_aload_n (n := 59) dX6_steps_58 rfl rfl ?_
        refine hg_getR (n := 62) (r := some (40, 0)) dX6_steps_59 rfl fl_X6_40 rfl rfl (mo_s hM) (mo_r hM 10 (by decide)) ?_
        refine hg_iload_n (n := 63) dX6_steps_62 rfl rfl ?_
        refine hg_iload (n := 65) dX6_steps_63 rfl rfl ?_
        refine hg_iaddN (n := 66) (6 * p) (i) dX6_steps_65 rfl ?_
        refine hg_iaload (n := 67) (len := 72) ((6 * p) + i) dX6_steps_66 rfl (by decide) rfl (mo_a hM 10 (by decide)) rfl (by omega) (by decide) ?_
        refine hg_aload_n (n := 68) dX6_steps_67 rfl rfl ?_
        refine hg_getR (n := 71) (r := some (40, 0)) dX6_steps_68 rfl fl_X6_40 rfl rfl (mo_s hM) (mo_r hM 10 (by decide)) ?_
        refine hg_iload_n (n := 72) dX6_steps_71 rfl rfl ?_
        refine hg_iload (n := 74) dX6_steps_72 rfl rfl ?_
        refine hg_iaddN (n := 75) (6 * p) (i) dX6_steps_74 rfl ?_
        refine hg_iconst (n := 76) (v := 1) dX6_steps_75 rfl (by decide) ?_
        refine hg_iaddN (n := 77) ((6 * p) + i) (1) dX6_steps_76 rfl ?_
        refine hg_iaload (n := 78) (len := 72) (((6 * p) + i) + 1) dX6_steps_77 rfl (by decide) rfl (mo_a hM 10 (by decide)) rfl (by omega) (by decide) ?_
        refine hg_isub (n := 79) dX6_steps_78 rfl ?_
        refine hg_aload_n (n := 80) dX6_steps_79 rfl rfl ?_
        refine hg_getR (n := 83) (r := some (33, 0)) dX6_steps_80 rfl fl_X6_18 rfl rfl (mo_s hM) (mo_r hM 3 (by decide)) ?_
        refine hg_iload_n (n := 84) dX6_steps_83 rfl rfl ?_
        refine hg_iaload (n := 85) (len := 12) (p) dX6_steps_84 rfl (by decide) rfl (mo_a hM 3 (by decide)) rfl (by omega) (by decide) ?_
        refine hg_imul (n := 86) dX6_steps_85 rfl ?_
        refine hg_sipush (n := 89) (v := 1000) dX6_steps_86 rfl (by decide) ?_
        refine hg_idiv (n := 90) dX6_steps_89 rfl (by decide) ?_
        refine hg_iastore (n := 91) (len := 8) (i + 1) dX6_steps_90 rfl (by decide) rfl (mo_a hM 13 (by decide)) rfl (by omega) (by decide) ?_
        refine hg_iincN (n := 94) (i) 1 dX6_steps_91 rfl rfl (by decide) (by decide) rfl rfl ?_
        refine hg_goto (tgt := 41) dX6_steps_94 (by decide) ?_
        refine hg_memo ?_ (ih (i + 1) (by omega))
        rw [m_seg_s _ _ _ _ _ (by omega) ?_]
        rw [m_seg_ne _ _ _ _ _ (by decide), m_seg_ne _ _ _ _ _ (by decide), m_seg_ne _ _ _ _ _ (by decide)]
        unfold fl_
        rw [if_neg (by omega), if_pos (by omega)]
        rfl
  refine hg_bipush (n := 2) (v := 6) dX6_steps_0 rfl (by decide) ?_
  refine hg_iload_n (n := 3) dX6_steps_2 rfl rfl ?_
  refine hg_imulN (n := 4) (6) (p) dX6_steps_3 rfl ?_
  refine hg_istore_n (n := 5) dX6_steps_4 rfl (by decide) rfl rfl ?_
  refine hg_aload_n (n := 6) dX6_steps_5 rfl rfl ?_
  refine hg_getR (n := 9) (r := some (31, 0)) dX6_steps_6 rfl fl_X6_11 rfl rfl (mo_s hM) (mo_r hM 1 (by decide)) ?_
  refine hg_iload_n (n := 10) dX6_steps_9 rfl rfl ?_
  refine hg_ialoadN (n := 11) (len := 12) (n) (p) dX6_steps_10 rfl (by decide) rfl (mo_a hM 1 (by decide)) rfl (by omega) (by decide) hn ?_
  refine hg_istore (n := 13) dX6_steps_11 rfl (by decide) rfl rfl ?_
  refine hg_aload_n (n := 14) dX6_steps_13 rfl rfl ?_
  refine hg_getR (n := 17) (r := some (43, 0)) dX6_steps_14 rfl fl_X6_49 rfl rfl (mo_s hM) (mo_r hM 13 (by decide)) ?_
  refine hg_iconst (n := 18) (v := 0) dX6_steps_17 rfl (by decide) ?_
  refine hg_iload_n (n := 19) dX6_steps_18 rfl rfl ?_
  refine hg_aload_n (n := 20) dX6_steps_19 rfl rfl ?_
  refine hg_getR (n := 23) (r := some (40, 0)) dX6_steps_20 rfl fl_X6_40 rfl rfl (mo_s hM) (mo_r hM 10 (by decide)) ?_
  refine hg_iload_n (n := 24) dX6_steps_23 rfl rfl ?_
  refine hg_iaload (n := 25) (len := 72) (6 * p) dX6_steps_24 rfl (by decide) rfl (mo_a hM 10 (by decide)) rfl (by omega) (by decide) ?_
  refine hg_isub (n := 26) dX6_steps_25 rfl ?_
  refine hg_aload_n (n := 27) dX6_steps_26 rfl rfl ?_
  refine hg_getR (n := 30) (r := some (34, 0)) dX6_steps_27 rfl fl_X6_21 rfl rfl (mo_s hM) (mo_r hM 4 (by decide)) ?_
  refine hg_iload_n (n := 31) dX6_steps_30 rfl rfl ?_
  refine hg_iaload (n := 32) (len := 12) (p) dX6_steps_31 rfl (by decide) rfl (mo_a hM 4 (by decide)) rfl (by omega) (by decide) ?_
  refine hg_imul (n := 33) dX6_steps_32 rfl ?_
  refine hg_sipush (n := 36) (v := 1000) dX6_steps_33 rfl (by decide) ?_
  refine hg_idiv (n := 37) dX6_steps_36 rfl (by decide) ?_
  refine hg_iastore (n := 38) (len := 8) (0) dX6_steps_37 rfl (by decide) rfl (mo_a hM 13 (by decide)) rfl (by omega) (by decide) ?_
  refine hg_iconst (n := 39) (v := 0) dX6_steps_38 rfl (by decide) ?_
  refine hg_istore (n := 41) dX6_steps_39 rfl (by decide) rfl rfl ?_
  refine hg_memo ?_ (l1 (n - 1) 0 (by omega))
  rw [← m_seg_0 mi 43 0 (fl_ mi p n g), m_seg_s _ _ _ _ _ rfl ?_, m_seg_0]
  rw [m_seg_0]
  unfold fl_
  rw [if_pos rfl]

