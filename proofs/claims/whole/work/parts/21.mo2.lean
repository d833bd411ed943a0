set_option maxHeartbeats 4000000 in
set_option maxRecDepth 100000 in
theorem c_X6_isPart {mi : MI_} {ml : ML_} {mr : MR_} {sh : SH_} (hM : mo_ mr sh) (x : Int32) : hg_Det false yX6_isPart md_X6_isPart [hv_r (some (7, 0)), hv_i x] (mi, ml, mr, sh) (some (hv_i (z_in x 0 (mi 7 0 0 - 1)))) (mi, ml, mr, sh) := by
  intro Q hQ
  refine hg_intro rfl rfl rfl (Nat.le_of_ble_eq_true rfl) rfl ?_
  refine hg_iload_n (n := 1) dX6_isPart_0 rfl rfl ?_
  refine hg_iconst (n := 2) (v := 0) dX6_isPart_1 rfl (by decide) ?_
  refine hg_aload_n (n := 3) dX6_isPart_2 rfl rfl ?_
  refine hg_getI (n := 6) dX6_isPart_3 rfl fl_X6_7 rfl rfl (mo_s hM) ?_
  refine hg_iconst (n := 7) (v := 1) dX6_isPart_6 rfl (by decide) ?_
  refine hg_isub (n := 8) dX6_isPart_7 rfl ?_
  refine hg_callSd (n := 11) (c_X6_in _ _ _ _) dX6_isPart_8 rfl mk_X6_1 yl_X6_in ys_X6_in (by decide) (by decide) rfl rfl (Nat.le_of_ble_eq_true rfl) (fun h => by cases h) ?_
  refine hg_zreturn dX6_isPart_11 rfl (z_in_01 _ _ _) ?_
  exact hQ

set_option maxHeartbeats 4000000 in
set_option maxRecDepth 100000 in
theorem c_X6_isFurnace (x : Int32) (M : Me_) : hg_Det false yX6_isFurnace md_X6_isFurnace [hv_i x] M (some (hv_i (z_in x 0 2))) M := by
  intro Q hQ
  refine hg_intro rfl rfl rfl (Nat.le_of_ble_eq_true rfl) rfl ?_
  refine hg_iload_n (n := 1) dX6_isFurnace_0 rfl rfl ?_
  refine hg_iconst (n := 2) (v := 0) dX6_isFurnace_1 rfl (by decide) ?_
  refine hg_iconst (n := 3) (v := 2) dX6_isFurnace_2 rfl (by decide) ?_
  refine hg_callSd (n := 6) (c_X6_in _ _ _ _) dX6_isFurnace_3 rfl mk_X6_1 yl_X6_in ys_X6_in (by decide) (by decide) rfl rfl (Nat.le_of_ble_eq_true rfl) (fun h => by cases h) ?_
  refine hg_zreturn dX6_isFurnace_6 rfl (z_in_01 _ _ _) ?_
  exact hQ

set_option maxHeartbeats 4000000 in
set_option maxRecDepth 100000 in
theorem c_X6_isPlace (x : Int32) (M : Me_) : hg_Det false yX6_isPlace md_X6_isPlace [hv_i x] M (some (hv_i (z_in x 0 3))) M := by
  intro Q hQ
  refine hg_intro rfl rfl rfl (Nat.le_of_ble_eq_true rfl) rfl ?_
  refine hg_iload_n (n := 1) dX6_isPlace_0 rfl rfl ?_
  refine hg_iconst (n := 2) (v := 0) dX6_isPlace_1 rfl (by decide) ?_
  refine hg_iconst (n := 3) (v := 3) dX6_isPlace_2 rfl (by decide) ?_
  refine hg_callSd (n := 6) (c_X6_in _ _ _ _) dX6_isPlace_3 rfl mk_X6_1 yl_X6_in ys_X6_in (by decide) (by decide) rfl rfl (Nat.le_of_ble_eq_true rfl) (fun h => by cases h) ?_
  refine hg_zreturn dX6_isPlace_6 rfl (z_in_01 _ _ _) ?_
  exact hQ

def ch_a (X : MI_) (p s : Nat) : MI_ :=
  if X 40 0 s ≤ 7300 then
    (if X 40 0 s < 5500 then
      (if X 40 0 s < 3000 then
        (if (X 41 0 (4 * s) + X 41 0 (4 * s + 3)) * (3000 - X 40 0 s) / 2600 - X 41 0 (4 * s + 3) ≤ 0 then X
        else tu_m X s 0 3 ((X 41 0 (4 * s) + X 41 0 (4 * s + 3)) * (3000 - X 40 0 s) / 2600 - X 41 0 (4 * s + 3)))
      else tu_m X s 0 2 (X 36 0 p))
    else tu_m X s 0 1 (X 35 0 p))
  else tu_m (tu_m (tu_m X s 1 0 ((X 40 0 s - 7300) / 10)) s 2 0 ((X 40 0 s - 7300) / 10 - tu_n X s 1 ((X 40 0 s - 7300) / 10))) s 3 0 ((X 40 0 s - 7300) / 10 - tu_n X s 1 ((X 40 0 s - 7300) / 10) - tu_n (tu_m X s 1 0 ((X 40 0 s - 7300) / 10)) s 2 ((X 40 0 s - 7300) / 10 - tu_n X s 1 ((X 40 0 s - 7300) / 10)))
def ch_b (X : MI_) (s : Nat) (w : Int32) : MI_ :=
  if z_in w 1500 6500 = 0 then X else if X 41 0 (4 * s + 3) ≤ 0 then X else u_3 X 42 0 s (X 42 0 s + (w - 1500) / 100)
def ch_c (X : MI_) (s : Nat) : MI_ := if X 41 0 (4 * s) ≤ 500 then u_3 X 42 0 s (X 42 0 s) else u_3 X 42 0 s 0
def ch_m (X : MI_) (p s : Nat) : MI_ := ch_c (ch_b (ch_a X p s) s (X 40 0 s)) s
set_option maxHeartbeats 4000000 in
set_option maxRecDepth 100000 in
theorem c_X6_change {mi : MI_} {ml : ML_} {mr : MR_} {sh : SH_} (hM : mo_ mr sh) (p s : Nat) (hp : p < 12) (hs : s < 72) : hg_Det false yX6_change md_X6_change [hv_r (some (7, 0)), hv_i (nI p), hv_i (nI s)] (mi, ml, mr, sh) none (ch_m mi p s, ml, mr, sh) := by
  intro Q hQ
  refine hg_intro rfl rfl rfl (Nat.le_of_ble_eq_true rfl) rfl ?_
  have s3 : ∀ X, X = ch_b (ch_a mi p s) s (mi 40 0 s) → hg_G md_X6_change false sh Q 0 0 228 [some (hv_r (some (7, 0))), some (hv_i (nI p)), some (hv_i (nI s)), some (hv_i (mi 40 0 s)), none, none, none] [] (X, ml, mr, sh) := by
    intro X hX
    refine hg_aload_n (n := 229) dX6_change_228 rfl rfl ?_
    refine hg_getR (n := 232) (r := some (42, 0)) dX6_change_229 rfl fl_X6_43 rfl rfl (mo_s hM) (mo_r hM 12 (by decide)) ?_
    refine hg_iload_n (n := 233) dX6_change_232 rfl rfl ?_
    refine hg_aload_n (n := 234) dX6_change_233 rfl rfl ?_
    refine hg_getR (n := 237) (r := some (41, 0)) dX6_change_234 rfl fl_X6_46 rfl rfl (mo_s hM) (mo_r hM 11 (by decide)) ?_
    refine hg_iconst (n := 238) (v := 4) dX6_change_237 rfl (by decide) ?_
    refine hg_iload_n (n := 239) dX6_change_238 rfl rfl ?_
    refine hg_imulN (n := 240) (4) (s) dX6_change_239 rfl ?_
    refine hg_iaload (n := 241) (len := 288) (4 * s) dX6_change_240 rfl (by decide) rfl (mo_a hM 11 (by decide)) rfl (by omega) (by decide) ?_
    refine hg_sipush (n := 244) (v := 500) dX6_change_241 rfl (by decide) ?_
    refine hg_icmp_le (n := 247) (tgt := 251) dX6_change_244 rfl (by decide) (fun h244 => ?_) (fun h244 => ?_)
    · refine hg_aload_n (n := 252) dX6_change_251 rfl rfl ?_
      refine hg_getR (n := 255) (r := some (42, 0)) dX6_change_252 rfl fl_X6_43 rfl rfl (mo_s hM) (mo_r hM 12 (by decide)) ?_
      refine hg_iload_n (n := 256) dX6_change_255 rfl rfl ?_
      refine hg_iaload (n := 257) (len := 72) (s) dX6_change_256 rfl (by decide) rfl (mo_a hM 12 (by decide)) rfl (by omega) (by decide) ?_
      refine hg_iastore (n := 258) (len := 72) (s) dX6_change_257 rfl (by decide) rfl (mo_a hM 12 (by decide)) rfl (by omega) (by decide) ?_
      refine hg_return dX6_change_258 rfl ?_
      have e : ch_m mi p s = ch_c X s := by rw [hX]; rfl
      rw [e] at hQ
      unfold ch_c at hQ
      rw [if_pos h244] at hQ
      exact hQ
    · refine hg_iconst (n := 248) (v := 0) dX6_change_247 rfl (by decide) ?_
      refine hg_goto (tgt := 257) dX6_change_248 (by decide) ?_
      refine hg_iastore (n := 258) (len := 72) (s) dX6_change_257 rfl (by decide) rfl (mo_a hM 12 (by decide)) rfl (by omega) (by decide) ?_
      refine hg_return dX6_change_258 rfl ?_
      have e : ch_m mi p s = ch_c X s := by rw [hX]; rfl
      rw [e] at hQ
      unfold ch_c at hQ
      rw [if_neg h244] at hQ
      exact hQ
  have s2 : ∀ X, X = ch_a mi p s → hg_G md_X6_change false sh Q 0 0 185 [some (hv_r (some (7, 0))), some (hv_i (nI p)), some (hv_i (nI s)), some (hv_i (mi 40 0 s)), none, none, none] [] (X, ml, mr, sh) := by
    intro X hX
    subst hX
    refine hg_iload_n (n := 186) dX6_change_185 rfl rfl ?_
    refine hg_sipush (n := 189) (v := 1500) dX6_change_186 rfl (by decide) ?_
    refine hg_sipush (n := 192) (v := 6500) dX6_change_189 rfl (by decide) ?_
    refine hg_callSd (n := 195) (c_X6_in _ _ _ _) dX6_change_192 rfl mk_X6_1 yl_X6_in ys_X6_in (by decide) (by decide) rfl rfl (Nat.le_of_ble_eq_true rfl) (fun h => by cases h) ?_
    refine hg_if_eq (n := 198) (tgt := 228) dX6_change_195 rfl (by decide) (fun h195 => ?_) (fun h195 => ?_)
    · exact s3 _ (by unfold ch_b; rw [if_pos h195])
    · refine hg_aload_n (n := 199) dX6_change_198 rfl rfl ?_
      refine hg_getR (n := 202) (r := some (41, 0)) dX6_change_199 rfl fl_X6_46 rfl rfl (mo_s hM) (mo_r hM 11 (by decide)) ?_
      refine hg_iconst (n := 203) (v := 4) dX6_change_202 rfl (by decide) ?_
      refine hg_iload_n (n := 204) dX6_change_203 rfl rfl ?_
      refine hg_imulN (n := 205) (4) (s) dX6_change_204 rfl ?_
      refine hg_iconst (n := 206) (v := 3) dX6_change_205 rfl (by decide) ?_
      refine hg_iaddN (n := 207) (4 * s) (3) dX6_change_206 rfl ?_
      refine hg_iaload (n := 208) (len := 288) ((4 * s) + 3) dX6_change_207 rfl (by decide) rfl (mo_a hM 11 (by decide)) rfl (by omega) (by decide) ?_
      refine hg_if_le (n := 211) (tgt := 228) dX6_change_208 rfl (by decide) (fun h208 => ?_) (fun h208 => ?_)
      · exact s3 _ (by unfold ch_b; rw [if_neg h195, if_pos h208])
      · refine hg_aload_n (n := 212) dX6_change_211 rfl rfl ?_
        refine hg_getR (n := 215) (r := some (42, 0)) dX6_change_212 rfl fl_X6_43 rfl rfl (mo_s hM) (mo_r hM 12 (by decide)) ?_
        refine hg_iload_n (n := 216) dX6_change_215 rfl rfl ?_
        refine hg_dup2 (n := 217) dX6_change_216 rfl rfl rfl ?_
        refine hg_iaload (n := 218) (len := 72) (s) dX6_change_217 rfl (by decide) rfl (mo_a hM 12 (by decide)) rfl (by omega) (by decide) ?_
        refine hg_iload_n (n := 219) dX6_change_218 rfl rfl ?_
        refine hg_sipush (n := 222) (v := 1500) dX6_change_219 rfl (by decide) ?_
        refine hg_isub (n := 223) dX6_change_222 rfl ?_
        refine hg_bipush (n := 225) (v := 100) dX6_change_223 rfl (by decide) ?_
        refine hg_idiv (n := 226) dX6_change_225 rfl (by decide) ?_
        refine hg_iadd (n := 227) dX6_change_226 rfl ?_
        refine hg_iastore (n := 228) (len := 72) (s) dX6_change_227 rfl (by decide) rfl (mo_a hM 12 (by decide)) rfl (by omega) (by decide) ?_
        exact s3 _ (by unfold ch_b; rw [if_neg h195, if_neg h208])
  refine hg_aload_n (n := 1) dX6_change_0 rfl rfl ?_
  refine hg_getR (n := 4) (r := some (40, 0)) dX6_change_1 rfl fl_X6_40 rfl rfl (mo_s hM) (mo_r hM 10 (by decide)) ?_
  refine hg_iload_n (n := 5) dX6_change_4 rfl rfl ?_
  refine hg_iaload (n := 6) (len := 72) (s) dX6_change_5 rfl (by decide) rfl (mo_a hM 10 (by decide)) rfl (by omega) (by decide) ?_
  refine hg_istore_n (n := 7) dX6_change_6 rfl (by decide) rfl rfl ?_
  refine hg_iload_n (n := 8) dX6_change_7 rfl rfl ?_
  refine hg_sipush (n := 11) (v := 7300) dX6_change_8 rfl (by decide) ?_
  refine hg_icmp_le (n := 14) (tgt := 69) dX6_change_11 rfl (by decide) (fun h11 => ?_) (fun h11 => ?_)
  · refine hg_iload_n (n := 70) dX6_change_69 rfl rfl ?_
    refine hg_sipush (n := 73) (v := 5500) dX6_change_70 rfl (by decide) ?_
    refine hg_icmp_lt (n := 76) (tgt := 94) dX6_change_73 rfl (by decide) (fun h73 => ?_) (fun h73 => ?_)
    · refine hg_iload_n (n := 95) dX6_change_94 rfl rfl ?_
      refine hg_sipush (n := 98) (v := 3000) dX6_change_95 rfl (by decide) ?_
      refine hg_icmp_lt (n := 101) (tgt := 119) dX6_change_98 rfl (by decide) (fun h98 => ?_) (fun h98 => ?_)
      · refine hg_aload_n (n := 120) dX6_change_119 rfl rfl ?_
        refine hg_getR (n := 123) (r := some (41, 0)) dX6_change_120 rfl fl_X6_46 rfl rfl (mo_s hM) (mo_r hM 11 (by decide)) ?_
        refine hg_iconst (n := 124) (v := 4) dX6_change_123 rfl (by decide) ?_
        refine hg_iload_n (n := 125) dX6_change_124 rfl rfl ?_
        refine hg_imulN (n := 126) (4) (s) dX6_change_125 rfl ?_
        refine hg_iaload (n := 127) (len := 288) (4 * s) dX6_change_126 rfl (by decide) rfl (mo_a hM 11 (by decide)) rfl (by omega) (by decide) ?_
        refine hg_aload_n (n := 128) dX6_change_127 rfl rfl ?_
        refine hg_getR (n := 131) (r := some (41, 0)) dX6_change_128 rfl fl_X6_46 rfl rfl (mo_s hM) (mo_r hM 11 (by decide)) ?_
        refine hg_iconst (n := 132) (v := 4) dX6_change_131 rfl (by decide) ?_
        refine hg_iload_n (n := 133) dX6_change_132 rfl rfl ?_
        refine hg_imulN (n := 134) (4) (s) dX6_change_133 rfl ?_
        refine hg_iconst (n := 135) (v := 3) dX6_change_134 rfl (by decide) ?_
        refine hg_iaddN (n := 136) (4 * s) (3) dX6_change_135 rfl ?_
        refine hg_iaload (n := 137) (len := 288) ((4 * s) + 3) dX6_change_136 rfl (by decide) rfl (mo_a hM 11 (by decide)) rfl (by omega) (by decide) ?_
        refine hg_iadd (n := 138) dX6_change_137 rfl ?_
        refine hg_sipush (n := 141) (v := 3000) dX6_change_138 rfl (by decide) ?_
        refine hg_iload_n (n := 142) dX6_change_141 rfl rfl ?_
        refine hg_isub (n := 143) dX6_change_142 rfl ?_
        refine hg_imul (n := 144) dX6_change_143 rfl ?_
        refine hg_sipush (n := 147) (v := 2600) dX6_change_144 rfl (by decide) ?_
        refine hg_idiv (n := 148) dX6_change_147 rfl (by decide) ?_
        refine hg_istore (n := 150) dX6_change_148 rfl (by decide) rfl rfl ?_
        refine hg_iload (n := 152) dX6_change_150 rfl rfl ?_
        refine hg_aload_n (n := 153) dX6_change_152 rfl rfl ?_
        refine hg_getR (n := 156) (r := some (41, 0)) dX6_change_153 rfl fl_X6_46 rfl rfl (mo_s hM) (mo_r hM 11 (by decide)) ?_
        refine hg_iconst (n := 157) (v := 4) dX6_change_156 rfl (by decide) ?_
        refine hg_iload_n (n := 158) dX6_change_157 rfl rfl ?_
        refine hg_imulN (n := 159) (4) (s) dX6_change_158 rfl ?_
        refine hg_iconst (n := 160) (v := 3) dX6_change_159 rfl (by decide) ?_
        refine hg_iaddN (n := 161) (4 * s) (3) dX6_change_160 rfl ?_
        refine hg_iaload (n := 162) (len := 288) ((4 * s) + 3) dX6_change_161 rfl (by decide) rfl (mo_a hM 11 (by decide)) rfl (by omega) (by decide) ?_
        refine hg_isub (n := 163) dX6_change_162 rfl ?_
        refine hg_istore (n := 165) dX6_change_163 rfl (by decide) rfl rfl ?_
        refine hg_iload (n := 167) dX6_change_165 rfl rfl ?_
        refine hg_if_le (n := 170) (tgt := 182) dX6_change_167 rfl (by decide) (fun h167 => ?_) (fun h167 => ?_)
        · refine hg_iconst (n := 183) (v := 0) dX6_change_182 rfl (by decide) ?_
          refine hg_istore (n := 185) dX6_change_183 rfl (by decide) rfl rfl ?_
          exact hg_ls (s2 _ (by unfold ch_a; rw [if_pos h11, if_pos h73, if_pos h98, if_pos h167])) ⟨rfl, rfl, rfl, rfl, trivial⟩
        · refine hg_aload_n (n := 171) dX6_change_170 rfl rfl ?_
          refine hg_iload_n (n := 172) dX6_change_171 rfl rfl ?_
          refine hg_iconst (n := 173) (v := 0) dX6_change_172 rfl (by decide) ?_
          refine hg_iconst (n := 174) (v := 3) dX6_change_173 rfl (by decide) ?_
          refine hg_iload (n := 176) dX6_change_174 rfl rfl ?_
          refine hg_callVd (n := 179) (c_X6_turn hM (s) (0) (3) (by omega) (by decide) (by decide) _) dX6_change_176 rfl mk_X6_56 yl_X6_turn yv_X6_turn rfl (mo_s hM) (by decide) (by decide) rfl rfl (Nat.le_of_ble_eq_true rfl) (fun h => by cases h) ?_
          refine hg_goto (tgt := 183) dX6_change_179 (by decide) ?_
          refine hg_istore (n := 185) dX6_change_183 rfl (by decide) rfl rfl ?_
          exact hg_ls (s2 _ (by unfold ch_a; rw [if_pos h11, if_pos h73, if_pos h98, if_neg h167])) ⟨rfl, rfl, rfl, rfl, trivial⟩
      · refine hg_aload_n (n := 102) dX6_change_101 rfl rfl ?_
        refine hg_iload_n (n := 103) dX6_change_102 rfl rfl ?_
        refine hg_iconst (n := 104) (v := 0) dX6_change_103 rfl (by decide) ?_
        refine hg_iconst (n := 105) (v := 2) dX6_change_104 rfl (by decide) ?_
        refine hg_aload_n (n := 106) dX6_change_105 rfl rfl ?_
        refine hg_getR (n := 109) (r := some (36, 0)) dX6_change_106 rfl fl_X6_27 rfl rfl (mo_s hM) (mo_r hM 6 (by decide)) ?_
        refine hg_iload_n (n := 110) dX6_change_109 rfl rfl ?_
        refine hg_iaload (n := 111) (len := 12) (p) dX6_change_110 rfl (by decide) rfl (mo_a hM 6 (by decide)) rfl (by omega) (by decide) ?_
        refine hg_callVd (n := 114) (c_X6_turn hM (s) (0) (2) (by omega) (by decide) (by decide) _) dX6_change_111 rfl mk_X6_56 yl_X6_turn yv_X6_turn rfl (mo_s hM) (by decide) (by decide) rfl rfl (Nat.le_of_ble_eq_true rfl) (fun h => by cases h) ?_
        refine hg_istore (n := 116) dX6_change_114 rfl (by decide) rfl rfl ?_
        refine hg_goto (tgt := 185) dX6_change_116 (by decide) ?_
        exact hg_ls (s2 _ (by unfold ch_a; rw [if_pos h11, if_pos h73, if_neg h98])) ⟨rfl, rfl, rfl, rfl, trivial⟩
    · refine hg_aload_n (n := 77) dX6_change_76 rfl rfl ?_
      refine hg_iload_n (n := 78) dX6_change_77 rfl rfl ?_
      refine hg_iconst (n := 79) (v := 0) dX6_change_78 rfl (by decide) ?_
      refine hg_iconst (n := 80) (v := 1) dX6_change_79 rfl (by decide) ?_
      refine hg_aload_n (n := 81) dX6_change_80 rfl rfl ?_
      refine hg_getR (n := 84) (r := some (35, 0)) dX6_change_81 rfl fl_X6_24 rfl rfl (mo_s hM) (mo_r hM 5 (by decide)) ?_
      refine hg_iload_n (n := 85) dX6_change_84 rfl rfl ?_
      refine hg_iaload (n := 86) (len := 12) (p) dX6_change_85 rfl (by decide) rfl (mo_a hM 5 (by decide)) rfl (by omega) (by decide) ?_
      refine hg_callVd (n := 89) (c_X6_turn hM (s) (0) (1) (by omega) (by decide) (by decide) _) dX6_change_86 rfl mk_X6_56 yl_X6_turn yv_X6_turn rfl (mo_s hM) (by decide) (by decide) rfl rfl (Nat.le_of_ble_eq_true rfl) (fun h => by cases h) ?_
      refine hg_istore (n := 91) dX6_change_89 rfl (by decide) rfl rfl ?_
      refine hg_goto (tgt := 185) dX6_change_91 (by decide) ?_
      exact hg_ls (s2 _ (by unfold ch_a; rw [if_pos h11, if_neg h73])) ⟨rfl, rfl, rfl, rfl, trivial⟩
  · refine hg_iload_n (n := 15) dX6_change_14 rfl rfl ?_
    refine hg_sipush (n := 18) (v := 7300) dX6_change_15 rfl (by decide) ?_
    refine hg_isub (n := 19) dX6_change_18 rfl ?_
    refine hg_bipush (n := 21) (v := 10) dX6_change_19 rfl (by decide) ?_
    refine hg_idiv (n := 22) dX6_change_21 rfl (by decide) ?_
    refine hg_istore (n := 24) dX6_change_22 rfl (by decide) rfl rfl ?_
    refine hg_iload (n := 26) dX6_change_24 rfl rfl ?_
    refine hg_aload_n (n := 27) dX6_change_26 rfl rfl ?_
    refine hg_iload_n (n := 28) dX6_change_27 rfl rfl ?_
    refine hg_iconst (n := 29) (v := 1) dX6_change_28 rfl (by decide) ?_
    refine hg_iconst (n := 30) (v := 0) dX6_change_29 rfl (by decide) ?_
    refine hg_iload (n := 32) dX6_change_30 rfl rfl ?_
    refine hg_callVd (n := 35) (c_X6_turn hM (s) (1) (0) (by omega) (by decide) (by decide) _) dX6_change_32 rfl mk_X6_56 yl_X6_turn yv_X6_turn rfl (mo_s hM) (by decide) (by decide) rfl rfl (Nat.le_of_ble_eq_true rfl) (fun h => by cases h) ?_
    refine hg_isub (n := 36) dX6_change_35 rfl ?_
    refine hg_istore (n := 38) dX6_change_36 rfl (by decide) rfl rfl ?_
    refine hg_iload (n := 40) dX6_change_38 rfl rfl ?_
    refine hg_aload_n (n := 41) dX6_change_40 rfl rfl ?_
    refine hg_iload_n (n := 42) dX6_change_41 rfl rfl ?_
    refine hg_iconst (n := 43) (v := 2) dX6_change_42 rfl (by decide) ?_
    refine hg_iconst (n := 44) (v := 0) dX6_change_43 rfl (by decide) ?_
    refine hg_iload (n := 46) dX6_change_44 rfl rfl ?_
    refine hg_callVd (n := 49) (c_X6_turn hM (s) (2) (0) (by omega) (by decide) (by decide) _) dX6_change_46 rfl mk_X6_56 yl_X6_turn yv_X6_turn rfl (mo_s hM) (by decide) (by decide) rfl rfl (Nat.le_of_ble_eq_true rfl) (fun h => by cases h) ?_
    refine hg_isub (n := 50) dX6_change_49 rfl ?_
    refine hg_istore (n := 52) dX6_change_50 rfl (by decide) rfl rfl ?_
    refine hg_iload (n := 54) dX6_change_52 rfl rfl ?_
    refine hg_aload_n (n := 55) dX6_change_54 rfl rfl ?_
    refine hg_iload_n (n := 56) dX6_change_55 rfl rfl ?_
    refine hg_iconst (n := 57) (v := 3) dX6_change_56 rfl (by decide) ?_
    refine hg_iconst (n := 58) (v := 0) dX6_change_57 rfl (by decide) ?_
    refine hg_iload (n := 60) dX6_change_58 rfl rfl ?_
    refine hg_callVd (n := 63) (c_X6_turn hM (s) (3) (0) (by omega) (by decide) (by decide) _) dX6_change_60 rfl mk_X6_56 yl_X6_turn yv_X6_turn rfl (mo_s hM) (by decide) (by decide) rfl rfl (Nat.le_of_ble_eq_true rfl) (fun h => by cases h) ?_
    refine hg_isub (n := 64) dX6_change_63 rfl ?_
    refine hg_istore (n := 66) dX6_change_64 rfl (by decide) rfl rfl ?_
    refine hg_goto (tgt := 185) dX6_change_66 (by decide) ?_
    exact hg_ls (s2 _ (by unfold ch_a; rw [if_neg h11])) ⟨rfl, rfl, rfl, rfl, trivial⟩

def ha_ (X : MI_) (s : Nat) : Int32 := (200 * X 41 0 (4 * s) + 250 * X 41 0 (4 * s + 1) + 450 * X 41 0 (4 * s + 2) + (800 - (if 400 ≤ X 42 0 s / 50 then 400 else X 42 0 s / 50)) * X 41 0 (4 * s + 3)) / 1000
set_option maxHeartbeats 4000000 in
set_option maxRecDepth 100000 in
theorem c_X6_hardness {mi : MI_} {ml : ML_} {mr : MR_} {sh : SH_} (hM : mo_ mr sh) (s : Nat) (hs : s < 72) : hg_Det false yX6_hardness md_X6_hardness [hv_r (some (7, 0)), hv_i (nI s)] (mi, ml, mr, sh) (some (hv_i (ha_ mi s))) (mi, ml, mr, sh) := by
  intro Q hQ
  refine hg_intro rfl rfl rfl (Nat.le_of_ble_eq_true rfl) rfl ?_
  have s1 : ∀ x, x = (if 400 ≤ mi 42 0 s / 50 then 400 else mi 42 0 s / 50) → hg_G md_X6_hardness false sh Q 0 0 30 [some (hv_r (some (7, 0))), some (hv_i (nI s)), none, none] [hv_i x] (mi, ml, mr, sh) := by
    intro x hx
    subst hx
    refine hg_istore_n (n := 31) dX6_hardness_30 rfl (by decide) rfl rfl ?_
    refine hg_sipush (n := 34) (v := 800) dX6_hardness_31 rfl (by decide) ?_
    refine hg_iload_n (n := 35) dX6_hardness_34 rfl rfl ?_
    refine hg_isub (n := 36) dX6_hardness_35 rfl ?_
    refine hg_istore_n (n := 37) dX6_hardness_36 rfl (by decide) rfl rfl ?_
    refine hg_sipush (n := 40) (v := 200) dX6_hardness_37 rfl (by decide) ?_
    refine hg_aload_n (n := 41) dX6_hardness_40 rfl rfl ?_
    refine hg_getR (n := 44) (r := some (41, 0)) dX6_hardness_41 rfl fl_X6_46 rfl rfl (mo_s hM) (mo_r hM 11 (by decide)) ?_
    refine hg_iconst (n := 45) (v := 4) dX6_hardness_44 rfl (by decide) ?_
    refine hg_iload_n (n := 46) dX6_hardness_45 rfl rfl ?_
    refine hg_imulN (n := 47) (4) (s) dX6_hardness_46 rfl ?_
    refine hg_iaload (n := 48) (len := 288) (4 * s) dX6_hardness_47 rfl (by decide) rfl (mo_a hM 11 (by decide)) rfl (by omega) (by decide) ?_
    refine hg_imul (n := 49) dX6_hardness_48 rfl ?_
    refine hg_sipush (n := 52) (v := 250) dX6_hardness_49 rfl (by decide) ?_
    refine hg_aload_n (n := 53) dX6_hardness_52 rfl rfl ?_
    refine hg_getR (n := 56) (r := some (41, 0)) dX6_hardness_53 rfl fl_X6_46 rfl rfl (mo_s hM) (mo_r hM 11 (by decide)) ?_
    refine hg_iconst (n := 57) (v := 4) dX6_hardness_56 rfl (by decide) ?_
    refine hg_iload_n (n := 58) dX6_hardness_57 rfl rfl ?_
    refine hg_imulN (n := 59) (4) (s) dX6_hardness_58 rfl ?_
    refine hg_iconst (n := 60) (v := 1) dX6_hardness_59 rfl (by decide) ?_
    refine hg_iaddN (n := 61) (4 * s) (1) dX6_hardness_60 rfl ?_
    refine hg_iaload (n := 62) (len := 288) ((4 * s) + 1) dX6_hardness_61 rfl (by decide) rfl (mo_a hM 11 (by decide)) rfl (by omega) (by decide) ?_
    refine hg_imul (n := 63) dX6_hardness_62 rfl ?_
    refine hg_iadd (n := 64) dX6_hardness_63 rfl ?_
    refine hg_sipush (n := 67) (v := 450) dX6_hardness_64 rfl (by decide) ?_
    refine hg_aload_n (n := 68) dX6_hardness_67 rfl rfl ?_
    refine hg_getR (n := 71) (r := some (41, 0)) dX6_hardness_68 rfl fl_X6_46 rfl rfl (mo_s hM) (mo_r hM 11 (by decide)) ?_
    refine hg_iconst (n := 72) (v := 4) dX6_hardness_71 rfl (by decide) ?_
    refine hg_iload_n (n := 73) dX6_hardness_72 rfl rfl ?_
    refine hg_imulN (n := 74) (4) (s) dX6_hardness_73 rfl ?_
    refine hg_iconst (n := 75) (v := 2) dX6_hardness_74 rfl (by decide) ?_
    refine hg_iaddN (n := 76) (4 * s) (2) dX6_hardness_75 rfl ?_
    refine hg_iaload (n := 77) (len := 288) ((4 * s) + 2) dX6_hardness_76 rfl (by decide) rfl (mo_a hM 11 (by decide)) rfl (by omega) (by decide) ?_
    refine hg_imul (n := 78) dX6_hardness_77 rfl ?_
    refine hg_iadd (n := 79) dX6_hardness_78 rfl ?_
    refine hg_iload_n (n := 80) dX6_hardness_79 rfl rfl ?_
    refine hg_aload_n (n := 81) dX6_hardness_80 rfl rfl ?_
    refine hg_getR (n := 84) (r := some (41, 0)) dX6_hardness_81 rfl fl_X6_46 rfl rfl (mo_s hM) (mo_r hM 11 (by decide)) ?_
    refine hg_iconst (n := 85) (v := 4) dX6_hardness_84 rfl (by decide) ?_
    refine hg_iload_n (n := 86) dX6_hardness_85 rfl rfl ?_
    refine hg_imulN (n := 87) (4) (s) dX6_hardness_86 rfl ?_
    refine hg_iconst (n := 88) (v := 3) dX6_hardness_87 rfl (by decide) ?_
    refine hg_iaddN (n := 89) (4 * s) (3) dX6_hardness_88 rfl ?_
    refine hg_iaload (n := 90) (len := 288) ((4 * s) + 3) dX6_hardness_89 rfl (by decide) rfl (mo_a hM 11 (by decide)) rfl (by omega) (by decide) ?_
    refine hg_imul (n := 91) dX6_hardness_90 rfl ?_
    refine hg_iadd (n := 92) dX6_hardness_91 rfl ?_
    refine hg_sipush (n := 95) (v := 1000) dX6_hardness_92 rfl (by decide) ?_
    refine hg_idiv (n := 96) dX6_hardness_95 rfl (by decide) ?_
    refine hg_ireturn dX6_hardness_96 rfl ?_
    exact hQ
  refine hg_aload_n (n := 1) dX6_hardness_0 rfl rfl ?_
  refine hg_getR (n := 4) (r := some (42, 0)) dX6_hardness_1 rfl fl_X6_43 rfl rfl (mo_s hM) (mo_r hM 12 (by decide)) ?_
  refine hg_iload_n (n := 5) dX6_hardness_4 rfl rfl ?_
  refine hg_iaload (n := 6) (len := 72) (s) dX6_hardness_5 rfl (by decide) rfl (mo_a hM 12 (by decide)) rfl (by omega) (by decide) ?_
  refine hg_bipush (n := 8) (v := 50) dX6_hardness_6 rfl (by decide) ?_
  refine hg_idiv (n := 9) dX6_hardness_8 rfl (by decide) ?_
  refine hg_sipush (n := 12) (v := 400) dX6_hardness_9 rfl (by decide) ?_
  refine hg_icmp_ge (n := 15) (tgt := 27) dX6_hardness_12 rfl (by decide) (fun h12 => ?_) (fun h12 => ?_)
  · refine hg_sipush (n := 30) (v := 400) dX6_hardness_27 rfl (by decide) ?_
    exact s1 _ (by rw [if_pos h12])
  · refine hg_aload_n (n := 16) dX6_hardness_15 rfl rfl ?_
    refine hg_getR (n := 19) (r := some (42, 0)) dX6_hardness_16 rfl fl_X6_43 rfl rfl (mo_s hM) (mo_r hM 12 (by decide)) ?_
    refine hg_iload_n (n := 20) dX6_hardness_19 rfl rfl ?_
    refine hg_iaload (n := 21) (len := 72) (s) dX6_hardness_20 rfl (by decide) rfl (mo_a hM 12 (by decide)) rfl (by omega) (by decide) ?_
    refine hg_bipush (n := 23) (v := 50) dX6_hardness_21 rfl (by decide) ?_
    refine hg_idiv (n := 24) dX6_hardness_23 rfl (by decide) ?_
    refine hg_goto (tgt := 30) dX6_hardness_24 (by decide) ?_
    exact s1 _ (by rw [if_neg h12])

set_option maxHeartbeats 4000000 in
set_option maxRecDepth 100000 in
theorem c_X6_innermost {mi : MI_} {ml : ML_} {mr : MR_} {sh : SH_} (hM : mo_ mr sh) (p n : Nat) (hp : p < 12) (hn : mi 31 0 p = nI n) (h1 : 1 ≤ n) (h6 : n ≤ 6) : hg_Det false yX6_innermost md_X6_innermost [hv_r (some (7, 0)), hv_i (nI p)] (mi, ml, mr, sh) (some (hv_i (mi 40 0 (6 * p + n - 1)))) (mi, ml, mr, sh) := by
  intro Q hQ
  refine hg_intro rfl rfl rfl (Nat.le_of_ble_eq_true rfl) rfl ?_
  refine hg_aload_n (n := 1) dX6_innermost_0 rfl rfl ?_
  refine hg_getR (n := 4) (r := some (40, 0)) dX6_innermost_1 rfl fl_X6_40 rfl rfl (mo_s hM) (mo_r hM 10 (by decide)) ?_
  refine hg_bipush (n := 6) (v := 6) dX6_innermost_4 rfl (by decide) ?_
  refine hg_iload_n (n := 7) dX6_innermost_6 rfl rfl ?_
  refine hg_imulN (n := 8) (6) (p) dX6_innermost_7 rfl ?_
  refine hg_aload_n (n := 9) dX6_innermost_8 rfl rfl ?_
  refine hg_getR (n := 12) (r := some (31, 0)) dX6_innermost_9 rfl fl_X6_11 rfl rfl (mo_s hM) (mo_r hM 1 (by decide)) ?_
  refine hg_iload_n (n := 13) dX6_innermost_12 rfl rfl ?_
  refine hg_ialoadN (n := 14) (len := 12) (n) (p) dX6_innermost_13 rfl (by decide) rfl (mo_a hM 1 (by decide)) rfl (by omega) (by decide) hn ?_
  refine hg_iaddN (n := 15) (6 * p) (n) dX6_innermost_14 rfl ?_
  refine hg_iconst (n := 16) (v := 1) dX6_innermost_15 rfl (by decide) ?_
  refine hg_isubN (n := 17) ((6 * p) + n) (1) dX6_innermost_16 rfl (by omega) ?_
  refine hg_iaload (n := 18) (len := 72) (((6 * p) + n) - 1) dX6_innermost_17 rfl (by decide) rfl (mo_a hM 10 (by decide)) rfl (by omega) (by decide) ?_
  refine hg_ireturn dX6_innermost_18 rfl ?_
  exact hQ

