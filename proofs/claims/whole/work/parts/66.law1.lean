/-! the law: a call of each kind -/
theorem Iv_s {L : Nat} {mi : MI_} {ml : ML_} {mr : MR_} {sh : SH_} (hI : Iv L (mi, ml, mr, sh)) : sh 1 0 = some 6 ∧ sh 7 0 = some 39 := by
  obtain ⟨np, nr, nj, nn, h⟩ := Iv_h hI
  exact ⟨h.2.1.1.1, h.2.1.2.1.1⟩
theorem lcmp_0 (x : Int64) : lg_cmp x x = 0 := by
  unfold lg_cmp
  simp
set_option maxHeartbeats 4000000 in
set_option maxRecDepth 100000 in
theorem k_part {L r i : Nat} (hL : L ≤ 3584) (hi : 7 * i + 7 ≤ L) {sh0 : SH_} {Q : Option V_ → Me_ → Prop} (h0 : ∀ k j n, sh0 k j = some n → k = 0 ∧ j = 0) {mi : MI_} {ml : ML_} {mr : MR_} {sh : SH_} (hI : Iv L (mi, ml, mr, sh)) (s900 : ∀ M, Iv L M → hg_G md_L_law true sh0 Q (8 * r) (52 * r) 900 [some (hv_r (some (0, 0))), some (hv_r (some (1, 0))), some (hv_r (some (7, 0))), some (hv_i (nI (7 * i)))] [] M) : hg_G md_L_law true sh0 Q (8 * (r + 1)) (52 * (r + 1)) 140 [some (hv_r (some (0, 0))), some (hv_r (some (1, 0))), some (hv_r (some (7, 0))), some (hv_i (nI (7 * i)))] [] (mi, ml, mr, sh) := by
  have g1 := (Iv_s hI).1
  have g7 := (Iv_s hI).2
  obtain ⟨w, hw⟩ := Q_part hI (mi 0 0 (7 * i + 1)) (mi 0 0 (7 * i + 2)) (mi 0 0 (7 * i + 3)) (mi 0 0 (7 * i + 4)) (mi 0 0 (7 * i + 5)) (mi 0 0 (7 * i + 6))
  refine hg_aload_n (n := 141) dL_law_140 rfl rfl ?_
  refine hg_aload_n (n := 142) dL_law_141 rfl rfl ?_
  refine hg_iload_n (n := 143) dL_law_142 rfl rfl ?_
  refine hg_iconst (n := 144) (v := 1) dL_law_143 rfl (by decide) ?_
  refine hg_iaddN (n := 145) (7 * i) (1) dL_law_144 rfl ?_
  refine hg_script (n := 146) (len := L) (7 * i + 1) dL_law_145 rfl hI.1 rfl (by omega) (by omega) ?_
  refine hg_aload_n (n := 147) dL_law_146 rfl rfl ?_
  refine hg_iload_n (n := 148) dL_law_147 rfl rfl ?_
  refine hg_iconst (n := 149) (v := 2) dL_law_148 rfl (by decide) ?_
  refine hg_iaddN (n := 150) (7 * i) (2) dL_law_149 rfl ?_
  refine hg_script (n := 151) (len := L) (7 * i + 2) dL_law_150 rfl hI.1 rfl (by omega) (by omega) ?_
  refine hg_aload_n (n := 152) dL_law_151 rfl rfl ?_
  refine hg_iload_n (n := 153) dL_law_152 rfl rfl ?_
  refine hg_iconst (n := 154) (v := 3) dL_law_153 rfl (by decide) ?_
  refine hg_iaddN (n := 155) (7 * i) (3) dL_law_154 rfl ?_
  refine hg_script (n := 156) (len := L) (7 * i + 3) dL_law_155 rfl hI.1 rfl (by omega) (by omega) ?_
  refine hg_aload_n (n := 157) dL_law_156 rfl rfl ?_
  refine hg_iload_n (n := 158) dL_law_157 rfl rfl ?_
  refine hg_iconst (n := 159) (v := 4) dL_law_158 rfl (by decide) ?_
  refine hg_iaddN (n := 160) (7 * i) (4) dL_law_159 rfl ?_
  refine hg_script (n := 161) (len := L) (7 * i + 4) dL_law_160 rfl hI.1 rfl (by omega) (by omega) ?_
  refine hg_aload_n (n := 162) dL_law_161 rfl rfl ?_
  refine hg_iload_n (n := 163) dL_law_162 rfl rfl ?_
  refine hg_iconst (n := 164) (v := 5) dL_law_163 rfl (by decide) ?_
  refine hg_iaddN (n := 165) (7 * i) (5) dL_law_164 rfl ?_
  refine hg_script (n := 166) (len := L) (7 * i + 5) dL_law_165 rfl hI.1 rfl (by omega) (by omega) ?_
  refine hg_aload_n (n := 167) dL_law_166 rfl rfl ?_
  refine hg_iload_n (n := 168) dL_law_167 rfl rfl ?_
  refine hg_bipush (n := 170) (v := 6) dL_law_168 rfl (by decide) ?_
  refine hg_iaddN (n := 171) (7 * i) (6) dL_law_170 rfl ?_
  refine hg_script (n := 172) (len := L) (7 * i + 6) dL_law_171 rfl hI.1 rfl (by omega) (by omega) ?_
  refine hg_callVp (n := 175) hw dL_law_172 rfl mk_L_13 yl_X5_part yv_X5_part rfl g1 (by decide) ⟨by show 8 ≤ 8 * (r + 1); omega, by show 52 ≤ 52 * (r + 1); omega⟩ rfl rfl (Nat.le_of_ble_eq_true rfl) (fun _ => ⟨rfl, lv_nil, ol_some ⟨_, hI.1⟩ (ol_some ⟨_, g1⟩ (ol_some ⟨_, g7⟩ (ol_some trivial ol_nil))), fun k j n h => by obtain ⟨rfl, rfl⟩ := h0 k j n h; exact ⟨_, hI.1⟩⟩) ?_
  rintro _ ⟨mi', ml', mr', sh'⟩ ⟨rfl, s0, s7, s1, sc, h6⟩
  have s0 : sh' 0 0 = some L := s0
  have s7 : sh' 7 0 = some 39 := s7
  have sc : ∀ j, mi' 0 0 j = mi 0 0 j := sc
  refine hg_aload_n (n := 176) dL_law_175 rfl rfl ?_
  refine hg_aload_n (n := 177) dL_law_176 rfl rfl ?_
  refine hg_iload_n (n := 178) dL_law_177 rfl rfl ?_
  refine hg_iconst (n := 179) (v := 1) dL_law_178 rfl (by decide) ?_
  refine hg_iaddN (n := 180) (7 * i) (1) dL_law_179 rfl ?_
  refine hg_script (n := 181) (len := L) (7 * i + 1) dL_law_180 rfl s0 rfl (by omega) (by omega) ?_
  refine hg_topI (sc _) ?_
  refine hg_aload_n (n := 182) dL_law_181 rfl rfl ?_
  refine hg_iload_n (n := 183) dL_law_182 rfl rfl ?_
  refine hg_iconst (n := 184) (v := 2) dL_law_183 rfl (by decide) ?_
  refine hg_iaddN (n := 185) (7 * i) (2) dL_law_184 rfl ?_
  refine hg_script (n := 186) (len := L) (7 * i + 2) dL_law_185 rfl s0 rfl (by omega) (by omega) ?_
  refine hg_topI (sc _) ?_
  refine hg_aload_n (n := 187) dL_law_186 rfl rfl ?_
  refine hg_iload_n (n := 188) dL_law_187 rfl rfl ?_
  refine hg_iconst (n := 189) (v := 3) dL_law_188 rfl (by decide) ?_
  refine hg_iaddN (n := 190) (7 * i) (3) dL_law_189 rfl ?_
  refine hg_script (n := 191) (len := L) (7 * i + 3) dL_law_190 rfl s0 rfl (by omega) (by omega) ?_
  refine hg_topI (sc _) ?_
  refine hg_aload_n (n := 192) dL_law_191 rfl rfl ?_
  refine hg_iload_n (n := 193) dL_law_192 rfl rfl ?_
  refine hg_iconst (n := 194) (v := 4) dL_law_193 rfl (by decide) ?_
  refine hg_iaddN (n := 195) (7 * i) (4) dL_law_194 rfl ?_
  refine hg_script (n := 196) (len := L) (7 * i + 4) dL_law_195 rfl s0 rfl (by omega) (by omega) ?_
  refine hg_topI (sc _) ?_
  refine hg_aload_n (n := 197) dL_law_196 rfl rfl ?_
  refine hg_iload_n (n := 198) dL_law_197 rfl rfl ?_
  refine hg_iconst (n := 199) (v := 5) dL_law_198 rfl (by decide) ?_
  refine hg_iaddN (n := 200) (7 * i) (5) dL_law_199 rfl ?_
  refine hg_script (n := 201) (len := L) (7 * i + 5) dL_law_200 rfl s0 rfl (by omega) (by omega) ?_
  refine hg_topI (sc _) ?_
  refine hg_aload_n (n := 202) dL_law_201 rfl rfl ?_
  refine hg_iload_n (n := 203) dL_law_202 rfl rfl ?_
  refine hg_bipush (n := 205) (v := 6) dL_law_203 rfl (by decide) ?_
  refine hg_iaddN (n := 206) (7 * i) (6) dL_law_205 rfl ?_
  refine hg_script (n := 207) (len := L) (7 * i + 6) dL_law_206 rfl s0 rfl (by omega) (by omega) ?_
  refine hg_topI (sc _) ?_
  refine hg_callVp (n := 210) h6 dL_law_207 rfl mk_L_17 yl_X6_part yv_X6_part rfl s7 (by decide) ⟨Nat.zero_le _, Nat.zero_le _⟩ rfl rfl (Nat.le_of_ble_eq_true rfl) (fun h => by cases h) ?_
  rintro _ M'' ⟨rfl, hI''⟩
  exact hg_icmp_eq (n := 213) (tgt := 900) dL_law_210 rfl (by decide) (fun _ => (hg_bud (by show 8 * r ≤ 8 * (r + 1) - 8 - 0; omega) (by show 52 * r ≤ 52 * (r + 1) - 52 - 0; omega) (s900 _ hI''))) (fun h => absurd rfl h)
set_option maxHeartbeats 4000000 in
set_option maxRecDepth 100000 in
theorem k_step {L r i : Nat} (hL : L ≤ 3584) (hi : 7 * i + 7 ≤ L) {sh0 : SH_} {Q : Option V_ → Me_ → Prop} (h0 : ∀ k j n, sh0 k j = some n → k = 0 ∧ j = 0) {mi : MI_} {ml : ML_} {mr : MR_} {sh : SH_} (hI : Iv L (mi, ml, mr, sh)) (s900 : ∀ M, Iv L M → hg_G md_L_law true sh0 Q (8 * r) (52 * r) 900 [some (hv_r (some (0, 0))), some (hv_r (some (1, 0))), some (hv_r (some (7, 0))), some (hv_i (nI (7 * i)))] [] M) : hg_G md_L_law true sh0 Q (8 * (r + 1)) (52 * (r + 1)) 215 [some (hv_r (some (0, 0))), some (hv_r (some (1, 0))), some (hv_r (some (7, 0))), some (hv_i (nI (7 * i)))] [] (mi, ml, mr, sh) := by
  have g1 := (Iv_s hI).1
  have g7 := (Iv_s hI).2
  obtain ⟨w, hw⟩ := Q_step hI (mi 0 0 (7 * i + 1)) (mi 0 0 (7 * i + 2)) (mi 0 0 (7 * i + 3))
  refine hg_aload_n (n := 216) dL_law_215 rfl rfl ?_
  refine hg_aload_n (n := 217) dL_law_216 rfl rfl ?_
  refine hg_iload_n (n := 218) dL_law_217 rfl rfl ?_
  refine hg_iconst (n := 219) (v := 1) dL_law_218 rfl (by decide) ?_
  refine hg_iaddN (n := 220) (7 * i) (1) dL_law_219 rfl ?_
  refine hg_script (n := 221) (len := L) (7 * i + 1) dL_law_220 rfl hI.1 rfl (by omega) (by omega) ?_
  refine hg_aload_n (n := 222) dL_law_221 rfl rfl ?_
  refine hg_iload_n (n := 223) dL_law_222 rfl rfl ?_
  refine hg_iconst (n := 224) (v := 2) dL_law_223 rfl (by decide) ?_
  refine hg_iaddN (n := 225) (7 * i) (2) dL_law_224 rfl ?_
  refine hg_script (n := 226) (len := L) (7 * i + 2) dL_law_225 rfl hI.1 rfl (by omega) (by omega) ?_
  refine hg_aload_n (n := 227) dL_law_226 rfl rfl ?_
  refine hg_iload_n (n := 228) dL_law_227 rfl rfl ?_
  refine hg_iconst (n := 229) (v := 3) dL_law_228 rfl (by decide) ?_
  refine hg_iaddN (n := 230) (7 * i) (3) dL_law_229 rfl ?_
  refine hg_script (n := 231) (len := L) (7 * i + 3) dL_law_230 rfl hI.1 rfl (by omega) (by omega) ?_
  refine hg_callVp (n := 234) hw dL_law_231 rfl mk_L_18 yl_X5_step yv_X5_step rfl g1 (by decide) ⟨by show 0 ≤ 8 * (r + 1); omega, by show 0 ≤ 52 * (r + 1); omega⟩ rfl rfl (Nat.le_of_ble_eq_true rfl) (fun h => by cases h) ?_
  rintro _ ⟨mi', ml', mr', sh'⟩ ⟨rfl, s0, s7, s1, sc, h6⟩
  have s0 : sh' 0 0 = some L := s0
  have s7 : sh' 7 0 = some 39 := s7
  have sc : ∀ j, mi' 0 0 j = mi 0 0 j := sc
  refine hg_aload_n (n := 235) dL_law_234 rfl rfl ?_
  refine hg_aload_n (n := 236) dL_law_235 rfl rfl ?_
  refine hg_iload_n (n := 237) dL_law_236 rfl rfl ?_
  refine hg_iconst (n := 238) (v := 1) dL_law_237 rfl (by decide) ?_
  refine hg_iaddN (n := 239) (7 * i) (1) dL_law_238 rfl ?_
  refine hg_script (n := 240) (len := L) (7 * i + 1) dL_law_239 rfl s0 rfl (by omega) (by omega) ?_
  refine hg_topI (sc _) ?_
  refine hg_aload_n (n := 241) dL_law_240 rfl rfl ?_
  refine hg_iload_n (n := 242) dL_law_241 rfl rfl ?_
  refine hg_iconst (n := 243) (v := 2) dL_law_242 rfl (by decide) ?_
  refine hg_iaddN (n := 244) (7 * i) (2) dL_law_243 rfl ?_
  refine hg_script (n := 245) (len := L) (7 * i + 2) dL_law_244 rfl s0 rfl (by omega) (by omega) ?_
  refine hg_topI (sc _) ?_
  refine hg_aload_n (n := 246) dL_law_245 rfl rfl ?_
  refine hg_iload_n (n := 247) dL_law_246 rfl rfl ?_
  refine hg_iconst (n := 248) (v := 3) dL_law_247 rfl (by decide) ?_
  refine hg_iaddN (n := 249) (7 * i) (3) dL_law_248 rfl ?_
  refine hg_script (n := 250) (len := L) (7 * i + 3) dL_law_249 rfl s0 rfl (by omega) (by omega) ?_
  refine hg_topI (sc _) ?_
  refine hg_callVp (n := 253) h6 dL_law_250 rfl mk_L_22 yl_X6_step yv_X6_step rfl s7 (by decide) ⟨Nat.zero_le _, Nat.zero_le _⟩ rfl rfl (Nat.le_of_ble_eq_true rfl) (fun h => by cases h) ?_
  rintro _ M'' ⟨rfl, hI''⟩
  exact hg_icmp_eq (n := 256) (tgt := 900) dL_law_253 rfl (by decide) (fun _ => (hg_bud (by show 8 * r ≤ 8 * (r + 1) - 0 - 0; omega) (by show 52 * r ≤ 52 * (r + 1) - 0 - 0; omega) (s900 _ hI''))) (fun h => absurd rfl h)
set_option maxHeartbeats 4000000 in
set_option maxRecDepth 100000 in
theorem k_shell {L r i : Nat} (hL : L ≤ 3584) (hi : 7 * i + 7 ≤ L) {sh0 : SH_} {Q : Option V_ → Me_ → Prop} (h0 : ∀ k j n, sh0 k j = some n → k = 0 ∧ j = 0) {mi : MI_} {ml : ML_} {mr : MR_} {sh : SH_} (hI : Iv L (mi, ml, mr, sh)) (s900 : ∀ M, Iv L M → hg_G md_L_law true sh0 Q (8 * r) (52 * r) 900 [some (hv_r (some (0, 0))), some (hv_r (some (1, 0))), some (hv_r (some (7, 0))), some (hv_i (nI (7 * i)))] [] M) : hg_G md_L_law true sh0 Q (8 * (r + 1)) (52 * (r + 1)) 258 [some (hv_r (some (0, 0))), some (hv_r (some (1, 0))), some (hv_r (some (7, 0))), some (hv_i (nI (7 * i)))] [] (mi, ml, mr, sh) := by
  have g1 := (Iv_s hI).1
  have g7 := (Iv_s hI).2
  obtain ⟨w, hw⟩ := Q_shell hI (mi 0 0 (7 * i + 1)) (mi 0 0 (7 * i + 2)) (mi 0 0 (7 * i + 3))
  refine hg_aload_n (n := 259) dL_law_258 rfl rfl ?_
  refine hg_aload_n (n := 260) dL_law_259 rfl rfl ?_
  refine hg_iload_n (n := 261) dL_law_260 rfl rfl ?_
  refine hg_iconst (n := 262) (v := 1) dL_law_261 rfl (by decide) ?_
  refine hg_iaddN (n := 263) (7 * i) (1) dL_law_262 rfl ?_
  refine hg_script (n := 264) (len := L) (7 * i + 1) dL_law_263 rfl hI.1 rfl (by omega) (by omega) ?_
  refine hg_aload_n (n := 265) dL_law_264 rfl rfl ?_
  refine hg_iload_n (n := 266) dL_law_265 rfl rfl ?_
  refine hg_iconst (n := 267) (v := 2) dL_law_266 rfl (by decide) ?_
  refine hg_iaddN (n := 268) (7 * i) (2) dL_law_267 rfl ?_
  refine hg_script (n := 269) (len := L) (7 * i + 2) dL_law_268 rfl hI.1 rfl (by omega) (by omega) ?_
  refine hg_aload_n (n := 270) dL_law_269 rfl rfl ?_
  refine hg_iload_n (n := 271) dL_law_270 rfl rfl ?_
  refine hg_iconst (n := 272) (v := 3) dL_law_271 rfl (by decide) ?_
  refine hg_iaddN (n := 273) (7 * i) (3) dL_law_272 rfl ?_
  refine hg_script (n := 274) (len := L) (7 * i + 3) dL_law_273 rfl hI.1 rfl (by omega) (by omega) ?_
  refine hg_callVp (n := 277) hw dL_law_274 rfl mk_L_23 yl_X5_shell yv_X5_shell rfl g1 (by decide) ⟨by show 0 ≤ 8 * (r + 1); omega, by show 0 ≤ 52 * (r + 1); omega⟩ rfl rfl (Nat.le_of_ble_eq_true rfl) (fun h => by cases h) ?_
  rintro _ ⟨mi', ml', mr', sh'⟩ ⟨rfl, s0, s7, s1, sc, h6⟩
  have s0 : sh' 0 0 = some L := s0
  have s7 : sh' 7 0 = some 39 := s7
  have sc : ∀ j, mi' 0 0 j = mi 0 0 j := sc
  refine hg_aload_n (n := 278) dL_law_277 rfl rfl ?_
  refine hg_aload_n (n := 279) dL_law_278 rfl rfl ?_
  refine hg_iload_n (n := 280) dL_law_279 rfl rfl ?_
  refine hg_iconst (n := 281) (v := 1) dL_law_280 rfl (by decide) ?_
  refine hg_iaddN (n := 282) (7 * i) (1) dL_law_281 rfl ?_
  refine hg_script (n := 283) (len := L) (7 * i + 1) dL_law_282 rfl s0 rfl (by omega) (by omega) ?_
  refine hg_topI (sc _) ?_
  refine hg_aload_n (n := 284) dL_law_283 rfl rfl ?_
  refine hg_iload_n (n := 285) dL_law_284 rfl rfl ?_
  refine hg_iconst (n := 286) (v := 2) dL_law_285 rfl (by decide) ?_
  refine hg_iaddN (n := 287) (7 * i) (2) dL_law_286 rfl ?_
  refine hg_script (n := 288) (len := L) (7 * i + 2) dL_law_287 rfl s0 rfl (by omega) (by omega) ?_
  refine hg_topI (sc _) ?_
  refine hg_aload_n (n := 289) dL_law_288 rfl rfl ?_
  refine hg_iload_n (n := 290) dL_law_289 rfl rfl ?_
  refine hg_iconst (n := 291) (v := 3) dL_law_290 rfl (by decide) ?_
  refine hg_iaddN (n := 292) (7 * i) (3) dL_law_291 rfl ?_
  refine hg_script (n := 293) (len := L) (7 * i + 3) dL_law_292 rfl s0 rfl (by omega) (by omega) ?_
  refine hg_topI (sc _) ?_
  refine hg_callVp (n := 296) h6 dL_law_293 rfl mk_L_26 yl_X6_shell yv_X6_shell rfl s7 (by decide) ⟨Nat.zero_le _, Nat.zero_le _⟩ rfl rfl (Nat.le_of_ble_eq_true rfl) (fun h => by cases h) ?_
  rintro _ M'' ⟨rfl, hI''⟩
  exact hg_icmp_eq (n := 299) (tgt := 900) dL_law_296 rfl (by decide) (fun _ => (hg_bud (by show 8 * r ≤ 8 * (r + 1) - 0 - 0; omega) (by show 52 * r ≤ 52 * (r + 1) - 0 - 0; omega) (s900 _ hI''))) (fun h => absurd rfl h)
set_option maxHeartbeats 4000000 in
set_option maxRecDepth 100000 in
theorem k_taken {L r i : Nat} (hL : L ≤ 3584) (hi : 7 * i + 7 ≤ L) {sh0 : SH_} {Q : Option V_ → Me_ → Prop} (h0 : ∀ k j n, sh0 k j = some n → k = 0 ∧ j = 0) {mi : MI_} {ml : ML_} {mr : MR_} {sh : SH_} (hI : Iv L (mi, ml, mr, sh)) (s900 : ∀ M, Iv L M → hg_G md_L_law true sh0 Q (8 * r) (52 * r) 900 [some (hv_r (some (0, 0))), some (hv_r (some (1, 0))), some (hv_r (some (7, 0))), some (hv_i (nI (7 * i)))] [] M) : hg_G md_L_law true sh0 Q (8 * (r + 1)) (52 * (r + 1)) 301 [some (hv_r (some (0, 0))), some (hv_r (some (1, 0))), some (hv_r (some (7, 0))), some (hv_i (nI (7 * i)))] [] (mi, ml, mr, sh) := by
  have g1 := (Iv_s hI).1
  have g7 := (Iv_s hI).2
  obtain ⟨w, hw⟩ := Q_taken hI (mi 0 0 (7 * i + 1))
  refine hg_aload_n (n := 302) dL_law_301 rfl rfl ?_
  refine hg_aload_n (n := 303) dL_law_302 rfl rfl ?_
  refine hg_iload_n (n := 304) dL_law_303 rfl rfl ?_
  refine hg_iconst (n := 305) (v := 1) dL_law_304 rfl (by decide) ?_
  refine hg_iaddN (n := 306) (7 * i) (1) dL_law_305 rfl ?_
  refine hg_script (n := 307) (len := L) (7 * i + 1) dL_law_306 rfl hI.1 rfl (by omega) (by omega) ?_
  refine hg_callVp (n := 310) hw dL_law_307 rfl mk_L_27 yl_X5_taken yv_X5_taken rfl g1 (by decide) ⟨by show 0 ≤ 8 * (r + 1); omega, by show 0 ≤ 52 * (r + 1); omega⟩ rfl rfl (Nat.le_of_ble_eq_true rfl) (fun h => by cases h) ?_
  rintro _ ⟨mi', ml', mr', sh'⟩ ⟨rfl, s0, s7, s1, sc, h6⟩
  have s0 : sh' 0 0 = some L := s0
  have s7 : sh' 7 0 = some 39 := s7
  have sc : ∀ j, mi' 0 0 j = mi 0 0 j := sc
  refine hg_aload_n (n := 311) dL_law_310 rfl rfl ?_
  refine hg_aload_n (n := 312) dL_law_311 rfl rfl ?_
  refine hg_iload_n (n := 313) dL_law_312 rfl rfl ?_
  refine hg_iconst (n := 314) (v := 1) dL_law_313 rfl (by decide) ?_
  refine hg_iaddN (n := 315) (7 * i) (1) dL_law_314 rfl ?_
  refine hg_script (n := 316) (len := L) (7 * i + 1) dL_law_315 rfl s0 rfl (by omega) (by omega) ?_
  refine hg_topI (sc _) ?_
  refine hg_callVp (n := 319) h6 dL_law_316 rfl mk_L_31 yl_X6_taken yv_X6_taken rfl s7 (by decide) ⟨Nat.zero_le _, Nat.zero_le _⟩ rfl rfl (Nat.le_of_ble_eq_true rfl) (fun h => by cases h) ?_
  rintro _ M'' ⟨rfl, hI''⟩
  refine hg_lcmp (n := 320) dL_law_319 rfl ?_
  exact hg_if_eq (n := 323) (tgt := 900) dL_law_320 rfl (by decide) (fun _ => (hg_bud (by show 8 * r ≤ 8 * (r + 1) - 0 - 0; omega) (by show 52 * r ≤ 52 * (r + 1) - 0 - 0; omega) (s900 _ hI''))) (fun h => absurd (lcmp_0 _) h)
set_option maxHeartbeats 4000000 in
set_option maxRecDepth 100000 in
theorem k_kept {L r i : Nat} (hL : L ≤ 3584) (hi : 7 * i + 7 ≤ L) {sh0 : SH_} {Q : Option V_ → Me_ → Prop} (h0 : ∀ k j n, sh0 k j = some n → k = 0 ∧ j = 0) {mi : MI_} {ml : ML_} {mr : MR_} {sh : SH_} (hI : Iv L (mi, ml, mr, sh)) (s900 : ∀ M, Iv L M → hg_G md_L_law true sh0 Q (8 * r) (52 * r) 900 [some (hv_r (some (0, 0))), some (hv_r (some (1, 0))), some (hv_r (some (7, 0))), some (hv_i (nI (7 * i)))] [] M) : hg_G md_L_law true sh0 Q (8 * (r + 1)) (52 * (r + 1)) 325 [some (hv_r (some (0, 0))), some (hv_r (some (1, 0))), some (hv_r (some (7, 0))), some (hv_i (nI (7 * i)))] [] (mi, ml, mr, sh) := by
  have g1 := (Iv_s hI).1
  have g7 := (Iv_s hI).2
  obtain ⟨w, hw⟩ := Q_kept hI (mi 0 0 (7 * i + 1))
  refine hg_aload_n (n := 326) dL_law_325 rfl rfl ?_
  refine hg_aload_n (n := 327) dL_law_326 rfl rfl ?_
  refine hg_iload_n (n := 328) dL_law_327 rfl rfl ?_
  refine hg_iconst (n := 329) (v := 1) dL_law_328 rfl (by decide) ?_
  refine hg_iaddN (n := 330) (7 * i) (1) dL_law_329 rfl ?_
  refine hg_script (n := 331) (len := L) (7 * i + 1) dL_law_330 rfl hI.1 rfl (by omega) (by omega) ?_
  refine hg_callVp (n := 334) hw dL_law_331 rfl mk_L_32 yl_X5_kept yv_X5_kept rfl g1 (by decide) ⟨by show 0 ≤ 8 * (r + 1); omega, by show 0 ≤ 52 * (r + 1); omega⟩ rfl rfl (Nat.le_of_ble_eq_true rfl) (fun h => by cases h) ?_
  rintro _ ⟨mi', ml', mr', sh'⟩ ⟨rfl, s0, s7, s1, sc, h6⟩
  have s0 : sh' 0 0 = some L := s0
  have s7 : sh' 7 0 = some 39 := s7
  have sc : ∀ j, mi' 0 0 j = mi 0 0 j := sc
  refine hg_aload_n (n := 335) dL_law_334 rfl rfl ?_
  refine hg_aload_n (n := 336) dL_law_335 rfl rfl ?_
  refine hg_iload_n (n := 337) dL_law_336 rfl rfl ?_
  refine hg_iconst (n := 338) (v := 1) dL_law_337 rfl (by decide) ?_
  refine hg_iaddN (n := 339) (7 * i) (1) dL_law_338 rfl ?_
  refine hg_script (n := 340) (len := L) (7 * i + 1) dL_law_339 rfl s0 rfl (by omega) (by omega) ?_
  refine hg_topI (sc _) ?_
  refine hg_callVp (n := 343) h6 dL_law_340 rfl mk_L_35 yl_X6_kept yv_X6_kept rfl s7 (by decide) ⟨Nat.zero_le _, Nat.zero_le _⟩ rfl rfl (Nat.le_of_ble_eq_true rfl) (fun h => by cases h) ?_
  rintro _ M'' ⟨rfl, hI''⟩
  refine hg_lcmp (n := 344) dL_law_343 rfl ?_
  exact hg_if_eq (n := 347) (tgt := 900) dL_law_344 rfl (by decide) (fun _ => (hg_bud (by show 8 * r ≤ 8 * (r + 1) - 0 - 0; omega) (by show 52 * r ≤ 52 * (r + 1) - 0 - 0; omega) (s900 _ hI''))) (fun h => absurd (lcmp_0 _) h)
set_option maxHeartbeats 4000000 in
set_option maxRecDepth 100000 in
theorem k_line {L r i : Nat} (hL : L ≤ 3584) (hi : 7 * i + 7 ≤ L) {sh0 : SH_} {Q : Option V_ → Me_ → Prop} (h0 : ∀ k j n, sh0 k j = some n → k = 0 ∧ j = 0) {mi : MI_} {ml : ML_} {mr : MR_} {sh : SH_} (hI : Iv L (mi, ml, mr, sh)) (s900 : ∀ M, Iv L M → hg_G md_L_law true sh0 Q (8 * r) (52 * r) 900 [some (hv_r (some (0, 0))), some (hv_r (some (1, 0))), some (hv_r (some (7, 0))), some (hv_i (nI (7 * i)))] [] M) : hg_G md_L_law true sh0 Q (8 * (r + 1)) (52 * (r + 1)) 349 [some (hv_r (some (0, 0))), some (hv_r (some (1, 0))), some (hv_r (some (7, 0))), some (hv_i (nI (7 * i)))] [] (mi, ml, mr, sh) := by
  have g1 := (Iv_s hI).1
  have g7 := (Iv_s hI).2
  obtain ⟨w, hw⟩ := Q_line hI (mi 0 0 (7 * i + 1)) (mi 0 0 (7 * i + 2)) (mi 0 0 (7 * i + 3)) (mi 0 0 (7 * i + 4))
  refine hg_aload_n (n := 350) dL_law_349 rfl rfl ?_
  refine hg_aload_n (n := 351) dL_law_350 rfl rfl ?_
  refine hg_iload_n (n := 352) dL_law_351 rfl rfl ?_
  refine hg_iconst (n := 353) (v := 1) dL_law_352 rfl (by decide) ?_
  refine hg_iaddN (n := 354) (7 * i) (1) dL_law_353 rfl ?_
  refine hg_script (n := 355) (len := L) (7 * i + 1) dL_law_354 rfl hI.1 rfl (by omega) (by omega) ?_
  refine hg_aload_n (n := 356) dL_law_355 rfl rfl ?_
  refine hg_iload_n (n := 357) dL_law_356 rfl rfl ?_
  refine hg_iconst (n := 358) (v := 2) dL_law_357 rfl (by decide) ?_
  refine hg_iaddN (n := 359) (7 * i) (2) dL_law_358 rfl ?_
  refine hg_script (n := 360) (len := L) (7 * i + 2) dL_law_359 rfl hI.1 rfl (by omega) (by omega) ?_
  refine hg_aload_n (n := 361) dL_law_360 rfl rfl ?_
  refine hg_iload_n (n := 362) dL_law_361 rfl rfl ?_
  refine hg_iconst (n := 363) (v := 3) dL_law_362 rfl (by decide) ?_
  refine hg_iaddN (n := 364) (7 * i) (3) dL_law_363 rfl ?_
  refine hg_script (n := 365) (len := L) (7 * i + 3) dL_law_364 rfl hI.1 rfl (by omega) (by omega) ?_
  refine hg_aload_n (n := 366) dL_law_365 rfl rfl ?_
  refine hg_iload_n (n := 367) dL_law_366 rfl rfl ?_
  refine hg_iconst (n := 368) (v := 4) dL_law_367 rfl (by decide) ?_
  refine hg_iaddN (n := 369) (7 * i) (4) dL_law_368 rfl ?_
  refine hg_script (n := 370) (len := L) (7 * i + 4) dL_law_369 rfl hI.1 rfl (by omega) (by omega) ?_
  refine hg_callVp (n := 373) hw dL_law_370 rfl mk_L_36 yl_X5_line yv_X5_line rfl g1 (by decide) ⟨by show 0 ≤ 8 * (r + 1); omega, by show 0 ≤ 52 * (r + 1); omega⟩ rfl rfl (Nat.le_of_ble_eq_true rfl) (fun h => by cases h) ?_
  rintro _ ⟨mi', ml', mr', sh'⟩ ⟨rfl, s0, s7, s1, sc, h6⟩
  have s0 : sh' 0 0 = some L := s0
  have s7 : sh' 7 0 = some 39 := s7
  have sc : ∀ j, mi' 0 0 j = mi 0 0 j := sc
  refine hg_aload_n (n := 374) dL_law_373 rfl rfl ?_
  refine hg_aload_n (n := 375) dL_law_374 rfl rfl ?_
  refine hg_iload_n (n := 376) dL_law_375 rfl rfl ?_
  refine hg_iconst (n := 377) (v := 1) dL_law_376 rfl (by decide) ?_
  refine hg_iaddN (n := 378) (7 * i) (1) dL_law_377 rfl ?_
  refine hg_script (n := 379) (len := L) (7 * i + 1) dL_law_378 rfl s0 rfl (by omega) (by omega) ?_
  refine hg_topI (sc _) ?_
  refine hg_aload_n (n := 380) dL_law_379 rfl rfl ?_
  refine hg_iload_n (n := 381) dL_law_380 rfl rfl ?_
  refine hg_iconst (n := 382) (v := 2) dL_law_381 rfl (by decide) ?_
  refine hg_iaddN (n := 383) (7 * i) (2) dL_law_382 rfl ?_
  refine hg_script (n := 384) (len := L) (7 * i + 2) dL_law_383 rfl s0 rfl (by omega) (by omega) ?_
  refine hg_topI (sc _) ?_
  refine hg_aload_n (n := 385) dL_law_384 rfl rfl ?_
  refine hg_iload_n (n := 386) dL_law_385 rfl rfl ?_
  refine hg_iconst (n := 387) (v := 3) dL_law_386 rfl (by decide) ?_
  refine hg_iaddN (n := 388) (7 * i) (3) dL_law_387 rfl ?_
  refine hg_script (n := 389) (len := L) (7 * i + 3) dL_law_388 rfl s0 rfl (by omega) (by omega) ?_
  refine hg_topI (sc _) ?_
  refine hg_aload_n (n := 390) dL_law_389 rfl rfl ?_
  refine hg_iload_n (n := 391) dL_law_390 rfl rfl ?_
  refine hg_iconst (n := 392) (v := 4) dL_law_391 rfl (by decide) ?_
  refine hg_iaddN (n := 393) (7 * i) (4) dL_law_392 rfl ?_
  refine hg_script (n := 394) (len := L) (7 * i + 4) dL_law_393 rfl s0 rfl (by omega) (by omega) ?_
  refine hg_topI (sc _) ?_
  refine hg_callVp (n := 397) h6 dL_law_394 rfl mk_L_40 yl_X6_line yv_X6_line rfl s7 (by decide) ⟨Nat.zero_le _, Nat.zero_le _⟩ rfl rfl (Nat.le_of_ble_eq_true rfl) (fun h => by cases h) ?_
  rintro _ M'' ⟨rfl, hI''⟩
  exact hg_icmp_eq (n := 400) (tgt := 900) dL_law_397 rfl (by decide) (fun _ => (hg_bud (by show 8 * r ≤ 8 * (r + 1) - 0 - 0; omega) (by show 52 * r ≤ 52 * (r + 1) - 0 - 0; omega) (s900 _ hI''))) (fun h => absurd rfl h)
set_option maxHeartbeats 4000000 in
set_option maxRecDepth 100000 in
theorem k_clear {L r i : Nat} (hL : L ≤ 3584) (hi : 7 * i + 7 ≤ L) {sh0 : SH_} {Q : Option V_ → Me_ → Prop} (h0 : ∀ k j n, sh0 k j = some n → k = 0 ∧ j = 0) {mi : MI_} {ml : ML_} {mr : MR_} {sh : SH_} (hI : Iv L (mi, ml, mr, sh)) (s900 : ∀ M, Iv L M → hg_G md_L_law true sh0 Q (8 * r) (52 * r) 900 [some (hv_r (some (0, 0))), some (hv_r (some (1, 0))), some (hv_r (some (7, 0))), some (hv_i (nI (7 * i)))] [] M) : hg_G md_L_law true sh0 Q (8 * (r + 1)) (52 * (r + 1)) 402 [some (hv_r (some (0, 0))), some (hv_r (some (1, 0))), some (hv_r (some (7, 0))), some (hv_i (nI (7 * i)))] [] (mi, ml, mr, sh) := by
  have g1 := (Iv_s hI).1
  have g7 := (Iv_s hI).2
  obtain ⟨w, hw⟩ := Q_clear hI (mi 0 0 (7 * i + 1))
  refine hg_aload_n (n := 403) dL_law_402 rfl rfl ?_
  refine hg_aload_n (n := 404) dL_law_403 rfl rfl ?_
  refine hg_iload_n (n := 405) dL_law_404 rfl rfl ?_
  refine hg_iconst (n := 406) (v := 1) dL_law_405 rfl (by decide) ?_
  refine hg_iaddN (n := 407) (7 * i) (1) dL_law_406 rfl ?_
  refine hg_script (n := 408) (len := L) (7 * i + 1) dL_law_407 rfl hI.1 rfl (by omega) (by omega) ?_
  refine hg_callVp (n := 411) hw dL_law_408 rfl mk_L_41 yl_X5_clear yv_X5_clear rfl g1 (by decide) ⟨by show 0 ≤ 8 * (r + 1); omega, by show 0 ≤ 52 * (r + 1); omega⟩ rfl rfl (Nat.le_of_ble_eq_true rfl) (fun h => by cases h) ?_
  rintro _ ⟨mi', ml', mr', sh'⟩ ⟨rfl, s0, s7, s1, sc, h6⟩
  have s0 : sh' 0 0 = some L := s0
  have s7 : sh' 7 0 = some 39 := s7
  have sc : ∀ j, mi' 0 0 j = mi 0 0 j := sc
  refine hg_aload_n (n := 412) dL_law_411 rfl rfl ?_
  refine hg_aload_n (n := 413) dL_law_412 rfl rfl ?_
  refine hg_iload_n (n := 414) dL_law_413 rfl rfl ?_
  refine hg_iconst (n := 415) (v := 1) dL_law_414 rfl (by decide) ?_
  refine hg_iaddN (n := 416) (7 * i) (1) dL_law_415 rfl ?_
  refine hg_script (n := 417) (len := L) (7 * i + 1) dL_law_416 rfl s0 rfl (by omega) (by omega) ?_
  refine hg_topI (sc _) ?_
  refine hg_callVp (n := 420) h6 dL_law_417 rfl mk_L_45 yl_X6_clear yv_X6_clear rfl s7 (by decide) ⟨Nat.zero_le _, Nat.zero_le _⟩ rfl rfl (Nat.le_of_ble_eq_true rfl) (fun h => by cases h) ?_
  rintro _ M'' ⟨rfl, hI''⟩
  exact hg_icmp_eq (n := 423) (tgt := 900) dL_law_420 rfl (by decide) (fun _ => (hg_bud (by show 8 * r ≤ 8 * (r + 1) - 0 - 0; omega) (by show 52 * r ≤ 52 * (r + 1) - 0 - 0; omega) (s900 _ hI''))) (fun h => absurd rfl h)
set_option maxHeartbeats 4000000 in
set_option maxRecDepth 100000 in
theorem k_load {L r i : Nat} (hL : L ≤ 3584) (hi : 7 * i + 7 ≤ L) {sh0 : SH_} {Q : Option V_ → Me_ → Prop} (h0 : ∀ k j n, sh0 k j = some n → k = 0 ∧ j = 0) {mi : MI_} {ml : ML_} {mr : MR_} {sh : SH_} (hI : Iv L (mi, ml, mr, sh)) (s900 : ∀ M, Iv L M → hg_G md_L_law true sh0 Q (8 * r) (52 * r) 900 [some (hv_r (some (0, 0))), some (hv_r (some (1, 0))), some (hv_r (some (7, 0))), some (hv_i (nI (7 * i)))] [] M) : hg_G md_L_law true sh0 Q (8 * (r + 1)) (52 * (r + 1)) 425 [some (hv_r (some (0, 0))), some (hv_r (some (1, 0))), some (hv_r (some (7, 0))), some (hv_i (nI (7 * i)))] [] (mi, ml, mr, sh) := by
  have g1 := (Iv_s hI).1
  have g7 := (Iv_s hI).2
  obtain ⟨w, hw⟩ := Q_load hI (mi 0 0 (7 * i + 1)) (mi 0 0 (7 * i + 2)) (mi 0 0 (7 * i + 3))
  refine hg_aload_n (n := 426) dL_law_425 rfl rfl ?_
  refine hg_aload_n (n := 427) dL_law_426 rfl rfl ?_
  refine hg_iload_n (n := 428) dL_law_427 rfl rfl ?_
  refine hg_iconst (n := 429) (v := 1) dL_law_428 rfl (by decide) ?_
  refine hg_iaddN (n := 430) (7 * i) (1) dL_law_429 rfl ?_
  refine hg_script (n := 431) (len := L) (7 * i + 1) dL_law_430 rfl hI.1 rfl (by omega) (by omega) ?_
  refine hg_aload_n (n := 432) dL_law_431 rfl rfl ?_
  refine hg_iload_n (n := 433) dL_law_432 rfl rfl ?_
  refine hg_iconst (n := 434) (v := 2) dL_law_433 rfl (by decide) ?_
  refine hg_iaddN (n := 435) (7 * i) (2) dL_law_434 rfl ?_
  refine hg_script (n := 436) (len := L) (7 * i + 2) dL_law_435 rfl hI.1 rfl (by omega) (by omega) ?_
  refine hg_aload_n (n := 437) dL_law_436 rfl rfl ?_
  refine hg_iload_n (n := 438) dL_law_437 rfl rfl ?_
  refine hg_iconst (n := 439) (v := 3) dL_law_438 rfl (by decide) ?_
  refine hg_iaddN (n := 440) (7 * i) (3) dL_law_439 rfl ?_
  refine hg_script (n := 441) (len := L) (7 * i + 3) dL_law_440 rfl hI.1 rfl (by omega) (by omega) ?_
  refine hg_callVp (n := 444) hw dL_law_441 rfl mk_L_46 yl_X5_load yv_X5_load rfl g1 (by decide) ⟨by show 0 ≤ 8 * (r + 1); omega, by show 0 ≤ 52 * (r + 1); omega⟩ rfl rfl (Nat.le_of_ble_eq_true rfl) (fun h => by cases h) ?_
  rintro _ ⟨mi', ml', mr', sh'⟩ ⟨rfl, s0, s7, s1, sc, h6⟩
  have s0 : sh' 0 0 = some L := s0
  have s7 : sh' 7 0 = some 39 := s7
  have sc : ∀ j, mi' 0 0 j = mi 0 0 j := sc
  refine hg_aload_n (n := 445) dL_law_444 rfl rfl ?_
  refine hg_aload_n (n := 446) dL_law_445 rfl rfl ?_
  refine hg_iload_n (n := 447) dL_law_446 rfl rfl ?_
  refine hg_iconst (n := 448) (v := 1) dL_law_447 rfl (by decide) ?_
  refine hg_iaddN (n := 449) (7 * i) (1) dL_law_448 rfl ?_
  refine hg_script (n := 450) (len := L) (7 * i + 1) dL_law_449 rfl s0 rfl (by omega) (by omega) ?_
  refine hg_topI (sc _) ?_
  refine hg_aload_n (n := 451) dL_law_450 rfl rfl ?_
  refine hg_iload_n (n := 452) dL_law_451 rfl rfl ?_
  refine hg_iconst (n := 453) (v := 2) dL_law_452 rfl (by decide) ?_
  refine hg_iaddN (n := 454) (7 * i) (2) dL_law_453 rfl ?_
  refine hg_script (n := 455) (len := L) (7 * i + 2) dL_law_454 rfl s0 rfl (by omega) (by omega) ?_
  refine hg_topI (sc _) ?_
  refine hg_aload_n (n := 456) dL_law_455 rfl rfl ?_
  refine hg_iload_n (n := 457) dL_law_456 rfl rfl ?_
  refine hg_iconst (n := 458) (v := 3) dL_law_457 rfl (by decide) ?_
  refine hg_iaddN (n := 459) (7 * i) (3) dL_law_458 rfl ?_
  refine hg_script (n := 460) (len := L) (7 * i + 3) dL_law_459 rfl s0 rfl (by omega) (by omega) ?_
  refine hg_topI (sc _) ?_
  refine hg_callVp (n := 463) h6 dL_law_460 rfl mk_L_49 yl_X6_load yv_X6_load rfl s7 (by decide) ⟨Nat.zero_le _, Nat.zero_le _⟩ rfl rfl (Nat.le_of_ble_eq_true rfl) (fun h => by cases h) ?_
  rintro _ M'' ⟨rfl, hI''⟩
  exact hg_icmp_eq (n := 466) (tgt := 900) dL_law_463 rfl (by decide) (fun _ => (hg_bud (by show 8 * r ≤ 8 * (r + 1) - 0 - 0; omega) (by show 52 * r ≤ 52 * (r + 1) - 0 - 0; omega) (s900 _ hI''))) (fun h => absurd rfl h)
set_option maxHeartbeats 4000000 in
set_option maxRecDepth 100000 in
theorem k_unload {L r i : Nat} (hL : L ≤ 3584) (hi : 7 * i + 7 ≤ L) {sh0 : SH_} {Q : Option V_ → Me_ → Prop} (h0 : ∀ k j n, sh0 k j = some n → k = 0 ∧ j = 0) {mi : MI_} {ml : ML_} {mr : MR_} {sh : SH_} (hI : Iv L (mi, ml, mr, sh)) (s900 : ∀ M, Iv L M → hg_G md_L_law true sh0 Q (8 * r) (52 * r) 900 [some (hv_r (some (0, 0))), some (hv_r (some (1, 0))), some (hv_r (some (7, 0))), some (hv_i (nI (7 * i)))] [] M) : hg_G md_L_law true sh0 Q (8 * (r + 1)) (52 * (r + 1)) 468 [some (hv_r (some (0, 0))), some (hv_r (some (1, 0))), some (hv_r (some (7, 0))), some (hv_i (nI (7 * i)))] [] (mi, ml, mr, sh) := by
  have g1 := (Iv_s hI).1
  have g7 := (Iv_s hI).2
  obtain ⟨w, hw⟩ := Q_unload hI (mi 0 0 (7 * i + 1)) (mi 0 0 (7 * i + 2))
  refine hg_aload_n (n := 469) dL_law_468 rfl rfl ?_
  refine hg_aload_n (n := 470) dL_law_469 rfl rfl ?_
  refine hg_iload_n (n := 471) dL_law_470 rfl rfl ?_
  refine hg_iconst (n := 472) (v := 1) dL_law_471 rfl (by decide) ?_
  refine hg_iaddN (n := 473) (7 * i) (1) dL_law_472 rfl ?_
  refine hg_script (n := 474) (len := L) (7 * i + 1) dL_law_473 rfl hI.1 rfl (by omega) (by omega) ?_
  refine hg_aload_n (n := 475) dL_law_474 rfl rfl ?_
  refine hg_iload_n (n := 476) dL_law_475 rfl rfl ?_
  refine hg_iconst (n := 477) (v := 2) dL_law_476 rfl (by decide) ?_
  refine hg_iaddN (n := 478) (7 * i) (2) dL_law_477 rfl ?_
  refine hg_script (n := 479) (len := L) (7 * i + 2) dL_law_478 rfl hI.1 rfl (by omega) (by omega) ?_
  refine hg_callVp (n := 482) hw dL_law_479 rfl mk_L_50 yl_X5_unload yv_X5_unload rfl g1 (by decide) ⟨by show 0 ≤ 8 * (r + 1); omega, by show 0 ≤ 52 * (r + 1); omega⟩ rfl rfl (Nat.le_of_ble_eq_true rfl) (fun h => by cases h) ?_
  rintro _ ⟨mi', ml', mr', sh'⟩ ⟨rfl, s0, s7, s1, sc, h6⟩
  have s0 : sh' 0 0 = some L := s0
  have s7 : sh' 7 0 = some 39 := s7
  have sc : ∀ j, mi' 0 0 j = mi 0 0 j := sc
  refine hg_aload_n (n := 483) dL_law_482 rfl rfl ?_
  refine hg_aload_n (n := 484) dL_law_483 rfl rfl ?_
  refine hg_iload_n (n := 485) dL_law_484 rfl rfl ?_
  refine hg_iconst (n := 486) (v := 1) dL_law_485 rfl (by decide) ?_
  refine hg_iaddN (n := 487) (7 * i) (1) dL_law_486 rfl ?_
  refine hg_script (n := 488) (len := L) (7 * i + 1) dL_law_487 rfl s0 rfl (by omega) (by omega) ?_
  refine hg_topI (sc _) ?_
  refine hg_aload_n (n := 489) dL_law_488 rfl rfl ?_
  refine hg_iload_n (n := 490) dL_law_489 rfl rfl ?_
  refine hg_iconst (n := 491) (v := 2) dL_law_490 rfl (by decide) ?_
  refine hg_iaddN (n := 492) (7 * i) (2) dL_law_491 rfl ?_
  refine hg_script (n := 493) (len := L) (7 * i + 2) dL_law_492 rfl s0 rfl (by omega) (by omega) ?_
  refine hg_topI (sc _) ?_
  refine hg_callVp (n := 496) h6 dL_law_493 rfl mk_L_54 yl_X6_unload yv_X6_unload rfl s7 (by decide) ⟨Nat.zero_le _, Nat.zero_le _⟩ rfl rfl (Nat.le_of_ble_eq_true rfl) (fun h => by cases h) ?_
  rintro _ M'' ⟨rfl, hI''⟩
  exact hg_icmp_eq (n := 499) (tgt := 900) dL_law_496 rfl (by decide) (fun _ => (hg_bud (by show 8 * r ≤ 8 * (r + 1) - 0 - 0; omega) (by show 52 * r ≤ 52 * (r + 1) - 0 - 0; omega) (s900 _ hI''))) (fun h => absurd rfl h)
set_option maxHeartbeats 4000000 in
set_option maxRecDepth 100000 in
theorem k_probe {L r i : Nat} (hL : L ≤ 3584) (hi : 7 * i + 7 ≤ L) {sh0 : SH_} {Q : Option V_ → Me_ → Prop} (h0 : ∀ k j n, sh0 k j = some n → k = 0 ∧ j = 0) {mi : MI_} {ml : ML_} {mr : MR_} {sh : SH_} (hI : Iv L (mi, ml, mr, sh)) (s900 : ∀ M, Iv L M → hg_G md_L_law true sh0 Q (8 * r) (52 * r) 900 [some (hv_r (some (0, 0))), some (hv_r (some (1, 0))), some (hv_r (some (7, 0))), some (hv_i (nI (7 * i)))] [] M) : hg_G md_L_law true sh0 Q (8 * (r + 1)) (52 * (r + 1)) 501 [some (hv_r (some (0, 0))), some (hv_r (some (1, 0))), some (hv_r (some (7, 0))), some (hv_i (nI (7 * i)))] [] (mi, ml, mr, sh) := by
  have g1 := (Iv_s hI).1
  have g7 := (Iv_s hI).2
  obtain ⟨w, hw⟩ := Q_probe hI (mi 0 0 (7 * i + 1)) (mi 0 0 (7 * i + 2)) (if mi 0 0 (7 * i + 3) = 0 then 0 else 1) (mi 0 0 (7 * i + 4)) (by split; exact Or.inl rfl; exact Or.inr rfl)
  have s525 : hg_G md_L_law true sh0 Q (8 * (r + 1)) (52 * (r + 1)) 525 [some (hv_r (some (0, 0))), some (hv_r (some (1, 0))), some (hv_r (some (7, 0))), some (hv_i (nI (7 * i)))] [hv_i (if mi 0 0 (7 * i + 3) = 0 then 0 else 1), hv_i (mi 0 0 (7 * i + 2)), hv_i (mi 0 0 (7 * i + 1)), hv_r (some (1, 0))] (mi, ml, mr, sh) := by
    refine hg_aload_n (n := 526) dL_law_525 rfl rfl ?_
    refine hg_iload_n (n := 527) dL_law_526 rfl rfl ?_
    refine hg_iconst (n := 528) (v := 4) dL_law_527 rfl (by decide) ?_
    refine hg_iaddN (n := 529) (7 * i) (4) dL_law_528 rfl ?_
    refine hg_script (n := 530) (len := L) (7 * i + 4) dL_law_529 rfl hI.1 rfl (by omega) (by omega) ?_
    refine hg_callVp (n := 533) hw dL_law_530 rfl mk_L_55 yl_X5_probe yv_X5_probe rfl g1 (by decide) ⟨by show 0 ≤ 8 * (r + 1); omega, by show 0 ≤ 52 * (r + 1); omega⟩ rfl rfl (Nat.le_of_ble_eq_true rfl) (fun h => by cases h) ?_
    rintro _ ⟨mi', ml', mr', sh'⟩ ⟨rfl, s0, s7, s1, sc, h6⟩
    have s0 : sh' 0 0 = some L := s0
    have s7 : sh' 7 0 = some 39 := s7
    have sc : ∀ j, mi' 0 0 j = mi 0 0 j := sc
    refine hg_aload_n (n := 534) dL_law_533 rfl rfl ?_
    refine hg_aload_n (n := 535) dL_law_534 rfl rfl ?_
    refine hg_iload_n (n := 536) dL_law_535 rfl rfl ?_
    refine hg_iconst (n := 537) (v := 1) dL_law_536 rfl (by decide) ?_
    refine hg_iaddN (n := 538) (7 * i) (1) dL_law_537 rfl ?_
    refine hg_script (n := 539) (len := L) (7 * i + 1) dL_law_538 rfl s0 rfl (by omega) (by omega) ?_
    refine hg_topI (sc _) ?_
    refine hg_aload_n (n := 540) dL_law_539 rfl rfl ?_
    refine hg_iload_n (n := 541) dL_law_540 rfl rfl ?_
    refine hg_iconst (n := 542) (v := 2) dL_law_541 rfl (by decide) ?_
    refine hg_iaddN (n := 543) (7 * i) (2) dL_law_542 rfl ?_
    refine hg_script (n := 544) (len := L) (7 * i + 2) dL_law_543 rfl s0 rfl (by omega) (by omega) ?_
    refine hg_topI (sc _) ?_
    refine hg_aload_n (n := 545) dL_law_544 rfl rfl ?_
    refine hg_iload_n (n := 546) dL_law_545 rfl rfl ?_
    refine hg_iconst (n := 547) (v := 3) dL_law_546 rfl (by decide) ?_
    refine hg_iaddN (n := 548) (7 * i) (3) dL_law_547 rfl ?_
    refine hg_script (n := 549) (len := L) (7 * i + 3) dL_law_548 rfl s0 rfl (by omega) (by omega) ?_
    refine hg_topI (sc _) ?_
    have s557 : hg_G md_L_law true sh0 Q (8 * (r + 1) - md_mc md_X5_probe) (52 * (r + 1) - md_ms md_X5_probe) 557 [some (hv_r (some (0, 0))), some (hv_r (some (1, 0))), some (hv_r (some (7, 0))), some (hv_i (nI (7 * i)))] [hv_i (if mi 0 0 (7 * i + 3) = 0 then 0 else 1), hv_i (mi 0 0 (7 * i + 2)), hv_i (mi 0 0 (7 * i + 1)), hv_r (some (7, 0)), hv_i w] (mi', ml', mr', sh') := by
      refine hg_aload_n (n := 558) dL_law_557 rfl rfl ?_
      refine hg_iload_n (n := 559) dL_law_558 rfl rfl ?_
      refine hg_iconst (n := 560) (v := 4) dL_law_559 rfl (by decide) ?_
      refine hg_iaddN (n := 561) (7 * i) (4) dL_law_560 rfl ?_
      refine hg_script (n := 562) (len := L) (7 * i + 4) dL_law_561 rfl s0 rfl (by omega) (by omega) ?_
      refine hg_topI (sc _) ?_
      refine hg_callVp (n := 565) h6 dL_law_562 rfl mk_L_59 yl_X6_probe yv_X6_probe rfl s7 (by decide) ⟨Nat.zero_le _, Nat.zero_le _⟩ rfl rfl (Nat.le_of_ble_eq_true rfl) (fun h => by cases h) ?_
      rintro _ M'' ⟨rfl, hI''⟩
      exact hg_icmp_eq (n := 568) (tgt := 900) dL_law_565 rfl (by decide) (fun _ => (hg_bud (by show 8 * r ≤ 8 * (r + 1) - 0 - 0; omega) (by show 52 * r ≤ 52 * (r + 1) - 0 - 0; omega) (s900 _ hI''))) (fun h => absurd rfl h)
    refine hg_if_eq (n := 552) (tgt := 556) dL_law_549 rfl (by decide) (fun h => ?_) (fun h => ?_)
    · refine hg_iconst (n := 557) (v := 0) dL_law_556 rfl (by decide) ?_
      exact hg_topI (by rw [if_pos h]) s557
    · refine hg_iconst (n := 553) (v := 1) dL_law_552 rfl (by decide) ?_
      refine hg_goto (tgt := 557) dL_law_553 (by decide) ?_
      exact hg_topI (by rw [if_neg h]) s557
  refine hg_aload_n (n := 502) dL_law_501 rfl rfl ?_
  refine hg_aload_n (n := 503) dL_law_502 rfl rfl ?_
  refine hg_iload_n (n := 504) dL_law_503 rfl rfl ?_
  refine hg_iconst (n := 505) (v := 1) dL_law_504 rfl (by decide) ?_
  refine hg_iaddN (n := 506) (7 * i) (1) dL_law_505 rfl ?_
  refine hg_script (n := 507) (len := L) (7 * i + 1) dL_law_506 rfl hI.1 rfl (by omega) (by omega) ?_
  refine hg_aload_n (n := 508) dL_law_507 rfl rfl ?_
  refine hg_iload_n (n := 509) dL_law_508 rfl rfl ?_
  refine hg_iconst (n := 510) (v := 2) dL_law_509 rfl (by decide) ?_
  refine hg_iaddN (n := 511) (7 * i) (2) dL_law_510 rfl ?_
  refine hg_script (n := 512) (len := L) (7 * i + 2) dL_law_511 rfl hI.1 rfl (by omega) (by omega) ?_
  refine hg_aload_n (n := 513) dL_law_512 rfl rfl ?_
  refine hg_iload_n (n := 514) dL_law_513 rfl rfl ?_
  refine hg_iconst (n := 515) (v := 3) dL_law_514 rfl (by decide) ?_
  refine hg_iaddN (n := 516) (7 * i) (3) dL_law_515 rfl ?_
  refine hg_script (n := 517) (len := L) (7 * i + 3) dL_law_516 rfl hI.1 rfl (by omega) (by omega) ?_
  refine hg_if_eq (n := 520) (tgt := 524) dL_law_517 rfl (by decide) (fun h => ?_) (fun h => ?_)
  · refine hg_iconst (n := 525) (v := 0) dL_law_524 rfl (by decide) ?_
    exact hg_topI (by rw [if_pos h]) s525
  · refine hg_iconst (n := 521) (v := 1) dL_law_520 rfl (by decide) ?_
    refine hg_goto (tgt := 525) dL_law_521 (by decide) ?_
    exact hg_topI (by rw [if_neg h]) s525
set_option maxHeartbeats 4000000 in
set_option maxRecDepth 100000 in
theorem k_run {L r i : Nat} (hL : L ≤ 3584) (hi : 7 * i + 7 ≤ L) {sh0 : SH_} {Q : Option V_ → Me_ → Prop} (h0 : ∀ k j n, sh0 k j = some n → k = 0 ∧ j = 0) {mi : MI_} {ml : ML_} {mr : MR_} {sh : SH_} (hI : Iv L (mi, ml, mr, sh)) (s900 : ∀ M, Iv L M → hg_G md_L_law true sh0 Q (8 * r) (52 * r) 900 [some (hv_r (some (0, 0))), some (hv_r (some (1, 0))), some (hv_r (some (7, 0))), some (hv_i (nI (7 * i)))] [] M) : hg_G md_L_law true sh0 Q (8 * (r + 1)) (52 * (r + 1)) 570 [some (hv_r (some (0, 0))), some (hv_r (some (1, 0))), some (hv_r (some (7, 0))), some (hv_i (nI (7 * i)))] [] (mi, ml, mr, sh) := by
  have g1 := (Iv_s hI).1
  have g7 := (Iv_s hI).2
  obtain ⟨w, hw⟩ := Q_run hI (mi 0 0 (7 * i + 1))
  refine hg_aload_n (n := 571) dL_law_570 rfl rfl ?_
  refine hg_aload_n (n := 572) dL_law_571 rfl rfl ?_
  refine hg_iload_n (n := 573) dL_law_572 rfl rfl ?_
  refine hg_iconst (n := 574) (v := 1) dL_law_573 rfl (by decide) ?_
  refine hg_iaddN (n := 575) (7 * i) (1) dL_law_574 rfl ?_
  refine hg_script (n := 576) (len := L) (7 * i + 1) dL_law_575 rfl hI.1 rfl (by omega) (by omega) ?_
  refine hg_callVp (n := 579) hw dL_law_576 rfl mk_L_60 yl_X5_run yv_X5_run rfl g1 (by decide) ⟨by show 1 ≤ 8 * (r + 1); omega, by show 6 ≤ 52 * (r + 1); omega⟩ rfl rfl (Nat.le_of_ble_eq_true rfl) (fun _ => ⟨rfl, lv_nil, ol_some ⟨_, hI.1⟩ (ol_some ⟨_, g1⟩ (ol_some ⟨_, g7⟩ (ol_some trivial ol_nil))), fun k j n h => by obtain ⟨rfl, rfl⟩ := h0 k j n h; exact ⟨_, hI.1⟩⟩) ?_
  rintro _ ⟨mi', ml', mr', sh'⟩ ⟨rfl, s0, s7, s1, sc, h6⟩
  have s0 : sh' 0 0 = some L := s0
  have s7 : sh' 7 0 = some 39 := s7
  have sc : ∀ j, mi' 0 0 j = mi 0 0 j := sc
  refine hg_aload_n (n := 580) dL_law_579 rfl rfl ?_
  refine hg_aload_n (n := 581) dL_law_580 rfl rfl ?_
  refine hg_iload_n (n := 582) dL_law_581 rfl rfl ?_
  refine hg_iconst (n := 583) (v := 1) dL_law_582 rfl (by decide) ?_
  refine hg_iaddN (n := 584) (7 * i) (1) dL_law_583 rfl ?_
  refine hg_script (n := 585) (len := L) (7 * i + 1) dL_law_584 rfl s0 rfl (by omega) (by omega) ?_
  refine hg_topI (sc _) ?_
  refine hg_callVp (n := 588) h6 dL_law_585 rfl mk_L_63 yl_X6_run yv_X6_run rfl s7 (by decide) ⟨Nat.zero_le _, Nat.zero_le _⟩ rfl rfl (Nat.le_of_ble_eq_true rfl) (fun h => by cases h) ?_
  rintro _ M'' ⟨rfl, hI''⟩
  exact hg_icmp_eq (n := 591) (tgt := 900) dL_law_588 rfl (by decide) (fun _ => (hg_bud (by show 8 * r ≤ 8 * (r + 1) - 1 - 0; omega) (by show 52 * r ≤ 52 * (r + 1) - 6 - 0; omega) (s900 _ hI''))) (fun h => absurd rfl h)
set_option maxHeartbeats 4000000 in
set_option maxRecDepth 100000 in
theorem k_tick {L r i : Nat} (hL : L ≤ 3584) (hi : 7 * i + 7 ≤ L) {sh0 : SH_} {Q : Option V_ → Me_ → Prop} (h0 : ∀ k j n, sh0 k j = some n → k = 0 ∧ j = 0) {mi : MI_} {ml : ML_} {mr : MR_} {sh : SH_} (hI : Iv L (mi, ml, mr, sh)) (s900 : ∀ M, Iv L M → hg_G md_L_law true sh0 Q (8 * r) (52 * r) 900 [some (hv_r (some (0, 0))), some (hv_r (some (1, 0))), some (hv_r (some (7, 0))), some (hv_i (nI (7 * i)))] [] M) : hg_G md_L_law true sh0 Q (8 * (r + 1)) (52 * (r + 1)) 593 [some (hv_r (some (0, 0))), some (hv_r (some (1, 0))), some (hv_r (some (7, 0))), some (hv_i (nI (7 * i)))] [] (mi, ml, mr, sh) := by
  have g1 := (Iv_s hI).1
  have g7 := (Iv_s hI).2
  obtain ⟨w, hw⟩ := Q_tick hI (mi 0 0 (7 * i + 1))
  refine hg_aload_n (n := 594) dL_law_593 rfl rfl ?_
  refine hg_aload_n (n := 595) dL_law_594 rfl rfl ?_
  refine hg_iload_n (n := 596) dL_law_595 rfl rfl ?_
  refine hg_iconst (n := 597) (v := 1) dL_law_596 rfl (by decide) ?_
  refine hg_iaddN (n := 598) (7 * i) (1) dL_law_597 rfl ?_
  refine hg_script (n := 599) (len := L) (7 * i + 1) dL_law_598 rfl hI.1 rfl (by omega) (by omega) ?_
  refine hg_callVp (n := 602) hw dL_law_599 rfl mk_L_64 yl_X5_tick yv_X5_tick rfl g1 (by decide) ⟨by show 0 ≤ 8 * (r + 1); omega, by show 0 ≤ 52 * (r + 1); omega⟩ rfl rfl (Nat.le_of_ble_eq_true rfl) (fun h => by cases h) ?_
  rintro _ ⟨mi', ml', mr', sh'⟩ ⟨rfl, s0, s7, s1, sc, h6⟩
  have s0 : sh' 0 0 = some L := s0
  have s7 : sh' 7 0 = some 39 := s7
  have sc : ∀ j, mi' 0 0 j = mi 0 0 j := sc
  refine hg_aload_n (n := 603) dL_law_602 rfl rfl ?_
  refine hg_aload_n (n := 604) dL_law_603 rfl rfl ?_
  refine hg_iload_n (n := 605) dL_law_604 rfl rfl ?_
  refine hg_iconst (n := 606) (v := 1) dL_law_605 rfl (by decide) ?_
  refine hg_iaddN (n := 607) (7 * i) (1) dL_law_606 rfl ?_
  refine hg_script (n := 608) (len := L) (7 * i + 1) dL_law_607 rfl s0 rfl (by omega) (by omega) ?_
  refine hg_topI (sc _) ?_
  refine hg_callVp (n := 611) h6 dL_law_608 rfl mk_L_67 yl_X6_tick yv_X6_tick rfl s7 (by decide) ⟨Nat.zero_le _, Nat.zero_le _⟩ rfl rfl (Nat.le_of_ble_eq_true rfl) (fun h => by cases h) ?_
  rintro _ M'' ⟨rfl, hI''⟩
  exact hg_icmp_eq (n := 614) (tgt := 900) dL_law_611 rfl (by decide) (fun _ => (hg_bud (by show 8 * r ≤ 8 * (r + 1) - 0 - 0; omega) (by show 52 * r ≤ 52 * (r + 1) - 0 - 0; omega) (s900 _ hI''))) (fun h => absurd rfl h)
set_option maxHeartbeats 4000000 in
set_option maxRecDepth 100000 in
theorem k_stop {L r i : Nat} (hL : L ≤ 3584) (hi : 7 * i + 7 ≤ L) {sh0 : SH_} {Q : Option V_ → Me_ → Prop} (h0 : ∀ k j n, sh0 k j = some n → k = 0 ∧ j = 0) {mi : MI_} {ml : ML_} {mr : MR_} {sh : SH_} (hI : Iv L (mi, ml, mr, sh)) (s900 : ∀ M, Iv L M → hg_G md_L_law true sh0 Q (8 * r) (52 * r) 900 [some (hv_r (some (0, 0))), some (hv_r (some (1, 0))), some (hv_r (some (7, 0))), some (hv_i (nI (7 * i)))] [] M) : hg_G md_L_law true sh0 Q (8 * (r + 1)) (52 * (r + 1)) 616 [some (hv_r (some (0, 0))), some (hv_r (some (1, 0))), some (hv_r (some (7, 0))), some (hv_i (nI (7 * i)))] [] (mi, ml, mr, sh) := by
  have g1 := (Iv_s hI).1
  have g7 := (Iv_s hI).2
  obtain ⟨w, hw⟩ := Q_stop hI (mi 0 0 (7 * i + 1))
  refine hg_aload_n (n := 617) dL_law_616 rfl rfl ?_
  refine hg_aload_n (n := 618) dL_law_617 rfl rfl ?_
  refine hg_iload_n (n := 619) dL_law_618 rfl rfl ?_
  refine hg_iconst (n := 620) (v := 1) dL_law_619 rfl (by decide) ?_
  refine hg_iaddN (n := 621) (7 * i) (1) dL_law_620 rfl ?_
  refine hg_script (n := 622) (len := L) (7 * i + 1) dL_law_621 rfl hI.1 rfl (by omega) (by omega) ?_
  refine hg_callVp (n := 625) hw dL_law_622 rfl mk_L_68 yl_X5_stop yv_X5_stop rfl g1 (by decide) ⟨by show 0 ≤ 8 * (r + 1); omega, by show 0 ≤ 52 * (r + 1); omega⟩ rfl rfl (Nat.le_of_ble_eq_true rfl) (fun h => by cases h) ?_
  rintro _ ⟨mi', ml', mr', sh'⟩ ⟨rfl, s0, s7, s1, sc, h6⟩
  have s0 : sh' 0 0 = some L := s0
  have s7 : sh' 7 0 = some 39 := s7
  have sc : ∀ j, mi' 0 0 j = mi 0 0 j := sc
  refine hg_aload_n (n := 626) dL_law_625 rfl rfl ?_
  refine hg_aload_n (n := 627) dL_law_626 rfl rfl ?_
  refine hg_iload_n (n := 628) dL_law_627 rfl rfl ?_
  refine hg_iconst (n := 629) (v := 1) dL_law_628 rfl (by decide) ?_
  refine hg_iaddN (n := 630) (7 * i) (1) dL_law_629 rfl ?_
  refine hg_script (n := 631) (len := L) (7 * i + 1) dL_law_630 rfl s0 rfl (by omega) (by omega) ?_
  refine hg_topI (sc _) ?_
  refine hg_callVp (n := 634) h6 dL_law_631 rfl mk_L_71 yl_X6_stop yv_X6_stop rfl s7 (by decide) ⟨Nat.zero_le _, Nat.zero_le _⟩ rfl rfl (Nat.le_of_ble_eq_true rfl) (fun h => by cases h) ?_
  rintro _ M'' ⟨rfl, hI''⟩
  exact hg_icmp_eq (n := 637) (tgt := 900) dL_law_634 rfl (by decide) (fun _ => (hg_bud (by show 8 * r ≤ 8 * (r + 1) - 0 - 0; omega) (by show 52 * r ≤ 52 * (r + 1) - 0 - 0; omega) (s900 _ hI''))) (fun h => absurd rfl h)
set_option maxHeartbeats 4000000 in
set_option maxRecDepth 100000 in
theorem k_survey {L r i : Nat} (hL : L ≤ 3584) (hi : 7 * i + 7 ≤ L) {sh0 : SH_} {Q : Option V_ → Me_ → Prop} (h0 : ∀ k j n, sh0 k j = some n → k = 0 ∧ j = 0) {mi : MI_} {ml : ML_} {mr : MR_} {sh : SH_} (hI : Iv L (mi, ml, mr, sh)) (s900 : ∀ M, Iv L M → hg_G md_L_law true sh0 Q (8 * r) (52 * r) 900 [some (hv_r (some (0, 0))), some (hv_r (some (1, 0))), some (hv_r (some (7, 0))), some (hv_i (nI (7 * i)))] [] M) : hg_G md_L_law true sh0 Q (8 * (r + 1)) (52 * (r + 1)) 639 [some (hv_r (some (0, 0))), some (hv_r (some (1, 0))), some (hv_r (some (7, 0))), some (hv_i (nI (7 * i)))] [] (mi, ml, mr, sh) := by
  have g1 := (Iv_s hI).1
  have g7 := (Iv_s hI).2
  obtain ⟨w, hw⟩ := Q_survey hI (mi 0 0 (7 * i + 1)) (mi 0 0 (7 * i + 2))
  refine hg_aload_n (n := 640) dL_law_639 rfl rfl ?_
  refine hg_aload_n (n := 641) dL_law_640 rfl rfl ?_
  refine hg_iload_n (n := 642) dL_law_641 rfl rfl ?_
  refine hg_iconst (n := 643) (v := 1) dL_law_642 rfl (by decide) ?_
  refine hg_iaddN (n := 644) (7 * i) (1) dL_law_643 rfl ?_
  refine hg_script (n := 645) (len := L) (7 * i + 1) dL_law_644 rfl hI.1 rfl (by omega) (by omega) ?_
  refine hg_aload_n (n := 646) dL_law_645 rfl rfl ?_
  refine hg_iload_n (n := 647) dL_law_646 rfl rfl ?_
  refine hg_iconst (n := 648) (v := 2) dL_law_647 rfl (by decide) ?_
  refine hg_iaddN (n := 649) (7 * i) (2) dL_law_648 rfl ?_
  refine hg_script (n := 650) (len := L) (7 * i + 2) dL_law_649 rfl hI.1 rfl (by omega) (by omega) ?_
  refine hg_callVp (n := 653) hw dL_law_650 rfl mk_L_72 yl_X5_survey yv_X5_survey rfl g1 (by decide) ⟨by show 0 ≤ 8 * (r + 1); omega, by show 0 ≤ 52 * (r + 1); omega⟩ rfl rfl (Nat.le_of_ble_eq_true rfl) (fun h => by cases h) ?_
  rintro _ ⟨mi', ml', mr', sh'⟩ ⟨rfl, s0, s7, s1, sc, h6⟩
  have s0 : sh' 0 0 = some L := s0
  have s7 : sh' 7 0 = some 39 := s7
  have sc : ∀ j, mi' 0 0 j = mi 0 0 j := sc
  refine hg_aload_n (n := 654) dL_law_653 rfl rfl ?_
  refine hg_aload_n (n := 655) dL_law_654 rfl rfl ?_
  refine hg_iload_n (n := 656) dL_law_655 rfl rfl ?_
  refine hg_iconst (n := 657) (v := 1) dL_law_656 rfl (by decide) ?_
  refine hg_iaddN (n := 658) (7 * i) (1) dL_law_657 rfl ?_
  refine hg_script (n := 659) (len := L) (7 * i + 1) dL_law_658 rfl s0 rfl (by omega) (by omega) ?_
  refine hg_topI (sc _) ?_
  refine hg_aload_n (n := 660) dL_law_659 rfl rfl ?_
  refine hg_iload_n (n := 661) dL_law_660 rfl rfl ?_
  refine hg_iconst (n := 662) (v := 2) dL_law_661 rfl (by decide) ?_
  refine hg_iaddN (n := 663) (7 * i) (2) dL_law_662 rfl ?_
  refine hg_script (n := 664) (len := L) (7 * i + 2) dL_law_663 rfl s0 rfl (by omega) (by omega) ?_
  refine hg_topI (sc _) ?_
  refine hg_callVp (n := 667) h6 dL_law_664 rfl mk_L_75 yl_X6_survey yv_X6_survey rfl s7 (by decide) ⟨Nat.zero_le _, Nat.zero_le _⟩ rfl rfl (Nat.le_of_ble_eq_true rfl) (fun h => by cases h) ?_
  rintro _ M'' ⟨rfl, hI''⟩
  exact hg_icmp_eq (n := 670) (tgt := 900) dL_law_667 rfl (by decide) (fun _ => (hg_bud (by show 8 * r ≤ 8 * (r + 1) - 0 - 0; omega) (by show 52 * r ≤ 52 * (r + 1) - 0 - 0; omega) (s900 _ hI''))) (fun h => absurd rfl h)
set_option maxHeartbeats 4000000 in
set_option maxRecDepth 100000 in
theorem k_about {L r i : Nat} (hL : L ≤ 3584) (hi : 7 * i + 7 ≤ L) {sh0 : SH_} {Q : Option V_ → Me_ → Prop} (h0 : ∀ k j n, sh0 k j = some n → k = 0 ∧ j = 0) {mi : MI_} {ml : ML_} {mr : MR_} {sh : SH_} (hI : Iv L (mi, ml, mr, sh)) (s900 : ∀ M, Iv L M → hg_G md_L_law true sh0 Q (8 * r) (52 * r) 900 [some (hv_r (some (0, 0))), some (hv_r (some (1, 0))), some (hv_r (some (7, 0))), some (hv_i (nI (7 * i)))] [] M) : hg_G md_L_law true sh0 Q (8 * (r + 1)) (52 * (r + 1)) 672 [some (hv_r (some (0, 0))), some (hv_r (some (1, 0))), some (hv_r (some (7, 0))), some (hv_i (nI (7 * i)))] [] (mi, ml, mr, sh) := by
  have g1 := (Iv_s hI).1
  have g7 := (Iv_s hI).2
  obtain ⟨w, hw⟩ := Q_about hI (mi 0 0 (7 * i + 1)) (mi 0 0 (7 * i + 2))
  refine hg_aload_n (n := 673) dL_law_672 rfl rfl ?_
  refine hg_aload_n (n := 674) dL_law_673 rfl rfl ?_
  refine hg_iload_n (n := 675) dL_law_674 rfl rfl ?_
  refine hg_iconst (n := 676) (v := 1) dL_law_675 rfl (by decide) ?_
  refine hg_iaddN (n := 677) (7 * i) (1) dL_law_676 rfl ?_
  refine hg_script (n := 678) (len := L) (7 * i + 1) dL_law_677 rfl hI.1 rfl (by omega) (by omega) ?_
  refine hg_aload_n (n := 679) dL_law_678 rfl rfl ?_
  refine hg_iload_n (n := 680) dL_law_679 rfl rfl ?_
  refine hg_iconst (n := 681) (v := 2) dL_law_680 rfl (by decide) ?_
  refine hg_iaddN (n := 682) (7 * i) (2) dL_law_681 rfl ?_
  refine hg_script (n := 683) (len := L) (7 * i + 2) dL_law_682 rfl hI.1 rfl (by omega) (by omega) ?_
  refine hg_callVp (n := 686) hw dL_law_683 rfl mk_L_76 yl_X5_about yv_X5_about rfl g1 (by decide) ⟨by show 0 ≤ 8 * (r + 1); omega, by show 0 ≤ 52 * (r + 1); omega⟩ rfl rfl (Nat.le_of_ble_eq_true rfl) (fun h => by cases h) ?_
  rintro _ ⟨mi', ml', mr', sh'⟩ ⟨rfl, s0, s7, s1, sc, h6⟩
  have s0 : sh' 0 0 = some L := s0
  have s7 : sh' 7 0 = some 39 := s7
  have sc : ∀ j, mi' 0 0 j = mi 0 0 j := sc
  refine hg_aload_n (n := 687) dL_law_686 rfl rfl ?_
  refine hg_aload_n (n := 688) dL_law_687 rfl rfl ?_
  refine hg_iload_n (n := 689) dL_law_688 rfl rfl ?_
  refine hg_iconst (n := 690) (v := 1) dL_law_689 rfl (by decide) ?_
  refine hg_iaddN (n := 691) (7 * i) (1) dL_law_690 rfl ?_
  refine hg_script (n := 692) (len := L) (7 * i + 1) dL_law_691 rfl s0 rfl (by omega) (by omega) ?_
  refine hg_topI (sc _) ?_
  refine hg_aload_n (n := 693) dL_law_692 rfl rfl ?_
  refine hg_iload_n (n := 694) dL_law_693 rfl rfl ?_
  refine hg_iconst (n := 695) (v := 2) dL_law_694 rfl (by decide) ?_
  refine hg_iaddN (n := 696) (7 * i) (2) dL_law_695 rfl ?_
  refine hg_script (n := 697) (len := L) (7 * i + 2) dL_law_696 rfl s0 rfl (by omega) (by omega) ?_
  refine hg_topI (sc _) ?_
  refine hg_callVp (n := 700) h6 dL_law_697 rfl mk_L_79 yl_X6_about yv_X6_about rfl s7 (by decide) ⟨Nat.zero_le _, Nat.zero_le _⟩ rfl rfl (Nat.le_of_ble_eq_true rfl) (fun h => by cases h) ?_
  rintro _ M'' ⟨rfl, hI''⟩
  exact hg_icmp_eq (n := 703) (tgt := 900) dL_law_700 rfl (by decide) (fun _ => (hg_bud (by show 8 * r ≤ 8 * (r + 1) - 0 - 0; omega) (by show 52 * r ≤ 52 * (r + 1) - 0 - 0; omega) (s900 _ hI''))) (fun h => absurd rfl h)
set_option maxHeartbeats 4000000 in
set_option maxRecDepth 100000 in
theorem k_runAt {L r i : Nat} (hL : L ≤ 3584) (hi : 7 * i + 7 ≤ L) {sh0 : SH_} {Q : Option V_ → Me_ → Prop} (h0 : ∀ k j n, sh0 k j = some n → k = 0 ∧ j = 0) {mi : MI_} {ml : ML_} {mr : MR_} {sh : SH_} (hI : Iv L (mi, ml, mr, sh)) (s900 : ∀ M, Iv L M → hg_G md_L_law true sh0 Q (8 * r) (52 * r) 900 [some (hv_r (some (0, 0))), some (hv_r (some (1, 0))), some (hv_r (some (7, 0))), some (hv_i (nI (7 * i)))] [] M) : hg_G md_L_law true sh0 Q (8 * (r + 1)) (52 * (r + 1)) 705 [some (hv_r (some (0, 0))), some (hv_r (some (1, 0))), some (hv_r (some (7, 0))), some (hv_i (nI (7 * i)))] [] (mi, ml, mr, sh) := by
  have g1 := (Iv_s hI).1
  have g7 := (Iv_s hI).2
  obtain ⟨w, hw⟩ := Q_runAt hI (mi 0 0 (7 * i + 1)) (mi 0 0 (7 * i + 2))
  refine hg_aload_n (n := 706) dL_law_705 rfl rfl ?_
  refine hg_aload_n (n := 707) dL_law_706 rfl rfl ?_
  refine hg_iload_n (n := 708) dL_law_707 rfl rfl ?_
  refine hg_iconst (n := 709) (v := 1) dL_law_708 rfl (by decide) ?_
  refine hg_iaddN (n := 710) (7 * i) (1) dL_law_709 rfl ?_
  refine hg_script (n := 711) (len := L) (7 * i + 1) dL_law_710 rfl hI.1 rfl (by omega) (by omega) ?_
  refine hg_aload_n (n := 712) dL_law_711 rfl rfl ?_
  refine hg_iload_n (n := 713) dL_law_712 rfl rfl ?_
  refine hg_iconst (n := 714) (v := 2) dL_law_713 rfl (by decide) ?_
  refine hg_iaddN (n := 715) (7 * i) (2) dL_law_714 rfl ?_
  refine hg_script (n := 716) (len := L) (7 * i + 2) dL_law_715 rfl hI.1 rfl (by omega) (by omega) ?_
  refine hg_callVp (n := 719) hw dL_law_716 rfl mk_L_80 yl_X5_runAt yv_X5_runAt rfl g1 (by decide) ⟨by show 0 ≤ 8 * (r + 1); omega, by show 0 ≤ 52 * (r + 1); omega⟩ rfl rfl (Nat.le_of_ble_eq_true rfl) (fun h => by cases h) ?_
  rintro _ ⟨mi', ml', mr', sh'⟩ ⟨rfl, s0, s7, s1, sc, h6⟩
  have s0 : sh' 0 0 = some L := s0
  have s7 : sh' 7 0 = some 39 := s7
  have sc : ∀ j, mi' 0 0 j = mi 0 0 j := sc
  refine hg_aload_n (n := 720) dL_law_719 rfl rfl ?_
  refine hg_aload_n (n := 721) dL_law_720 rfl rfl ?_
  refine hg_iload_n (n := 722) dL_law_721 rfl rfl ?_
  refine hg_iconst (n := 723) (v := 1) dL_law_722 rfl (by decide) ?_
  refine hg_iaddN (n := 724) (7 * i) (1) dL_law_723 rfl ?_
  refine hg_script (n := 725) (len := L) (7 * i + 1) dL_law_724 rfl s0 rfl (by omega) (by omega) ?_
  refine hg_topI (sc _) ?_
  refine hg_aload_n (n := 726) dL_law_725 rfl rfl ?_
  refine hg_iload_n (n := 727) dL_law_726 rfl rfl ?_
  refine hg_iconst (n := 728) (v := 2) dL_law_727 rfl (by decide) ?_
  refine hg_iaddN (n := 729) (7 * i) (2) dL_law_728 rfl ?_
  refine hg_script (n := 730) (len := L) (7 * i + 2) dL_law_729 rfl s0 rfl (by omega) (by omega) ?_
  refine hg_topI (sc _) ?_
  refine hg_callVp (n := 733) h6 dL_law_730 rfl mk_L_83 yl_X6_runAt yv_X6_runAt rfl s7 (by decide) ⟨Nat.zero_le _, Nat.zero_le _⟩ rfl rfl (Nat.le_of_ble_eq_true rfl) (fun h => by cases h) ?_
  rintro _ M'' ⟨rfl, hI''⟩
  exact hg_icmp_eq (n := 736) (tgt := 900) dL_law_733 rfl (by decide) (fun _ => (hg_bud (by show 8 * r ≤ 8 * (r + 1) - 0 - 0; omega) (by show 52 * r ≤ 52 * (r + 1) - 0 - 0; omega) (s900 _ hI''))) (fun h => absurd rfl h)
set_option maxHeartbeats 4000000 in
set_option maxRecDepth 100000 in
theorem k_paper {L r i : Nat} (hL : L ≤ 3584) (hi : 7 * i + 7 ≤ L) {sh0 : SH_} {Q : Option V_ → Me_ → Prop} (h0 : ∀ k j n, sh0 k j = some n → k = 0 ∧ j = 0) {mi : MI_} {ml : ML_} {mr : MR_} {sh : SH_} (hI : Iv L (mi, ml, mr, sh)) (s900 : ∀ M, Iv L M → hg_G md_L_law true sh0 Q (8 * r) (52 * r) 900 [some (hv_r (some (0, 0))), some (hv_r (some (1, 0))), some (hv_r (some (7, 0))), some (hv_i (nI (7 * i)))] [] M) : hg_G md_L_law true sh0 Q (8 * (r + 1)) (52 * (r + 1)) 738 [some (hv_r (some (0, 0))), some (hv_r (some (1, 0))), some (hv_r (some (7, 0))), some (hv_i (nI (7 * i)))] [] (mi, ml, mr, sh) := by
  have g1 := (Iv_s hI).1
  have g7 := (Iv_s hI).2
  obtain ⟨w, hw⟩ := Q_paper hI (mi 0 0 (7 * i + 1)) (mi 0 0 (7 * i + 2)) (mi 0 0 (7 * i + 3))
  refine hg_aload_n (n := 739) dL_law_738 rfl rfl ?_
  refine hg_aload_n (n := 740) dL_law_739 rfl rfl ?_
  refine hg_iload_n (n := 741) dL_law_740 rfl rfl ?_
  refine hg_iconst (n := 742) (v := 1) dL_law_741 rfl (by decide) ?_
  refine hg_iaddN (n := 743) (7 * i) (1) dL_law_742 rfl ?_
  refine hg_script (n := 744) (len := L) (7 * i + 1) dL_law_743 rfl hI.1 rfl (by omega) (by omega) ?_
  refine hg_aload_n (n := 745) dL_law_744 rfl rfl ?_
  refine hg_iload_n (n := 746) dL_law_745 rfl rfl ?_
  refine hg_iconst (n := 747) (v := 2) dL_law_746 rfl (by decide) ?_
  refine hg_iaddN (n := 748) (7 * i) (2) dL_law_747 rfl ?_
  refine hg_script (n := 749) (len := L) (7 * i + 2) dL_law_748 rfl hI.1 rfl (by omega) (by omega) ?_
  refine hg_aload_n (n := 750) dL_law_749 rfl rfl ?_
  refine hg_iload_n (n := 751) dL_law_750 rfl rfl ?_
  refine hg_iconst (n := 752) (v := 3) dL_law_751 rfl (by decide) ?_
  refine hg_iaddN (n := 753) (7 * i) (3) dL_law_752 rfl ?_
  refine hg_script (n := 754) (len := L) (7 * i + 3) dL_law_753 rfl hI.1 rfl (by omega) (by omega) ?_
  refine hg_callVp (n := 757) hw dL_law_754 rfl mk_L_84 yl_X5_paper yv_X5_paper rfl g1 (by decide) ⟨by show 0 ≤ 8 * (r + 1); omega, by show 0 ≤ 52 * (r + 1); omega⟩ rfl rfl (Nat.le_of_ble_eq_true rfl) (fun h => by cases h) ?_
  rintro _ ⟨mi', ml', mr', sh'⟩ ⟨rfl, s0, s7, s1, sc, h6⟩
  have s0 : sh' 0 0 = some L := s0
  have s7 : sh' 7 0 = some 39 := s7
  have sc : ∀ j, mi' 0 0 j = mi 0 0 j := sc
  refine hg_aload_n (n := 758) dL_law_757 rfl rfl ?_
  refine hg_aload_n (n := 759) dL_law_758 rfl rfl ?_
  refine hg_iload_n (n := 760) dL_law_759 rfl rfl ?_
  refine hg_iconst (n := 761) (v := 1) dL_law_760 rfl (by decide) ?_
  refine hg_iaddN (n := 762) (7 * i) (1) dL_law_761 rfl ?_
  refine hg_script (n := 763) (len := L) (7 * i + 1) dL_law_762 rfl s0 rfl (by omega) (by omega) ?_
  refine hg_topI (sc _) ?_
  refine hg_aload_n (n := 764) dL_law_763 rfl rfl ?_
  refine hg_iload_n (n := 765) dL_law_764 rfl rfl ?_
  refine hg_iconst (n := 766) (v := 2) dL_law_765 rfl (by decide) ?_
  refine hg_iaddN (n := 767) (7 * i) (2) dL_law_766 rfl ?_
  refine hg_script (n := 768) (len := L) (7 * i + 2) dL_law_767 rfl s0 rfl (by omega) (by omega) ?_
  refine hg_topI (sc _) ?_
  refine hg_aload_n (n := 769) dL_law_768 rfl rfl ?_
  refine hg_iload_n (n := 770) dL_law_769 rfl rfl ?_
  refine hg_iconst (n := 771) (v := 3) dL_law_770 rfl (by decide) ?_
  refine hg_iaddN (n := 772) (7 * i) (3) dL_law_771 rfl ?_
  refine hg_script (n := 773) (len := L) (7 * i + 3) dL_law_772 rfl s0 rfl (by omega) (by omega) ?_
  refine hg_topI (sc _) ?_
  refine hg_callVp (n := 776) h6 dL_law_773 rfl mk_L_87 yl_X6_paper yv_X6_paper rfl s7 (by decide) ⟨Nat.zero_le _, Nat.zero_le _⟩ rfl rfl (Nat.le_of_ble_eq_true rfl) (fun h => by cases h) ?_
  rintro _ M'' ⟨rfl, hI''⟩
  exact hg_icmp_eq (n := 779) (tgt := 900) dL_law_776 rfl (by decide) (fun _ => (hg_bud (by show 8 * r ≤ 8 * (r + 1) - 0 - 0; omega) (by show 52 * r ≤ 52 * (r + 1) - 0 - 0; omega) (s900 _ hI''))) (fun h => absurd rfl h)
set_option maxHeartbeats 4000000 in
set_option maxRecDepth 100000 in
theorem k_job {L r i : Nat} (hL : L ≤ 3584) (hi : 7 * i + 7 ≤ L) {sh0 : SH_} {Q : Option V_ → Me_ → Prop} (h0 : ∀ k j n, sh0 k j = some n → k = 0 ∧ j = 0) {mi : MI_} {ml : ML_} {mr : MR_} {sh : SH_} (hI : Iv L (mi, ml, mr, sh)) (s900 : ∀ M, Iv L M → hg_G md_L_law true sh0 Q (8 * r) (52 * r) 900 [some (hv_r (some (0, 0))), some (hv_r (some (1, 0))), some (hv_r (some (7, 0))), some (hv_i (nI (7 * i)))] [] M) : hg_G md_L_law true sh0 Q (8 * (r + 1)) (52 * (r + 1)) 781 [some (hv_r (some (0, 0))), some (hv_r (some (1, 0))), some (hv_r (some (7, 0))), some (hv_i (nI (7 * i)))] [] (mi, ml, mr, sh) := by
  have g1 := (Iv_s hI).1
  have g7 := (Iv_s hI).2
  obtain ⟨w, hw⟩ := Q_job hI (mi 0 0 (7 * i + 1)) (mi 0 0 (7 * i + 2))
  refine hg_aload_n (n := 782) dL_law_781 rfl rfl ?_
  refine hg_aload_n (n := 783) dL_law_782 rfl rfl ?_
  refine hg_iload_n (n := 784) dL_law_783 rfl rfl ?_
  refine hg_iconst (n := 785) (v := 1) dL_law_784 rfl (by decide) ?_
  refine hg_iaddN (n := 786) (7 * i) (1) dL_law_785 rfl ?_
  refine hg_script (n := 787) (len := L) (7 * i + 1) dL_law_786 rfl hI.1 rfl (by omega) (by omega) ?_
  refine hg_aload_n (n := 788) dL_law_787 rfl rfl ?_
  refine hg_iload_n (n := 789) dL_law_788 rfl rfl ?_
  refine hg_iconst (n := 790) (v := 2) dL_law_789 rfl (by decide) ?_
  refine hg_iaddN (n := 791) (7 * i) (2) dL_law_790 rfl ?_
  refine hg_script (n := 792) (len := L) (7 * i + 2) dL_law_791 rfl hI.1 rfl (by omega) (by omega) ?_
  refine hg_callVp (n := 795) hw dL_law_792 rfl mk_L_88 yl_X5_job yv_X5_job rfl g1 (by decide) ⟨by show 0 ≤ 8 * (r + 1); omega, by show 0 ≤ 52 * (r + 1); omega⟩ rfl rfl (Nat.le_of_ble_eq_true rfl) (fun h => by cases h) ?_
  rintro _ ⟨mi', ml', mr', sh'⟩ ⟨rfl, s0, s7, s1, sc, h6⟩
  have s0 : sh' 0 0 = some L := s0
  have s7 : sh' 7 0 = some 39 := s7
  have sc : ∀ j, mi' 0 0 j = mi 0 0 j := sc
  refine hg_aload_n (n := 796) dL_law_795 rfl rfl ?_
  refine hg_aload_n (n := 797) dL_law_796 rfl rfl ?_
  refine hg_iload_n (n := 798) dL_law_797 rfl rfl ?_
  refine hg_iconst (n := 799) (v := 1) dL_law_798 rfl (by decide) ?_
  refine hg_iaddN (n := 800) (7 * i) (1) dL_law_799 rfl ?_
  refine hg_script (n := 801) (len := L) (7 * i + 1) dL_law_800 rfl s0 rfl (by omega) (by omega) ?_
  refine hg_topI (sc _) ?_
  refine hg_aload_n (n := 802) dL_law_801 rfl rfl ?_
  refine hg_iload_n (n := 803) dL_law_802 rfl rfl ?_
  refine hg_iconst (n := 804) (v := 2) dL_law_803 rfl (by decide) ?_
  refine hg_iaddN (n := 805) (7 * i) (2) dL_law_804 rfl ?_
  refine hg_script (n := 806) (len := L) (7 * i + 2) dL_law_805 rfl s0 rfl (by omega) (by omega) ?_
  refine hg_topI (sc _) ?_
  refine hg_callVp (n := 809) h6 dL_law_806 rfl mk_L_91 yl_X6_job yv_X6_job rfl s7 (by decide) ⟨Nat.zero_le _, Nat.zero_le _⟩ rfl rfl (Nat.le_of_ble_eq_true rfl) (fun h => by cases h) ?_
  rintro _ M'' ⟨rfl, hI''⟩
  exact hg_icmp_eq (n := 812) (tgt := 900) dL_law_809 rfl (by decide) (fun _ => (hg_bud (by show 8 * r ≤ 8 * (r + 1) - 0 - 0; omega) (by show 52 * r ≤ 52 * (r + 1) - 0 - 0; omega) (s900 _ hI''))) (fun h => absurd rfl h)
set_option maxHeartbeats 4000000 in
set_option maxRecDepth 100000 in
theorem k_clearJobs {L r i : Nat} (hL : L ≤ 3584) (hi : 7 * i + 7 ≤ L) {sh0 : SH_} {Q : Option V_ → Me_ → Prop} (h0 : ∀ k j n, sh0 k j = some n → k = 0 ∧ j = 0) {mi : MI_} {ml : ML_} {mr : MR_} {sh : SH_} (hI : Iv L (mi, ml, mr, sh)) (s900 : ∀ M, Iv L M → hg_G md_L_law true sh0 Q (8 * r) (52 * r) 900 [some (hv_r (some (0, 0))), some (hv_r (some (1, 0))), some (hv_r (some (7, 0))), some (hv_i (nI (7 * i)))] [] M) : hg_G md_L_law true sh0 Q (8 * (r + 1)) (52 * (r + 1)) 814 [some (hv_r (some (0, 0))), some (hv_r (some (1, 0))), some (hv_r (some (7, 0))), some (hv_i (nI (7 * i)))] [] (mi, ml, mr, sh) := by
  have g1 := (Iv_s hI).1
  have g7 := (Iv_s hI).2
  obtain ⟨w, hw⟩ := Q_clearJobs hI 
  refine hg_aload_n (n := 815) dL_law_814 rfl rfl ?_
  refine hg_callVp (n := 818) hw dL_law_815 rfl mk_L_92 yl_X5_clearJobs yv_X5_clearJobs rfl g1 (by decide) ⟨by show 0 ≤ 8 * (r + 1); omega, by show 0 ≤ 52 * (r + 1); omega⟩ rfl rfl (Nat.le_of_ble_eq_true rfl) (fun h => by cases h) ?_
  rintro _ ⟨mi', ml', mr', sh'⟩ ⟨rfl, s0, s7, s1, sc, h6⟩
  have s0 : sh' 0 0 = some L := s0
  have s7 : sh' 7 0 = some 39 := s7
  have sc : ∀ j, mi' 0 0 j = mi 0 0 j := sc
  refine hg_aload_n (n := 819) dL_law_818 rfl rfl ?_
  refine hg_callVp (n := 822) h6 dL_law_819 rfl mk_L_96 yl_X6_clearJobs yv_X6_clearJobs rfl s7 (by decide) ⟨Nat.zero_le _, Nat.zero_le _⟩ rfl rfl (Nat.le_of_ble_eq_true rfl) (fun h => by cases h) ?_
  rintro _ M'' ⟨rfl, hI''⟩
  exact hg_icmp_eq (n := 825) (tgt := 900) dL_law_822 rfl (by decide) (fun _ => (hg_bud (by show 8 * r ≤ 8 * (r + 1) - 0 - 0; omega) (by show 52 * r ≤ 52 * (r + 1) - 0 - 0; omega) (s900 _ hI''))) (fun h => absurd rfl h)
set_option maxHeartbeats 4000000 in
set_option maxRecDepth 100000 in
theorem k_lateness {L r i : Nat} (hL : L ≤ 3584) (hi : 7 * i + 7 ≤ L) {sh0 : SH_} {Q : Option V_ → Me_ → Prop} (h0 : ∀ k j n, sh0 k j = some n → k = 0 ∧ j = 0) {mi : MI_} {ml : ML_} {mr : MR_} {sh : SH_} (hI : Iv L (mi, ml, mr, sh)) (s900 : ∀ M, Iv L M → hg_G md_L_law true sh0 Q (8 * r) (52 * r) 900 [some (hv_r (some (0, 0))), some (hv_r (some (1, 0))), some (hv_r (some (7, 0))), some (hv_i (nI (7 * i)))] [] M) : hg_G md_L_law true sh0 Q (8 * (r + 1)) (52 * (r + 1)) 827 [some (hv_r (some (0, 0))), some (hv_r (some (1, 0))), some (hv_r (some (7, 0))), some (hv_i (nI (7 * i)))] [] (mi, ml, mr, sh) := by
  have g1 := (Iv_s hI).1
  have g7 := (Iv_s hI).2
  obtain ⟨w, hw⟩ := Q_lateness hI 
  refine hg_aload_n (n := 828) dL_law_827 rfl rfl ?_
  refine hg_callVp (n := 831) hw dL_law_828 rfl mk_L_97 yl_X5_lateness yv_X5_lateness rfl g1 (by decide) ⟨by show 0 ≤ 8 * (r + 1); omega, by show 0 ≤ 52 * (r + 1); omega⟩ rfl rfl (Nat.le_of_ble_eq_true rfl) (fun h => by cases h) ?_
  rintro _ ⟨mi', ml', mr', sh'⟩ ⟨rfl, s0, s7, s1, sc, h6⟩
  have s0 : sh' 0 0 = some L := s0
  have s7 : sh' 7 0 = some 39 := s7
  have sc : ∀ j, mi' 0 0 j = mi 0 0 j := sc
  refine hg_aload_n (n := 832) dL_law_831 rfl rfl ?_
  refine hg_callVp (n := 835) h6 dL_law_832 rfl mk_L_100 yl_X6_lateness yv_X6_lateness rfl s7 (by decide) ⟨Nat.zero_le _, Nat.zero_le _⟩ rfl rfl (Nat.le_of_ble_eq_true rfl) (fun h => by cases h) ?_
  rintro _ M'' ⟨rfl, hI''⟩
  exact hg_icmp_eq (n := 838) (tgt := 900) dL_law_835 rfl (by decide) (fun _ => (hg_bud (by show 8 * r ≤ 8 * (r + 1) - 0 - 0; omega) (by show 52 * r ≤ 52 * (r + 1) - 0 - 0; omega) (s900 _ hI''))) (fun h => absurd rfl h)
set_option maxHeartbeats 4000000 in
set_option maxRecDepth 100000 in
theorem k_order {L r i : Nat} (hL : L ≤ 3584) (hi : 7 * i + 7 ≤ L) {sh0 : SH_} {Q : Option V_ → Me_ → Prop} (h0 : ∀ k j n, sh0 k j = some n → k = 0 ∧ j = 0) {mi : MI_} {ml : ML_} {mr : MR_} {sh : SH_} (hI : Iv L (mi, ml, mr, sh)) (s900 : ∀ M, Iv L M → hg_G md_L_law true sh0 Q (8 * r) (52 * r) 900 [some (hv_r (some (0, 0))), some (hv_r (some (1, 0))), some (hv_r (some (7, 0))), some (hv_i (nI (7 * i)))] [] M) : hg_G md_L_law true sh0 Q (8 * (r + 1)) (52 * (r + 1)) 840 [some (hv_r (some (0, 0))), some (hv_r (some (1, 0))), some (hv_r (some (7, 0))), some (hv_i (nI (7 * i)))] [] (mi, ml, mr, sh) := by
  have g1 := (Iv_s hI).1
  have g7 := (Iv_s hI).2
  obtain ⟨w, hw⟩ := Q_order hI (mi 0 0 (7 * i + 1))
  refine hg_aload_n (n := 841) dL_law_840 rfl rfl ?_
  refine hg_aload_n (n := 842) dL_law_841 rfl rfl ?_
  refine hg_iload_n (n := 843) dL_law_842 rfl rfl ?_
  refine hg_iconst (n := 844) (v := 1) dL_law_843 rfl (by decide) ?_
  refine hg_iaddN (n := 845) (7 * i) (1) dL_law_844 rfl ?_
  refine hg_script (n := 846) (len := L) (7 * i + 1) dL_law_845 rfl hI.1 rfl (by omega) (by omega) ?_
  refine hg_callVp (n := 849) hw dL_law_846 rfl mk_L_101 yl_X5_order yv_X5_order rfl g1 (by decide) ⟨by show 0 ≤ 8 * (r + 1); omega, by show 0 ≤ 52 * (r + 1); omega⟩ rfl rfl (Nat.le_of_ble_eq_true rfl) (fun h => by cases h) ?_
  rintro _ ⟨mi', ml', mr', sh'⟩ ⟨rfl, s0, s7, s1, sc, h6⟩
  have s0 : sh' 0 0 = some L := s0
  have s7 : sh' 7 0 = some 39 := s7
  have sc : ∀ j, mi' 0 0 j = mi 0 0 j := sc
  refine hg_aload_n (n := 850) dL_law_849 rfl rfl ?_
  refine hg_aload_n (n := 851) dL_law_850 rfl rfl ?_
  refine hg_iload_n (n := 852) dL_law_851 rfl rfl ?_
  refine hg_iconst (n := 853) (v := 1) dL_law_852 rfl (by decide) ?_
  refine hg_iaddN (n := 854) (7 * i) (1) dL_law_853 rfl ?_
  refine hg_script (n := 855) (len := L) (7 * i + 1) dL_law_854 rfl s0 rfl (by omega) (by omega) ?_
  refine hg_topI (sc _) ?_
  refine hg_callVp (n := 858) h6 dL_law_855 rfl mk_L_104 yl_X6_order yv_X6_order rfl s7 (by decide) ⟨Nat.zero_le _, Nat.zero_le _⟩ rfl rfl (Nat.le_of_ble_eq_true rfl) (fun h => by cases h) ?_
  rintro _ M'' ⟨rfl, hI''⟩
  exact hg_icmp_eq (n := 861) (tgt := 900) dL_law_858 rfl (by decide) (fun _ => (hg_bud (by show 8 * r ≤ 8 * (r + 1) - 0 - 0; omega) (by show 52 * r ≤ 52 * (r + 1) - 0 - 0; omega) (s900 _ hI''))) (fun h => absurd rfl h)
set_option maxHeartbeats 4000000 in
set_option maxRecDepth 100000 in
theorem k_count {L r i : Nat} (hL : L ≤ 3584) (hi : 7 * i + 7 ≤ L) {sh0 : SH_} {Q : Option V_ → Me_ → Prop} (h0 : ∀ k j n, sh0 k j = some n → k = 0 ∧ j = 0) {mi : MI_} {ml : ML_} {mr : MR_} {sh : SH_} (hI : Iv L (mi, ml, mr, sh)) (s900 : ∀ M, Iv L M → hg_G md_L_law true sh0 Q (8 * r) (52 * r) 900 [some (hv_r (some (0, 0))), some (hv_r (some (1, 0))), some (hv_r (some (7, 0))), some (hv_i (nI (7 * i)))] [] M) : hg_G md_L_law true sh0 Q (8 * (r + 1)) (52 * (r + 1)) 863 [some (hv_r (some (0, 0))), some (hv_r (some (1, 0))), some (hv_r (some (7, 0))), some (hv_i (nI (7 * i)))] [] (mi, ml, mr, sh) := by
  have g1 := (Iv_s hI).1
  have g7 := (Iv_s hI).2
  obtain ⟨w, hw⟩ := Q_count hI (mi 0 0 (7 * i + 1))
  refine hg_aload_n (n := 864) dL_law_863 rfl rfl ?_
  refine hg_aload_n (n := 865) dL_law_864 rfl rfl ?_
  refine hg_iload_n (n := 866) dL_law_865 rfl rfl ?_
  refine hg_iconst (n := 867) (v := 1) dL_law_866 rfl (by decide) ?_
  refine hg_iaddN (n := 868) (7 * i) (1) dL_law_867 rfl ?_
  refine hg_script (n := 869) (len := L) (7 * i + 1) dL_law_868 rfl hI.1 rfl (by omega) (by omega) ?_
  refine hg_callVp (n := 872) hw dL_law_869 rfl mk_L_105 yl_X5_count yv_X5_count rfl g1 (by decide) ⟨by show 0 ≤ 8 * (r + 1); omega, by show 0 ≤ 52 * (r + 1); omega⟩ rfl rfl (Nat.le_of_ble_eq_true rfl) (fun h => by cases h) ?_
  rintro _ ⟨mi', ml', mr', sh'⟩ ⟨rfl, s0, s7, s1, sc, h6⟩
  have s0 : sh' 0 0 = some L := s0
  have s7 : sh' 7 0 = some 39 := s7
  have sc : ∀ j, mi' 0 0 j = mi 0 0 j := sc
  refine hg_aload_n (n := 873) dL_law_872 rfl rfl ?_
  refine hg_aload_n (n := 874) dL_law_873 rfl rfl ?_
  refine hg_iload_n (n := 875) dL_law_874 rfl rfl ?_
  refine hg_iconst (n := 876) (v := 1) dL_law_875 rfl (by decide) ?_
  refine hg_iaddN (n := 877) (7 * i) (1) dL_law_876 rfl ?_
  refine hg_script (n := 878) (len := L) (7 * i + 1) dL_law_877 rfl s0 rfl (by omega) (by omega) ?_
  refine hg_topI (sc _) ?_
  refine hg_callVp (n := 881) h6 dL_law_878 rfl mk_L_108 yl_X6_count yv_X6_count rfl s7 (by decide) ⟨Nat.zero_le _, Nat.zero_le _⟩ rfl rfl (Nat.le_of_ble_eq_true rfl) (fun h => by cases h) ?_
  rintro _ M'' ⟨rfl, hI''⟩
  exact hg_icmp_eq (n := 884) (tgt := 900) dL_law_881 rfl (by decide) (fun _ => (hg_bud (by show 8 * r ≤ 8 * (r + 1) - 0 - 0; omega) (by show 52 * r ≤ 52 * (r + 1) - 0 - 0; omega) (s900 _ hI''))) (fun h => absurd rfl h)
set_option maxHeartbeats 4000000 in
set_option maxRecDepth 100000 in
theorem k_digest {L r i : Nat} (hL : L ≤ 3584) (hi : 7 * i + 7 ≤ L) {sh0 : SH_} {Q : Option V_ → Me_ → Prop} (h0 : ∀ k j n, sh0 k j = some n → k = 0 ∧ j = 0) {mi : MI_} {ml : ML_} {mr : MR_} {sh : SH_} (hI : Iv L (mi, ml, mr, sh)) (s900 : ∀ M, Iv L M → hg_G md_L_law true sh0 Q (8 * r) (52 * r) 900 [some (hv_r (some (0, 0))), some (hv_r (some (1, 0))), some (hv_r (some (7, 0))), some (hv_i (nI (7 * i)))] [] M) : hg_G md_L_law true sh0 Q (8 * (r + 1)) (52 * (r + 1)) 886 [some (hv_r (some (0, 0))), some (hv_r (some (1, 0))), some (hv_r (some (7, 0))), some (hv_i (nI (7 * i)))] [] (mi, ml, mr, sh) := by
  have g1 := (Iv_s hI).1
  have g7 := (Iv_s hI).2
  obtain ⟨w, hw⟩ := Q_digest hI 
  refine hg_aload_n (n := 887) dL_law_886 rfl rfl ?_
  refine hg_callVp (n := 890) hw dL_law_887 rfl mk_L_109 yl_X5_digest yv_X5_digest rfl g1 (by decide) ⟨by show 0 ≤ 8 * (r + 1); omega, by show 0 ≤ 52 * (r + 1); omega⟩ rfl rfl (Nat.le_of_ble_eq_true rfl) (fun h => by cases h) ?_
  rintro _ ⟨mi', ml', mr', sh'⟩ ⟨rfl, s0, s7, s1, sc, h6⟩
  have s0 : sh' 0 0 = some L := s0
  have s7 : sh' 7 0 = some 39 := s7
  have sc : ∀ j, mi' 0 0 j = mi 0 0 j := sc
  refine hg_aload_n (n := 891) dL_law_890 rfl rfl ?_
  refine hg_callVp (n := 894) h6 dL_law_891 rfl mk_L_113 yl_X6_digest yv_X6_digest rfl s7 (by decide) ⟨Nat.zero_le _, Nat.zero_le _⟩ rfl rfl (Nat.le_of_ble_eq_true rfl) (fun h => by cases h) ?_
  rintro _ M'' ⟨rfl, hI''⟩
  refine hg_lcmp (n := 895) dL_law_894 rfl ?_
  exact hg_if_eq (n := 898) (tgt := 900) dL_law_895 rfl (by decide) (fun _ => (hg_bud (by show 8 * r ≤ 8 * (r + 1) - 0 - 0; omega) (by show 52 * r ≤ 52 * (r + 1) - 0 - 0; omega) (s900 _ hI''))) (fun h => absurd (lcmp_0 _) h)
