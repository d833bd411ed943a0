/-- the reference as it is made: t fields are there -/
def mc_P (M0 : Me_) (t : Nat) (M : Me_) : Prop := M.2.2.2 7 0 = some 39 ∧ (∀ j, mo_len j ≠ 0 → j < t → M.2.2.1 7 0 j = some (30 + j, 0) ∧ M.2.2.2 (30 + j) 0 = some (mo_len j) ∧ (∀ i, M.1 (30 + j) 0 i = 0) ∧ (∀ i, M.2.1 (30 + j) 0 i = 0)) ∧ (∀ j, t ≤ j → M.2.2.2 (30 + j) 0 = none) ∧ (∀ k i f, k < 30 → M.1 k i f = M0.1 k i f ∧ M.2.1 k i f = M0.2.1 k i f ∧ M.2.2.2 k i = M0.2.2.2 k i ∧ (k ≠ 7 → M.2.2.1 k i f = M0.2.2.1 k i f))
theorem mc_next {M0 : Me_} {t j N : Nat} {mi : MI_} {ml : ML_} {mr : MR_} {sh : SH_} (h : mc_P M0 t (mi, ml, mr, sh)) (ht : t ≤ j) (hg : ∀ i, t ≤ i → i < j → mo_len i = 0) (hN : mo_len j = N) : mc_P M0 (j + 1) (u_n mi (30 + j) 0 0, u_n ml (30 + j) 0 0, u_3 (u_n mr (30 + j) 0 none) 7 0 j (some (30 + j, 0)), u_2 sh (30 + j) 0 (some N)) := by
  subst hN
  obtain ⟨h1, h2, h3, h4⟩ := h
  refine ⟨?_, fun i hi hlt => ?_, fun i hi => ?_, fun k i f hk => ⟨?_, ?_, ?_, fun h7 => ?_⟩⟩
  · show u_2 sh (30 + j) 0 (some (mo_len j)) 7 0 = some 39
    unfold u_2
    rw [if_neg (by omega)]
    exact h1
  · by_cases e : i = j
    · subst e
      refine ⟨?_, ?_, fun q => ?_, fun q => ?_⟩
      · simp [u_3]
      · simp [u_2]
      · simp [u_n]
      · simp [u_n]
    · have hit : i < t := by
        rcases Nat.lt_or_ge i t with q | q
        · exact q
        · exact absurd (hg i q (by omega)) hi
      obtain ⟨a1, a2, a3, a4⟩ := h2 i hi hit
      refine ⟨?_, ?_, fun q => ?_, fun q => ?_⟩
      · show u_3 (u_n mr (30 + j) 0 none) 7 0 j (some (30 + j, 0)) 7 0 i = _
        unfold u_3 u_n
        rw [if_neg (by omega), if_neg (by omega)]
        exact a1
      · show u_2 sh (30 + j) 0 _ (30 + i) 0 = _
        unfold u_2
        rw [if_neg (by omega)]
        exact a2
      · show u_n mi (30 + j) 0 0 (30 + i) 0 q = 0
        unfold u_n
        rw [if_neg (by omega)]
        exact a3 q
      · show u_n ml (30 + j) 0 0 (30 + i) 0 q = 0
        unfold u_n
        rw [if_neg (by omega)]
        exact a4 q
  · show u_2 sh (30 + j) 0 _ (30 + i) 0 = none
    unfold u_2
    rw [if_neg (by omega)]
    exact h3 i (by omega)
  · show u_n mi (30 + j) 0 0 k i f = _
    unfold u_n
    rw [if_neg (by omega)]
    exact (h4 k i f hk).1
  · show u_n ml (30 + j) 0 0 k i f = _
    unfold u_n
    rw [if_neg (by omega)]
    exact (h4 k i f hk).2.1
  · show u_2 sh (30 + j) 0 _ k i = _
    unfold u_2
    rw [if_neg (by omega)]
    exact (h4 k i f hk).2.2.1
  · show u_3 (u_n mr (30 + j) 0 none) 7 0 j (some (30 + j, 0)) k i f = _
    unfold u_3 u_n
    rw [if_neg (by omega), if_neg (by omega)]
    exact (h4 k i f hk).2.2.2 h7
/-- the reference, new -/
def mc_Q (M0 M : Me_) : Prop := mo_ M.2.2.1 M.2.2.2 ∧ (∀ j i, mo_len j ≠ 0 → M.1 (30 + j) 0 i = (if j = 14 ∧ i < 3 then 200 else if j = 20 ∧ i < 12 then -1 else if j = 21 ∧ i < 12 then 1 else 0)) ∧ (∀ j i, mo_len j ≠ 0 → M.2.1 (30 + j) 0 i = 0) ∧ (∀ k i f, k < 30 → M.1 k i f = M0.1 k i f ∧ M.2.1 k i f = M0.2.1 k i f ∧ M.2.2.2 k i = M0.2.2.2 k i ∧ (k ≠ 7 → M.2.2.1 k i f = M0.2.2.1 k i f))
abbrev md_X6_ini : Md_ := (cX6_init, RX6, "<init>", 2, none, 1, 20, 36, 1500)
set_option maxRecDepth 100000 in
theorem yl_X6_ini : hy_L yX6_init md_X6_ini 0 := ⟨in_t 574 rfl rfl, in_t 4 rfl rfl, by decide +kernel⟩
theorem mo_lt {j : Nat} (h : mo_len j ≠ 0) : j < 39 := by
  rcases Nat.lt_or_ge j 39 with q | q
  · exact q
  · exfalso
    apply h
    unfold mo_len
    split <;> first | omega | rfl
theorem m_seg_u {X : MI_} {k1 k2 lo cnt j : Nat} {f : Nat → Int32} {x : Int32} (h : k1 ≠ k2) : m_seg (u_3 X k1 0 j x) k2 lo cnt f = u_3 (m_seg X k2 lo cnt f) k1 0 j x := by
  funext k' i' j'
  unfold m_seg u_3
  by_cases h1 : k' = k1 ∧ i' = 0 ∧ j' = j
  · rw [if_neg (by omega), if_pos h1, if_pos h1]
  · rw [if_neg h1, if_neg h1]
set_option maxHeartbeats 4000000 in
set_option maxRecDepth 100000 in
theorem c_X6_init {mi0 : MI_} {ml0 : ML_} {mr0 : MR_} {sh0 : SH_} (h7 : sh0 7 0 = some 39) (hn0 : ∀ j, sh0 (30 + j) 0 = none) : hg_Ok true yX6_init md_X6_ini [hv_r (some (7, 0))] (mi0, ml0, mr0, sh0) (fun v M' => v = none ∧ mc_Q (mi0, ml0, mr0, sh0) M') := by
  suffices hall : ∀ Q : Option V_ → Me_ → Prop, (∀ M', mc_Q (mi0, ml0, mr0, sh0) M' → Q none M') → hg_Ok true yX6_init md_X6_ini [hv_r (some (7, 0))] (mi0, ml0, mr0, sh0) Q from hall _ (fun M' h => ⟨rfl, h⟩)
  intro Q hQ
  refine hg_intro rfl rfl rfl (Nat.le_of_ble_eq_true rfl) rfl ?_
  have hl1 : ∀ v, some v ∈ [some (hv_r (some (7, 0))), none] → v = hv_r (some (7, 0)) := by
    intro v hv
    rcases List.mem_cons.mp hv with h | h
    · exact Option.some.inj h
    · rw [List.mem_singleton] at h; cases h
  have s286 : ∀ (mi : MI_) (ml : ML_) (mr : MR_) (sh : SH_), mc_P (mi0, ml0, mr0, sh0) 39 (mi, ml, mr, sh) → hg_G md_X6_ini true sh0 Q 0 78 286 [some (hv_r (some (7, 0))), none] [] (mi, ml, mr, sh) := by
    intro mi ml mr sh hP
    have hM : mo_ mr sh := ⟨hP.1, fun j hj => ⟨(hP.2.1 j hj (mo_lt hj)).1, (hP.2.1 j hj (mo_lt hj)).2.1⟩⟩
    have hfin : Q none (m_seg (m_seg (m_seg mi 44 0 3 (fun _ => 200)) 50 0 12 (fun _ => -1)) 51 0 12 (fun _ => 1), ml, mr, sh) := by
      refine hQ _ ⟨hM, fun j i hj => ?_, fun j i hj => (hP.2.1 j hj (mo_lt hj)).2.2.2 i, fun k i f hk => ⟨?_, (hP.2.2.2 k i f hk).2⟩⟩
      · show m_seg (m_seg (m_seg mi 44 0 3 (fun _ => 200)) 50 0 12 (fun _ => -1)) 51 0 12 (fun _ => 1) (30 + j) 0 i = _
        unfold m_seg
        by_cases h1 : j = 21 ∧ i < 12
        · rw [if_pos (by omega), if_neg (by omega), if_neg (by omega), if_pos h1]
        · rw [if_neg (by omega)]
          by_cases h2 : j = 20 ∧ i < 12
          · rw [if_pos (by omega), if_neg (by omega), if_pos h2]
          · rw [if_neg (by omega)]
            by_cases h3 : j = 14 ∧ i < 3
            · rw [if_pos (by omega), if_pos h3]
            · rw [if_neg (by omega), if_neg h3, if_neg h2, if_neg h1]
              exact (hP.2.1 j hj (mo_lt hj)).2.2.1 i
      · show m_seg (m_seg (m_seg mi 44 0 3 (fun _ => 200)) 50 0 12 (fun _ => -1)) 51 0 12 (fun _ => 1) k i f = _
        unfold m_seg
        rw [if_neg (by omega), if_neg (by omega), if_neg (by omega)]
        exact (hP.2.2.2 k i f hk).1
    have l2 : ∀ m k, k + m = 12 → hg_G md_X6_ini true sh0 Q 0 78 310 [some (hv_r (some (7, 0))), some (hv_i (nI k))] [] (m_seg (m_seg (m_seg mi 44 0 3 (fun _ => 200)) 50 0 k (fun _ => -1)) 51 0 k (fun _ => 1), ml, mr, sh) := by
      intro m
      induction m with
      | zero =>
        intro k hk
        refine hg_iload_n (n := 311) dX6_init_310 rfl rfl ?_
        refine hg_bipush (n := 313) (v := 12) dX6_init_311 rfl (by decide) ?_
        refine hg_icmp_geN (n := 316) (tgt := 336) (k) (12) dX6_init_313 rfl (by decide) (by omega) (by omega) (fun h313 => ?_) (fun h313 => ?_)
        · have e := show k = 12 by omega
          subst e
          refine hg_return dX6_init_336 rfl ?_
          exact hfin
        · exact absurd h313 (by omega)
      | succ m ih =>
        intro k hk
        refine hg_iload_n (n := 311) dX6_init_310 rfl rfl ?_
        refine hg_bipush (n := 313) (v := 12) dX6_init_311 rfl (by decide) ?_
        refine hg_icmp_geN (n := 316) (tgt := 336) (k) (12) dX6_init_313 rfl (by decide) (by omega) (by omega) (fun h313 => ?_) (fun h313 => ?_)
        · exact absurd h313 (by omega)
        · refine hg_aload_n (n := 317) dX6_init_316 rfl rfl ?_
          refine hg_getR (n := 320) (r := some (50, 0)) dX6_init_317 rfl fl_X6_101 rfl rfl (mo_s hM) (mo_r hM 20 (by decide)) ?_
          refine hg_iload_n (n := 321) dX6_init_320 rfl rfl ?_
          refine hg_iconst (n := 322) (v := -1) dX6_init_321 rfl (by decide) ?_
          refine hg_iastore (n := 323) (len := 12) (k) dX6_init_322 rfl (by decide) rfl (mo_a hM 20 (by decide)) rfl (by omega) (by decide) ?_
          refine hg_aload_n (n := 324) dX6_init_323 rfl rfl ?_
          refine hg_getR (n := 327) (r := some (51, 0)) dX6_init_324 rfl fl_X6_104 rfl rfl (mo_s hM) (mo_r hM 21 (by decide)) ?_
          refine hg_iload_n (n := 328) dX6_init_327 rfl rfl ?_
          refine hg_iconst (n := 329) (v := 1) dX6_init_328 rfl (by decide) ?_
          refine hg_bastore (n := 330) (len := 12) (k) dX6_init_329 rfl (by decide) rfl (by decide) (mo_a hM 21 (by decide)) rfl (by omega) (by decide) ?_
          refine hg_iincN (n := 333) (k) 1 dX6_init_330 rfl rfl (by decide) (by decide) rfl rfl ?_
          refine hg_goto (tgt := 310) dX6_init_333 (by decide) ?_
          refine hg_memo ?_ (ih (k + 1) (by omega))
          rw [← m_seg_s _ 51 0 k (fun _ => 1) (Nat.zero_add k).symm rfl, ← m_seg_s _ 50 0 k (fun _ => -1) (Nat.zero_add k).symm rfl, m_seg_u (by decide)]
    have l1 : ∀ m f, f + m = 3 → hg_G md_X6_ini true sh0 Q 0 78 288 [some (hv_r (some (7, 0))), some (hv_i (nI f))] [] (m_seg mi 44 0 f (fun _ => 200), ml, mr, sh) := by
      intro m
      induction m with
      | zero =>
        intro f hf
        refine hg_iload_n (n := 289) dX6_init_288 rfl rfl ?_
        refine hg_iconst (n := 290) (v := 3) dX6_init_289 rfl (by decide) ?_
        refine hg_icmp_geN (n := 293) (tgt := 308) (f) (3) dX6_init_290 rfl (by decide) (by omega) (by omega) (fun h290 => ?_) (fun h290 => ?_)
        · have e := show f = 3 by omega
          subst e
          refine hg_iconst (n := 309) (v := 0) dX6_init_308 rfl (by decide) ?_
          refine hg_istore_n (n := 310) dX6_init_309 rfl (by decide) rfl rfl ?_
          refine hg_memo ?_ (l2 12 0 (by omega))
          rw [m_seg_0, m_seg_0]
        · exact absurd h290 (by omega)
      | succ m ih =>
        intro f hf
        refine hg_iload_n (n := 289) dX6_init_288 rfl rfl ?_
        refine hg_iconst (n := 290) (v := 3) dX6_init_289 rfl (by decide) ?_
        refine hg_icmp_geN (n := 293) (tgt := 308) (f) (3) dX6_init_290 rfl (by decide) (by omega) (by omega) (fun h290 => ?_) (fun h290 => ?_)
        · exact absurd h290 (by omega)
        · refine hg_aload_n (n := 294) dX6_init_293 rfl rfl ?_
          refine hg_getR (n := 297) (r := some (44, 0)) dX6_init_294 rfl fl_X6_83 rfl rfl (mo_s hM) (mo_r hM 14 (by decide)) ?_
          refine hg_iload_n (n := 298) dX6_init_297 rfl rfl ?_
          refine hg_sipush (n := 301) (v := 200) dX6_init_298 rfl (by decide) ?_
          refine hg_iastore (n := 302) (len := 3) (f) dX6_init_301 rfl (by decide) rfl (mo_a hM 14 (by decide)) rfl (by omega) (by decide) ?_
          refine hg_iincN (n := 305) (f) 1 dX6_init_302 rfl rfl (by decide) (by decide) rfl rfl ?_
          refine hg_goto (tgt := 288) dX6_init_305 (by decide) ?_
          refine hg_memo ?_ (ih (f + 1) (by omega))
          rw [← m_seg_s _ 44 0 f (fun _ => 200) (Nat.zero_add f).symm rfl]
    refine hg_iconst (n := 287) (v := 0) dX6_init_286 rfl (by decide) ?_
    refine hg_istore_n (n := 288) dX6_init_287 rfl (by decide) rfl rfl ?_
    refine hg_memo ?_ (l1 3 0 (by omega))
    rw [m_seg_0]
  have s277 : ∀ (mi : MI_) (ml : ML_) (mr : MR_) (sh : SH_), mc_P (mi0, ml0, mr0, sh0) 38 (mi, ml, mr, sh) → hg_G md_X6_ini true sh0 Q 1 206 277 [some (hv_r (some (7, 0))), none] [] (mi, ml, mr, sh) := by
    intro mi ml mr sh hP
    refine hg_aload_n (n := 278) dX6_init_277 rfl rfl ?_
    refine hg_sipush (n := 281) (v := 128) dX6_init_278 rfl (by decide) ?_
    refine hg_newarray (n := 283) (k := 68) (i := 0) (a := 0) (N := 128) dX6_init_281 rfl ac_int rfl (by decide) rfl (by decide) rfl ⟨rfl, by decide, hP.2.2.1 38 (by decide), hn0 38, fun v hv => by rw [List.mem_singleton.mp hv]; exact ⟨39, hP.1⟩, fun v hv => by rw [hl1 v hv]; exact ⟨39, hP.1⟩⟩ (by decide) ?_
    refine hg_putRF (n := 286) dX6_init_283 rfl fl_X6_150 rfl rfl rfl rfl rfl ((if_neg (by decide)).trans hP.1) (fun q h => by cases h; exact ⟨128, if_pos ⟨rfl, rfl⟩⟩) ?_
    exact s286 _ _ _ _ (mc_next (j := 38) (N := 128) hP (by decide) (fun i h1 h2 => by omega) rfl)
  have s269 : ∀ (mi : MI_) (ml : ML_) (mr : MR_) (sh : SH_), mc_P (mi0, ml0, mr0, sh0) 37 (mi, ml, mr, sh) → hg_G md_X6_ini true sh0 Q 2 213 269 [some (hv_r (some (7, 0))), none] [] (mi, ml, mr, sh) := by
    intro mi ml mr sh hP
    refine hg_aload_n (n := 270) dX6_init_269 rfl rfl ?_
    refine hg_bipush (n := 272) (v := 7) dX6_init_270 rfl (by decide) ?_
    refine hg_newarray (n := 274) (k := 67) (i := 0) (a := 0) (N := 7) dX6_init_272 rfl ac_int rfl (by decide) rfl (by decide) rfl ⟨rfl, by decide, hP.2.2.1 37 (by decide), hn0 37, fun v hv => by rw [List.mem_singleton.mp hv]; exact ⟨39, hP.1⟩, fun v hv => by rw [hl1 v hv]; exact ⟨39, hP.1⟩⟩ (by decide) ?_
    refine hg_putRF (n := 277) dX6_init_274 rfl fl_X6_147 rfl rfl rfl rfl rfl ((if_neg (by decide)).trans hP.1) (fun q h => by cases h; exact ⟨7, if_pos ⟨rfl, rfl⟩⟩) ?_
    exact s277 _ _ _ _ (mc_next (j := 37) (N := 7) hP (by decide) (fun i h1 h2 => by omega) rfl)
  have s261 : ∀ (mi : MI_) (ml : ML_) (mr : MR_) (sh : SH_), mc_P (mi0, ml0, mr0, sh0) 35 (mi, ml, mr, sh) → hg_G md_X6_ini true sh0 Q 3 220 261 [some (hv_r (some (7, 0))), none] [] (mi, ml, mr, sh) := by
    intro mi ml mr sh hP
    refine hg_aload_n (n := 262) dX6_init_261 rfl rfl ?_
    refine hg_bipush (n := 264) (v := 7) dX6_init_262 rfl (by decide) ?_
    refine hg_newarray (n := 266) (k := 66) (i := 0) (a := 0) (N := 7) dX6_init_264 rfl ac_int rfl (by decide) rfl (by decide) rfl ⟨rfl, by decide, hP.2.2.1 36 (by decide), hn0 36, fun v hv => by rw [List.mem_singleton.mp hv]; exact ⟨39, hP.1⟩, fun v hv => by rw [hl1 v hv]; exact ⟨39, hP.1⟩⟩ (by decide) ?_
    refine hg_putRF (n := 269) dX6_init_266 rfl fl_X6_144 rfl rfl rfl rfl rfl ((if_neg (by decide)).trans hP.1) (fun q h => by cases h; exact ⟨7, if_pos ⟨rfl, rfl⟩⟩) ?_
    exact s269 _ _ _ _ (mc_next (j := 36) (N := 7) hP (by decide) (by intro i h1 h2; rcases (show i = 35 by omega) with rfl <;> rfl) rfl)
  have s253 : ∀ (mi : MI_) (ml : ML_) (mr : MR_) (sh : SH_), mc_P (mi0, ml0, mr0, sh0) 34 (mi, ml, mr, sh) → hg_G md_X6_ini true sh0 Q 4 320 253 [some (hv_r (some (7, 0))), none] [] (mi, ml, mr, sh) := by
    intro mi ml mr sh hP
    refine hg_aload_n (n := 254) dX6_init_253 rfl rfl ?_
    refine hg_bipush (n := 256) (v := 100) dX6_init_254 rfl (by decide) ?_
    refine hg_newarray (n := 258) (k := 64) (i := 0) (a := 0) (N := 100) dX6_init_256 rfl ac_int rfl (by decide) rfl (by decide) rfl ⟨rfl, by decide, hP.2.2.1 34 (by decide), hn0 34, fun v hv => by rw [List.mem_singleton.mp hv]; exact ⟨39, hP.1⟩, fun v hv => by rw [hl1 v hv]; exact ⟨39, hP.1⟩⟩ (by decide) ?_
    refine hg_putRF (n := 261) dX6_init_258 rfl fl_X6_141 rfl rfl rfl rfl rfl ((if_neg (by decide)).trans hP.1) (fun q h => by cases h; exact ⟨100, if_pos ⟨rfl, rfl⟩⟩) ?_
    exact s261 _ _ _ _ (mc_next (j := 34) (N := 100) hP (by decide) (fun i h1 h2 => by omega) rfl)
  have s245 : ∀ (mi : MI_) (ml : ML_) (mr : MR_) (sh : SH_), mc_P (mi0, ml0, mr0, sh0) 33 (mi, ml, mr, sh) → hg_G md_X6_ini true sh0 Q 5 420 245 [some (hv_r (some (7, 0))), none] [] (mi, ml, mr, sh) := by
    intro mi ml mr sh hP
    refine hg_aload_n (n := 246) dX6_init_245 rfl rfl ?_
    refine hg_bipush (n := 248) (v := 100) dX6_init_246 rfl (by decide) ?_
    refine hg_newarray (n := 250) (k := 63) (i := 0) (a := 2) (N := 100) dX6_init_248 rfl ac_boolean rfl (by decide) rfl (by decide) rfl ⟨rfl, by decide, hP.2.2.1 33 (by decide), hn0 33, fun v hv => by rw [List.mem_singleton.mp hv]; exact ⟨39, hP.1⟩, fun v hv => by rw [hl1 v hv]; exact ⟨39, hP.1⟩⟩ (by decide) ?_
    refine hg_putRF (n := 253) dX6_init_250 rfl fl_X6_138 rfl rfl rfl rfl rfl ((if_neg (by decide)).trans hP.1) (fun q h => by cases h; exact ⟨100, if_pos ⟨rfl, rfl⟩⟩) ?_
    exact s253 _ _ _ _ (mc_next (j := 33) (N := 100) hP (by decide) (fun i h1 h2 => by omega) rfl)
  have s237 : ∀ (mi : MI_) (ml : ML_) (mr : MR_) (sh : SH_), mc_P (mi0, ml0, mr0, sh0) 32 (mi, ml, mr, sh) → hg_G md_X6_ini true sh0 Q 6 520 237 [some (hv_r (some (7, 0))), none] [] (mi, ml, mr, sh) := by
    intro mi ml mr sh hP
    refine hg_aload_n (n := 238) dX6_init_237 rfl rfl ?_
    refine hg_bipush (n := 240) (v := 100) dX6_init_238 rfl (by decide) ?_
    refine hg_newarray (n := 242) (k := 62) (i := 0) (a := 2) (N := 100) dX6_init_240 rfl ac_boolean rfl (by decide) rfl (by decide) rfl ⟨rfl, by decide, hP.2.2.1 32 (by decide), hn0 32, fun v hv => by rw [List.mem_singleton.mp hv]; exact ⟨39, hP.1⟩, fun v hv => by rw [hl1 v hv]; exact ⟨39, hP.1⟩⟩ (by decide) ?_
    refine hg_putRF (n := 245) dX6_init_242 rfl fl_X6_135 rfl rfl rfl rfl rfl ((if_neg (by decide)).trans hP.1) (fun q h => by cases h; exact ⟨100, if_pos ⟨rfl, rfl⟩⟩) ?_
    exact s245 _ _ _ _ (mc_next (j := 32) (N := 100) hP (by decide) (fun i h1 h2 => by omega) rfl)
  have s229 : ∀ (mi : MI_) (ml : ML_) (mr : MR_) (sh : SH_), mc_P (mi0, ml0, mr0, sh0) 31 (mi, ml, mr, sh) → hg_G md_X6_ini true sh0 Q 7 620 229 [some (hv_r (some (7, 0))), none] [] (mi, ml, mr, sh) := by
    intro mi ml mr sh hP
    refine hg_aload_n (n := 230) dX6_init_229 rfl rfl ?_
    refine hg_bipush (n := 232) (v := 100) dX6_init_230 rfl (by decide) ?_
    refine hg_newarray (n := 234) (k := 61) (i := 0) (a := 2) (N := 100) dX6_init_232 rfl ac_boolean rfl (by decide) rfl (by decide) rfl ⟨rfl, by decide, hP.2.2.1 31 (by decide), hn0 31, fun v hv => by rw [List.mem_singleton.mp hv]; exact ⟨39, hP.1⟩, fun v hv => by rw [hl1 v hv]; exact ⟨39, hP.1⟩⟩ (by decide) ?_
    refine hg_putRF (n := 237) dX6_init_234 rfl fl_X6_132 rfl rfl rfl rfl rfl ((if_neg (by decide)).trans hP.1) (fun q h => by cases h; exact ⟨100, if_pos ⟨rfl, rfl⟩⟩) ?_
    exact s237 _ _ _ _ (mc_next (j := 31) (N := 100) hP (by decide) (fun i h1 h2 => by omega) rfl)
  have s221 : ∀ (mi : MI_) (ml : ML_) (mr : MR_) (sh : SH_), mc_P (mi0, ml0, mr0, sh0) 30 (mi, ml, mr, sh) → hg_G md_X6_ini true sh0 Q 8 720 221 [some (hv_r (some (7, 0))), none] [] (mi, ml, mr, sh) := by
    intro mi ml mr sh hP
    refine hg_aload_n (n := 222) dX6_init_221 rfl rfl ?_
    refine hg_bipush (n := 224) (v := 100) dX6_init_222 rfl (by decide) ?_
    refine hg_newarray (n := 226) (k := 60) (i := 0) (a := 2) (N := 100) dX6_init_224 rfl ac_boolean rfl (by decide) rfl (by decide) rfl ⟨rfl, by decide, hP.2.2.1 30 (by decide), hn0 30, fun v hv => by rw [List.mem_singleton.mp hv]; exact ⟨39, hP.1⟩, fun v hv => by rw [hl1 v hv]; exact ⟨39, hP.1⟩⟩ (by decide) ?_
    refine hg_putRF (n := 229) dX6_init_226 rfl fl_X6_129 rfl rfl rfl rfl rfl ((if_neg (by decide)).trans hP.1) (fun q h => by cases h; exact ⟨100, if_pos ⟨rfl, rfl⟩⟩) ?_
    exact s229 _ _ _ _ (mc_next (j := 30) (N := 100) hP (by decide) (fun i h1 h2 => by omega) rfl)
  have s213 : ∀ (mi : MI_) (ml : ML_) (mr : MR_) (sh : SH_), mc_P (mi0, ml0, mr0, sh0) 28 (mi, ml, mr, sh) → hg_G md_X6_ini true sh0 Q 9 820 213 [some (hv_r (some (7, 0))), none] [] (mi, ml, mr, sh) := by
    intro mi ml mr sh hP
    refine hg_aload_n (n := 214) dX6_init_213 rfl rfl ?_
    refine hg_bipush (n := 216) (v := 100) dX6_init_214 rfl (by decide) ?_
    refine hg_newarray (n := 218) (k := 59) (i := 0) (a := 0) (N := 100) dX6_init_216 rfl ac_int rfl (by decide) rfl (by decide) rfl ⟨rfl, by decide, hP.2.2.1 29 (by decide), hn0 29, fun v hv => by rw [List.mem_singleton.mp hv]; exact ⟨39, hP.1⟩, fun v hv => by rw [hl1 v hv]; exact ⟨39, hP.1⟩⟩ (by decide) ?_
    refine hg_putRF (n := 221) dX6_init_218 rfl fl_X6_126 rfl rfl rfl rfl rfl ((if_neg (by decide)).trans hP.1) (fun q h => by cases h; exact ⟨100, if_pos ⟨rfl, rfl⟩⟩) ?_
    exact s221 _ _ _ _ (mc_next (j := 29) (N := 100) hP (by decide) (by intro i h1 h2; rcases (show i = 28 by omega) with rfl <;> rfl) rfl)
  have s206 : ∀ (mi : MI_) (ml : ML_) (mr : MR_) (sh : SH_), mc_P (mi0, ml0, mr0, sh0) 27 (mi, ml, mr, sh) → hg_G md_X6_ini true sh0 Q 10 823 206 [some (hv_r (some (7, 0))), none] [] (mi, ml, mr, sh) := by
    intro mi ml mr sh hP
    refine hg_aload_n (n := 207) dX6_init_206 rfl rfl ?_
    refine hg_iconst (n := 208) (v := 3) dX6_init_207 rfl (by decide) ?_
    refine hg_newarray (n := 210) (k := 57) (i := 0) (a := 0) (N := 3) dX6_init_208 rfl ac_int rfl (by decide) rfl (by decide) rfl ⟨rfl, by decide, hP.2.2.1 27 (by decide), hn0 27, fun v hv => by rw [List.mem_singleton.mp hv]; exact ⟨39, hP.1⟩, fun v hv => by rw [hl1 v hv]; exact ⟨39, hP.1⟩⟩ (by decide) ?_
    refine hg_putRF (n := 213) dX6_init_210 rfl fl_X6_123 rfl rfl rfl rfl rfl ((if_neg (by decide)).trans hP.1) (fun q h => by cases h; exact ⟨3, if_pos ⟨rfl, rfl⟩⟩) ?_
    exact s213 _ _ _ _ (mc_next (j := 27) (N := 3) hP (by decide) (fun i h1 h2 => by omega) rfl)
  have s199 : ∀ (mi : MI_) (ml : ML_) (mr : MR_) (sh : SH_), mc_P (mi0, ml0, mr0, sh0) 26 (mi, ml, mr, sh) → hg_G md_X6_ini true sh0 Q 11 826 199 [some (hv_r (some (7, 0))), none] [] (mi, ml, mr, sh) := by
    intro mi ml mr sh hP
    refine hg_aload_n (n := 200) dX6_init_199 rfl rfl ?_
    refine hg_iconst (n := 201) (v := 3) dX6_init_200 rfl (by decide) ?_
    refine hg_newarray (n := 203) (k := 56) (i := 0) (a := 0) (N := 3) dX6_init_201 rfl ac_int rfl (by decide) rfl (by decide) rfl ⟨rfl, by decide, hP.2.2.1 26 (by decide), hn0 26, fun v hv => by rw [List.mem_singleton.mp hv]; exact ⟨39, hP.1⟩, fun v hv => by rw [hl1 v hv]; exact ⟨39, hP.1⟩⟩ (by decide) ?_
    refine hg_putRF (n := 206) dX6_init_203 rfl fl_X6_120 rfl rfl rfl rfl rfl ((if_neg (by decide)).trans hP.1) (fun q h => by cases h; exact ⟨3, if_pos ⟨rfl, rfl⟩⟩) ?_
    exact s206 _ _ _ _ (mc_next (j := 26) (N := 3) hP (by decide) (fun i h1 h2 => by omega) rfl)
  have s192 : ∀ (mi : MI_) (ml : ML_) (mr : MR_) (sh : SH_), mc_P (mi0, ml0, mr0, sh0) 25 (mi, ml, mr, sh) → hg_G md_X6_ini true sh0 Q 12 829 192 [some (hv_r (some (7, 0))), none] [] (mi, ml, mr, sh) := by
    intro mi ml mr sh hP
    refine hg_aload_n (n := 193) dX6_init_192 rfl rfl ?_
    refine hg_iconst (n := 194) (v := 3) dX6_init_193 rfl (by decide) ?_
    refine hg_newarray (n := 196) (k := 55) (i := 0) (a := 0) (N := 3) dX6_init_194 rfl ac_int rfl (by decide) rfl (by decide) rfl ⟨rfl, by decide, hP.2.2.1 25 (by decide), hn0 25, fun v hv => by rw [List.mem_singleton.mp hv]; exact ⟨39, hP.1⟩, fun v hv => by rw [hl1 v hv]; exact ⟨39, hP.1⟩⟩ (by decide) ?_
    refine hg_putRF (n := 199) dX6_init_196 rfl fl_X6_117 rfl rfl rfl rfl rfl ((if_neg (by decide)).trans hP.1) (fun q h => by cases h; exact ⟨3, if_pos ⟨rfl, rfl⟩⟩) ?_
    exact s199 _ _ _ _ (mc_next (j := 25) (N := 3) hP (by decide) (fun i h1 h2 => by omega) rfl)
  have s185 : ∀ (mi : MI_) (ml : ML_) (mr : MR_) (sh : SH_), mc_P (mi0, ml0, mr0, sh0) 24 (mi, ml, mr, sh) → hg_G md_X6_ini true sh0 Q 13 832 185 [some (hv_r (some (7, 0))), none] [] (mi, ml, mr, sh) := by
    intro mi ml mr sh hP
    refine hg_aload_n (n := 186) dX6_init_185 rfl rfl ?_
    refine hg_iconst (n := 187) (v := 3) dX6_init_186 rfl (by decide) ?_
    refine hg_newarray (n := 189) (k := 54) (i := 0) (a := 0) (N := 3) dX6_init_187 rfl ac_int rfl (by decide) rfl (by decide) rfl ⟨rfl, by decide, hP.2.2.1 24 (by decide), hn0 24, fun v hv => by rw [List.mem_singleton.mp hv]; exact ⟨39, hP.1⟩, fun v hv => by rw [hl1 v hv]; exact ⟨39, hP.1⟩⟩ (by decide) ?_
    refine hg_putRF (n := 192) dX6_init_189 rfl fl_X6_114 rfl rfl rfl rfl rfl ((if_neg (by decide)).trans hP.1) (fun q h => by cases h; exact ⟨3, if_pos ⟨rfl, rfl⟩⟩) ?_
    exact s192 _ _ _ _ (mc_next (j := 24) (N := 3) hP (by decide) (fun i h1 h2 => by omega) rfl)
  have s178 : ∀ (mi : MI_) (ml : ML_) (mr : MR_) (sh : SH_), mc_P (mi0, ml0, mr0, sh0) 23 (mi, ml, mr, sh) → hg_G md_X6_ini true sh0 Q 14 835 178 [some (hv_r (some (7, 0))), none] [] (mi, ml, mr, sh) := by
    intro mi ml mr sh hP
    refine hg_aload_n (n := 179) dX6_init_178 rfl rfl ?_
    refine hg_iconst (n := 180) (v := 3) dX6_init_179 rfl (by decide) ?_
    refine hg_newarray (n := 182) (k := 53) (i := 0) (a := 2) (N := 3) dX6_init_180 rfl ac_boolean rfl (by decide) rfl (by decide) rfl ⟨rfl, by decide, hP.2.2.1 23 (by decide), hn0 23, fun v hv => by rw [List.mem_singleton.mp hv]; exact ⟨39, hP.1⟩, fun v hv => by rw [hl1 v hv]; exact ⟨39, hP.1⟩⟩ (by decide) ?_
    refine hg_putRF (n := 185) dX6_init_182 rfl fl_X6_111 rfl rfl rfl rfl rfl ((if_neg (by decide)).trans hP.1) (fun q h => by cases h; exact ⟨3, if_pos ⟨rfl, rfl⟩⟩) ?_
    exact s185 _ _ _ _ (mc_next (j := 23) (N := 3) hP (by decide) (fun i h1 h2 => by omega) rfl)
  have s170 : ∀ (mi : MI_) (ml : ML_) (mr : MR_) (sh : SH_), mc_P (mi0, ml0, mr0, sh0) 22 (mi, ml, mr, sh) → hg_G md_X6_ini true sh0 Q 15 847 170 [some (hv_r (some (7, 0))), none] [] (mi, ml, mr, sh) := by
    intro mi ml mr sh hP
    refine hg_aload_n (n := 171) dX6_init_170 rfl rfl ?_
    refine hg_bipush (n := 173) (v := 12) dX6_init_171 rfl (by decide) ?_
    refine hg_newarray (n := 175) (k := 52) (i := 0) (a := 0) (N := 12) dX6_init_173 rfl ac_int rfl (by decide) rfl (by decide) rfl ⟨rfl, by decide, hP.2.2.1 22 (by decide), hn0 22, fun v hv => by rw [List.mem_singleton.mp hv]; exact ⟨39, hP.1⟩, fun v hv => by rw [hl1 v hv]; exact ⟨39, hP.1⟩⟩ (by decide) ?_
    refine hg_putRF (n := 178) dX6_init_175 rfl fl_X6_108 rfl rfl rfl rfl rfl ((if_neg (by decide)).trans hP.1) (fun q h => by cases h; exact ⟨12, if_pos ⟨rfl, rfl⟩⟩) ?_
    exact s178 _ _ _ _ (mc_next (j := 22) (N := 12) hP (by decide) (fun i h1 h2 => by omega) rfl)
  have s162 : ∀ (mi : MI_) (ml : ML_) (mr : MR_) (sh : SH_), mc_P (mi0, ml0, mr0, sh0) 21 (mi, ml, mr, sh) → hg_G md_X6_ini true sh0 Q 16 859 162 [some (hv_r (some (7, 0))), none] [] (mi, ml, mr, sh) := by
    intro mi ml mr sh hP
    refine hg_aload_n (n := 163) dX6_init_162 rfl rfl ?_
    refine hg_bipush (n := 165) (v := 12) dX6_init_163 rfl (by decide) ?_
    refine hg_newarray (n := 167) (k := 51) (i := 0) (a := 2) (N := 12) dX6_init_165 rfl ac_boolean rfl (by decide) rfl (by decide) rfl ⟨rfl, by decide, hP.2.2.1 21 (by decide), hn0 21, fun v hv => by rw [List.mem_singleton.mp hv]; exact ⟨39, hP.1⟩, fun v hv => by rw [hl1 v hv]; exact ⟨39, hP.1⟩⟩ (by decide) ?_
    refine hg_putRF (n := 170) dX6_init_167 rfl fl_X6_104 rfl rfl rfl rfl rfl ((if_neg (by decide)).trans hP.1) (fun q h => by cases h; exact ⟨12, if_pos ⟨rfl, rfl⟩⟩) ?_
    exact s170 _ _ _ _ (mc_next (j := 21) (N := 12) hP (by decide) (fun i h1 h2 => by omega) rfl)
  have s154 : ∀ (mi : MI_) (ml : ML_) (mr : MR_) (sh : SH_), mc_P (mi0, ml0, mr0, sh0) 20 (mi, ml, mr, sh) → hg_G md_X6_ini true sh0 Q 17 871 154 [some (hv_r (some (7, 0))), none] [] (mi, ml, mr, sh) := by
    intro mi ml mr sh hP
    refine hg_aload_n (n := 155) dX6_init_154 rfl rfl ?_
    refine hg_bipush (n := 157) (v := 12) dX6_init_155 rfl (by decide) ?_
    refine hg_newarray (n := 159) (k := 50) (i := 0) (a := 0) (N := 12) dX6_init_157 rfl ac_int rfl (by decide) rfl (by decide) rfl ⟨rfl, by decide, hP.2.2.1 20 (by decide), hn0 20, fun v hv => by rw [List.mem_singleton.mp hv]; exact ⟨39, hP.1⟩, fun v hv => by rw [hl1 v hv]; exact ⟨39, hP.1⟩⟩ (by decide) ?_
    refine hg_putRF (n := 162) dX6_init_159 rfl fl_X6_101 rfl rfl rfl rfl rfl ((if_neg (by decide)).trans hP.1) (fun q h => by cases h; exact ⟨12, if_pos ⟨rfl, rfl⟩⟩) ?_
    exact s162 _ _ _ _ (mc_next (j := 20) (N := 12) hP (by decide) (fun i h1 h2 => by omega) rfl)
  have s146 : ∀ (mi : MI_) (ml : ML_) (mr : MR_) (sh : SH_), mc_P (mi0, ml0, mr0, sh0) 19 (mi, ml, mr, sh) → hg_G md_X6_ini true sh0 Q 18 895 146 [some (hv_r (some (7, 0))), none] [] (mi, ml, mr, sh) := by
    intro mi ml mr sh hP
    refine hg_aload_n (n := 147) dX6_init_146 rfl rfl ?_
    refine hg_bipush (n := 149) (v := 24) dX6_init_147 rfl (by decide) ?_
    refine hg_newarray (n := 151) (k := 49) (i := 0) (a := 0) (N := 24) dX6_init_149 rfl ac_int rfl (by decide) rfl (by decide) rfl ⟨rfl, by decide, hP.2.2.1 19 (by decide), hn0 19, fun v hv => by rw [List.mem_singleton.mp hv]; exact ⟨39, hP.1⟩, fun v hv => by rw [hl1 v hv]; exact ⟨39, hP.1⟩⟩ (by decide) ?_
    refine hg_putRF (n := 154) dX6_init_151 rfl fl_X6_98 rfl rfl rfl rfl rfl ((if_neg (by decide)).trans hP.1) (fun q h => by cases h; exact ⟨24, if_pos ⟨rfl, rfl⟩⟩) ?_
    exact s154 _ _ _ _ (mc_next (j := 19) (N := 24) hP (by decide) (fun i h1 h2 => by omega) rfl)
  have s138 : ∀ (mi : MI_) (ml : ML_) (mr : MR_) (sh : SH_), mc_P (mi0, ml0, mr0, sh0) 18 (mi, ml, mr, sh) → hg_G md_X6_ini true sh0 Q 19 919 138 [some (hv_r (some (7, 0))), none] [] (mi, ml, mr, sh) := by
    intro mi ml mr sh hP
    refine hg_aload_n (n := 139) dX6_init_138 rfl rfl ?_
    refine hg_bipush (n := 141) (v := 24) dX6_init_139 rfl (by decide) ?_
    refine hg_newarray (n := 143) (k := 48) (i := 0) (a := 0) (N := 24) dX6_init_141 rfl ac_int rfl (by decide) rfl (by decide) rfl ⟨rfl, by decide, hP.2.2.1 18 (by decide), hn0 18, fun v hv => by rw [List.mem_singleton.mp hv]; exact ⟨39, hP.1⟩, fun v hv => by rw [hl1 v hv]; exact ⟨39, hP.1⟩⟩ (by decide) ?_
    refine hg_putRF (n := 146) dX6_init_143 rfl fl_X6_95 rfl rfl rfl rfl rfl ((if_neg (by decide)).trans hP.1) (fun q h => by cases h; exact ⟨24, if_pos ⟨rfl, rfl⟩⟩) ?_
    exact s146 _ _ _ _ (mc_next (j := 18) (N := 24) hP (by decide) (fun i h1 h2 => by omega) rfl)
  have s130 : ∀ (mi : MI_) (ml : ML_) (mr : MR_) (sh : SH_), mc_P (mi0, ml0, mr0, sh0) 17 (mi, ml, mr, sh) → hg_G md_X6_ini true sh0 Q 20 943 130 [some (hv_r (some (7, 0))), none] [] (mi, ml, mr, sh) := by
    intro mi ml mr sh hP
    refine hg_aload_n (n := 131) dX6_init_130 rfl rfl ?_
    refine hg_bipush (n := 133) (v := 24) dX6_init_131 rfl (by decide) ?_
    refine hg_newarray (n := 135) (k := 47) (i := 0) (a := 0) (N := 24) dX6_init_133 rfl ac_int rfl (by decide) rfl (by decide) rfl ⟨rfl, by decide, hP.2.2.1 17 (by decide), hn0 17, fun v hv => by rw [List.mem_singleton.mp hv]; exact ⟨39, hP.1⟩, fun v hv => by rw [hl1 v hv]; exact ⟨39, hP.1⟩⟩ (by decide) ?_
    refine hg_putRF (n := 138) dX6_init_135 rfl fl_X6_92 rfl rfl rfl rfl rfl ((if_neg (by decide)).trans hP.1) (fun q h => by cases h; exact ⟨24, if_pos ⟨rfl, rfl⟩⟩) ?_
    exact s138 _ _ _ _ (mc_next (j := 17) (N := 24) hP (by decide) (fun i h1 h2 => by omega) rfl)
  have s123 : ∀ (mi : MI_) (ml : ML_) (mr : MR_) (sh : SH_), mc_P (mi0, ml0, mr0, sh0) 16 (mi, ml, mr, sh) → hg_G md_X6_ini true sh0 Q 21 946 123 [some (hv_r (some (7, 0))), none] [] (mi, ml, mr, sh) := by
    intro mi ml mr sh hP
    refine hg_aload_n (n := 124) dX6_init_123 rfl rfl ?_
    refine hg_iconst (n := 125) (v := 3) dX6_init_124 rfl (by decide) ?_
    refine hg_newarray (n := 127) (k := 46) (i := 0) (a := 0) (N := 3) dX6_init_125 rfl ac_int rfl (by decide) rfl (by decide) rfl ⟨rfl, by decide, hP.2.2.1 16 (by decide), hn0 16, fun v hv => by rw [List.mem_singleton.mp hv]; exact ⟨39, hP.1⟩, fun v hv => by rw [hl1 v hv]; exact ⟨39, hP.1⟩⟩ (by decide) ?_
    refine hg_putRF (n := 130) dX6_init_127 rfl fl_X6_89 rfl rfl rfl rfl rfl ((if_neg (by decide)).trans hP.1) (fun q h => by cases h; exact ⟨3, if_pos ⟨rfl, rfl⟩⟩) ?_
    exact s130 _ _ _ _ (mc_next (j := 16) (N := 3) hP (by decide) (fun i h1 h2 => by omega) rfl)
  have s116 : ∀ (mi : MI_) (ml : ML_) (mr : MR_) (sh : SH_), mc_P (mi0, ml0, mr0, sh0) 15 (mi, ml, mr, sh) → hg_G md_X6_ini true sh0 Q 22 949 116 [some (hv_r (some (7, 0))), none] [] (mi, ml, mr, sh) := by
    intro mi ml mr sh hP
    refine hg_aload_n (n := 117) dX6_init_116 rfl rfl ?_
    refine hg_iconst (n := 118) (v := 3) dX6_init_117 rfl (by decide) ?_
    refine hg_newarray (n := 120) (k := 45) (i := 0) (a := 0) (N := 3) dX6_init_118 rfl ac_int rfl (by decide) rfl (by decide) rfl ⟨rfl, by decide, hP.2.2.1 15 (by decide), hn0 15, fun v hv => by rw [List.mem_singleton.mp hv]; exact ⟨39, hP.1⟩, fun v hv => by rw [hl1 v hv]; exact ⟨39, hP.1⟩⟩ (by decide) ?_
    refine hg_putRF (n := 123) dX6_init_120 rfl fl_X6_86 rfl rfl rfl rfl rfl ((if_neg (by decide)).trans hP.1) (fun q h => by cases h; exact ⟨3, if_pos ⟨rfl, rfl⟩⟩) ?_
    exact s123 _ _ _ _ (mc_next (j := 15) (N := 3) hP (by decide) (fun i h1 h2 => by omega) rfl)
  have s109 : ∀ (mi : MI_) (ml : ML_) (mr : MR_) (sh : SH_), mc_P (mi0, ml0, mr0, sh0) 14 (mi, ml, mr, sh) → hg_G md_X6_ini true sh0 Q 23 952 109 [some (hv_r (some (7, 0))), none] [] (mi, ml, mr, sh) := by
    intro mi ml mr sh hP
    refine hg_aload_n (n := 110) dX6_init_109 rfl rfl ?_
    refine hg_iconst (n := 111) (v := 3) dX6_init_110 rfl (by decide) ?_
    refine hg_newarray (n := 113) (k := 44) (i := 0) (a := 0) (N := 3) dX6_init_111 rfl ac_int rfl (by decide) rfl (by decide) rfl ⟨rfl, by decide, hP.2.2.1 14 (by decide), hn0 14, fun v hv => by rw [List.mem_singleton.mp hv]; exact ⟨39, hP.1⟩, fun v hv => by rw [hl1 v hv]; exact ⟨39, hP.1⟩⟩ (by decide) ?_
    refine hg_putRF (n := 116) dX6_init_113 rfl fl_X6_83 rfl rfl rfl rfl rfl ((if_neg (by decide)).trans hP.1) (fun q h => by cases h; exact ⟨3, if_pos ⟨rfl, rfl⟩⟩) ?_
    exact s116 _ _ _ _ (mc_next (j := 14) (N := 3) hP (by decide) (fun i h1 h2 => by omega) rfl)
  have s101 : ∀ (mi : MI_) (ml : ML_) (mr : MR_) (sh : SH_), mc_P (mi0, ml0, mr0, sh0) 13 (mi, ml, mr, sh) → hg_G md_X6_ini true sh0 Q 24 960 101 [some (hv_r (some (7, 0))), none] [] (mi, ml, mr, sh) := by
    intro mi ml mr sh hP
    refine hg_aload_n (n := 102) dX6_init_101 rfl rfl ?_
    refine hg_bipush (n := 104) (v := 8) dX6_init_102 rfl (by decide) ?_
    refine hg_newarray (n := 106) (k := 43) (i := 0) (a := 0) (N := 8) dX6_init_104 rfl ac_int rfl (by decide) rfl (by decide) rfl ⟨rfl, by decide, hP.2.2.1 13 (by decide), hn0 13, fun v hv => by rw [List.mem_singleton.mp hv]; exact ⟨39, hP.1⟩, fun v hv => by rw [hl1 v hv]; exact ⟨39, hP.1⟩⟩ (by decide) ?_
    refine hg_putRF (n := 109) dX6_init_106 rfl fl_X6_49 rfl rfl rfl rfl rfl ((if_neg (by decide)).trans hP.1) (fun q h => by cases h; exact ⟨8, if_pos ⟨rfl, rfl⟩⟩) ?_
    exact s109 _ _ _ _ (mc_next (j := 13) (N := 8) hP (by decide) (fun i h1 h2 => by omega) rfl)
  have s93 : ∀ (mi : MI_) (ml : ML_) (mr : MR_) (sh : SH_), mc_P (mi0, ml0, mr0, sh0) 12 (mi, ml, mr, sh) → hg_G md_X6_ini true sh0 Q 25 1032 93 [some (hv_r (some (7, 0))), none] [] (mi, ml, mr, sh) := by
    intro mi ml mr sh hP
    refine hg_aload_n (n := 94) dX6_init_93 rfl rfl ?_
    refine hg_bipush (n := 96) (v := 72) dX6_init_94 rfl (by decide) ?_
    refine hg_newarray (n := 98) (k := 42) (i := 0) (a := 0) (N := 72) dX6_init_96 rfl ac_int rfl (by decide) rfl (by decide) rfl ⟨rfl, by decide, hP.2.2.1 12 (by decide), hn0 12, fun v hv => by rw [List.mem_singleton.mp hv]; exact ⟨39, hP.1⟩, fun v hv => by rw [hl1 v hv]; exact ⟨39, hP.1⟩⟩ (by decide) ?_
    refine hg_putRF (n := 101) dX6_init_98 rfl fl_X6_43 rfl rfl rfl rfl rfl ((if_neg (by decide)).trans hP.1) (fun q h => by cases h; exact ⟨72, if_pos ⟨rfl, rfl⟩⟩) ?_
    exact s101 _ _ _ _ (mc_next (j := 12) (N := 72) hP (by decide) (fun i h1 h2 => by omega) rfl)
  have s84 : ∀ (mi : MI_) (ml : ML_) (mr : MR_) (sh : SH_), mc_P (mi0, ml0, mr0, sh0) 11 (mi, ml, mr, sh) → hg_G md_X6_ini true sh0 Q 26 1320 84 [some (hv_r (some (7, 0))), none] [] (mi, ml, mr, sh) := by
    intro mi ml mr sh hP
    refine hg_aload_n (n := 85) dX6_init_84 rfl rfl ?_
    refine hg_sipush (n := 88) (v := 288) dX6_init_85 rfl (by decide) ?_
    refine hg_newarray (n := 90) (k := 41) (i := 0) (a := 0) (N := 288) dX6_init_88 rfl ac_int rfl (by decide) rfl (by decide) rfl ⟨rfl, by decide, hP.2.2.1 11 (by decide), hn0 11, fun v hv => by rw [List.mem_singleton.mp hv]; exact ⟨39, hP.1⟩, fun v hv => by rw [hl1 v hv]; exact ⟨39, hP.1⟩⟩ (by decide) ?_
    refine hg_putRF (n := 93) dX6_init_90 rfl fl_X6_46 rfl rfl rfl rfl rfl ((if_neg (by decide)).trans hP.1) (fun q h => by cases h; exact ⟨288, if_pos ⟨rfl, rfl⟩⟩) ?_
    exact s93 _ _ _ _ (mc_next (j := 11) (N := 288) hP (by decide) (fun i h1 h2 => by omega) rfl)
  have s76 : ∀ (mi : MI_) (ml : ML_) (mr : MR_) (sh : SH_), mc_P (mi0, ml0, mr0, sh0) 10 (mi, ml, mr, sh) → hg_G md_X6_ini true sh0 Q 27 1392 76 [some (hv_r (some (7, 0))), none] [] (mi, ml, mr, sh) := by
    intro mi ml mr sh hP
    refine hg_aload_n (n := 77) dX6_init_76 rfl rfl ?_
    refine hg_bipush (n := 79) (v := 72) dX6_init_77 rfl (by decide) ?_
    refine hg_newarray (n := 81) (k := 40) (i := 0) (a := 0) (N := 72) dX6_init_79 rfl ac_int rfl (by decide) rfl (by decide) rfl ⟨rfl, by decide, hP.2.2.1 10 (by decide), hn0 10, fun v hv => by rw [List.mem_singleton.mp hv]; exact ⟨39, hP.1⟩, fun v hv => by rw [hl1 v hv]; exact ⟨39, hP.1⟩⟩ (by decide) ?_
    refine hg_putRF (n := 84) dX6_init_81 rfl fl_X6_40 rfl rfl rfl rfl rfl ((if_neg (by decide)).trans hP.1) (fun q h => by cases h; exact ⟨72, if_pos ⟨rfl, rfl⟩⟩) ?_
    exact s84 _ _ _ _ (mc_next (j := 10) (N := 72) hP (by decide) (fun i h1 h2 => by omega) rfl)
  have s68 : ∀ (mi : MI_) (ml : ML_) (mr : MR_) (sh : SH_), mc_P (mi0, ml0, mr0, sh0) 9 (mi, ml, mr, sh) → hg_G md_X6_ini true sh0 Q 28 1404 68 [some (hv_r (some (7, 0))), none] [] (mi, ml, mr, sh) := by
    intro mi ml mr sh hP
    refine hg_aload_n (n := 69) dX6_init_68 rfl rfl ?_
    refine hg_bipush (n := 71) (v := 12) dX6_init_69 rfl (by decide) ?_
    refine hg_newarray (n := 73) (k := 39) (i := 0) (a := 0) (N := 12) dX6_init_71 rfl ac_int rfl (by decide) rfl (by decide) rfl ⟨rfl, by decide, hP.2.2.1 9 (by decide), hn0 9, fun v hv => by rw [List.mem_singleton.mp hv]; exact ⟨39, hP.1⟩, fun v hv => by rw [hl1 v hv]; exact ⟨39, hP.1⟩⟩ (by decide) ?_
    refine hg_putRF (n := 76) dX6_init_73 rfl fl_X6_37 rfl rfl rfl rfl rfl ((if_neg (by decide)).trans hP.1) (fun q h => by cases h; exact ⟨12, if_pos ⟨rfl, rfl⟩⟩) ?_
    exact s76 _ _ _ _ (mc_next (j := 9) (N := 12) hP (by decide) (fun i h1 h2 => by omega) rfl)
  have s60 : ∀ (mi : MI_) (ml : ML_) (mr : MR_) (sh : SH_), mc_P (mi0, ml0, mr0, sh0) 8 (mi, ml, mr, sh) → hg_G md_X6_ini true sh0 Q 29 1416 60 [some (hv_r (some (7, 0))), none] [] (mi, ml, mr, sh) := by
    intro mi ml mr sh hP
    refine hg_aload_n (n := 61) dX6_init_60 rfl rfl ?_
    refine hg_bipush (n := 63) (v := 12) dX6_init_61 rfl (by decide) ?_
    refine hg_newarray (n := 65) (k := 38) (i := 0) (a := 0) (N := 12) dX6_init_63 rfl ac_int rfl (by decide) rfl (by decide) rfl ⟨rfl, by decide, hP.2.2.1 8 (by decide), hn0 8, fun v hv => by rw [List.mem_singleton.mp hv]; exact ⟨39, hP.1⟩, fun v hv => by rw [hl1 v hv]; exact ⟨39, hP.1⟩⟩ (by decide) ?_
    refine hg_putRF (n := 68) dX6_init_65 rfl fl_X6_34 rfl rfl rfl rfl rfl ((if_neg (by decide)).trans hP.1) (fun q h => by cases h; exact ⟨12, if_pos ⟨rfl, rfl⟩⟩) ?_
    exact s68 _ _ _ _ (mc_next (j := 8) (N := 12) hP (by decide) (fun i h1 h2 => by omega) rfl)
  have s52 : ∀ (mi : MI_) (ml : ML_) (mr : MR_) (sh : SH_), mc_P (mi0, ml0, mr0, sh0) 7 (mi, ml, mr, sh) → hg_G md_X6_ini true sh0 Q 30 1428 52 [some (hv_r (some (7, 0))), none] [] (mi, ml, mr, sh) := by
    intro mi ml mr sh hP
    refine hg_aload_n (n := 53) dX6_init_52 rfl rfl ?_
    refine hg_bipush (n := 55) (v := 12) dX6_init_53 rfl (by decide) ?_
    refine hg_newarray (n := 57) (k := 37) (i := 0) (a := 1) (N := 12) dX6_init_55 rfl ac_long rfl (by decide) rfl (by decide) rfl ⟨rfl, by decide, hP.2.2.1 7 (by decide), hn0 7, fun v hv => by rw [List.mem_singleton.mp hv]; exact ⟨39, hP.1⟩, fun v hv => by rw [hl1 v hv]; exact ⟨39, hP.1⟩⟩ (by decide) ?_
    refine hg_putRF (n := 60) dX6_init_57 rfl fl_X6_30 rfl rfl rfl rfl rfl ((if_neg (by decide)).trans hP.1) (fun q h => by cases h; exact ⟨12, if_pos ⟨rfl, rfl⟩⟩) ?_
    exact s60 _ _ _ _ (mc_next (j := 7) (N := 12) hP (by decide) (fun i h1 h2 => by omega) rfl)
  have s44 : ∀ (mi : MI_) (ml : ML_) (mr : MR_) (sh : SH_), mc_P (mi0, ml0, mr0, sh0) 6 (mi, ml, mr, sh) → hg_G md_X6_ini true sh0 Q 31 1440 44 [some (hv_r (some (7, 0))), none] [] (mi, ml, mr, sh) := by
    intro mi ml mr sh hP
    refine hg_aload_n (n := 45) dX6_init_44 rfl rfl ?_
    refine hg_bipush (n := 47) (v := 12) dX6_init_45 rfl (by decide) ?_
    refine hg_newarray (n := 49) (k := 36) (i := 0) (a := 0) (N := 12) dX6_init_47 rfl ac_int rfl (by decide) rfl (by decide) rfl ⟨rfl, by decide, hP.2.2.1 6 (by decide), hn0 6, fun v hv => by rw [List.mem_singleton.mp hv]; exact ⟨39, hP.1⟩, fun v hv => by rw [hl1 v hv]; exact ⟨39, hP.1⟩⟩ (by decide) ?_
    refine hg_putRF (n := 52) dX6_init_49 rfl fl_X6_27 rfl rfl rfl rfl rfl ((if_neg (by decide)).trans hP.1) (fun q h => by cases h; exact ⟨12, if_pos ⟨rfl, rfl⟩⟩) ?_
    exact s52 _ _ _ _ (mc_next (j := 6) (N := 12) hP (by decide) (fun i h1 h2 => by omega) rfl)
  have s36 : ∀ (mi : MI_) (ml : ML_) (mr : MR_) (sh : SH_), mc_P (mi0, ml0, mr0, sh0) 5 (mi, ml, mr, sh) → hg_G md_X6_ini true sh0 Q 32 1452 36 [some (hv_r (some (7, 0))), none] [] (mi, ml, mr, sh) := by
    intro mi ml mr sh hP
    refine hg_aload_n (n := 37) dX6_init_36 rfl rfl ?_
    refine hg_bipush (n := 39) (v := 12) dX6_init_37 rfl (by decide) ?_
    refine hg_newarray (n := 41) (k := 35) (i := 0) (a := 0) (N := 12) dX6_init_39 rfl ac_int rfl (by decide) rfl (by decide) rfl ⟨rfl, by decide, hP.2.2.1 5 (by decide), hn0 5, fun v hv => by rw [List.mem_singleton.mp hv]; exact ⟨39, hP.1⟩, fun v hv => by rw [hl1 v hv]; exact ⟨39, hP.1⟩⟩ (by decide) ?_
    refine hg_putRF (n := 44) dX6_init_41 rfl fl_X6_24 rfl rfl rfl rfl rfl ((if_neg (by decide)).trans hP.1) (fun q h => by cases h; exact ⟨12, if_pos ⟨rfl, rfl⟩⟩) ?_
    exact s44 _ _ _ _ (mc_next (j := 5) (N := 12) hP (by decide) (fun i h1 h2 => by omega) rfl)
  have s28 : ∀ (mi : MI_) (ml : ML_) (mr : MR_) (sh : SH_), mc_P (mi0, ml0, mr0, sh0) 4 (mi, ml, mr, sh) → hg_G md_X6_ini true sh0 Q 33 1464 28 [some (hv_r (some (7, 0))), none] [] (mi, ml, mr, sh) := by
    intro mi ml mr sh hP
    refine hg_aload_n (n := 29) dX6_init_28 rfl rfl ?_
    refine hg_bipush (n := 31) (v := 12) dX6_init_29 rfl (by decide) ?_
    refine hg_newarray (n := 33) (k := 34) (i := 0) (a := 0) (N := 12) dX6_init_31 rfl ac_int rfl (by decide) rfl (by decide) rfl ⟨rfl, by decide, hP.2.2.1 4 (by decide), hn0 4, fun v hv => by rw [List.mem_singleton.mp hv]; exact ⟨39, hP.1⟩, fun v hv => by rw [hl1 v hv]; exact ⟨39, hP.1⟩⟩ (by decide) ?_
    refine hg_putRF (n := 36) dX6_init_33 rfl fl_X6_21 rfl rfl rfl rfl rfl ((if_neg (by decide)).trans hP.1) (fun q h => by cases h; exact ⟨12, if_pos ⟨rfl, rfl⟩⟩) ?_
    exact s36 _ _ _ _ (mc_next (j := 4) (N := 12) hP (by decide) (fun i h1 h2 => by omega) rfl)
  have s20 : ∀ (mi : MI_) (ml : ML_) (mr : MR_) (sh : SH_), mc_P (mi0, ml0, mr0, sh0) 3 (mi, ml, mr, sh) → hg_G md_X6_ini true sh0 Q 34 1476 20 [some (hv_r (some (7, 0))), none] [] (mi, ml, mr, sh) := by
    intro mi ml mr sh hP
    refine hg_aload_n (n := 21) dX6_init_20 rfl rfl ?_
    refine hg_bipush (n := 23) (v := 12) dX6_init_21 rfl (by decide) ?_
    refine hg_newarray (n := 25) (k := 33) (i := 0) (a := 0) (N := 12) dX6_init_23 rfl ac_int rfl (by decide) rfl (by decide) rfl ⟨rfl, by decide, hP.2.2.1 3 (by decide), hn0 3, fun v hv => by rw [List.mem_singleton.mp hv]; exact ⟨39, hP.1⟩, fun v hv => by rw [hl1 v hv]; exact ⟨39, hP.1⟩⟩ (by decide) ?_
    refine hg_putRF (n := 28) dX6_init_25 rfl fl_X6_18 rfl rfl rfl rfl rfl ((if_neg (by decide)).trans hP.1) (fun q h => by cases h; exact ⟨12, if_pos ⟨rfl, rfl⟩⟩) ?_
    exact s28 _ _ _ _ (mc_next (j := 3) (N := 12) hP (by decide) (fun i h1 h2 => by omega) rfl)
  have s12 : ∀ (mi : MI_) (ml : ML_) (mr : MR_) (sh : SH_), mc_P (mi0, ml0, mr0, sh0) 2 (mi, ml, mr, sh) → hg_G md_X6_ini true sh0 Q 35 1488 12 [some (hv_r (some (7, 0))), none] [] (mi, ml, mr, sh) := by
    intro mi ml mr sh hP
    refine hg_aload_n (n := 13) dX6_init_12 rfl rfl ?_
    refine hg_bipush (n := 15) (v := 12) dX6_init_13 rfl (by decide) ?_
    refine hg_newarray (n := 17) (k := 32) (i := 0) (a := 0) (N := 12) dX6_init_15 rfl ac_int rfl (by decide) rfl (by decide) rfl ⟨rfl, by decide, hP.2.2.1 2 (by decide), hn0 2, fun v hv => by rw [List.mem_singleton.mp hv]; exact ⟨39, hP.1⟩, fun v hv => by rw [hl1 v hv]; exact ⟨39, hP.1⟩⟩ (by decide) ?_
    refine hg_putRF (n := 20) dX6_init_17 rfl fl_X6_15 rfl rfl rfl rfl rfl ((if_neg (by decide)).trans hP.1) (fun q h => by cases h; exact ⟨12, if_pos ⟨rfl, rfl⟩⟩) ?_
    exact s20 _ _ _ _ (mc_next (j := 2) (N := 12) hP (by decide) (fun i h1 h2 => by omega) rfl)
  have s4 : ∀ (mi : MI_) (ml : ML_) (mr : MR_) (sh : SH_), mc_P (mi0, ml0, mr0, sh0) 0 (mi, ml, mr, sh) → hg_G md_X6_ini true sh0 Q 36 1500 4 [some (hv_r (some (7, 0))), none] [] (mi, ml, mr, sh) := by
    intro mi ml mr sh hP
    refine hg_aload_n (n := 5) dX6_init_4 rfl rfl ?_
    refine hg_bipush (n := 7) (v := 12) dX6_init_5 rfl (by decide) ?_
    refine hg_newarray (n := 9) (k := 31) (i := 0) (a := 0) (N := 12) dX6_init_7 rfl ac_int rfl (by decide) rfl (by decide) rfl ⟨rfl, by decide, hP.2.2.1 1 (by decide), hn0 1, fun v hv => by rw [List.mem_singleton.mp hv]; exact ⟨39, hP.1⟩, fun v hv => by rw [hl1 v hv]; exact ⟨39, hP.1⟩⟩ (by decide) ?_
    refine hg_putRF (n := 12) dX6_init_9 rfl fl_X6_11 rfl rfl rfl rfl rfl ((if_neg (by decide)).trans hP.1) (fun q h => by cases h; exact ⟨12, if_pos ⟨rfl, rfl⟩⟩) ?_
    exact s12 _ _ _ _ (mc_next (j := 1) (N := 12) hP (by decide) (by intro i h1 h2; rcases (show i = 0 by omega) with rfl <;> rfl) rfl)
  refine hg_aload_n (n := 1) dX6_init_0 rfl rfl ?_
  refine hg_objInit (n := 4) dX6_init_1 rfl mk_X6_77 oi_i oi_c (by decide) (by decide) ?_
  exact s4 mi0 ml0 mr0 sh0 ⟨h7, fun j _ h => by omega, fun j _ => hn0 j, fun k i f _ => ⟨rfl, rfl, rfl, fun _ => rfl⟩⟩

