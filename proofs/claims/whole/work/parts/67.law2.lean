/-! the law: its loop -/
theorem lp_gt {L i : Nat} (hL : L ≤ 3584) (hi : i ≤ 1000) : nI L - 7 < nI (7 * i) ↔ L < 7 * i + 7 := by
  have e1 : (nI L).toInt = L := nI_toInt (by omega)
  have e2 : (nI (7 * i)).toInt = ((7 * i : Nat) : Int) := nI_toInt (by omega)
  have e7 : (7 : Int32).toInt = 7 := rfl
  rw [i32_lt, i32_sub (by omega) (by omega), e1, e2, e7]
  omega
theorem sw_c (t : Int32) : (t.toInt < 0 ∨ 22 < t.toInt) ∨ (∃ c, c ≤ 22 ∧ t = nI c) := by
  by_cases h : t < 0
  · exact Or.inl (Or.inl (by rw [i32_lt] at h; exact h))
  · obtain ⟨c, hc, rfl⟩ := nI_of h
    by_cases q : c ≤ 22
    · exact Or.inr ⟨c, q, rfl⟩
    · refine Or.inl (Or.inr ?_)
      rw [nI_toInt hc]
      omega
set_option maxHeartbeats 4000000 in
set_option maxRecDepth 100000 in
theorem law_18 {L : Nat} (hL : L ≤ 3584) {sh0 : SH_} {Q : Option V_ → Me_ → Prop} (h0 : ∀ k j n, sh0 k j = some n → k = 0 ∧ j = 0) (hQ : ∀ M, Q (some (hv_i 1)) M) : ∀ r i M, L < 7 * (i + r) + 7 → i ≤ 600 → Iv L M → hg_G md_L_law true sh0 Q (8 * r) (52 * r) 18 [some (hv_r (some (0, 0))), some (hv_r (some (1, 0))), some (hv_r (some (7, 0))), some (hv_i (nI (7 * i)))] [] M := by
  have hend : ∀ (b1 b2 i : Nat) (M : Me_), hg_G md_L_law true sh0 Q b1 b2 906 [some (hv_r (some (0, 0))), some (hv_r (some (1, 0))), some (hv_r (some (7, 0))), some (hv_i (nI (7 * i)))] [] M := by
    intro b1 b2 i M
    refine hg_iconst (n := 907) (v := 1) dL_law_906 rfl (by decide) ?_
    exact hg_zreturn dL_law_907 rfl (Or.inr rfl) (hQ _)
  intro r
  induction r with
  | zero =>
    rintro i ⟨mi, ml, mr, sh⟩ hr hi hI
    refine hg_iload_n (n := 19) dL_law_18 rfl rfl ?_
    refine hg_aload_n (n := 20) dL_law_19 rfl rfl ?_
    refine hg_scriptlen (n := 21) (len := L) dL_law_20 rfl hI.1 ?_
    refine hg_bipush (n := 23) (v := 7) dL_law_21 rfl (by decide) ?_
    refine hg_isub (n := 24) dL_law_23 rfl ?_
    refine hg_icmp_gt (n := 27) (tgt := 906) dL_law_24 rfl (by decide) (fun h24 => ?_) (fun h24 => ?_)
    · exact hend _ _ _ _
    · exact absurd ((lp_gt hL (by omega)).mpr (by omega)) h24
  | succ r ih =>
    rintro i ⟨mi, ml, mr, sh⟩ hr hi hI
    have s900 : ∀ M, Iv L M → hg_G md_L_law true sh0 Q (8 * r) (52 * r) 900 [some (hv_r (some (0, 0))), some (hv_r (some (1, 0))), some (hv_r (some (7, 0))), some (hv_i (nI (7 * i)))] [] M ∨ L < 7 * i + 7 := by
      intro M hM
      by_cases q : L < 7 * i + 7
      · exact Or.inr q
      · refine Or.inl ?_
        refine hg_iincN (n := 903) (7 * i) 7 dL_law_900 rfl rfl (by decide) (by decide) rfl rfl ?_
        refine hg_goto (tgt := 18) dL_law_903 (by decide) ?_
        exact ih (i + 1) M (by omega) (by omega) hM
    refine hg_iload_n (n := 19) dL_law_18 rfl rfl ?_
    refine hg_aload_n (n := 20) dL_law_19 rfl rfl ?_
    refine hg_scriptlen (n := 21) (len := L) dL_law_20 rfl hI.1 ?_
    refine hg_bipush (n := 23) (v := 7) dL_law_21 rfl (by decide) ?_
    refine hg_isub (n := 24) dL_law_23 rfl ?_
    refine hg_icmp_gt (n := 27) (tgt := 906) dL_law_24 rfl (by decide) (fun h24 => ?_) (fun h24 => ?_)
    · exact hend _ _ _ _
    have h24' : 7 * i + 7 ≤ L := Nat.not_lt.mp (mt (lp_gt hL (by omega)).mpr h24)
    have s900 : ∀ M, Iv L M → hg_G md_L_law true sh0 Q (8 * r) (52 * r) 900 [some (hv_r (some (0, 0))), some (hv_r (some (1, 0))), some (hv_r (some (7, 0))), some (hv_i (nI (7 * i)))] [] M := fun M hM => (s900 M hM).resolve_right (by omega)
    refine hg_aload_n (n := 28) dL_law_27 rfl rfl ?_
    refine hg_iload_n (n := 29) dL_law_28 rfl rfl ?_
    refine hg_script (n := 30) (len := L) (7 * i) dL_law_29 rfl hI.1 rfl (by omega) (by omega) ?_
    refine hg_bipush (n := 32) (v := 31) dL_law_30 rfl (by decide) ?_
    refine hg_iand (n := 33) dL_law_32 rfl ?_
    rcases sw_c (mi 0 0 (7 * i) &&& 31) with hout | ⟨c, hc, e⟩
    · refine hg_tableOut (tgt := 900) dL_law_33 hout (by decide) ?_
      exact hg_bud (by omega) (by omega) (s900 _ hI)
    rw [e]
    rcases (show c = 0 ∨ c = 1 ∨ c = 2 ∨ c = 3 ∨ c = 4 ∨ c = 5 ∨ c = 6 ∨ c = 7 ∨ c = 8 ∨ c = 9 ∨ c = 10 ∨ c = 11 ∨ c = 12 ∨ c = 13 ∨ c = 14 ∨ c = 15 ∨ c = 16 ∨ c = 17 ∨ c = 18 ∨ c = 19 ∨ c = 20 ∨ c = 21 ∨ c = 22 by omega) with rfl | rfl | rfl | rfl | rfl | rfl | rfl | rfl | rfl | rfl | rfl | rfl | rfl | rfl | rfl | rfl | rfl | rfl | rfl | rfl | rfl | rfl | rfl
    · refine hg_tableIn (tgt := 140) (off := 107) dL_law_33 (by decide) (by decide) rfl (by decide) ?_
      exact k_part hL h24' h0 hI s900
    · refine hg_tableIn (tgt := 215) (off := 182) dL_law_33 (by decide) (by decide) rfl (by decide) ?_
      exact k_step hL h24' h0 hI s900
    · refine hg_tableIn (tgt := 258) (off := 225) dL_law_33 (by decide) (by decide) rfl (by decide) ?_
      exact k_shell hL h24' h0 hI s900
    · refine hg_tableIn (tgt := 301) (off := 268) dL_law_33 (by decide) (by decide) rfl (by decide) ?_
      exact k_taken hL h24' h0 hI s900
    · refine hg_tableIn (tgt := 325) (off := 292) dL_law_33 (by decide) (by decide) rfl (by decide) ?_
      exact k_kept hL h24' h0 hI s900
    · refine hg_tableIn (tgt := 349) (off := 316) dL_law_33 (by decide) (by decide) rfl (by decide) ?_
      exact k_line hL h24' h0 hI s900
    · refine hg_tableIn (tgt := 402) (off := 369) dL_law_33 (by decide) (by decide) rfl (by decide) ?_
      exact k_clear hL h24' h0 hI s900
    · refine hg_tableIn (tgt := 425) (off := 392) dL_law_33 (by decide) (by decide) rfl (by decide) ?_
      exact k_load hL h24' h0 hI s900
    · refine hg_tableIn (tgt := 468) (off := 435) dL_law_33 (by decide) (by decide) rfl (by decide) ?_
      exact k_unload hL h24' h0 hI s900
    · refine hg_tableIn (tgt := 501) (off := 468) dL_law_33 (by decide) (by decide) rfl (by decide) ?_
      exact k_probe hL h24' h0 hI s900
    · refine hg_tableIn (tgt := 570) (off := 537) dL_law_33 (by decide) (by decide) rfl (by decide) ?_
      exact k_run hL h24' h0 hI s900
    · refine hg_tableIn (tgt := 593) (off := 560) dL_law_33 (by decide) (by decide) rfl (by decide) ?_
      exact k_tick hL h24' h0 hI s900
    · refine hg_tableIn (tgt := 616) (off := 583) dL_law_33 (by decide) (by decide) rfl (by decide) ?_
      exact k_stop hL h24' h0 hI s900
    · refine hg_tableIn (tgt := 639) (off := 606) dL_law_33 (by decide) (by decide) rfl (by decide) ?_
      exact k_survey hL h24' h0 hI s900
    · refine hg_tableIn (tgt := 672) (off := 639) dL_law_33 (by decide) (by decide) rfl (by decide) ?_
      exact k_about hL h24' h0 hI s900
    · refine hg_tableIn (tgt := 705) (off := 672) dL_law_33 (by decide) (by decide) rfl (by decide) ?_
      exact k_runAt hL h24' h0 hI s900
    · refine hg_tableIn (tgt := 738) (off := 705) dL_law_33 (by decide) (by decide) rfl (by decide) ?_
      exact k_paper hL h24' h0 hI s900
    · refine hg_tableIn (tgt := 781) (off := 748) dL_law_33 (by decide) (by decide) rfl (by decide) ?_
      exact k_job hL h24' h0 hI s900
    · refine hg_tableIn (tgt := 814) (off := 781) dL_law_33 (by decide) (by decide) rfl (by decide) ?_
      exact k_clearJobs hL h24' h0 hI s900
    · refine hg_tableIn (tgt := 827) (off := 794) dL_law_33 (by decide) (by decide) rfl (by decide) ?_
      exact k_lateness hL h24' h0 hI s900
    · refine hg_tableIn (tgt := 840) (off := 807) dL_law_33 (by decide) (by decide) rfl (by decide) ?_
      exact k_order hL h24' h0 hI s900
    · refine hg_tableIn (tgt := 863) (off := 830) dL_law_33 (by decide) (by decide) rfl (by decide) ?_
      exact k_count hL h24' h0 hI s900
    · refine hg_tableIn (tgt := 886) (off := 853) dL_law_33 (by decide) (by decide) rfl (by decide) ?_
      exact k_digest hL h24' h0 hI s900
