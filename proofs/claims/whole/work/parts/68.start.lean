/-! the beginning: both new -/
def sh_0 (L : Nat) : SH_ := fun k i => if k = 0 ∧ i = 0 then some L else none
theorem sh_0n {L k i : Nat} (h : k ≠ 0) : sh_0 L k i = none := if_neg (fun q => h q.1)
theorem u_n_e {α : Type} {X : Nat → Nat → Nat → α} {k i f : Nat} {x : α} : u_n X k i x k i f = x := if_pos ⟨rfl, rfl⟩
theorem u_2_e {α : Type} {X : Nat → Nat → α} {k i : Nat} {x : α} : u_2 X k i x k i = x := if_pos ⟨rfl, rfl⟩
def F5 (L : Nat) (M : Me_) : Prop := M.2.2.2 0 0 = some L ∧ hs_ M.2.2.1 M.2.2.2 0 0 (fun _ => 0) ∧ rl_e M.2.2.2 0 0 ∧ (∀ k i, 22 ≤ k ∨ k = 7 → M.2.2.2 k i = none) ∧ (M.1 1 0 4 = 0 ∧ M.1 1 0 5 = 0 ∧ M.1 2 0 4 = 0 ∧ M.1 13 0 0 = 0) ∧ ∀ f, f < 3 → (M.1 3 f 10 = 200 ∧ M.1 3 f 6 = 0 ∧ M.1 3 f 8 = 0 ∧ M.1 3 f 9 = 0 ∧ M.1 3 f 11 = 0 ∧ M.2.2.1 3 f 12 = none) ∧ ∀ i, i < 4 → M.2.2.1 15 f i = none ∧ M.1 16 f i = 0 ∧ M.1 17 f i = 0
set_option maxRecDepth 100000 in
set_option maxHeartbeats 4000000 in
theorem x5_sk {mi : MI_} {ml : ML_} {mr : MR_} {sh : SH_} {k i : Nat} (h : 22 ≤ k) : (x5_ (mi, ml, mr, sh)).2.2.2 k i = sh k i := by
  simp only [x5_, x5_f, x0_, x0_a, x5_j, x1_, x5_a, na_, nw_]
  repeat rw [u_2_k (by omega)]
set_option maxRecDepth 100000 in
set_option maxHeartbeats 4000000 in
theorem F5_x5 {L : Nat} {mi : MI_} {ml : ML_} {mr : MR_} : F5 L (x5_ (u_n mi 1 0 0, u_n ml 1 0 0, u_n mr 1 0 none, u_2 (sh_0 L) 1 0 (some 6))) := by
  refine ⟨rfl, ⟨rfl, ⟨rfl, rfl, rfl, rfl⟩, rfl, rfl, rfl, ⟨rfl, ⟨rfl, rfl, rfl, rfl⟩, rfl, rfl, rfl, rfl⟩, fun f hf => ?_, ⟨fun p hp => absurd hp (Nat.not_lt_zero _), fun p hp => absurd hp (Nat.not_lt_zero _)⟩, fun r hr => absurd hr (Nat.not_lt_zero _)⟩, ⟨fun p _ => rfl, fun p _ => rfl, fun p _ => rfl, fun p _ => rfl⟩, fun k i h => ?_, ⟨rfl, rfl, rfl, rfl⟩, fun f hf => ?_⟩
  · rcases (show f = 0 ∨ f = 1 ∨ f = 2 by omega) with rfl | rfl | rfl
    · refine ⟨⟨rfl, fun j hj => ?_⟩, rfl⟩
      rcases (show j = 0 ∨ j = 1 ∨ j = 2 ∨ j = 3 ∨ j = 4 ∨ j = 5 by omega) with rfl | rfl | rfl | rfl | rfl | rfl <;> exact ⟨rfl, rfl⟩
    · refine ⟨⟨rfl, fun j hj => ?_⟩, rfl⟩
      rcases (show j = 0 ∨ j = 1 ∨ j = 2 ∨ j = 3 ∨ j = 4 ∨ j = 5 by omega) with rfl | rfl | rfl | rfl | rfl | rfl <;> exact ⟨rfl, rfl⟩
    · refine ⟨⟨rfl, fun j hj => ?_⟩, rfl⟩
      rcases (show j = 0 ∨ j = 1 ∨ j = 2 ∨ j = 3 ∨ j = 4 ∨ j = 5 by omega) with rfl | rfl | rfl | rfl | rfl | rfl <;> exact ⟨rfl, rfl⟩
  · rcases h with h | rfl
    · rw [x5_sk h, u_2_k (by omega)]
      exact sh_0n (by omega)
    · rfl
  · rcases (show f = 0 ∨ f = 1 ∨ f = 2 by omega) with rfl | rfl | rfl
    · refine ⟨⟨rfl, rfl, rfl, rfl, rfl, rfl⟩, fun i hi => ?_⟩
      rcases (show i = 0 ∨ i = 1 ∨ i = 2 ∨ i = 3 by omega) with rfl | rfl | rfl | rfl <;> exact ⟨rfl, rfl, rfl⟩
    · refine ⟨⟨rfl, rfl, rfl, rfl, rfl, rfl⟩, fun i hi => ?_⟩
      rcases (show i = 0 ∨ i = 1 ∨ i = 2 ∨ i = 3 by omega) with rfl | rfl | rfl | rfl <;> exact ⟨rfl, rfl, rfl⟩
    · refine ⟨⟨rfl, rfl, rfl, rfl, rfl, rfl⟩, fun i hi => ?_⟩
      rcases (show i = 0 ∨ i = 1 ∨ i = 2 ∨ i = 3 by omega) with rfl | rfl | rfl | rfl <;> exact ⟨rfl, rfl, rfl⟩
theorem Iv_0 {L : Nat} {mi1 : MI_} {ml1 : ML_} {mr1 : MR_} {sh1 : SH_} (hF : F5 L (mi1, ml1, mr1, sh1)) {M : Me_} (hq : mc_Q (u_n mi1 7 0 0, u_n ml1 7 0 0, u_n mr1 7 0 none, u_2 sh1 7 0 (some 39)) M) : Iv L M := by
  obtain ⟨mi, ml, mr, sh⟩ := M
  obtain ⟨hmo, hv, hvl, hk⟩ := hq
  have hmo : mo_ mr sh := hmo
  have hv : ∀ j i, mo_len j ≠ 0 → mi (30 + j) 0 i = (if j = 14 ∧ i < 3 then 200 else if j = 20 ∧ i < 12 then -1 else if j = 21 ∧ i < 12 then 1 else 0) := hv
  have ei : ∀ k i f, k < 30 → k ≠ 7 → mi k i f = mi1 k i f := fun k i f k1 k2 => (hk k i f k1).1.trans (u_n_k k2)
  have es : ∀ k i, k < 30 → k ≠ 7 → sh k i = sh1 k i := fun k i k1 k2 => (hk k i 0 k1).2.2.1.trans (u_2_k k2)
  have er : ∀ k i f, k < 30 → k ≠ 7 → mr k i f = mr1 k i f := fun k i f k1 k2 => ((hk k i f k1).2.2.2 k2).trans (u_n_k k2)
  have x7 : ∀ f, mi 7 0 f = 0 := fun f => (hk 7 0 f (by decide)).1.trans (show u_n mi1 7 0 0 7 0 f = 0 from u_n_e)
  have x0 : ∀ j i, mo_len j ≠ 0 → j ≠ 14 → j ≠ 20 → j ≠ 21 → mi (30 + j) 0 i = 0 := fun j i h h1 h2 h3 => by
    rw [hv j i h, if_neg (by omega), if_neg (by omega), if_neg (by omega)]
  obtain ⟨f0, f1, f2, f3, ⟨f4, f5, f6, f7⟩, f8⟩ := hF
  have f0 : sh1 0 0 = some L := f0
  have f1 : hs_ mr1 sh1 0 0 (fun _ => 0) := f1
  have f3 : ∀ k i, 22 ≤ k ∨ k = 7 → sh1 k i = none := f3
  have f8 : ∀ f, f < 3 → (mi1 3 f 10 = 200 ∧ mi1 3 f 6 = 0 ∧ mi1 3 f 8 = 0 ∧ mi1 3 f 9 = 0 ∧ mi1 3 f 11 = 0 ∧ mr1 3 f 12 = none) ∧ ∀ i, i < 4 → mr1 15 f i = none ∧ mi1 16 f i = 0 ∧ mi1 17 f i = 0 := f8
  refine ⟨(es 0 0 (by decide) (by decide)).trans f0, 0, 0, 0, fun _ => 0, ?_⟩
  refine ⟨⟨⟨(x7 0).trans rfl, (ei _ _ _ (by decide) (by decide)).trans f4, by decide⟩, ⟨(x7 28).trans rfl, (ei _ _ _ (by decide) (by decide)).trans f5, by decide⟩, (x7 35).trans rfl, (ei _ _ _ (by decide) (by decide)).trans f6, by decide⟩, ⟨?_, hmo, ?_⟩, fun p hp => absurd hp (Nat.not_lt_zero _), fun p hp => absurd hp (Nat.not_lt_zero _), fun f hf => ?_, fun f hf => ?_, fun f hf i hi => ?_, fun r hr => absurd hr (Nat.not_lt_zero _), fun r _ _ => ?_, fun j hj => absurd hj (Nat.not_lt_zero _), ?_⟩
  · refine hs_mono f1 (fun k i j q _ => er _ _ _ (by omega) (by omega)) (fun k i n q => ?_)
    have h22 : ¬ (22 ≤ k ∨ k = 7) := fun g => by rw [f3 k i g] at q; cases q
    exact (es k i (by omega) (by omega)).trans q
  · exact ⟨fun p hp => (es _ _ (by decide) (by decide)).trans (f2.1 p hp), fun p hp => (es _ _ (by decide) (by decide)).trans (f2.2.1 p hp), fun p hp => (es _ _ (by decide) (by decide)).trans (f2.2.2.1 p hp), fun p hp => (es _ _ (by decide) (by decide)).trans (f2.2.2.2 p hp)⟩
  · obtain ⟨⟨g1, g2, g3, g4, g5, g6⟩, -⟩ := f8 f hf
    have e6 : mi 3 f 6 = 0 := (ei _ _ _ (by decide) (by decide)).trans g2
    have e8 : mi 3 f 8 = 0 := (ei _ _ _ (by decide) (by decide)).trans g3
    have e9 : mi 3 f 9 = 0 := (ei _ _ _ (by decide) (by decide)).trans g4
    have e10 : mi 3 f 10 = 200 := (ei _ _ _ (by decide) (by decide)).trans g1
    have h44 : mi 44 0 f = 200 := (hv 14 f (by decide)).trans (if_pos ⟨rfl, hf⟩)
    exact ⟨h44.trans e10.symm, (x0 15 f (by decide) (by decide) (by decide) (by decide)).trans e8.symm, (x0 16 f (by decide) (by decide) (by decide) (by decide)).trans e6.symm, ⟨0, by decide, e6, fun l hl => absurd hl (Nat.not_lt_zero _)⟩, (x0 27 f (by decide) (by decide) (by decide) (by decide)).trans e9.symm, 0, Nat.le_refl _, e9⟩
  · obtain ⟨⟨g1, g2, g3, g4, g5, g6⟩, -⟩ := f8 f hf
    exact Or.inl ⟨(er _ _ _ (by decide) (by decide)).trans g6, x0 23 f (by decide) (by decide) (by decide) (by decide), (ei _ _ _ (by decide) (by decide)).trans g5⟩
  · obtain ⟨g1, g2, g3⟩ := (f8 f hf).2 i hi
    have e15 : mr 15 f i = none := (er _ _ _ (by decide) (by decide)).trans g1
    have e16 : mi 16 f i = 0 := (ei _ _ _ (by decide) (by decide)).trans g2
    have e17 : mi 17 f i = 0 := (ei _ _ _ (by decide) (by decide)).trans g3
    have h50 : mi 50 0 (4 * f + i) = -1 := (hv 20 (4 * f + i) (by decide)).trans (by rw [if_neg (by omega), if_pos (by omega)])
    have h51 : mi 51 0 (4 * f + i) = 1 := (hv 21 (4 * f + i) (by decide)).trans (by rw [if_neg (by omega), if_neg (by omega), if_pos (by omega)])
    have h52 : mi 52 0 (4 * f + i) = 0 := x0 22 (4 * f + i) (by decide) (by decide) (by decide) (by decide)
    refine ⟨fun q hq => ?_, ?_, ?_, ?_⟩
    · have hq : mr 15 f i = some q := hq
      rw [e15] at hq; cases hq
    · show mi 50 0 (4 * f + i) = oI (mr 15 f i)
      rw [h50, e15]; rfl
    · show mi 51 0 (4 * f + i) = (if mi 16 f i = 0 then 1 else 0)
      rw [h51, e16]; rfl
    · show mi 52 0 (4 * f + i) = mi 17 f i
      rw [h52, e17]
  · exact ⟨x0 30 r (by decide) (by decide) (by decide) (by decide), x0 31 r (by decide) (by decide) (by decide) (by decide), x0 32 r (by decide) (by decide) (by decide) (by decide), x0 33 r (by decide) (by decide) (by decide) (by decide), x0 34 r (by decide) (by decide) (by decide) (by decide)⟩
  · exact ⟨mi, fun j hj => absurd hj (Nat.not_lt_zero _), (ei 13 0 0 (by decide) (by decide)).trans f7, fun i hi => absurd hi (Nat.not_lt_zero _)⟩
set_option maxRecDepth 100000 in
set_option maxHeartbeats 4000000 in
theorem law_0 {L : Nat} (hL : L ≤ 3584) (xs : Nat → Int32) {Q : Option V_ → Me_ → Prop} (hQ : ∀ M, Q (some (hv_i 1)) M) : hg_G md_L_law true (sh_0 L) Q 600000 7302250 0 [some (hv_r (some (0, 0))), none, none, none] [] (fun _ _ j => xs j, fun _ _ _ => 0, fun _ _ _ => none, sh_0 L) := by
  have hs0 : sh_0 L 0 0 = some L := if_pos ⟨rfl, rfl⟩
  have h0 : ∀ k j n, sh_0 L k j = some n → k = 0 ∧ j = 0 := fun k j n h => by
    unfold sh_0 at h
    split at h
    · assumption
    · cases h
  refine hg_new (n := 3) (k := 1) (i := 0) dL_law_0 rfl ck_L_7 hc_5 nfl_5 rfl ⟨rfl, by decide, sh_0n (by decide), sh_0n (by decide), lv_nil, ol_some ⟨_, hs0⟩ (ol_none (ol_none (ol_none ol_nil)))⟩ ⟨by decide, by decide⟩ ?_
  have a1 : u_2 (sh_0 L) 1 0 (some 6) 1 0 = some 6 := u_2_e
  have a0 : u_2 (sh_0 L) 1 0 (some 6) 0 0 = some L := (u_2_k (by decide)).trans hs0
  refine hg_dup (n := 4) dL_law_3 rfl rfl ?_
  refine hg_callId (n := 7) (c_X5_init a1 (fun k i k0 k1 => (u_2_k k1).trans (sh_0n k0))) dL_law_4 rfl mk_L_9 yl_X5_init rfl rfl yi_X5_init (by decide) (by decide) rfl rfl (Nat.le_of_ble_eq_true rfl) (fun _ => ⟨rfl, lv_cons ⟨6, a1⟩ lv_nil, ol_some ⟨L, a0⟩ (ol_none (ol_none (ol_none ol_nil))), fun k j n h => by obtain ⟨rfl, rfl⟩ := h0 k j n h; exact ⟨L, a0⟩⟩) ?_
  have hF := F5_x5 (L := L) (mi := fun _ _ j => xs j) (ml := fun _ _ _ => 0) (mr := fun _ _ _ => none)
  generalize x5_ (u_n (fun _ _ j => xs j) 1 0 0, u_n (fun _ _ _ => 0) 1 0 0, u_n (fun _ _ _ => none) 1 0 none, u_2 (sh_0 L) 1 0 (some 6)) = N at hF ⊢
  obtain ⟨mi1, ml1, mr1, sh1⟩ := N
  have e00 : sh1 0 0 = some L := hF.1
  have e10 : sh1 1 0 = some 6 := hF.2.1.1
  have e22 : ∀ k i, 22 ≤ k ∨ k = 7 → sh1 k i = none := hF.2.2.2.1
  refine hg_astore_n (n := 8) dL_law_7 rfl (by decide) rfl rfl ?_
  refine hg_new (n := 11) (k := 7) (i := 0) dL_law_8 rfl ck_L_10 hc_6 nfl_6 rfl ⟨rfl, by decide, e22 7 0 (Or.inr rfl), sh_0n (by decide), lv_nil, ol_some ⟨_, e00⟩ (ol_some ⟨_, e10⟩ (ol_none (ol_none ol_nil)))⟩ ⟨by decide, by decide⟩ ?_
  have b7 : u_2 sh1 7 0 (some 39) 7 0 = some 39 := u_2_e
  have b0 : u_2 sh1 7 0 (some 39) 0 0 = some L := (u_2_k (by decide)).trans e00
  have b1 : u_2 sh1 7 0 (some 39) 1 0 = some 6 := (u_2_k (by decide)).trans e10
  refine hg_dup (n := 12) dL_law_11 rfl rfl ?_
  refine hg_callI (n := 15) (dy := md_X6_ini) (al' := true) (as := []) (k := 7) (i := 0) (rest := [hv_r (some (7, 0))]) dL_law_12 rfl mk_L_12 yl_X6_ini rfl rfl yi_X6_init (by decide) (Nat.le_of_ble_eq_true rfl) (by decide) (fun _ => ⟨rfl, lv_cons ⟨39, b7⟩ lv_nil, ol_some ⟨L, b0⟩ (ol_some ⟨6, b1⟩ (ol_none (ol_none ol_nil))), fun k j n h => by obtain ⟨rfl, rfl⟩ := h0 k j n h; exact ⟨L, b0⟩⟩) rfl rfl (c_X6_init b7 (fun j => (u_2_k (by omega)).trans (e22 _ _ (Or.inl (by omega))))) ?_
  rintro _ M' ⟨rfl, hq⟩
  have hI := Iv_0 hF hq
  refine hg_astore_n (n := 16) dL_law_15 rfl (by decide) rfl rfl ?_
  refine hg_iconst (n := 17) (v := 0) dL_law_16 rfl (by decide) ?_
  refine hg_istore_n (n := 18) dL_law_17 rfl (by decide) rfl rfl ?_
  exact hg_bud (by decide) (by decide) (law_18 hL h0 hQ 513 0 M' (by omega) (by omega) hI)
