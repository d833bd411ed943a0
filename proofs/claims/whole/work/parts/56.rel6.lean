section RlE
variable {X : MI_} {Y : MI_} {T S : ML_} {R : MR_} {sh : SH_} {np nr nj : Nat} {nn : Nat → Nat}
theorem P_stop (h : Rl X T Y S R sh np nr nj nn) {f : Nat} (hf : f < 3) {r : Nat} (hcu : R 3 f 12 = some (5, r)) : Rl (sp_m X f r) T (en_m Y f r 0) S (u_3 R 3 f 12 none) sh np nr nj nn := by
  have h0 := h
  obtain ⟨h1, h2, h3, h4, h5, h6, h7, h8, h9, h10⟩ := h
  have hx : ∀ {k i j}, k ≠ 53 ∧ k ≠ 60 → (sp_m X f r) k i j = X k i j := by
    intro k i j q
    unfold sp_m; rw [u_3_k (by omega), u_3_k (by omega)]
  have hy : ∀ {k i j}, k ≠ 3 ∧ k ≠ 5 → (en_m Y f r 0) k i j = Y k i j := by
    intro k i j q
    unfold en_m; rw [u_3_k (by omega), u_3_k (by omega), u_3_k (by omega)]
  have hr : ∀ {k i j}, k ≠ 3 → (u_3 R 3 f 12 none) k i j = R k i j := by
    intro k i j q
    rw [u_3_k (by omega)]
  have hrr : r < nr ∧ X 61 0 r = 0 := by
    rcases h6 f hf with ⟨e1, -⟩ | ⟨r', al, nl, a1, a2, a3, a4, a5, a6, -⟩
    · rw [hcu] at e1; cases e1
    · rw [hcu] at a1; cases a1; exact ⟨a2, a6⟩
  have y3 : ∀ f' b, ¬ (f' = f ∧ b = 11) → en_m Y f r 0 3 f' b = Y 3 f' b := fun f' b q => by
    unfold en_m
    rw [u_3_ne _ _ (by omega), u_3_k (by decide), u_3_k (by decide)]
  refine ⟨rl_n_c h1 (fun j => hx (by omega)) (fun j => hy (by omega)) (fun j => hy (by omega)), ?_, fun p' hp' => rl_p_c (h3 p' hp') (fun k a b => hx (by omega)) rfl (fun b => hy (by omega)) rfl (hr (by omega)) (Nat.le_refl _), rl_q_c h4 (fun k j a b => hx (by omega)) (fun _ _ => hy (by omega)), ?_, ?_, fun f' hf' i hi => rl_i_c (h7 f' hf' i hi) (fun k a b => hx (by omega)) (fun _ _ => hy (by omega)) (hr (by omega)) (Nat.le_refl _), ?_, ?_, rl_j_c h10 (fun k j a => hx (by omega)) (fun _ _ _ _ => hy (by omega))⟩
  · refine ⟨hs_mono h2.1 (fun k i j q _ => u_3_ne _ _ (by omega)) (fun k i n q => q), ⟨h2.2.1.1, fun j hj => ⟨(hr (by omega)).trans (h2.2.1.2 j hj).1, (h2.2.1.2 j hj).2⟩⟩, h2.2.2⟩
  · intro f' hf'
    exact rl_f_c (h5 f' hf') (fun k a => hx (by omega)) (fun k l a b _ => hx (by omega)) (fun b hb => y3 _ _ (by omega)) (fun _ _ _ _ => hy (by omega)) (Nat.le_refl _)
  · intro f' hf'
    by_cases e : f' = f
    · subst e
      refine Or.inl ⟨u_3_eq _ _, ?_, ?_⟩
      · unfold sp_m; rw [u_3_k (by decide), u_3_eq]
      · unfold en_m; rw [u_3_eq]
    · refine rl_c_c (h6 f' hf') (fun k a b => ?_) (fun r _ => hx (by omega)) (fun r _ _ _ e => (hx (by omega)).trans e) (fun b hb => y3 _ _ (by omega)) (fun _ _ _ _ => hy (by omega)) (u_3_ne _ _ (by omega)) (Nat.le_refl _)
      unfold sp_m
      rw [u_3_ne _ _ (by omega), u_3_ne _ _ (by omega)]
  · intro r' hr'
    by_cases e : r' = r
    · subst e
      obtain ⟨a1, a2, a3, a4, a5, a6, a7⟩ := h8 r' hr'
      have y5 : ∀ b, b ≠ 4 → b ≠ 5 → en_m Y f r' 0 5 r' b = Y 5 r' b := fun b b4 b5 => by
        unfold en_m
        rw [u_3_k (by decide), u_3_ne _ _ (by omega), u_3_ne _ _ (by omega)]
      refine ⟨?_, ?_, ?_, ?_, ?_, ?_, ?_⟩
      · rw [hx (by omega), y5 0 (by decide) (by decide)]; exact a1
      · unfold sp_m en_m
        rw [u_3_eq, u_3_k (by decide), u_3_ne _ _ (by omega), u_3_eq]
      · rw [hx (by omega), hrr.2]
        unfold en_m
        rw [u_3_k (by decide), u_3_eq]
      · rw [hx (by omega), y5 2 (by decide) (by decide)]; exact a4
      · rw [hx (by omega), y5 1 (by decide) (by decide)]; exact a5
      · rw [hx (by omega), y5 3 (by decide) (by decide)]; exact a6
      · rw [hx (by omega)]; exact a7
    · refine rl_r_c (h8 r' hr') (fun k a b => ?_) (fun b => ?_)
      · unfold sp_m
        rw [u_3_ne _ _ (by omega), u_3_ne _ _ (by omega)]
      · unfold en_m
        rw [u_3_k (by decide), u_3_ne _ _ (by omega), u_3_ne _ _ (by omega)]
  · refine rl_z_c h9 (fun k r' a b c => ?_) (Nat.le_refl _)
    unfold sp_m
    rw [u_3_ne _ _ (by omega), u_3_ne _ _ (by omega)]
theorem P_du (h : Rl X T Y S R sh np nr nj nn) {r : Nat} (hr1 : r < nr) : Rl (u_3 X 63 0 r 1) T (u_3 Y 5 r 1 1) S R sh np nr nj nn := by
  have h0 := h
  obtain ⟨h1, h2, h3, h4, h5, h6, h7, h8, h9, h10⟩ := h
  have hx : ∀ {k i j}, k ≠ 63 → (u_3 X 63 0 r 1) k i j = X k i j := by
    intro k i j q
    rw [u_3_k (by omega)]
  have hy : ∀ {k i j}, k ≠ 5 → (u_3 Y 5 r 1 1) k i j = Y k i j := by
    intro k i j q
    rw [u_3_k (by omega)]
  refine ⟨rl_n_c h1 (fun j => hx (by omega)) (fun j => hy (by omega)) (fun j => hy (by omega)), h2, fun p' hp' => rl_p_c (h3 p' hp') (fun k a b => hx (by omega)) rfl (fun b => hy (by omega)) rfl rfl (Nat.le_refl _), rl_q_c h4 (fun k j a b => hx (by omega)) (fun _ _ => hy (by omega)), fun f' hf' => rl_f_c (h5 f' hf') (fun k a => hx (by omega)) (fun k l a b _ => hx (by omega)) (fun _ _ => hy (by omega)) (fun _ _ _ _ => hy (by omega)) (Nat.le_refl _), fun f' hf' => rl_c_c (h6 f' hf') (fun k a b => hx (by omega)) (fun r _ => hx (by omega)) (fun r _ _ _ e => (hx (by omega)).trans e) (fun _ _ => hy (by omega)) (fun _ _ _ _ => hy (by omega)) rfl (Nat.le_refl _), fun f' hf' i hi => rl_i_c (h7 f' hf' i hi) (fun k a b => hx (by omega)) (fun _ _ => hy (by omega)) rfl (Nat.le_refl _), ?_, ?_, rl_j_c h10 (fun k j a => hx (by omega)) (fun _ _ _ _ => hy (by omega))⟩
  · intro r' hr'
    by_cases e : r' = r
    · subst e
      obtain ⟨a1, a2, a3, a4, a5, a6, a7⟩ := h8 r' hr'
      refine ⟨?_, ?_, ?_, ?_, ?_, ?_, ?_⟩
      · rw [hx (by omega), u_3_ne _ _ (by omega)]; exact a1
      · rw [hx (by omega), u_3_ne _ _ (by omega)]; exact a2
      · rw [hx (by omega), u_3_ne _ _ (by omega)]; exact a3
      · rw [hx (by omega), u_3_ne _ _ (by omega)]; exact a4
      · rw [u_3_eq, u_3_eq]
      · rw [hx (by omega), u_3_ne _ _ (by omega)]; exact a6
      · rw [hx (by omega)]; exact a7
    · exact rl_r_c (h8 r' hr') (fun k a b => u_3_ne _ _ (by omega)) (fun b => u_3_ne _ _ (by omega))
  · exact rl_z_c h9 (fun k r' a b c => u_3_ne _ _ (by omega)) (Nat.le_refl _)
theorem P_su (h : Rl X T Y S R sh np nr nj nn) {f s : Nat} : ∀ c, s + c ≤ nr → Rl (su_ X f s c).2 T (dd_ Y f s c).2 S R sh np nr nj nn ∧ (su_ X f s c).1 = (dd_ Y f s c).1
  | 0, _ => ⟨h, rfl⟩
  | c + 1, hc => by
    obtain ⟨i1, i2⟩ := P_su h (f := f) (s := s) c (by omega)
    have e := (i1.2.2.2.2.2.2.2.1 (s + c) (by omega)).1
    rw [su_, dd_, e]
    by_cases q : (dd_ Y f s c).2 5 (s + c) 0 = nI f
    · rw [if_pos q, if_pos q]
      exact ⟨P_du i1 (by omega), by rw [i2]⟩
    · rw [if_neg q, if_neg q]
      exact ⟨i1, i2⟩
theorem P_sy (h : Rl X T Y S R sh np nr nj nn) {f : Nat} (hf : f < 3) (e : Int32) : Rl (sy_m X f e) T (sv_m Y f e) S R sh np nr nj nn := by
  have h0 := h
  obtain ⟨h1, h2, h3, h4, h5, h6, h7, h8, h9, h10⟩ := h
  have hx : ∀ {k i j}, k ≠ 45 ∧ k ≠ 57 → (sy_m X f e) k i j = X k i j := by
    intro k i j q
    unfold sy_m; rw [u_3_k (by omega), u_3_k (by omega)]
  have hy : ∀ {k i j}, k ≠ 3 → (sv_m Y f e) k i j = Y k i j := by
    intro k i j q
    unfold sv_m; rw [u_3_k (by omega), u_3_k (by omega)]
  have y3 : ∀ f' b, ¬ (f' = f ∧ (b = 8 ∨ b = 9)) → sv_m Y f e 3 f' b = Y 3 f' b := fun f' b q => by
    unfold sv_m
    rw [u_3_ne _ _ (by omega), u_3_ne _ _ (by omega)]
  refine ⟨rl_n_c h1 (fun j => hx (by omega)) (fun j => hy (by omega)) (fun j => hy (by omega)), h2, fun p' hp' => rl_p_c (h3 p' hp') (fun k a b => hx (by omega)) rfl (fun b => hy (by omega)) rfl rfl (Nat.le_refl _), rl_q_c h4 (fun k j a b => hx (by omega)) (fun _ _ => hy (by omega)), ?_, ?_, fun f' hf' i hi => rl_i_c (h7 f' hf' i hi) (fun k a b => hx (by omega)) (fun _ _ => hy (by omega)) rfl (Nat.le_refl _), fun r hr' => rl_r_c (h8 r hr') (fun k a b => hx (by omega)) (fun _ => hy (by omega)), rl_z_c h9 (fun k r a b _ => hx (by omega)) (Nat.le_refl _), rl_j_c h10 (fun k j a => hx (by omega)) (fun _ _ _ _ => hy (by omega))⟩
  · intro f' hf'
    by_cases e9 : f' = f
    · subst e9
      obtain ⟨a1, a2, a3, ⟨nl, b1, b2, b3⟩, a5, s, c1, c2⟩ := h5 f' hf'
      have y9 : sv_m Y f' e 3 f' 9 = nI nr := by unfold sv_m; rw [u_3_eq, u_3_k (by decide)]; exact h1.2.1.2.1
      refine ⟨?_, ?_, ?_, ⟨nl, b1, ?_, fun l hl => rl_l_c (b3 l hl) (fun k _ _ => hx (by omega)) (fun k _ _ => hy (by omega))⟩, ?_, nr, Nat.le_refl _, y9⟩
      · rw [hx (by omega), y3 _ _ (by omega)]; exact a1
      · unfold sy_m sv_m; rw [u_3_k (by decide), u_3_eq, u_3_ne _ _ (by omega), u_3_eq]
      · rw [hx (by omega), y3 _ _ (by omega)]; exact a3
      · rw [y3 _ _ (by omega)]; exact b2
      · rw [y9]; unfold sy_m; rw [u_3_eq, u_3_k (by decide)]; exact h1.2.1.1
    · refine rl_f_c (h5 f' hf') (fun k a => ?_) (fun k l a b _ => hx (by omega)) (fun b hb => y3 _ _ (by omega)) (fun _ _ _ _ => hy (by omega)) (Nat.le_refl _)
      unfold sy_m
      rw [u_3_ne _ _ (by omega), u_3_ne _ _ (by omega)]
  · intro f' hf'
    exact rl_c_c (h6 f' hf') (fun k a b => hx (by omega)) (fun r _ => hx (by omega)) (fun r _ _ _ e => (hx (by omega)).trans e) (fun b hb => y3 _ _ (by omega)) (fun _ _ _ _ => hy (by omega)) rfl (Nat.le_refl _)
theorem ru_bg {Z : MI_} {f : Nat} (hZ : Z 7 0 28 = nI nr) {p : Nat} {R0 : MR_} (h0 : Z 39 0 p = oI (R0 4 p 9)) (hp12 : np ≤ 12) (hi : ∀ i, i < 4 → Z 50 0 (4 * f + i) = oI (R 15 f i) ∧ ∀ q, R 15 f i = some q → q.2 < np) : ∀ i, i ≤ 4 → ru_l Z f i 39 0 p = oI (bg_r R0 f nr (pl_c R f) i 4 p 9)
  | 0, _ => by
    show Z 39 0 p = oI (u_3 R0 3 f 12 (some (5, nr)) 4 p 9)
    rw [u_3_k (by decide)]
    exact h0
  | i + 1, hi4 => by
    have ih := ru_bg hZ h0 hp12 hi i (by omega)
    obtain ⟨e1, e2⟩ := hi i (by omega)
    have e50 : ru_l Z f i 50 0 (4 * f + i) = oI (R 15 f i) := (ru_l_k (by decide) i).trans e1
    have e28 : ru_l Z f i 7 0 28 = nI nr := (ru_l_k (by decide) i).trans hZ
    rw [ru_l, bg_r, e50, e28]
    have e9 : pl_c R f i = (R 15 f i).map (fun q => q.2) := rfl
    rw [e9]
    cases hr : R 15 f i with
    | none => rw [if_pos (show oI none = -1 from rfl)]; exact ih
    | some q =>
      have hq := e2 q hr
      rw [if_neg (show ¬ oI (some q) = -1 from nI_m1 (by omega))]
      show u_3 (ru_l Z f i) 39 0 (nI q.2).toNatClampNeg (nI nr) 39 0 p = oI (u_3 (bg_r R0 f nr (pl_c R f) i) 4 q.2 9 (some (5, nr)) 4 p 9)
      rw [nI_clamp (by omega)]
      by_cases e : p = q.2
      · subst e
        rw [u_3_eq, u_3_eq]
        rfl
      · rw [u_3_ne _ _ (by omega), u_3_ne _ _ (by omega)]
        exact ih
theorem bg_9 {R0 : MR_} {f : Nat} {pl : Nat → Option Nat} {p : Nat} : ∀ i q, bg_r R0 f nr pl i 4 p 9 = some q → q = (5, nr) ∨ R0 4 p 9 = some q
  | 0, q, h => Or.inr ((u_3_k (by decide)).symm.trans h)
  | i + 1, q, h => by
    rw [bg_r] at h
    cases hp : pl i with
    | none => rw [hp] at h; exact bg_9 i q h
    | some p' =>
      rw [hp] at h
      have h' : u_3 (bg_r R0 f nr pl i) 4 p' 9 (some (5, nr)) 4 p 9 = some q := h
      by_cases e : p = p'
      · subst e; rw [u_3_eq] at h'; exact Or.inl (Option.some.inj h').symm
      · rw [u_3_ne _ _ (by omega)] at h'; exact bg_9 i q h'
theorem bg_4 {R0 : MR_} {f : Nat} {pl : Nat → Option Nat} {p b : Nat} (hb : b ≠ 9) : ∀ i, bg_r R0 f nr pl i 4 p b = R0 4 p b
  | 0 => u_3_k (by decide)
  | i + 1 => by
    rw [bg_r]
    cases hp : pl i with
    | none => exact bg_4 hb i
    | some p' => exact (u_3_ne _ _ (by omega)).trans (bg_4 hb i)
theorem bg_12 {R0 : MR_} {f : Nat} {pl : Nat → Option Nat} : ∀ i, bg_r R0 f nr pl i 3 f 12 = some (5, nr)
  | 0 => u_3_eq _ _
  | i + 1 => by
    rw [bg_r]
    cases hp : pl i with
    | none => exact bg_12 i
    | some p' => exact (u_3_k (by decide)).trans (bg_12 i)
theorem P_run (h : Rl X T Y S R sh np nr nj nn) {f : Nat} (hf : f < 3) (h100 : nr < 100) (hn : R 3 f 12 = none) (hl : ¬ X 46 0 f = 0) : Rl (ru_m X f nr) T (rn_i Y f nr) (u_n S 5 nr 0) (rn_r R f nr (pl_c R f)) (u_2 sh 5 nr (some 6)) np (nr + 1) nj nn := by
  have h0 := h
  obtain ⟨h1, h2, h3, h4, h5, h6, h7, h8, h9, h10⟩ := h
  have hx : ∀ {k i j}, k ≠ 7 ∧ k ≠ 39 ∧ k ≠ 53 ∧ k ≠ 54 ∧ k ≠ 55 ∧ k ≠ 56 ∧ k ≠ 59 → (ru_m X f nr) k i j = X k i j := by
    intro k i j q
    unfold ru_m; rw [u_3_k (by omega), ru_l_k (by omega), ru_5_k (by omega)]
  have hy : ∀ {k i j}, k ≠ 1 ∧ k ≠ 3 ∧ k ≠ 5 → (rn_i Y f nr) k i j = Y k i j := by
    intro k i j q
    unfold rn_i; rw [u_3_k (by omega), u_3_k (by omega), u_3_k (by omega), u_n_k (by omega)]
  have hr : ∀ {k i j}, k ≠ 3 ∧ k ≠ 4 ∧ k ≠ 5 ∧ k ≠ 10 → (rn_r R f nr (pl_c R f)) k i j = R k i j := by
    intro k i j q
    unfold rn_r; rw [bg_k (by omega) (by omega), u_3_k (by omega), u_n_k (by omega)]
  have x28 : ru_5 X f nr 7 0 28 = nI nr := (ru_5_k (by decide)).trans h1.2.1.1
  have x7 : ∀ j, j ≠ 28 → ru_m X f nr 7 0 j = X 7 0 j := fun j hj => by
    unfold ru_m
    rw [u_3_ne _ _ (by omega), ru_l_k (by decide), ru_5_k (by decide)]
  have x5 : ∀ k i j, k ≠ 39 → k ≠ 7 → ru_m X f nr k i j = ru_5 X f nr k i j := fun k i j q q7 => by
    unfold ru_m
    rw [u_3_k q7, ru_l_k q]
  have x59 : ∀ r, r ≠ nr → ru_m X f nr 59 0 r = X 59 0 r := fun r hr => by
    rw [x5 _ _ _ (by decide) (by decide)]
    unfold ru_5 ru_4
    rw [u_3_k (by decide), u_3_k (by decide), u_3_k (by decide), u_3_k (by decide), u_3_ne _ _ (by omega)]
  have xf : ∀ k f', 53 ≤ k → k ≤ 56 → f' ≠ f → ru_m X f nr k 0 f' = X k 0 f' := fun k f' k1 k2 hf' => by
    rw [x5 _ _ _ (by omega) (by omega)]
    unfold ru_5 ru_4
    rw [u_3_ne _ _ (by omega), u_3_ne _ _ (by omega), u_3_ne _ _ (by omega), u_3_ne _ _ (by omega), u_3_ne _ _ (by omega)]
  have y3 : ∀ f' b, ¬ (f' = f ∧ b = 7) → rn_i Y f nr 3 f' b = Y 3 f' b := fun f' b q => by
    unfold rn_i
    rw [u_3_k (by decide), u_3_ne _ _ (by omega), u_3_k (by decide), u_n_k (by decide)]
  have y5 : ∀ r b, r ≠ nr → rn_i Y f nr 5 r b = Y 5 r b := fun r b q => by
    unfold rn_i
    rw [u_3_k (by decide), u_3_k (by decide), u_3_ne _ _ (by omega)]
    exact if_neg (by omega)
  refine ⟨?_, ?_, ?_, rl_q_c h4 (fun k j a b => hx (by omega)) (fun _ _ => hy (by omega)), ?_, ?_, fun f' hf' i hi => rl_i_c (h7 f' hf' i hi) (fun k a b => hx (by omega)) (fun _ _ => hy (by omega)) (hr (by omega)) (Nat.le_refl _), ?_, rl_z_c h9 (fun k r a b _ => hx (by omega)) (Nat.le_succ _), rl_j_c h10 (fun k j a => hx (by omega)) (fun _ _ _ _ => hy (by omega))⟩
  · refine ⟨⟨?_, ?_, h1.1.2.2⟩, ⟨?_, ?_, by omega⟩, ?_, ?_, h1.2.2.2.2⟩
    · rw [x7 0 (by decide)]; exact h1.1.1
    · unfold rn_i; rw [u_3_ne _ _ (by omega), u_3_k (by decide), u_3_k (by decide), u_n_k (by decide)]; exact h1.1.2.1
    · unfold ru_m; rw [u_3_eq, ru_l_k (by decide), x28, ← nI_add]; rfl
    · unfold rn_i; rw [u_3_eq]
    · rw [x7 35 (by decide)]; exact h1.2.2.1
    · rw [hy (by omega)]; exact h1.2.2.2.1
  · have hm : hs_ (rn_r R f nr (pl_c R f)) (u_2 sh 5 nr (some 6)) np nr nn := by
      refine hs_mono h2.1 (fun k i j q _ => ?_) (fun k i n q => (u_2_ne (fun e => by rw [e.1, e.2, h2.2.2.2.2.2 nr (Nat.le_refl _)] at q; cases q)).trans q)
      unfold rn_r
      by_cases e4 : k = 4
      · subst e4; rw [bg_4 (by omega), u_3_k (by decide), u_n_k (by decide)]
      · by_cases e3 : k = 3
        · subst e3; rw [bg_3 (by omega), u_3_k (by decide), u_n_k (by decide)]
        · rw [bg_k e3 e4, u_3_ne _ _ (by omega), u_n_k (by omega)]
    refine ⟨?_, ⟨(u_2_k (by decide)).trans h2.2.1.1, fun j hj => ⟨(hr (by omega)).trans (h2.2.1.2 j hj).1, (u_2_k (by omega)).trans (h2.2.1.2 j hj).2⟩⟩, ?_⟩
    · obtain ⟨g1, g2, g3, g4, g5, g6, g7, g8, g9⟩ := hm
      refine ⟨g1, g2, g3, g4, g5, g6, g7, g8, fun r hr' => ?_⟩
      by_cases e : r = nr
      · subst e
        refine ⟨if_pos ⟨rfl, rfl⟩, ?_⟩
        unfold rn_r
        rw [bg_k (by decide) (by decide), u_3_eq]
      · exact g9 r (by omega)
    · refine ⟨fun p hp => (u_2_k (by decide)).trans (h2.2.2.1 p hp), fun p hp => (u_2_k (by decide)).trans (h2.2.2.2.1 p hp), fun s hs => (u_2_k (by decide)).trans (h2.2.2.2.2.1 s hs), fun r hr' => (u_2_ne (by omega)).trans (h2.2.2.2.2.2 r (by omega))⟩
  · intro p hp
    obtain ⟨a1, a2, a3, a4, a5, a6, a7, a8, a9, a10, a11, a12, a13⟩ := h3 p hp
    have eb := ru_bg (nr := nr) (np := np) (R := R) (Z := ru_5 X f nr) (f := f) (p := p) (R0 := u_3 (u_n R 5 nr none) 10 0 nr (some (5, nr))) x28 (by rw [ru_5_k (by decide), u_3_k (by decide), u_n_k (by decide)]; exact a10) h1.1.2.2 (fun i hi => ⟨(ru_5_k (by decide)).trans (h7 f hf i hi).2.1, fun q hq => ((h7 f hf i hi).1 q hq).2⟩) 4 (Nat.le_refl _)
    refine ⟨?_, ?_, ?_, ?_, ?_, ?_, ?_, ?_, ?_, ?_, fun q hq => ?_, ?_, ?_⟩
    · rw [hx (by omega)]; exact a1
    · rw [hx (by omega), hy (by omega)]; exact a2
    · rw [hx (by omega), hy (by omega)]; exact a3
    · rw [hx (by omega), hy (by omega)]; exact a4
    · rw [hx (by omega), hy (by omega)]; exact a5
    · rw [hx (by omega), hy (by omega)]; exact a6
    · rw [u_n_k (by decide)]; exact a7
    · rw [hy (by omega)]; exact a8
    · rw [hx (by omega), hy (by omega)]; exact a9
    · unfold ru_m rn_r
      rw [u_3_k (by decide)]
      exact eb
    · rcases bg_9 4 q hq with e | e
      · subst e; exact ⟨rfl, by show nr < nr + 1; omega⟩
      · rw [u_3_k (by decide), u_n_k (by decide)] at e
        have := a11 q e
        exact ⟨this.1, by omega⟩
    · rw [hy (by omega)]; exact a12
    · rw [hy (by omega)]; exact a13
  · intro f' hf'
    exact rl_f_c (h5 f' hf') (fun k a => hx (by omega)) (fun k l a b _ => hx (by omega)) (fun b hb => y3 _ _ (by omega)) (fun _ _ _ _ => hy (by omega)) (Nat.le_succ _)
  · intro f' hf'
    by_cases e : f' = f
    · subst e
      obtain ⟨a1, a2, a3, ⟨nl, b1, b2, b3⟩, a5⟩ := h5 f' hf'
      have hnl : nl ≠ 0 := fun q => hl (by rw [a3, b2, q]; rfl)
      have c11 : Y 3 f' 11 = 0 := by
        rcases h6 f' hf' with ⟨e1, e2, e3⟩ | ⟨r, al, nl', d1, -⟩
        · exact e3
        · rw [hn] at d1; cases d1
      have y11 : rn_i Y f' nr 3 f' 11 = 0 := (y3 _ _ (by omega)).trans c11
      refine Or.inr ⟨nr, 0, nl, ?_, by omega, ?_, ?_, ?_, ?_, ?_, b1, by omega, ?_, ?_, ?_, ?_, ?_, ?_⟩
      · unfold rn_r; exact bg_12 4
      · rw [x5 _ _ _ (by decide) (by decide)]; unfold ru_5 ru_4; rw [u_3_k (by decide), u_3_k (by decide), u_3_k (by decide), u_3_eq]
      · rw [x5 _ _ _ (by decide) (by decide)]; unfold ru_5; rw [u_3_eq]; unfold ru_4; rw [u_3_k (by decide), u_3_k (by decide), u_3_k (by decide), u_3_k (by decide)]; exact h1.2.1.1
      · rw [x5 _ _ _ (by decide) (by decide)]; unfold ru_5 ru_4; rw [u_3_k (by decide), u_3_k (by decide), u_3_k (by decide), u_3_k (by decide), u_3_eq]
      · rw [hx (by omega)]; exact (h9 nr (Nat.le_refl _) h100).2.1
      · rw [y3 _ _ (by omega)]; exact b2
      · rw [x5 _ _ _ (by decide) (by decide)]; unfold ru_5 ru_4; rw [u_3_k (by decide), u_3_k (by decide), u_3_eq]; rfl
      · unfold rn_i; rw [u_3_k (by decide), u_3_eq]; rfl
      · rw [y11, x5 _ _ _ (by decide) (by decide)]; unfold ru_5 ru_4; rw [u_3_k (by decide), u_3_eq]
      · rw [y11]; decide
      · intro _; exact y11
      · intro _
        rw [y11, hy (by omega)]
        have := (b3 0 (by omega)).2.2.2.2
        show (0 : Int) < _
        omega
    · refine rl_c_c (h6 f' hf') (fun k a b => xf _ _ a b e) (fun r hr' => x59 _ (by omega)) (fun r _ _ _ e => (hx (by omega)).trans e) (fun b hb => y3 _ _ (by omega)) (fun _ _ _ _ => hy (by omega)) ?_ (Nat.le_succ _)
      unfold rn_r
      rw [bg_3 (by omega), u_3_k (by decide), u_n_k (by decide)]
  · intro r hr'
    by_cases e : r = nr
    · subst e
      obtain ⟨z1, z2, z3, z4, z5⟩ := h9 r (Nat.le_refl _) h100
      have y0 : ∀ b, b ≠ 0 → rn_i Y f r 5 r b = 0 := fun b hb => by
        unfold rn_i
        rw [u_3_k (by decide), u_3_k (by decide), u_3_ne _ _ (by omega)]
        exact if_pos ⟨rfl, rfl⟩
      refine ⟨?_, ?_, ?_, ?_, ?_, ?_, ?_⟩
      · rw [x5 _ _ _ (by decide) (by decide)]
        unfold ru_5 ru_4 rn_i
        rw [u_3_k (by decide), u_3_k (by decide), u_3_k (by decide), u_3_k (by decide), u_3_eq, u_3_k (by decide), u_3_k (by decide), u_3_eq]
      · rw [hx (by omega), y0 4 (by decide)]; exact z1
      · rw [hx (by omega), y0 5 (by decide)]; exact z2
      · rw [hx (by omega), y0 2 (by decide)]; exact z3
      · rw [hx (by omega), y0 1 (by decide)]; exact z4
      · rw [hx (by omega), y0 3 (by decide)]; exact z5
      · rw [hx (by omega)]; exact Or.inl z3
    · refine rl_r_c (h8 r (by omega)) (fun k a b => ?_) (fun b => y5 r b e)
      by_cases e9 : k = 59
      · subst e9; exact x59 r e
      · exact hx (by omega)
end RlE
