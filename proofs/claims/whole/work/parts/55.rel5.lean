section RlE
variable {X : MI_} {Y : MI_} {T S : ML_} {R : MR_} {sh : SH_} {np nr nj : Nat} {nn : Nat → Nat}
theorem P_line (h : Rl X T Y S R sh np nr nj nn) {f : Nat} (hf : f < 3) {nl : Nat} (hl : Y 3 f 6 = nI nl) (hl8 : nl < 8) (hn : R 3 f 12 = none) {o a b : Int32} (hb : ¬ li_b (nI f) o a b) : Rl (ln_m X f nl o a b) T (al_m Y f nl o a b) S R sh np nr nj nn := by
  have h0 := h
  obtain ⟨h1, h2, h3, h4, h5, h6, h7, h8, h9, h10⟩ := h
  have hx : ∀ {k i j}, k ≠ 46 ∧ k ≠ 47 ∧ k ≠ 48 ∧ k ≠ 49 → (ln_m X f nl o a b) k i j = X k i j := by
    intro k i j q
    unfold ln_m; rw [u_3_k (by omega), u_3_k (by omega), u_3_k (by omega), u_3_k (by omega)]
  have hy : ∀ {k i j}, k ≠ 3 ∧ k ≠ 18 ∧ k ≠ 19 ∧ k ≠ 20 → (al_m Y f nl o a b) k i j = Y k i j := by
    intro k i j q
    unfold al_m; rw [u_3_k (by omega), u_3_k (by omega), u_3_k (by omega), u_3_k (by omega)]
  refine ⟨rl_n_c h1 (fun j => hx (by omega)) (fun j => hy (by omega)) (fun j => hy (by omega)), h2, fun p' hp' => rl_p_c (h3 p' hp') (fun k a b => hx (by omega)) rfl (fun b => hy (by omega)) rfl rfl (Nat.le_refl _), rl_q_c h4 (fun k j a b => hx (by omega)) (fun _ _ => hy (by omega)), ?_, ?_, fun f' hf' i hi => rl_i_c (h7 f' hf' i hi) (fun k a b => hx (by omega)) (fun _ _ => hy (by omega)) rfl (Nat.le_refl _), fun r hr' => rl_r_c (h8 r hr') (fun k a b => hx (by omega)) (fun _ => hy (by omega)), rl_z_c h9 (fun k r a b _ => hx (by omega)) (Nat.le_refl _), rl_j_c h10 (fun k j a => hx (by omega)) (fun _ _ _ _ => hy (by omega))⟩
  · intro f' hf'
    by_cases e : f' = f
    · subst e
      obtain ⟨a1, a2, a3, ⟨nl', b1, b2, b3⟩, a5, s, c1, c2⟩ := h5 f' hf'
      have hnl : nl' = nl := (nI_eq (by omega) (by omega)).mp (b2.symm.trans hl)
      subst hnl
      have y3 : ∀ c, c ≠ 6 → al_m Y f' nl' o a b 3 f' c = Y 3 f' c := fun c hc => by
        unfold al_m
        rw [u_3_ne _ _ (by omega), u_3_k (by decide), u_3_k (by decide), u_3_k (by decide)]
      have y6 : al_m Y f' nl' o a b 3 f' 6 = nI (nl' + 1) := by unfold al_m; exact u_3_eq _ _
      have x46 : ln_m X f' nl' o a b 46 0 f' = nI (nl' + 1) := by
        unfold ln_m
        rw [u_3_eq, u_3_k (by decide), u_3_k (by decide), u_3_k (by decide), a3, hl, ← nI_add]
        rfl
      refine ⟨?_, ?_, ?_, ⟨nl' + 1, by omega, y6, fun l hl' => ?_⟩, ?_, s, c1, ?_⟩
      · rw [hx (by omega), y3 10 (by decide)]; exact a1
      · rw [hx (by omega), y3 8 (by decide)]; exact a2
      · rw [x46, y6]
      · by_cases e : l = nl'
        · subst e
          have y18 : al_m Y f' l o a b 18 f' l = o := by unfold al_m; rw [u_3_k (by decide), u_3_k (by decide), u_3_k (by decide)]; exact u_3_eq _ _
          have y19 : al_m Y f' l o a b 19 f' l = a := by unfold al_m; rw [u_3_k (by decide), u_3_k (by decide)]; exact u_3_eq _ _
          have y20 : al_m Y f' l o a b 20 f' l = b := by unfold al_m; rw [u_3_k (by decide)]; exact u_3_eq _ _
          have x47 : ln_m X f' l o a b 47 0 (8 * f' + l) = o := by unfold ln_m; rw [u_3_k (by decide), u_3_k (by decide), u_3_k (by decide)]; exact u_3_eq _ _
          have x48 : ln_m X f' l o a b 48 0 (8 * f' + l) = a := by unfold ln_m; rw [u_3_k (by decide), u_3_k (by decide)]; exact u_3_eq _ _
          have x49 : ln_m X f' l o a b 49 0 (8 * f' + l) = b := by unfold ln_m; rw [u_3_k (by decide)]; exact u_3_eq _ _
          have ho : ¬ z_in o 0 3 = 0 := fun q => hb (Or.inr (Or.inl q))
          have hbb : ¬ z_in b 1 (if o = 0 then 1000 else 500) = 0 := fun q => hb (Or.inr (Or.inr (Or.inr q)))
          obtain ⟨j, j1, j2, j3⟩ := z_nat (a := 0) (b := 3) (by decide) (by decide) ho
          refine ⟨x47.trans y18.symm, x48.trans y19.symm, x49.trans y20.symm, ⟨j, j2, y18.trans j3⟩, ?_⟩
          rw [y20]
          exact i32_le.mp (z_in_ne hbb).1
        · refine rl_l_c (b3 l (by omega)) (fun k k1 k2 => ?_) (fun k k1 k2 => ?_)
          · unfold ln_m
            rw [u_3_ne _ _ (by omega), u_3_ne _ _ (by omega), u_3_ne _ _ (by omega), u_3_ne _ _ (by omega)]
          · unfold al_m
            rw [u_3_ne _ _ (by omega), u_3_ne _ _ (by omega), u_3_ne _ _ (by omega), u_3_ne _ _ (by omega)]
      · rw [hx (by omega), y3 9 (by decide)]; exact a5
      · rw [y3 9 (by decide)]; exact c2
    · refine rl_f_c (h5 f' hf') (fun k q => ?_) (fun k l k1 k2 hl' => ?_) (fun c _ => ?_) (fun k l k1 k2 => ?_) (Nat.le_refl _)
      · unfold ln_m
        rw [u_3_ne _ _ (by omega), u_3_ne _ _ (by omega), u_3_ne _ _ (by omega), u_3_ne _ _ (by omega)]
      · unfold ln_m
        rw [u_3_ne _ _ (by omega), u_3_ne _ _ (by omega), u_3_ne _ _ (by omega), u_3_ne _ _ (by omega)]
      · unfold al_m
        rw [u_3_ne _ _ (by omega), u_3_ne _ _ (by omega), u_3_ne _ _ (by omega), u_3_ne _ _ (by omega)]
      · unfold al_m
        rw [u_3_ne _ _ (by omega), u_3_ne _ _ (by omega), u_3_ne _ _ (by omega), u_3_ne _ _ (by omega)]
  · intro f' hf'
    by_cases e : f' = f
    · subst e
      rcases h6 f' hf' with ⟨e1, e2, e3⟩ | ⟨r, al, nl', a1, a2⟩
      · refine Or.inl ⟨e1, by rw [hx (by omega)]; exact e2, ?_⟩
        unfold al_m
        rw [u_3_ne _ _ (by omega), u_3_k (by decide), u_3_k (by decide), u_3_k (by decide)]
        exact e3
      · rw [hn] at a1; cases a1
    · refine rl_c_c (h6 f' hf') (fun k a b => hx (by omega)) (fun r _ => hx (by omega)) (fun r _ _ _ e => (hx (by omega)).trans e) (fun c _ => ?_) (fun k l k1 k2 => ?_) rfl (Nat.le_refl _)
      · unfold al_m
        rw [u_3_ne _ _ (by omega), u_3_ne _ _ (by omega), u_3_ne _ _ (by omega), u_3_ne _ _ (by omega)]
      · unfold al_m
        rw [u_3_ne _ _ (by omega), u_3_ne _ _ (by omega), u_3_ne _ _ (by omega), u_3_ne _ _ (by omega)]
theorem P_clear (h : Rl X T Y S R sh np nr nj nn) {f : Nat} (hf : f < 3) (hn : R 3 f 12 = none) : Rl (u_3 X 46 0 f 0) T (u_3 Y 3 f 6 0) S R sh np nr nj nn := by
  have h0 := h
  obtain ⟨h1, h2, h3, h4, h5, h6, h7, h8, h9, h10⟩ := h
  have hx : ∀ {k i j}, k ≠ 46 → (u_3 X 46 0 f 0) k i j = X k i j := by
    intro k i j q
    rw [u_3_k (by omega)]
  have hy : ∀ {k i j}, k ≠ 3 → (u_3 Y 3 f 6 0) k i j = Y k i j := by
    intro k i j q
    rw [u_3_k (by omega)]
  refine ⟨rl_n_c h1 (fun j => hx (by omega)) (fun j => hy (by omega)) (fun j => hy (by omega)), h2, fun p' hp' => rl_p_c (h3 p' hp') (fun k a b => hx (by omega)) rfl (fun b => hy (by omega)) rfl rfl (Nat.le_refl _), rl_q_c h4 (fun k j a b => hx (by omega)) (fun _ _ => hy (by omega)), ?_, ?_, fun f' hf' i hi => rl_i_c (h7 f' hf' i hi) (fun k a b => hx (by omega)) (fun _ _ => hy (by omega)) rfl (Nat.le_refl _), fun r hr' => rl_r_c (h8 r hr') (fun k a b => hx (by omega)) (fun _ => hy (by omega)), rl_z_c h9 (fun k r a b _ => hx (by omega)) (Nat.le_refl _), rl_j_c h10 (fun k j a => hx (by omega)) (fun _ _ _ _ => hy (by omega))⟩
  · intro f' hf'
    by_cases e : f' = f
    · subst e
      obtain ⟨a1, a2, a3, -, a5, s, c1, c2⟩ := h5 f' hf'
      refine ⟨?_, ?_, ?_, ⟨0, by omega, u_3_eq _ _, fun l hl => by omega⟩, ?_, s, c1, ?_⟩
      · rw [hx (by omega), u_3_ne _ _ (by omega)]; exact a1
      · rw [hx (by omega), u_3_ne _ _ (by omega)]; exact a2
      · rw [u_3_eq, u_3_eq]
      · rw [hx (by omega), u_3_ne _ _ (by omega)]; exact a5
      · rw [u_3_ne _ _ (by omega)]; exact c2
    · exact rl_f_c (h5 f' hf') (fun k q => u_3_ne _ _ (by omega)) (fun k l k1 k2 hl' => u_3_ne _ _ (by omega)) (fun c _ => u_3_ne _ _ (by omega)) (fun k l k1 k2 => u_3_ne _ _ (by omega)) (Nat.le_refl _)
  · intro f' hf'
    by_cases e : f' = f
    · subst e
      rcases h6 f' hf' with ⟨e1, e2, e3⟩ | ⟨r, al, nl', a1, a2⟩
      · exact Or.inl ⟨e1, by rw [hx (by omega)]; exact e2, by rw [u_3_ne _ _ (by omega)]; exact e3⟩
      · rw [hn] at a1; cases a1
    · exact rl_c_c (h6 f' hf') (fun k a b => hx (by omega)) (fun r _ => hx (by omega)) (fun r _ _ _ e => (hx (by omega)).trans e) (fun c _ => u_3_ne _ _ (by omega)) (fun k l k1 k2 => u_3_ne _ _ (by omega)) rfl (Nat.le_refl _)
theorem P_load (h : Rl X T Y S R sh np nr nj nn) {f : Nat} (hf : f < 3) {l : Nat} (hl : l < 4) {p : Nat} (hp : p < np) : Rl (u_3 (u_3 X 50 0 (4 * f + l) (nI p)) 38 0 p (nI f)) T (u_3 Y 4 p 8 1) S (u_3 R 15 f l (some (4, p))) sh np nr nj nn := by
  have h0 := h
  obtain ⟨h1, h2, h3, h4, h5, h6, h7, h8, h9, h10⟩ := h
  have hx : ∀ {k i j}, k ≠ 38 ∧ k ≠ 50 → (u_3 (u_3 X 50 0 (4 * f + l) (nI p)) 38 0 p (nI f)) k i j = X k i j := by
    intro k i j q
    rw [u_3_k (by omega), u_3_k (by omega)]
  have hy : ∀ {k i j}, k ≠ 4 → (u_3 Y 4 p 8 1) k i j = Y k i j := by
    intro k i j q
    rw [u_3_k (by omega)]
  have hr : ∀ {k i j}, k ≠ 15 → (u_3 R 15 f l (some (4, p))) k i j = R k i j := by
    intro k i j q
    rw [u_3_k (by omega)]
  refine ⟨rl_n_c h1 (fun j => hx (by omega)) (fun j => hy (by omega)) (fun j => hy (by omega)), ?_, ?_, rl_q_c h4 (fun k j a b => hx (by omega)) (fun _ _ => hy (by omega)), fun f' hf' => rl_f_c (h5 f' hf') (fun k a => hx (by omega)) (fun k l a b _ => hx (by omega)) (fun _ _ => hy (by omega)) (fun _ _ _ _ => hy (by omega)) (Nat.le_refl _), fun f' hf' => rl_c_c (h6 f' hf') (fun k a b => hx (by omega)) (fun r _ => hx (by omega)) (fun r _ _ _ e => (hx (by omega)).trans e) (fun _ _ => hy (by omega)) (fun _ _ _ _ => hy (by omega)) (hr (by omega)) (Nat.le_refl _), ?_, fun r hr' => rl_r_c (h8 r hr') (fun k a b => hx (by omega)) (fun _ => hy (by omega)), rl_z_c h9 (fun k r a b _ => hx (by omega)) (Nat.le_refl _), rl_j_c h10 (fun k j a => hx (by omega)) (fun _ _ _ _ => hy (by omega))⟩
  · exact ⟨hs_mono h2.1 (fun k i j q _ => hr (by omega)) (fun k i n q => q), ⟨h2.2.1.1, fun j hj => ⟨(hr (by omega)).trans (h2.2.1.2 j hj).1, (h2.2.1.2 j hj).2⟩⟩, h2.2.2⟩
  · intro p' hp'
    by_cases e : p' = p
    · subst e
      obtain ⟨a1, a2, a3, a4, a5, a6, a7, a8, a9, a10, a11, a12, a13⟩ := h3 p' hp'
      have x : ∀ k, 31 ≤ k → k ≤ 39 → k ≠ 38 → u_3 (u_3 X 50 0 (4 * f + l) (nI p')) 38 0 p' (nI f) k 0 p' = X k 0 p' := fun k k1 k2 k3 => hx (by omega)
      have y : ∀ b, b ≠ 8 → u_3 Y 4 p' 8 1 4 p' b = Y 4 p' b := fun b hb => u_3_ne _ _ (by omega)
      refine ⟨(x 31 (by decide) (by decide) (by decide)).trans a1, ?_, ?_, ?_, ?_, ?_, a7, (y 0 (by decide)).trans a8, ?_, ?_, fun q hq => a11 q ?_, ?_, ?_⟩
      · rw [x 32 (by decide) (by decide) (by decide), y 1 (by decide)]; exact a2
      · rw [x 33 (by decide) (by decide) (by decide), y 3 (by decide)]; exact a3
      · rw [x 34 (by decide) (by decide) (by decide), y 4 (by decide)]; exact a4
      · rw [x 35 (by decide) (by decide) (by decide), y 5 (by decide)]; exact a5
      · rw [x 36 (by decide) (by decide) (by decide), y 6 (by decide)]; exact a6
      · rw [u_3_eq, u_3_eq, if_neg (nI_m1 (by omega))]
      · rw [x 39 (by decide) (by decide) (by decide), hr (by omega)]; exact a10
      · rw [hr (by omega)] at hq; exact hq
      · rw [y 5 (by decide)]; exact a12
      · rw [y 6 (by decide)]; exact a13
    · exact rl_p_c (h3 p' hp') (fun k k1 k2 => (u_3_ne _ _ (by omega)).trans (u_3_ne _ _ (by omega))) rfl (fun b => u_3_ne _ _ (by omega)) rfl (hr (by omega)) (Nat.le_refl _)
  · intro f' hf' i hi
    by_cases e : f' = f ∧ i = l
    · obtain ⟨rfl, rfl⟩ := e
      obtain ⟨a1, a2, a3, a4⟩ := h7 f' hf' i hi
      refine ⟨fun q hq => ?_, ?_, ?_, ?_⟩
      · rw [u_3_eq] at hq; cases hq; exact ⟨rfl, hp⟩
      · rw [u_3_ne _ _ (by omega), u_3_eq, u_3_eq]; rfl
      · rw [hx (by omega), hy (by omega)]; exact a3
      · rw [hx (by omega), hy (by omega)]; exact a4
    · exact rl_i_c (h7 f' hf' i hi) (fun k k1 k2 => (u_3_ne _ _ (by omega)).trans (u_3_ne _ _ (by omega))) (fun _ _ => hy (by omega)) (u_3_ne _ _ (by omega)) (Nat.le_refl _)
theorem P_unload (h : Rl X T Y S R sh np nr nj nn) {f : Nat} (hf : f < 3) {l : Nat} (hl : l < 4) {p : Nat} (hp : p < np) : Rl (u_3 (u_3 X 50 0 (4 * f + l) (-1)) 38 0 p (-1)) T (u_3 Y 4 p 8 0) S (u_3 R 15 f l none) sh np nr nj nn := by
  have h0 := h
  obtain ⟨h1, h2, h3, h4, h5, h6, h7, h8, h9, h10⟩ := h
  have hx : ∀ {k i j}, k ≠ 38 ∧ k ≠ 50 → (u_3 (u_3 X 50 0 (4 * f + l) (-1)) 38 0 p (-1)) k i j = X k i j := by
    intro k i j q
    rw [u_3_k (by omega), u_3_k (by omega)]
  have hy : ∀ {k i j}, k ≠ 4 → (u_3 Y 4 p 8 0) k i j = Y k i j := by
    intro k i j q
    rw [u_3_k (by omega)]
  have hr : ∀ {k i j}, k ≠ 15 → (u_3 R 15 f l none) k i j = R k i j := by
    intro k i j q
    rw [u_3_k (by omega)]
  refine ⟨rl_n_c h1 (fun j => hx (by omega)) (fun j => hy (by omega)) (fun j => hy (by omega)), ?_, ?_, rl_q_c h4 (fun k j a b => hx (by omega)) (fun _ _ => hy (by omega)), fun f' hf' => rl_f_c (h5 f' hf') (fun k a => hx (by omega)) (fun k l a b _ => hx (by omega)) (fun _ _ => hy (by omega)) (fun _ _ _ _ => hy (by omega)) (Nat.le_refl _), fun f' hf' => rl_c_c (h6 f' hf') (fun k a b => hx (by omega)) (fun r _ => hx (by omega)) (fun r _ _ _ e => (hx (by omega)).trans e) (fun _ _ => hy (by omega)) (fun _ _ _ _ => hy (by omega)) (hr (by omega)) (Nat.le_refl _), ?_, fun r hr' => rl_r_c (h8 r hr') (fun k a b => hx (by omega)) (fun _ => hy (by omega)), rl_z_c h9 (fun k r a b _ => hx (by omega)) (Nat.le_refl _), rl_j_c h10 (fun k j a => hx (by omega)) (fun _ _ _ _ => hy (by omega))⟩
  · exact ⟨hs_mono h2.1 (fun k i j q _ => hr (by omega)) (fun k i n q => q), ⟨h2.2.1.1, fun j hj => ⟨(hr (by omega)).trans (h2.2.1.2 j hj).1, (h2.2.1.2 j hj).2⟩⟩, h2.2.2⟩
  · intro p' hp'
    by_cases e : p' = p
    · subst e
      obtain ⟨a1, a2, a3, a4, a5, a6, a7, a8, a9, a10, a11, a12, a13⟩ := h3 p' hp'
      have x : ∀ k, 31 ≤ k → k ≤ 39 → k ≠ 38 → u_3 (u_3 X 50 0 (4 * f + l) (-1)) 38 0 p' (-1) k 0 p' = X k 0 p' := fun k k1 k2 k3 => hx (by omega)
      have y : ∀ b, b ≠ 8 → u_3 Y 4 p' 8 0 4 p' b = Y 4 p' b := fun b hb => u_3_ne _ _ (by omega)
      refine ⟨(x 31 (by decide) (by decide) (by decide)).trans a1, ?_, ?_, ?_, ?_, ?_, a7, (y 0 (by decide)).trans a8, ?_, ?_, fun q hq => a11 q ?_, ?_, ?_⟩
      · rw [x 32 (by decide) (by decide) (by decide), y 1 (by decide)]; exact a2
      · rw [x 33 (by decide) (by decide) (by decide), y 3 (by decide)]; exact a3
      · rw [x 34 (by decide) (by decide) (by decide), y 4 (by decide)]; exact a4
      · rw [x 35 (by decide) (by decide) (by decide), y 5 (by decide)]; exact a5
      · rw [x 36 (by decide) (by decide) (by decide), y 6 (by decide)]; exact a6
      · rw [u_3_eq, u_3_eq, if_pos rfl]
      · rw [x 39 (by decide) (by decide) (by decide), hr (by omega)]; exact a10
      · rw [hr (by omega)] at hq; exact hq
      · rw [y 5 (by decide)]; exact a12
      · rw [y 6 (by decide)]; exact a13
    · exact rl_p_c (h3 p' hp') (fun k k1 k2 => (u_3_ne _ _ (by omega)).trans (u_3_ne _ _ (by omega))) rfl (fun b => u_3_ne _ _ (by omega)) rfl (hr (by omega)) (Nat.le_refl _)
  · intro f' hf' i hi
    by_cases e : f' = f ∧ i = l
    · obtain ⟨rfl, rfl⟩ := e
      obtain ⟨a1, a2, a3, a4⟩ := h7 f' hf' i hi
      refine ⟨fun q hq => ?_, ?_, ?_, ?_⟩
      · rw [u_3_eq] at hq; cases hq
      · rw [u_3_ne _ _ (by omega), u_3_eq, u_3_eq]; rfl
      · rw [hx (by omega), hy (by omega)]; exact a3
      · rw [hx (by omega), hy (by omega)]; exact a4
    · exact rl_i_c (h7 f' hf' i hi) (fun k k1 k2 => (u_3_ne _ _ (by omega)).trans (u_3_ne _ _ (by omega))) (fun _ _ => hy (by omega)) (u_3_ne _ _ (by omega)) (Nat.le_refl _)
theorem P_probe (h : Rl X T Y S R sh np nr nj nn) {f : Nat} (hf : f < 3) {l : Nat} (hl : l < 4) {y d : Int32} (hy1 : y = 0 ∨ y = 1) : Rl (u_3 (u_3 X 51 0 (4 * f + l) y) 52 0 (4 * f + l) d) T (u_3 (u_3 Y 16 f l (if y = 0 then 1 else 0)) 17 f l d) S R sh np nr nj nn := by
  have h0 := h
  obtain ⟨h1, h2, h3, h4, h5, h6, h7, h8, h9, h10⟩ := h
  have hx : ∀ {k i j}, k ≠ 51 ∧ k ≠ 52 → (u_3 (u_3 X 51 0 (4 * f + l) y) 52 0 (4 * f + l) d) k i j = X k i j := by
    intro k i j q
    rw [u_3_k (by omega), u_3_k (by omega)]
  have hy : ∀ {k i j}, k ≠ 16 ∧ k ≠ 17 → (u_3 (u_3 Y 16 f l (if y = 0 then 1 else 0)) 17 f l d) k i j = Y k i j := by
    intro k i j q
    rw [u_3_k (by omega), u_3_k (by omega)]
  refine ⟨rl_n_c h1 (fun j => hx (by omega)) (fun j => hy (by omega)) (fun j => hy (by omega)), h2, fun p' hp' => rl_p_c (h3 p' hp') (fun k a b => hx (by omega)) rfl (fun b => hy (by omega)) rfl rfl (Nat.le_refl _), rl_q_c h4 (fun k j a b => hx (by omega)) (fun _ _ => hy (by omega)), fun f' hf' => rl_f_c (h5 f' hf') (fun k a => hx (by omega)) (fun k l a b _ => hx (by omega)) (fun _ _ => hy (by omega)) (fun _ _ _ _ => hy (by omega)) (Nat.le_refl _), fun f' hf' => rl_c_c (h6 f' hf') (fun k a b => hx (by omega)) (fun r _ => hx (by omega)) (fun r _ _ _ e => (hx (by omega)).trans e) (fun _ _ => hy (by omega)) (fun _ _ _ _ => hy (by omega)) rfl (Nat.le_refl _), ?_, fun r hr' => rl_r_c (h8 r hr') (fun k a b => hx (by omega)) (fun _ => hy (by omega)), rl_z_c h9 (fun k r a b _ => hx (by omega)) (Nat.le_refl _), rl_j_c h10 (fun k j a => hx (by omega)) (fun _ _ _ _ => hy (by omega))⟩
  · intro f' hf' i hi
    by_cases e : f' = f ∧ i = l
    · obtain ⟨rfl, rfl⟩ := e
      obtain ⟨a1, a2, a3, a4⟩ := h7 f' hf' i hi
      refine ⟨a1, ?_, ?_, ?_⟩
      · rw [hx (by omega)]; exact a2
      · rw [u_3_k (by decide), u_3_eq, u_3_k (by decide), u_3_eq]
        rcases hy1 with rfl | rfl <;> rfl
      · rw [u_3_eq, u_3_eq]
    · exact rl_i_c (h7 f' hf' i hi) (fun k k1 k2 => (u_3_ne _ _ (by omega)).trans (u_3_ne _ _ (by omega))) (fun _ _ => (u_3_ne _ _ (by omega)).trans (u_3_ne _ _ (by omega))) rfl (Nat.le_refl _)
end RlE
