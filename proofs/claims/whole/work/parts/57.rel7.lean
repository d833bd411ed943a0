section RlE
variable {X : MI_} {Y : MI_} {T S : ML_} {R : MR_} {sh : SH_} {np nr nj : Nat} {nn : Nat → Nat}
theorem pa_4v {Z : MI_} {n i : Nat} : ∀ c j, c ≤ 4 → pa_4 Z n i c 41 0 j = if 24 * n + 4 * i ≤ j ∧ j < 24 * n + 4 * i + c then (if j = 24 * n + 4 * i + 1 then 1000 else 0) else Z 41 0 j
  | 0, j, _ => (if_neg (by omega)).symm
  | c + 1, j, hc => by
    rw [pa_4]
    by_cases e : j = 24 * n + 4 * i + c
    · subst e
      rw [u_3_eq]
      repeat' split
      all_goals first | rfl | (exfalso; omega)
    · rw [u_3_ne _ _ (by omega), pa_4v c j (by omega)]
      repeat' split
      all_goals first | rfl | (exfalso; omega)
theorem pa_4k {Z : MI_} {n i k a b : Nat} (h : k ≠ 41) : ∀ c, pa_4 Z n i c k a b = Z k a b
  | 0 => rfl
  | c + 1 => (u_3_k h).trans (pa_4k h c)
theorem pa_6k {Z : MI_} {n k a b : Nat} (h : k ≠ 40 ∧ k ≠ 41 ∧ k ≠ 42) : ∀ i, pa_6 Z n i k a b = Z k a b
  | 0 => rfl
  | i + 1 => (pa_4k h.2.1 4).trans ((u_3_k h.2.2).trans ((u_3_k h.1).trans (pa_6k h i)))
theorem pa_6v {Z : MI_} {n : Nat} : ∀ i, i ≤ 6 → (∀ j, pa_6 Z n i 40 0 j = if 6 * n ≤ j ∧ j < 6 * n + i then 200 else Z 40 0 j) ∧ (∀ j, pa_6 Z n i 42 0 j = if 6 * n ≤ j ∧ j < 6 * n + i then 0 else Z 42 0 j) ∧ (∀ j, pa_6 Z n i 41 0 j = if 24 * n ≤ j ∧ j < 24 * n + 4 * i then (if j % 4 = 1 then 1000 else 0) else Z 41 0 j)
  | 0, _ => ⟨fun j => (if_neg (by omega)).symm, fun j => (if_neg (by omega)).symm, fun j => (if_neg (by omega)).symm⟩
  | i + 1, hi => by
    obtain ⟨a, b, c⟩ := pa_6v (Z := Z) (n := n) i (by omega)
    refine ⟨fun j => ?_, fun j => ?_, fun j => ?_⟩
    · rw [pa_6, pa_4k (by decide), u_3_k (by decide)]
      by_cases e : j = 6 * n + i
      · subst e; rw [u_3_eq, if_pos (by omega)]
      · rw [u_3_ne _ _ (by omega), a]
        by_cases q : 6 * n ≤ j ∧ j < 6 * n + i
        · rw [if_pos q, if_pos (by omega)]
        · rw [if_neg q, if_neg (by omega)]
    · rw [pa_6, pa_4k (by decide)]
      by_cases e : j = 6 * n + i
      · subst e; rw [u_3_eq, if_pos (by omega)]
      · rw [u_3_ne _ _ (by omega), u_3_k (by decide), b]
        by_cases q : 6 * n ≤ j ∧ j < 6 * n + i
        · rw [if_pos q, if_pos (by omega)]
        · rw [if_neg q, if_neg (by omega)]
    · rw [pa_6, pa_4v 4 j (by omega), u_3_k (by decide), u_3_k (by decide), c]
      repeat' split
      all_goals first | rfl | (exfalso; omega)
theorem pa_1k {Z : MI_} {n : Nat} {a m k s p b : Int32} {c i j : Nat} (h : c < 31 ∨ 39 < c ∨ c = 37) : pa_1 Z n a m k s p b c i j = Z c i j := by
  unfold pa_1
  rw [u_3_k (by omega), u_3_k (by omega), u_3_k (by omega), u_3_k (by omega), u_3_k (by omega), u_3_k (by omega), u_3_k (by omega), u_3_k (by omega)]
theorem pa_1o {Z : MI_} {n : Nat} {a m k s p b : Int32} {c i j : Nat} (h : j ≠ n) : pa_1 Z n a m k s p b c i j = Z c i j := by
  unfold pa_1
  rw [u_3_ne _ _ (by omega), u_3_ne _ _ (by omega), u_3_ne _ _ (by omega), u_3_ne _ _ (by omega), u_3_ne _ _ (by omega), u_3_ne _ _ (by omega), u_3_ne _ _ (by omega), u_3_ne _ _ (by omega)]
theorem pi_0i {p n : Nat} {u m k s q b : Int32} {M : Me_} : (pi_0 p n u m k s q b M).1 = u_n (u_3 (u_3 (u_3 (u_3 (u_3 (u_3 M.1 4 p 0 u) 4 p 1 m) 4 p 3 k) 4 p 4 s) 4 p 5 q) 4 p 6 b) 21 p 0 := rfl
theorem pi_0l {p n : Nat} {u m k s q b : Int32} {M : Me_} : (pi_0 p n u m k s q b M).2.1 = u_n M.2.1 21 p 0 := rfl
theorem pi_0r {p n : Nat} {u m k s q b : Int32} {M : Me_} : (pi_0 p n u m k s q b M).2.2.1 = u_3 (u_n M.2.2.1 21 p none) 4 p 2 (some (21, p)) := rfl
theorem pi_0s {p n : Nat} {u m k s q b : Int32} {M : Me_} : (pi_0 p n u m k s q b M).2.2.2 = u_2 M.2.2.2 21 p (some n) := rfl
theorem pt_mi {np n : Nat} {m k s q b : Int32} {M : Me_} : (pt_m np n m k s q b M).1 = u_3 (pn_ np (pi_0 np n (nI np) m k s q b (nw_ 4 np 10 M)) n).1 1 0 4 (nI (np + 1)) := rfl
theorem pt_ml {np n : Nat} {m k s q b : Int32} {M : Me_} : (pt_m np n m k s q b M).2.1 = (pn_ np (pi_0 np n (nI np) m k s q b (nw_ 4 np 10 M)) n).2.1 := rfl
theorem pt_mr {np n : Nat} {m k s q b : Int32} {M : Me_} : (pt_m np n m k s q b M).2.2.1 = u_3 (pn_ np (pi_0 np n (nI np) m k s q b (nw_ 4 np 10 M)) n).2.2.1 8 0 np (some (4, np)) := rfl
theorem pt_ms {np n : Nat} {m k s q b : Int32} {M : Me_} : (pt_m np n m k s q b M).2.2.2 = (pn_ np (pi_0 np n (nI np) m k s q b (nw_ 4 np 10 M)) n).2.2.2 := rfl
theorem nw_i {k i n : Nat} {Y : MI_} {S : ML_} {R : MR_} {sh : SH_} : (nw_ k i n (Y, S, R, sh)).1 = u_n Y k i 0 := rfl
theorem nw_l {k i n : Nat} {Y : MI_} {S : ML_} {R : MR_} {sh : SH_} : (nw_ k i n (Y, S, R, sh)).2.1 = u_n S k i 0 := rfl
theorem nw_r {k i n : Nat} {Y : MI_} {S : ML_} {R : MR_} {sh : SH_} : (nw_ k i n (Y, S, R, sh)).2.2.1 = u_n R k i none := rfl
theorem nw_s {k i n : Nat} {Y : MI_} {S : ML_} {R : MR_} {sh : SH_} : (nw_ k i n (Y, S, R, sh)).2.2.2 = u_2 sh k i (some n) := rfl
theorem P_part (h : Rl X T Y S R sh np nr nj nn) {n : Nat} (n1 : 1 ≤ n) (n6 : n ≤ 6) (h12 : np < 12) (m kf s q b : Int32) (hq : 0 ≤ q.toInt) (hb : 0 ≤ b.toInt) : Rl (pa_m X np (nI n) m kf s q b) (u_3 T 37 0 np 0) (pt_m np n m kf s q b (Y, S, R, sh)).1 (pt_m np n m kf s q b (Y, S, R, sh)).2.1 (pt_m np n m kf s q b (Y, S, R, sh)).2.2.1 (pt_m np n m kf s q b (Y, S, R, sh)).2.2.2 (np + 1) nr nj (fun p => if p = np then n else nn p) := by
  have h0 := h
  obtain ⟨h1, h2, h3, h4, h5, h6, h7, h8, h9, h10⟩ := h
  have hx : ∀ {k i j}, k ≠ 7 ∧ k ≠ 31 ∧ k ≠ 32 ∧ k ≠ 33 ∧ k ≠ 34 ∧ k ≠ 35 ∧ k ≠ 36 ∧ k ≠ 38 ∧ k ≠ 39 ∧ k ≠ 40 ∧ k ≠ 41 ∧ k ≠ 42 → (pa_m X np (nI n) m kf s q b) k i j = X k i j := by
    intro k i j q
    unfold pa_m; rw [u_3_k (by omega), pa_6k (by omega), pa_1k (by omega)]
  have hy : ∀ {k i j}, k ≠ 1 ∧ k ≠ 4 ∧ k ≠ 6 ∧ k ≠ 21 → (pt_m np n m kf s q b (Y, S, R, sh)).1 k i j = Y k i j := by
    intro k i j q
    rw [pt_mi, u_3_k (by omega), pn_ik (by omega)]
    rw [pi_0i, nw_i, u_n_k (by omega), u_3_k (by omega), u_3_k (by omega), u_3_k (by omega), u_3_k (by omega), u_3_k (by omega), u_3_k (by omega), u_n_k (by omega)]
  have hr : ∀ {k i j}, k ≠ 4 ∧ k ≠ 6 ∧ k ≠ 8 ∧ k ≠ 21 → (pt_m np n m kf s q b (Y, S, R, sh)).2.2.1 k i j = R k i j := by
    intro k i j q
    rw [pt_mr]
    rw [u_3_k (by omega), pn_rk (by omega) (by omega)]
    rw [pi_0r, nw_r, u_3_k (by omega), u_n_k (by omega), u_n_k (by omega)]
  have x7 : ∀ j, j ≠ 0 → pa_m X np (nI n) m kf s q b 7 0 j = X 7 0 j := fun j hj => by
    unfold pa_m
    rw [u_3_ne _ _ (by omega), pa_6k (by decide), pa_1k (by decide)]
  have xp : ∀ c p, 31 ≤ c → c ≤ 39 → c ≠ 37 → pa_m X np (nI n) m kf s q b c 0 p = pa_1 X np (nI n) m kf s q b c 0 p := fun c p c1 c2 c3 => by
    unfold pa_m
    rw [u_3_k (by omega), pa_6k (by omega)]
  have xo : ∀ c p, p ≠ np → 31 ≤ c → c ≤ 39 → pa_m X np (nI n) m kf s q b c 0 p = X c 0 p := fun c p hp c1 c2 => by
    unfold pa_m
    rw [u_3_k (by omega), pa_6k (by omega), pa_1o hp]
  have xs : ∀ c j, 40 ≤ c → pa_m X np (nI n) m kf s q b c 0 j = pa_6 (pa_1 X np (nI n) m kf s q b) np 6 c 0 j := fun c j hc => by
    unfold pa_m
    rw [u_3_k (by omega)]
  obtain ⟨v40, v42, v41⟩ := pa_6v (Z := pa_1 X np (nI n) m kf s q b) (n := np) 6 (Nat.le_refl _)
  have y4 : ∀ p c, (pt_m np n m kf s q b (Y, S, R, sh)).1 4 p c = u_3 (u_3 (u_3 (u_3 (u_3 (u_3 (u_n Y 4 np 0) 4 np 0 (nI np)) 4 np 1 m) 4 np 3 kf) 4 np 4 s) 4 np 5 q) 4 np 6 b 4 p c := fun p c => by
    rw [pt_mi]
    rw [u_3_k (by decide), pn_ik (by decide)]
    rw [pi_0i, nw_i, u_n_k (by decide)]
  have y4o : ∀ p c, p ≠ np → (pt_m np n m kf s q b (Y, S, R, sh)).1 4 p c = Y 4 p c := fun p c hp => by
    rw [y4, u_3_ne _ _ (by omega), u_3_ne _ _ (by omega), u_3_ne _ _ (by omega), u_3_ne _ _ (by omega), u_3_ne _ _ (by omega), u_3_ne _ _ (by omega)]
    exact if_neg (by omega)
  have y6 : ∀ t c, (pt_m np n m kf s q b (Y, S, R, sh)).1 6 t c = (pn_ np (pi_0 np n (nI np) m kf s q b (nw_ 4 np 10 (Y, S, R, sh))) n).1 6 t c := fun t c => by
    rw [pt_mi]
    rw [u_3_k (by decide)]
  have y6o : ∀ t c, t < 6 * np ∨ 6 * np + n ≤ t → (pt_m np n m kf s q b (Y, S, R, sh)).1 6 t c = Y 6 t c := fun t c ht => by
    rw [y6, pn_i6 n ht]
    rw [pi_0i, nw_i, u_n_k (by decide), u_3_k (by decide), u_3_k (by decide), u_3_k (by decide), u_3_k (by decide), u_3_k (by decide), u_3_k (by decide), u_n_k (by decide)]
  have y6n : ∀ i c, i < n → (pt_m np n m kf s q b (Y, S, R, sh)).1 6 (6 * np + i) c = if c = 0 then 200 else if c = 2 then 1000 else 0 := fun i c hi => by
    rw [y6]; exact pn_i6i n hi
  have r4 : ∀ p c, ¬ (p = np ∧ c = 2) → (pt_m np n m kf s q b (Y, S, R, sh)).2.2.1 4 p c = if p = np then none else R 4 p c := fun p c hpc => by
    rw [pt_mr]
    rw [u_3_k (by decide), pn_rk (by decide) (by omega)]
    rw [pi_0r, nw_r, u_3_ne _ _ (by omega), u_n_k (by decide)]
    unfold u_n
    by_cases e : p = np
    · rw [if_pos ⟨rfl, e⟩, if_pos e]
    · rw [if_neg (by omega), if_neg e]
  have r8 : ∀ p, (pt_m np n m kf s q b (Y, S, R, sh)).2.2.1 8 0 p = if p = np then some (4, np) else R 8 0 p := fun p => by
    rw [pt_mr]
    by_cases e : p = np
    · subst e; rw [u_3_eq, if_pos rfl]
    · rw [u_3_ne _ _ (by omega), if_neg e, pn_rk (by decide) (by omega)]
      rw [pi_0r, nw_r, u_3_k (by decide), u_n_k (by decide), u_n_k (by decide)]
  have r21 : ∀ p c, p ≠ np → (pt_m np n m kf s q b (Y, S, R, sh)).2.2.1 21 p c = R 21 p c := fun p c hp => by
    rw [pt_mr]
    rw [u_3_k (by decide), pn_rk (by decide) (by omega)]
    rw [pi_0r, nw_r, u_3_k (by decide)]
    unfold u_n
    rw [if_neg (by omega), if_neg (by omega)]
  have sk : ∀ c i, c ≠ 6 → (pt_m np n m kf s q b (Y, S, R, sh)).2.2.2 c i = u_2 (u_2 sh 4 np (some 10)) 21 np (some n) c i := fun c i hc => by
    rw [pt_ms]
    rw [pn_sk hc, pi_0s, nw_s]
  have s6 : ∀ t, t < 6 * np ∨ 6 * np + n ≤ t → (pt_m np n m kf s q b (Y, S, R, sh)).2.2.2 6 t = sh 6 t := fun t ht => by
    rw [pt_ms]
    rw [pn_s6 n ht, pi_0s, nw_s, u_2_k (by decide), u_2_k (by decide)]
  have s6n : ∀ i, i < n → (pt_m np n m kf s q b (Y, S, R, sh)).2.2.2 6 (6 * np + i) = some 6 := fun i hi => pn_s6i n hi
  have smono : ∀ c i v, sh c i = some v → (pt_m np n m kf s q b (Y, S, R, sh)).2.2.2 c i = some v := fun c i v hv => by
    by_cases e6 : c = 6
    · subst e6
      have : i < 6 * np := by
        rcases Nat.lt_or_ge i (6 * np) with g | g
        · exact g
        · rw [h2.2.2.2.2.1 i g] at hv; cases hv
      rw [s6 i (Or.inl this)]; exact hv
    · rw [sk c i e6, u_2_ne (fun e => by rw [e.1, e.2, h2.2.2.2.1 np (Nat.le_refl _)] at hv; cases hv), u_2_ne (fun e => by rw [e.1, e.2, h2.2.2.1 np (Nat.le_refl _)] at hv; cases hv)]
      exact hv
  refine ⟨?_, ?_, ?_, ?_, fun f' hf' => rl_f_c (h5 f' hf') (fun k a => hx (by omega)) (fun k l a b _ => hx (by omega)) (fun _ _ => hy (by omega)) (fun _ _ _ _ => hy (by omega)) (Nat.le_refl _), fun f' hf' => rl_c_c (h6 f' hf') (fun k a b => hx (by omega)) (fun r _ => hx (by omega)) (fun r _ _ _ e => (hx (by omega)).trans e) (fun _ _ => hy (by omega)) (fun _ _ _ _ => hy (by omega)) (hr (by omega)) (Nat.le_refl _), ?_, fun r hr' => rl_r_c (h8 r hr') (fun k a b => hx (by omega)) (fun _ => hy (by omega)), rl_z_c h9 (fun k r a b _ => hx (by omega)) (Nat.le_refl _), rl_j_c h10 (fun k j a => hx (by omega)) (fun _ _ _ _ => hy (by omega))⟩
  · refine ⟨⟨?_, ?_, by omega⟩, ⟨?_, ?_, h1.2.1.2.2⟩, ?_, ?_, h1.2.2.2.2⟩
    · unfold pa_m; rw [u_3_eq, pa_6k (by decide), pa_1k (by decide), h1.1.1, ← nI_add]; rfl
    · rw [pt_mi]
      rw [u_3_eq]
    · rw [x7 28 (by decide)]; exact h1.2.1.1
    · rw [pt_mi]
      rw [u_3_ne _ _ (by omega), pn_ik (by decide)]
      rw [pi_0i, nw_i, u_n_k (by decide), u_3_k (by decide), u_3_k (by decide), u_3_k (by decide), u_3_k (by decide), u_3_k (by decide), u_3_k (by decide), u_n_k (by decide)]
      exact h1.2.1.2.1
    · rw [x7 35 (by decide)]; exact h1.2.2.1
    · rw [hy (by omega)]; exact h1.2.2.2.1
  · have hm : hs_ (pt_m np n m kf s q b (Y, S, R, sh)).2.2.1 (pt_m np n m kf s q b (Y, S, R, sh)).2.2.2 np nr nn := by
      refine hs_mono h2.1 (fun c i j hc hv => ?_) smono
      obtain ⟨v, hv⟩ := hv
      by_cases e4 : c = 4
      · subst e4
        have : i ≠ np := fun e => by rw [e, h2.2.2.1 np (Nat.le_refl _)] at hv; cases hv
        rw [r4 i j (by omega), if_neg this]
      · by_cases e21 : c = 21
        · subst e21
          have : i ≠ np := fun e => by rw [e, h2.2.2.2.1 np (Nat.le_refl _)] at hv; cases hv
          exact r21 i j this
        · by_cases e8 : c = 8
          · subst e8
            by_cases e0 : i = 0
            · subst e0; rw [r8 j, if_neg (by omega)]
            · rw [pt_mr]
              rw [u_3_ne _ _ (by omega), pn_rk (by decide) (by omega)]
              rw [pi_0r, nw_r, u_3_k (by decide), u_n_k (by decide), u_n_k (by decide)]
          · exact hr (by omega)
    obtain ⟨g1, g2, g3, g4, g5, g6, g7, g8, g9⟩ := hm
    refine ⟨⟨g1, g2, g3, g4, g5, g6, g7, ⟨fun p hp => ?_, fun p hp => ?_⟩, g9⟩, ⟨?_, fun j hj => ⟨?_, ?_⟩⟩, ?_⟩
    · by_cases e : p = np
      · subst e
        show pt_ _ _ p (if p = p then n else nn p) ∧ 1 ≤ (if p = p then n else nn p) ∧ (if p = p then n else nn p) ≤ 6
        rw [if_pos rfl]
        refine ⟨⟨?_, ?_, ?_, fun i hi => ⟨?_, s6n i hi⟩⟩, n1, n6⟩
        · rw [sk 4 p (by decide), u_2_k (by decide)]; exact if_pos ⟨rfl, rfl⟩
        · rw [pt_mr]
          rw [u_3_k (by decide), pn_rk (by decide) (by omega)]
          exact u_3_eq _ _
        · rw [sk 21 p (by decide)]; exact if_pos ⟨rfl, rfl⟩
        · rw [pt_mr]
          rw [u_3_k (by decide)]
          exact pn_r21 n hi
      · show pt_ _ _ p (if p = np then n else nn p) ∧ 1 ≤ (if p = np then n else nn p) ∧ (if p = np then n else nn p) ≤ 6
        rw [if_neg e]
        exact g8.1 p (by omega)
    · by_cases e : p = np
      · subst e; rw [r8, if_pos rfl]
      · exact g8.2 p (by omega)
    · exact smono _ _ _ h2.2.1.1
    · rw [hr (by omega)]; exact (h2.2.1.2 j hj).1
    · exact smono _ _ _ (h2.2.1.2 j hj).2
    · refine ⟨fun p hp => ?_, fun p hp => ?_, fun t ht => ?_, fun r hr' => ?_⟩
      · rw [sk 4 p (by decide), u_2_k (by decide), u_2_ne (by omega)]; exact h2.2.2.1 p (by omega)
      · rw [sk 21 p (by decide), u_2_ne (by omega), u_2_k (by decide)]; exact h2.2.2.2.1 p (by omega)
      · rw [s6 t (by omega)]; exact h2.2.2.2.2.1 t (by omega)
      · rw [sk 5 r (by decide), u_2_k (by decide), u_2_k (by decide)]; exact h2.2.2.2.2.2 r hr'
  · intro p hp
    by_cases e : p = np
    · subst e
      have z : ∀ c, (pt_m p n m kf s q b (Y, S, R, sh)).1 4 p c = if c = 6 then b else if c = 5 then q else if c = 4 then s else if c = 3 then kf else if c = 1 then m else if c = 0 then nI p else 0 := fun c => by
        rw [y4]
        unfold u_3 u_n
        repeat' split
        all_goals first | rfl | (exfalso; omega)
      refine ⟨?_, ?_, ?_, ?_, ?_, ?_, ?_, ?_, ?_, ?_, fun q' hq' => ?_, ?_, ?_⟩
      · rw [xp 31 p (by decide) (by decide) (by decide)]
        show _ = nI (if p = p then n else nn p)
        rw [if_pos rfl]
        unfold pa_1
        rw [u_3_k (by decide), u_3_k (by decide), u_3_k (by decide), u_3_k (by decide), u_3_k (by decide), u_3_k (by decide), u_3_k (by decide), u_3_eq]
      · rw [xp 32 p (by decide) (by decide) (by decide), z 1]
        unfold pa_1
        rw [u_3_k (by decide), u_3_k (by decide), u_3_k (by decide), u_3_k (by decide), u_3_k (by decide), u_3_k (by decide), u_3_eq]; rfl
      · rw [xp 33 p (by decide) (by decide) (by decide), z 3]
        unfold pa_1
        rw [u_3_k (by decide), u_3_k (by decide), u_3_k (by decide), u_3_k (by decide), u_3_k (by decide), u_3_eq]; rfl
      · rw [xp 34 p (by decide) (by decide) (by decide), z 4]
        unfold pa_1
        rw [u_3_k (by decide), u_3_k (by decide), u_3_k (by decide), u_3_k (by decide), u_3_eq]; rfl
      · rw [xp 35 p (by decide) (by decide) (by decide), z 5]
        unfold pa_1
        rw [u_3_k (by decide), u_3_k (by decide), u_3_k (by decide), u_3_eq]; rfl
      · rw [xp 36 p (by decide) (by decide) (by decide), z 6]
        unfold pa_1
        rw [u_3_k (by decide), u_3_k (by decide), u_3_eq]; rfl
      · rw [u_3_eq]
        rw [pt_ml]
        rw [pn_lk (by decide)]
        rw [pi_0l, nw_l, u_n_k (by decide)]
        exact (if_pos ⟨rfl, rfl⟩).symm
      · rw [z 0]; rfl
      · rw [xp 38 p (by decide) (by decide) (by decide), z 8]
        unfold pa_1
        rw [u_3_k (by decide), u_3_eq]; rfl
      · rw [xp 39 p (by decide) (by decide) (by decide), r4 p 9 (by omega), if_pos rfl]
        unfold pa_1
        rw [u_3_eq]; rfl
      · rw [r4 p 9 (by omega), if_pos rfl] at hq'; cases hq'
      · rw [z 5]; exact hq
      · rw [z 6]; exact hb
    · have hp' : p < np := by omega
      have hs9 : (pt_m np n m kf s q b (Y, S, R, sh)).2.1 4 p 7 = S 4 p 7 := by
        rw [pt_ml]
        rw [pn_lk (by decide)]
        rw [pi_0l, nw_l, u_n_k (by decide)]
        exact if_neg (by omega)
      have := rl_p_c (X' := pa_m X np (nI n) m kf s q b) (T' := u_3 T 37 0 np 0) (Y' := (pt_m np n m kf s q b (Y, S, R, sh)).1) (S' := (pt_m np n m kf s q b (Y, S, R, sh)).2.1) (R' := (pt_m np n m kf s q b (Y, S, R, sh)).2.2.1) (h3 p hp') (fun c c1 c2 => xo c p e c1 c2) (u_3_ne _ _ (by omega)) (fun c => y4o p c e) hs9 (by rw [r4 p 9 (by omega), if_neg e]) (Nat.le_refl nr)
      obtain ⟨a1, a2⟩ := this
      refine ⟨?_, a2⟩
      show _ = nI (if p = np then n else nn p)
      rw [if_neg e]
      exact a1
  · intro p hp i hi
    by_cases e : p = np
    · subst e
      have hi' : i < n := by
        have : i < (if p = p then n else nn p) := hi
        rw [if_pos rfl] at this
        exact this
      refine ⟨⟨?_, ?_, ?_, ?_, ?_, ?_⟩, ?_⟩
      · rw [xs _ _ (by decide), v40, if_pos (by omega), y6n i 0 hi']; rfl
      · rw [xs _ _ (by decide), v41, if_pos (by omega), if_neg (by omega), y6n i 1 hi']; rfl
      · rw [xs _ _ (by decide), v41, if_pos (by omega), if_pos (by omega), y6n i 2 hi']; rfl
      · rw [xs _ _ (by decide), v41, if_pos (by omega), if_neg (by omega), y6n i 3 hi']; rfl
      · rw [xs _ _ (by decide), v41, if_pos (by omega), if_neg (by omega), y6n i 4 hi']; rfl
      · rw [xs _ _ (by decide), v42, if_pos (by omega), y6n i 5 hi']; rfl
      · unfold sh_k
        rw [y6n i 1 hi', y6n i 2 hi', y6n i 3 hi', y6n i 4 hi']
        unfold ok4
        decide
    · have hi' : i < nn p := by
        have : i < (if p = np then n else nn p) := hi
        rw [if_neg e] at this
        exact this
      have hn := (hs_P h2.1 p (by omega)).2.2
      have hh := h4 p (by omega) i hi'
      refine ⟨rl_s_eq hh.1 ?_ (fun j j1 j2 => ?_) ?_ (fun c => y6o _ c (by omega)), sh_k_eq hh.2 (fun c _ => y6o _ c (by omega))⟩
      · rw [xs _ _ (by decide), v40, if_neg (by omega), pa_1k (by decide)]
      · rw [xs _ _ (by decide), v41, if_neg (by omega), pa_1k (by decide)]
      · rw [xs _ _ (by decide), v42, if_neg (by omega), pa_1k (by decide)]
  · intro f' hf' i hi
    exact rl_i_c (h7 f' hf' i hi) (fun k a b => hx (by omega)) (fun _ _ => hy (by omega)) (hr (by omega)) (Nat.le_succ _)
end RlE
