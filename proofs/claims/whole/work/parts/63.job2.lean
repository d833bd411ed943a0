section RlE
variable {X : MI_} {Y : MI_} {T S : ML_} {R : MR_} {sh : SH_} {np nr nj : Nat} {nn : Nat → Nat}
theorem P_job (h : Rl X T Y S R sh np nr nj nn) (h7 : nj < 7) {a b : Int32} (ha : 1 ≤ a.toInt ∧ a.toInt ≤ 1000) (hb : 0 ≤ b.toInt ∧ b.toInt ≤ 10000) : Rl (jb_m X nj a b) T (pl_m (ja_m Y nj a b) (nj + 1)) S R sh np nr (nj + 1) nn := by
  have h0 := h
  obtain ⟨h1, h2, h3, h4, h5, h6, h7, h8, h9, h10⟩ := h
  have hx : ∀ {k i j}, k ≠ 7 ∧ k ≠ 66 ∧ k ≠ 67 → (jb_m X nj a b) k i j = X k i j := by
    intro k i j q
    unfold jb_m jb_2; rw [u_3_k (by omega), u_3_k (by omega), u_3_k (by omega)]
  have hy : ∀ {k i j}, k ≠ 2 ∧ k ≠ 11 ∧ k ≠ 12 ∧ k ≠ 13 ∧ k ≠ 14 → (pl_m (ja_m Y nj a b) (nj + 1)) k i j = Y k i j := by
    intro k i j q
    rw [pl_k (by omega)]; unfold ja_m ja_2; rw [u_3_k (by omega), u_3_k (by omega), u_3_k (by omega)]
  refine ⟨?_, h2, fun p' hp' => rl_p_c (h3 p' hp') (fun k a b => hx (by omega)) rfl (fun b => hy (by omega)) rfl rfl (Nat.le_refl _), rl_q_c h4 (fun k j a b => hx (by omega)) (fun _ _ => hy (by omega)), fun f' hf' => rl_f_c (h5 f' hf') (fun k a => hx (by omega)) (fun k l a b _ => hx (by omega)) (fun _ _ => hy (by omega)) (fun _ _ _ _ => hy (by omega)) (Nat.le_refl _), fun f' hf' => rl_c_c (h6 f' hf') (fun k a b => hx (by omega)) (fun r _ => hx (by omega)) (fun r _ _ _ e => (hx (by omega)).trans e) (fun _ _ => hy (by omega)) (fun _ _ _ _ => hy (by omega)) rfl (Nat.le_refl _), fun f' hf' i hi => rl_i_c (h7 f' hf' i hi) (fun k a b => hx (by omega)) (fun _ _ => hy (by omega)) rfl (Nat.le_refl _), fun r hr' => rl_r_c (h8 r hr') (fun k a b => hx (by omega)) (fun _ => hy (by omega)), rl_z_c h9 (fun k r a b _ => hx (by omega)) (Nat.le_refl _), ?_⟩
  · refine ⟨⟨?_, ?_, h1.1.2.2⟩, ⟨?_, ?_, h1.2.1.2.2⟩, ?_, ?_, by omega⟩
    · unfold jb_m jb_2; rw [u_3_ne _ _ (by omega), u_3_k (by decide), u_3_k (by decide)]; exact h1.1.1
    · rw [hy (by omega)]; exact h1.1.2.1
    · unfold jb_m jb_2; rw [u_3_ne _ _ (by omega), u_3_k (by decide), u_3_k (by decide)]; exact h1.2.1.1
    · rw [hy (by omega)]; exact h1.2.1.2.1
    · unfold jb_m jb_2; rw [u_3_eq, u_3_k (by decide), u_3_k (by decide), h1.2.2.1, ← nI_add]; rfl
    · rw [pl_k (by decide)]; unfold ja_m; rw [u_3_eq]
  · refine ⟨fun j hj => ?_, ja_m Y nj a b, fun j hj => ⟨(pl_k (by decide)).symm, (pl_k (by decide)).symm⟩, rfl, fun i hi => rfl⟩
    have x66 : jb_m X nj a b 66 0 j = u_3 X 66 0 nj a 66 0 j := by unfold jb_m jb_2; rw [u_3_k (by decide), u_3_k (by decide)]
    have x67 : jb_m X nj a b 67 0 j = u_3 (u_3 X 66 0 nj a) 67 0 nj b 67 0 j := by unfold jb_m jb_2; rw [u_3_k (by decide)]
    have y11 : ja_m Y nj a b 11 0 j = u_3 Y 11 0 nj a 11 0 j := by unfold ja_m ja_2; rw [u_3_k (by decide), u_3_k (by decide)]
    have y12 : ja_m Y nj a b 12 0 j = u_3 (u_3 Y 11 0 nj a) 12 0 nj b 12 0 j := by unfold ja_m ja_2; rw [u_3_k (by decide)]
    rw [pl_k (by decide), pl_k (by decide), x66, x67, y11, y12]
    by_cases e : j = nj
    · subst e
      rw [u_3_eq, u_3_eq, u_3_eq, u_3_eq]
      exact ⟨rfl, rfl, ha.1, ha.2, hb.1, hb.2⟩
    · have g1 : u_3 X 66 0 nj a 66 0 j = X 66 0 j := u_3_ne _ _ (by omega)
      have g2 : u_3 (u_3 X 66 0 nj a) 67 0 nj b 67 0 j = X 67 0 j := (u_3_ne _ _ (by omega)).trans (u_3_k (by decide))
      have g3 : u_3 Y 11 0 nj a 11 0 j = Y 11 0 j := u_3_ne _ _ (by omega)
      have g4 : u_3 (u_3 Y 11 0 nj a) 12 0 nj b 12 0 j = Y 12 0 j := (u_3_ne _ _ (by omega)).trans (u_3_k (by decide))
      rw [g1, g2, g3, g4]
      exact h10.1 j (by omega)
theorem P_clr (h : Rl X T Y S R sh np nr nj nn) : Rl (u_3 X 7 0 35 0) T (pl_m (u_3 Y 2 0 4 (nI 0)) 0) S R sh np nr 0 nn := by
  have h0 := h
  obtain ⟨h1, h2, h3, h4, h5, h6, h7, h8, h9, h10⟩ := h
  have hx : ∀ {k i j}, k ≠ 7 → (u_3 X 7 0 35 0) k i j = X k i j := by
    intro k i j q
    rw [u_3_k (by omega)]
  have hy : ∀ {k i j}, k ≠ 2 ∧ k ≠ 13 ∧ k ≠ 14 → (pl_m (u_3 Y 2 0 4 (nI 0)) 0) k i j = Y k i j := by
    intro k i j q
    rw [pl_k (by omega)]; rw [u_3_k (by omega)]
  refine ⟨?_, h2, fun p' hp' => rl_p_c (h3 p' hp') (fun k a b => hx (by omega)) rfl (fun b => hy (by omega)) rfl rfl (Nat.le_refl _), rl_q_c h4 (fun k j a b => hx (by omega)) (fun _ _ => hy (by omega)), fun f' hf' => rl_f_c (h5 f' hf') (fun k a => hx (by omega)) (fun k l a b _ => hx (by omega)) (fun _ _ => hy (by omega)) (fun _ _ _ _ => hy (by omega)) (Nat.le_refl _), fun f' hf' => rl_c_c (h6 f' hf') (fun k a b => hx (by omega)) (fun r _ => hx (by omega)) (fun r _ _ _ e => (hx (by omega)).trans e) (fun _ _ => hy (by omega)) (fun _ _ _ _ => hy (by omega)) rfl (Nat.le_refl _), fun f' hf' i hi => rl_i_c (h7 f' hf' i hi) (fun k a b => hx (by omega)) (fun _ _ => hy (by omega)) rfl (Nat.le_refl _), fun r hr' => rl_r_c (h8 r hr') (fun k a b => hx (by omega)) (fun _ => hy (by omega)), rl_z_c h9 (fun k r a b _ => hx (by omega)) (Nat.le_refl _), ?_⟩
  · refine ⟨⟨?_, ?_, h1.1.2.2⟩, ⟨?_, ?_, h1.2.1.2.2⟩, ?_, ?_, by omega⟩
    · rw [u_3_ne _ _ (by omega)]; exact h1.1.1
    · rw [hy (by omega)]; exact h1.1.2.1
    · rw [u_3_ne _ _ (by omega)]; exact h1.2.1.1
    · rw [hy (by omega)]; exact h1.2.1.2.1
    · rw [u_3_eq]; rfl
    · rw [pl_k (by decide), u_3_eq]
  · exact ⟨fun j hj => absurd hj (Nat.not_lt_zero _), u_3 Y 2 0 4 (nI 0), fun j hj => absurd hj (Nat.not_lt_zero _), rfl, fun i hi => absurd hi (Nat.not_lt_zero _)⟩
theorem P_wg (h : Rl X T Y S R sh np nr nj nn) (m c : Nat) : Rl (wg_ X m c) T Y S R sh np nr nj nn := by
  have h0 := h
  obtain ⟨h1, h2, h3, h4, h5, h6, h7, h8, h9, h10⟩ := h
  have hx : ∀ {k i j}, k ≠ 68 → (wg_ X m c) k i j = X k i j := by
    intro k i j q
    exact wg_k q c
  refine ⟨rl_n_c h1 (fun j => hx (by omega)) (fun j => rfl) (fun j => rfl), h2, fun p' hp' => rl_p_c (h3 p' hp') (fun k a b => hx (by omega)) rfl (fun b => rfl) rfl rfl (Nat.le_refl _), rl_q_c h4 (fun k j a b => hx (by omega)) (fun _ _ => rfl), fun f' hf' => rl_f_c (h5 f' hf') (fun k a => hx (by omega)) (fun k l a b _ => hx (by omega)) (fun _ _ => rfl) (fun _ _ _ _ => rfl) (Nat.le_refl _), fun f' hf' => rl_c_c (h6 f' hf') (fun k a b => hx (by omega)) (fun r _ => hx (by omega)) (fun r _ _ _ e => (hx (by omega)).trans e) (fun _ _ => rfl) (fun _ _ _ _ => rfl) rfl (Nat.le_refl _), fun f' hf' i hi => rl_i_c (h7 f' hf' i hi) (fun k a b => hx (by omega)) (fun _ _ => rfl) rfl (Nat.le_refl _), fun r hr' => rl_r_c (h8 r hr') (fun k a b => hx (by omega)) (fun _ => rfl), rl_z_c h9 (fun k r a b _ => hx (by omega)) (Nat.le_refl _), rl_j_c h10 (fun k j a => hx (by omega)) (fun _ _ _ _ => rfl)⟩
theorem A_jt (h : Rl X T Y S R sh np nr nj nn) : ∃ Z, jt_ X Z nj ∧ Y 13 0 0 = pl_m Z nj 13 0 0 ∧ ∀ i, i < nj → Y 14 0 i = pl_m Z nj 14 0 i := by
  obtain ⟨hj, Z, z1, z2, z3⟩ := h.2.2.2.2.2.2.2.2.2
  refine ⟨Z, fun j hj' => ?_, z2, z3⟩
  obtain ⟨a1, a2, a3⟩ := hj j hj'
  obtain ⟨b1, b2⟩ := z1 j hj'
  rw [b1, b2]
  exact ⟨a1, a2, a3⟩
theorem A_late (h : Rl X T Y S R sh np nr nj nn) : wg_ X nj (2 ^ nj) 68 0 0 = Y 13 0 0 := by
  obtain ⟨Z, hT, z2, -⟩ := A_jt h
  have h1 := q_pow1 nj
  rw [z2, (jb_full hT h.1.2.2.2.2 (d := 0) (by omega)).1]
  exact (pb_k (by decide) nj).symm
theorem pb_14 {V : MI_} {m i : Nat} : ∀ c, i < c → (pb_ V m c).1 14 0 i = nI (nx_ V m (pb_ V m i).2 m).1
  | 0, h => by omega
  | c + 1, h => by
    rw [pb_]
    by_cases e : i = c
    · subst e
      show u_3 (pb_ V m i).1 14 0 i _ 14 0 i = _
      rw [u_3_eq, nx_c (fun j => pb_k (by decide) i) (fun j => pb_k (by decide) i) (fun j => pb_k (by decide) i)]
    · show u_3 (pb_ V m c).1 14 0 c _ 14 0 i = _
      rw [u_3_ne _ _ (by omega)]
      exact pb_14 c (by omega)
theorem pb_2 {V : MI_} {m n : Nat} : (pb_ V m (n + 1)).2 = (pb_ V m n).2 ||| 2 ^ (nx_ V m (pb_ V m n).2 m).1 := by
  rw [pb_]
  show (pb_ V m n).2 ||| 2 ^ (nx_ (pb_ V m n).1 m (pb_ V m n).2 m).1 = _
  rw [nx_c (fun j => pb_k (by decide) n) (fun j => pb_k (by decide) n) (fun j => pb_k (by decide) n)]
theorem pb_n {X Z : MI_} {m : Nat} (hT : jt_ X Z m) (h7 : m ≤ 7) : ∀ n, n ≤ m → (pb_ (pw_ Z m (2 ^ m - 1)) m n).2 < 2 ^ m ∧ jb_c (pb_ (pw_ Z m (2 ^ m - 1)) m n).2 = n
  | 0, _ => ⟨q_pow1 m, by show jb_c 0 = 0; rfl⟩
  | n + 1, hn => by
    obtain ⟨i1, i2⟩ := pb_n hT h7 n (by omega)
    have hp := q_pow h7
    have hlt := jb_cl m (by omega) _ i1 (by omega)
    obtain ⟨n1, n2, -⟩ := jb_next hT h7 hlt
    rw [pb_2]
    generalize (pb_ (pw_ Z m (2 ^ m - 1)) m n).2 = d at *
    generalize (nx_ (pw_ Z m (2 ^ m - 1)) m d m).1 = k at *
    rw [jb_or d (by omega) k (by omega) n2]
    exact ⟨jb_lt m (by omega) d i1 k n1 n2, by rw [jb_cs d (by omega) k (by omega) n2, i2]⟩
theorem A_ord (h : Rl X T Y S R sh np nr nj nn) {i : Nat} (hi : i < nj) : ∃ dn fd : Nat → Nat, dn 0 = 0 ∧ (∀ n, n ≤ i → dn (n + 1) = dn n ||| 2 ^ fd n) ∧ (∀ n, n ≤ i → fd n < 7 ∧ dn n < 128 ∧ dn n / 2 ^ fd n % 2 = 0 ∧ lb_ (wg_ X nj (2 ^ nj)) nj (dn n) (fd n) + wg_ X nj (2 ^ nj) 68 0 (dn n ||| 2 ^ fd n) = wg_ X nj (2 ^ nj) 68 0 (dn n) ∧ ∀ k, k < fd n → dn n / 2 ^ k % 2 = 1 ∨ ¬ lb_ (wg_ X nj (2 ^ nj)) nj (dn n) k + wg_ X nj (2 ^ nj) 68 0 (dn n ||| 2 ^ k) = wg_ X nj (2 ^ nj) 68 0 (dn n)) ∧ nI (fd i) = Y 14 0 i := by
  obtain ⟨Z, hT, -, z3⟩ := A_jt h
  have h7 := h.1.2.2.2.2
  have hp := q_pow h7
  refine ⟨fun n => (pb_ (pw_ Z nj (2 ^ nj - 1)) nj n).2, fun n => (nx_ (pw_ Z nj (2 ^ nj - 1)) nj (pb_ (pw_ Z nj (2 ^ nj - 1)) nj n).2 nj).1, rfl, fun n hn => pb_2, fun n hn => ?_, ?_⟩
  · obtain ⟨i1, i2⟩ := pb_n hT h7 n (by omega)
    have hlt := jb_cl nj (by omega) _ i1 (by omega)
    obtain ⟨n1, n2, n3, n4⟩ := jb_next hT h7 hlt
    exact ⟨by show (nx_ (pw_ Z nj (2 ^ nj - 1)) nj (pb_ (pw_ Z nj (2 ^ nj - 1)) nj n).2 nj).1 < 7; omega, by show (pb_ (pw_ Z nj (2 ^ nj - 1)) nj n).2 < 128; omega, n2, n3, n4⟩
  · rw [z3 i hi]
    exact (pb_14 nj hi).symm
end RlE
