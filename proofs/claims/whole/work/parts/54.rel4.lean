/-! steps and answers -/
section RlD
variable {X : MI_} {Y : MI_} {T S : ML_} {R : MR_} {sh : SH_} {np nr nj : Nat} {nn : Nat → Nat}
theorem rl_p_t {T' S' : ML_} {p : Nat} (h : rl_p X T Y S R nr nn p) (e : T' 37 0 p = S' 4 p 7) : rl_p X T' Y S' R nr nn p := by
  obtain ⟨a1, a2, a3, a4, a5, a6, a7, a8⟩ := h
  exact ⟨a1, a2, a3, a4, a5, a6, e, a8⟩
theorem P_st (h : Rl X T Y S R sh np nr nj nn) {p : Nat} (hp : p < np) (g : Int32) : Rl (st_m X p (nn p) g) (st_l X T p (nn p) g) (sb_m Y p (nn p) g) (sb_l Y S p g) R sh np nr nj nn := by
  obtain ⟨h1, h2, h3, h4, h5, h6, h7, h8, h9, h10⟩ := h
  have hn := (hs_P h2.1 p hp).2
  have hx : ∀ {k i j}, k ≠ 40 ∧ k ≠ 41 ∧ k ≠ 42 ∧ k ≠ 43 → st_m X p (nn p) g k i j = X k i j := fun q => st_m_k q
  have hy : ∀ {k a b}, k ≠ 6 → sb_m Y p (nn p) g k a b = Y k a b := fun q => sb_k q
  obtain ⟨p1, p2, p3, p4, p5, p6, p7, p8, p9, p10, p11, p12, p13⟩ := h3 p hp
  refine ⟨rl_n_c h1 (fun j => hx (by decide)) (fun j => hy (by decide)) (fun j => hy (by decide)), h2, fun p' hp' => ?_, fun p' hp' i hi => ?_, fun f hf => rl_f_c (h5 f hf) (fun k a => hx (by omega)) (fun k l a b _ => hx (by omega)) (fun _ _ => hy (by decide)) (fun _ _ _ _ => hy (by omega)) (Nat.le_refl _), fun f hf => rl_c_c (h6 f hf) (fun k a b => hx (by omega)) (fun r _ => hx (by decide)) (fun r _ _ _ e => (hx (by decide)).trans e) (fun _ _ => hy (by decide)) (fun _ _ _ _ => hy (by omega)) rfl (Nat.le_refl _), fun f hf i hi => rl_i_c (h7 f hf i hi) (fun k a b => hx (by omega)) (fun _ _ => hy (by omega)) rfl (Nat.le_refl _), fun r hr => rl_r_c (h8 r hr) (fun k a b => hx (by omega)) (fun _ => hy (by decide)), rl_z_c h9 (fun k r a b _ => hx (by omega)) (Nat.le_refl _), rl_j_c h10 (fun k j a => hx (by omega)) (fun _ _ _ _ => hy (by omega))⟩
  · refine rl_p_t (T := T) (S := S) (rl_p_c (h3 p' hp') (fun k a b => hx (by omega)) rfl (fun b => hy (by decide)) rfl rfl (Nat.le_refl _)) ?_
    unfold st_l sb_l
    by_cases e : p' = p
    · subst e
      rw [u_3_eq, u_3_eq, p7, fl_fo (Y := Y) (by have := (h4 p' hp 0 (by omega)).1.1; rw [Nat.add_zero] at this; exact this) p4]
    · rw [u_3_ne _ _ (by omega), u_3_ne _ _ (by omega)]
      exact (h3 p' hp').2.2.2.2.2.2.1
  · have hn' := (hs_P h2.1 p' hp').2
    by_cases e : p' = p
    · subst e
      exact st_rel hn.1 p3 p4 p5 p6 p12 p13 (h4 p' hp) i hi
    · exact st_out (by omega) (h4 p' hp' i hi)
theorem P_sn (h : Rl X T Y S R sh np nr nj nn) {p : Nat} (hp : p < np) (g : Int32) : ∀ z, Rl (sn_ X T p (nn p) g z).1 (sn_ X T p (nn p) g z).2 (sn_c Y S p (nn p) g z).1 (sn_c Y S p (nn p) g z).2 R sh np nr nj nn
  | 0 => h
  | z + 1 => P_st (P_sn h hp g z) hp g
theorem A_kept (h : Rl X T Y S R sh np nr nj nn) {p : Nat} (hp : p < np) : ∀ i, i ≤ nn p → kp_ X T p i = wa_l Y S p i
  | 0, _ => by
    show 0 - T 37 0 p = -S 4 p 7
    rw [(h.2.2.1 p hp).2.2.2.2.2.2.1]
    simp
  | i + 1, hi => by
    rw [kp_, wa_l, A_kept h hp i (by omega), (h.2.2.2.1 p hp i (by omega)).1.1]
theorem A_mass (h : Rl X T Y S R sh np nr nj nn) {f : Nat} (hf : f < 3) : ∀ i, i ≤ 4 → ma_ X f i = im_ Y (pl_c R f) i
  | 0, _ => rfl
  | i + 1, hi => by
    rw [ma_, im_, A_mass h hf i (by omega)]
    obtain ⟨a, b, -⟩ := h.2.2.2.2.2.2.1 f hf i (by omega)
    rw [b]
    have e9 : pl_c R f i = (R 15 f i).map (fun q => q.2) := rfl
    rw [e9]
    have h12 := h.1.1.2.2
    cases hr : R 15 f i with
    | none => rw [if_pos (show oI none = -1 from rfl)]; exact Int32.add_zero _
    | some q =>
      have e := (a q hr).2
      show im_ Y (pl_c R f) i + (if nI q.2 = -1 then 0 else X 32 0 (nI q.2).toNatClampNeg) = im_ Y (pl_c R f) i + Y 4 q.2 1
      rw [if_neg (nI_m1 (by omega)), nI_clamp (by omega), (h.2.2.1 q.2 e).2.1]
theorem A_load (h : Rl X T Y S R sh np nr nj nn) {f : Nat} (hf : f < 3) : ∀ i, i ≤ 4 → lo_ X f i = nI (ip_ (pl_c R f) i)
  | 0, _ => rfl
  | i + 1, hi => by
    rw [lo_, ip_, A_load h hf i (by omega)]
    obtain ⟨a, b, -⟩ := h.2.2.2.2.2.2.1 f hf i (by omega)
    rw [b]
    have e9 : pl_c R f i = (R 15 f i).map (fun q => q.2) := rfl
    rw [e9]
    have h12 := h.1.1.2.2
    cases hr : R 15 f i with
    | none => rw [if_pos (show oI none = -1 from rfl)]; exact Int32.add_zero _
    | some q =>
      have e := (a q hr).2
      show nI (ip_ (pl_c R f) i) + (if nI q.2 = -1 then 0 else 1) = nI (ip_ (pl_c R f) i + 1)
      rw [if_neg (nI_m1 (by omega)), ← nI_add]
      rfl
theorem A_about (h : Rl X T Y S R sh np nr nj nn) {f : Nat} (hf : f < 3) {w : Nat} (hw : w ≤ 6) : ab_ X f w = ft_t Y f (pl_c R f) (cu_c R f) w := by
  have hi := Rl_ir h hf
  obtain ⟨a1, a2, a3, -⟩ := h.2.2.2.2.1 f hf
  unfold ab_ ft_t
  rw [a1, a2, a3, A_mass h hf 4 (by omega)]
  unfold cu_c at *
  rcases h.2.2.2.2.2.1 f hf with ⟨e, e2, e3⟩ | ⟨r, al, nl, e, hr, e2, b4, b5, b6, b7, b8, b9, b10, b11, b12, b13⟩
  · rw [e, e2, e3]
    rcases (show w = 0 ∨ w = 1 ∨ w = 2 ∨ w = 3 ∨ w = 4 ∨ w = 5 ∨ w = 6 by omega) with rfl | rfl | rfl | rfl | rfl | rfl | rfl <;> rfl
  · rw [e, e2, b10, b11, b12]
    rcases (show w = 0 ∨ w = 1 ∨ w = 2 ∨ w = 3 ∨ w = 4 ∨ w = 5 ∨ w = 6 by omega) with rfl | rfl | rfl | rfl | rfl | rfl | rfl <;> rfl
theorem A_well (h : Rl X T Y S R sh np nr nj nn) {r : Nat} (hr : r < nr) : we_ X r = wc_ Y r := by
  obtain ⟨a1, a2, a3, a4, a5, a6, -⟩ := h.2.2.2.2.2.2.2.1 r hr
  unfold we_ wc_
  rw [a3, a4]
theorem A_runAt (h : Rl X T Y S R sh np nr nj nn) {r : Nat} (hr : r < nr) {w : Nat} (hw : w ≤ 4) : ra_ X r w = rt_ Y r w := by
  have hh := A_well h hr
  obtain ⟨a1, a2, a3, a4, a5, a6, -⟩ := h.2.2.2.2.2.2.2.1 r hr
  unfold ra_ rt_
  rw [hh, a1, a2, a5, a6]
  rcases (show w = 0 ∨ w = 1 ∨ w = 2 ∨ w = 3 ∨ w = 4 by omega) with rfl | rfl | rfl | rfl | rfl <;> rfl
theorem A_paper (h : Rl X T Y S R sh np nr nj nn) {p r : Nat} (hp : p < np) (hr : r < nr) {a b : Int32} : pp_ X p r a b = pp_c Y p r a b := by
  have hh := A_well h hr
  have h0 := (h.2.2.2.1 p hp 0 (hs_P h.2.1.1 p hp).2.1).1
  rw [Nat.add_zero] at h0
  obtain ⟨a1, a2, a3, a4, a5, a6, -⟩ := h.2.2.2.2.2.2.2.1 r hr
  unfold pp_ pp_c
  rw [hh, a5, ha_hn h0, h0.1]
theorem A_run (h : Rl X T Y S R sh np nr nj nn) : ∀ f, f ≤ 3 → rg_ X f = fr_ (cu_c R) f
  | 0, _ => rfl
  | f + 1, hf => by
    rw [rg_, fr_, A_run h f (by omega), Rl_ir h (f := f) (by omega)]
    by_cases q : ir_ (cu_c R f) = 0
    · rw [if_pos q, if_pos q]; simp
    · rw [if_neg q, if_neg q]
theorem A_doubt (h : Rl X T Y S R sh np nr nj nn) : ∀ r, r ≤ nr → cd_ X r = rd_ Y r
  | 0, _ => rfl
  | r + 1, hr => by
    obtain ⟨a1, a2, a3, a4, a5, a6, -⟩ := h.2.2.2.2.2.2.2.1 r (by omega)
    rw [cd_, rd_, A_doubt h r (by omega), a5]
    by_cases q : Y 5 r 1 = 0
    · rw [if_pos q, if_pos q]; simp
    · rw [if_neg q, if_neg q]
theorem A_count (h : Rl X T Y S R sh np nr nj nn) {w : Nat} (hw : w ≤ 4) : co_ X nr w = cn_ Y (cu_c R) nr w := by
  unfold co_ cn_
  rw [h.1.1.1, h.1.1.2.1, h.1.2.1.1, h.1.2.1.2.1, h.1.2.2.1, h.1.2.2.2.1, A_run h 3 (by omega), A_doubt h nr (by omega)]
theorem A_dc (h : Rl X T Y S R sh np nr nj nn) : ∀ k, k ≤ 5 → dg_c X nr k = cg_c Y (cu_c R) nr k
  | 0, _ => rfl
  | k + 1, hk => by rw [dg_c, cg_c, A_dc h k (by omega), A_count h (by omega)]
theorem A_ds (X Y : MI_) (s : Nat) (h : rl_s X Y s) (v : Int64) : ∀ k, k ≤ 7 → dg_s X s v k = dp_s Y s v k
  | 0, _ => rfl
  | k + 1, hk => by rw [dg_s, dp_s, A_ds X Y s h v k (by omega), sv_te h (by omega)]
theorem A_di (h : Rl X T Y S R sh np nr nj nn) {p : Nat} (hp : p < np) (v : Int64) : ∀ i, i ≤ nn p → dg_i X p v i = dp_i Y p v i
  | 0, _ => rfl
  | i + 1, hi => by rw [dg_i, dp_i, A_di h hp v i (by omega), A_ds X Y _ (h.2.2.2.1 p hp i (by omega)).1 _ 7 (by omega)]
theorem A_dp (h : Rl X T Y S R sh np nr nj nn) (v : Int64) : ∀ p, p ≤ np → dg_p X T v p = cg_p Y S nn v p
  | 0, _ => rfl
  | p + 1, hp => by
    have hq := h.2.2.1 p (by omega)
    have hn := (hs_P h.2.1.1 p (by omega)).2
    rw [dg_p, cg_p, A_dp h v p (by omega), hq.2.2.2.2.2.2.1, hq.1, nI_clamp (by omega), A_di h (by omega) _ _ (Nat.le_refl _)]
theorem A_da (h : Rl X T Y S R sh np nr nj nn) {f : Nat} (hf : f < 3) (v : Int64) : ∀ k, k ≤ 7 → dg_a X f v k = df_q Y f (pl_c R f) (cu_c R f) v k
  | 0, _ => rfl
  | k + 1, hk => by rw [dg_a, df_q, A_da h hf v k (by omega), A_about h hf (by omega)]
theorem A_df (h : Rl X T Y S R sh np nr nj nn) (v : Int64) : ∀ f, f ≤ 3 → dg_f X v f = cg_f Y (pl_c R) (cu_c R) v f
  | 0, _ => rfl
  | f + 1, hf => by rw [dg_f, cg_f, A_df h v f (by omega), A_da h (by omega) _ 7 (by omega)]
theorem A_dq (h : Rl X T Y S R sh np nr nj nn) {r : Nat} (hr : r < nr) (v : Int64) : ∀ k, k ≤ 5 → dg_q X r v k = dr_q Y r v k
  | 0, _ => rfl
  | k + 1, hk => by rw [dg_q, dr_q, A_dq h hr v k (by omega), A_runAt h hr (by omega)]
theorem A_dr (h : Rl X T Y S R sh np nr nj nn) (v : Int64) : ∀ r, r ≤ nr → dg_r X v r = cg_r Y v r
  | 0, _ => rfl
  | r + 1, hr => by rw [dg_r, cg_r, A_dr h v r (by omega), A_dq h (by omega) _ 5 (by omega)]
theorem A_digest (h : Rl X T Y S R sh np nr nj nn) : dg_ X T np nr = cg_ Y S nn (pl_c R) (cu_c R) np nr := by
  unfold dg_ cg_
  rw [A_dc h 5 (by omega), A_dp h _ np (by omega), A_df h _ 3 (by omega), A_dr h _ nr (by omega)]
end RlD
