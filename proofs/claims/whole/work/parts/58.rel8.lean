/-! a tick: class and reference alike -/
theorem nIe0 {o : Nat} (h : o < 1000) : nI o = 0 ↔ o = 0 := nI_eq (a := o) (b := 0) (by omega) (by omega)
theorem nIe1 {o : Nat} (h : o < 1000) : nI o = 1 ↔ o = 1 := nI_eq (a := o) (b := 1) (by omega) (by omega)
theorem nIl0 {o : Nat} (h : o < 1000) : nI o ≤ 0 ↔ o ≤ 0 := nI_leI (a := o) (b := 0) (by omega) (by omega)
theorem nIl1 {o : Nat} (h : o < 1000) : nI o ≤ 1 ↔ o ≤ 1 := nI_leI (a := o) (b := 1) (by omega) (by omega)
theorem nI3l {o : Nat} (h : o < 1000) : 3 ≤ nI o ↔ 3 ≤ o := nI_leI (a := 3) (b := o) (by omega) (by omega)
section RlT
variable {X X' Y Y' : MI_} {T S : ML_} {R : MR_} {sh : SH_} {np nr nj : Nat} {nn : Nat → Nat}
def rl_d (r0 : Nat) (X Y : MI_) (r : Nat) : Prop := X 59 0 r = Y 5 r 0 ∧ X 60 0 r = Y 5 r 4 ∧ X 61 0 r = Y 5 r 5 ∧ X 62 0 r = Y 5 r 2 ∧ X 63 0 r = Y 5 r 1 ∧ X 64 0 r + (if r = r0 then 1 else 0) = Y 5 r 3 ∧ (X 62 0 r = 0 ∨ X 62 0 r = 1)
theorem rl_d_c {r0 r : Nat} (h : rl_d r0 X Y r) (hX : ∀ k, 59 ≤ k → k ≤ 64 → X' k 0 r = X k 0 r) (hY : ∀ b, Y' 5 r b = Y 5 r b) : rl_d r0 X' Y' r := by
  unfold rl_d
  rw [hX 59 (by decide) (by decide), hX 60 (by decide) (by decide), hX 61 (by decide) (by decide), hX 62 (by decide) (by decide), hX 63 (by decide) (by decide), hX 64 (by decide) (by decide)]
  simp only [hY]
  exact h
/-- the reference counts its tick behind the steps: the relation in between -/
def Rm (r0 : Nat) (X : MI_) (T : ML_) (Y : MI_) (S : ML_) (R : MR_) (sh : SH_) (np nr nj : Nat) (nn : Nat → Nat) : Prop :=
  rl_n X Y np nr nj ∧ (hs_ R sh np nr nn ∧ mo_ R sh ∧ rl_e sh np nr) ∧ (∀ p, p < np → rl_p X T Y S R nr nn p) ∧ rl_q X Y np nn ∧ (∀ f, f < 3 → rl_f X Y nr f) ∧ (∀ f, f < 3 → rl_c X Y R nr f) ∧ (∀ f, f < 3 → ∀ i, i < 4 → rl_i X Y R np f i) ∧ (∀ r, r < nr → rl_d r0 X Y r) ∧ rl_z X nr ∧ rl_j X Y nj
theorem M_st {r0 : Nat} (h : Rm r0 X T Y S R sh np nr nj nn) {p : Nat} (hp : p < np) (g : Int32) : Rm r0 (st_m X p (nn p) g) (st_l X T p (nn p) g) (sb_m Y p (nn p) g) (sb_l Y S p g) R sh np nr nj nn := by
  obtain ⟨h1, h2, h3, h4, h5, h6, h7, h8, h9, h10⟩ := h
  have hn := (hs_P h2.1 p hp).2
  have hx : ∀ {k i j}, k ≠ 40 ∧ k ≠ 41 ∧ k ≠ 42 ∧ k ≠ 43 → st_m X p (nn p) g k i j = X k i j := fun q => st_m_k q
  have hy : ∀ {k a b}, k ≠ 6 → sb_m Y p (nn p) g k a b = Y k a b := fun q => sb_k q
  obtain ⟨p1, p2, p3, p4, p5, p6, p7, p8, p9, p10, p11, p12, p13⟩ := h3 p hp
  refine ⟨rl_n_c h1 (fun j => hx (by decide)) (fun j => hy (by decide)) (fun j => hy (by decide)), h2, fun p' hp' => ?_, fun p' hp' i hi => ?_, fun f hf => rl_f_c (h5 f hf) (fun k a => hx (by omega)) (fun k l a b _ => hx (by omega)) (fun _ _ => hy (by decide)) (fun _ _ _ _ => hy (by omega)) (Nat.le_refl _), fun f hf => rl_c_c (h6 f hf) (fun k a b => hx (by omega)) (fun r _ => hx (by decide)) (fun r _ _ _ e => (hx (by decide)).trans e) (fun _ _ => hy (by decide)) (fun _ _ _ _ => hy (by omega)) rfl (Nat.le_refl _), fun f hf i hi => rl_i_c (h7 f hf i hi) (fun k a b => hx (by omega)) (fun _ _ => hy (by omega)) rfl (Nat.le_refl _), fun r hr => rl_d_c (h8 r hr) (fun k a b => hx (by omega)) (fun _ => hy (by decide)), rl_z_c h9 (fun k r a b _ => hx (by omega)) (Nat.le_refl _), rl_j_c h10 (fun k j a => hx (by omega)) (fun _ _ _ _ => hy (by omega))⟩
  · refine rl_p_t (T := T) (S := S) (rl_p_c (h3 p' hp') (fun k a b => hx (by omega)) rfl (fun b => hy (by decide)) rfl rfl (Nat.le_refl _)) ?_
    unfold st_l sb_l
    by_cases e : p' = p
    · subst e
      rw [u_3_eq, u_3_eq, p7, fl_fo (Y := Y) (by have := (h4 p' hp 0 (by omega)).1.1; rw [Nat.add_zero] at this; exact this) p4]
    · rw [u_3_ne _ _ (by omega), u_3_ne _ _ (by omega)]
      exact (h3 p' hp').2.2.2.2.2.2.1
  · have hn' := (hs_P h2.1 p' hp').2
    by_cases e : p' = p
    · subst e
      exact st_rel hn.1 p3 p4 p5 p6 p12 p13 (h4 p' hp) i hi
    · exact st_out (by omega) (h4 p' hp' i hi)
theorem M_tp {r0 : Nat} (h : Rm r0 X T Y S R sh np nr nj nn) {f : Nat} (hf : f < 3) : ∀ i, i ≤ 4 → Rm r0 (tk_p X T f i).1 (tk_p X T f i).2 (ds_ Y S f (pl_c R f) nn i).1 (ds_ Y S f (pl_c R f) nn i).2 R sh np nr nj nn
  | 0, _ => h
  | i + 1, hi => by
    have ih := M_tp h hf i (by omega)
    obtain ⟨a, b, -⟩ := ih.2.2.2.2.2.2.1 f hf i (by omega)
    obtain ⟨c1, c2, -⟩ := ih.2.2.2.2.1 f hf
    rw [tk_p, ds_, b]
    have e9 : pl_c R f i = (R 15 f i).map (fun q => q.2) := rfl
    rw [e9]
    have h12 := h.1.1.2.2
    cases hr : R 15 f i with
    | none => rw [if_pos (show oI none = -1 from rfl)]; exact ih
    | some q =>
      have e := (a q hr).2
      have hn := (hs_P h.2.1.1 q.2 e).2
      have eo : oI (some q) = nI q.2 := rfl
      rw [eo, if_neg (nI_m1 (by omega)), nI_clamp (by omega), (ih.2.2.1 q.2 e).1, nI_clamp (by omega), c1, c2]
      exact M_st ih e _
theorem tk_g_o {f t j : Nat} (h : j ≠ f) : tk_g X f t 44 0 j = X 44 0 j := by
  unfold tk_g
  split
  · exact u_3_ne _ _ (by omega)
  · split
    · rfl
    · exact u_3_ne _ _ (by omega)
theorem tk_gas {f t r al o : Nat} {v : Int32} (e44 : X 44 0 f = Y 3 f 10) (e47 : X 47 0 t = Y 18 f al) (e48 : X 48 0 t = Y 19 f al) (e49 : X 49 0 t = Y 20 f al) (ho : Y 18 f al = nI o) (ho3 : o ≤ 3) : tk_g X f t 44 0 f = gb_ (u_3 Y 5 r 3 v) f al o := by
  unfold tk_g gb_ gn_
  rw [e44, e47, e48, e49, ho, u_3_k (by decide), u_3_k (by decide), u_3_k (by decide)]
  by_cases o0 : o = 0
  · subst o0
    rw [if_pos (show nI 0 = 0 from rfl), if_pos rfl, u_3_eq]
    by_cases c1 : Y 19 f al ≤ Y 3 f 10
    · rw [if_pos c1, if_pos c1]
      by_cases c2 : Y 3 f 10 - Y 20 f al ≤ Y 19 f al
      · rw [if_pos c2, if_neg (i32_nlt.mpr c2)]
      · rw [if_neg c2, if_pos (i32_nle.mp c2)]
    · rw [if_neg c1, if_neg c1]
      by_cases c2 : Y 19 f al ≤ Y 3 f 10 + Y 20 f al
      · rw [if_pos c2, if_neg (i32_nlt.mpr c2)]
      · rw [if_neg c2, if_pos (i32_nle.mp c2)]
  · rw [if_neg (mt (nIe0 (by omega)).mp o0), if_neg o0]
    by_cases o3 : o = 3
    · subst o3
      rw [if_pos (show (3 : Int32) ≤ nI 3 by decide), if_pos rfl]
      exact e44
    · rw [if_neg (mt (nI3l (by omega)).mp (by omega)), if_neg o3, u_3_eq]
theorem M_g (h : Rl X T Y S R sh np nr nj nn) {f : Nat} (hf : f < 3) {r al nl o : Nat} (hr : r < nr) (hnl : Y 3 f 6 = nI nl) (hal : al < nl) (hnl8 : nl ≤ 8) (ho : Y 18 f al = nI o) (ho3 : o ≤ 3) : Rm r (tk_g X f (8 * f + al)) T (dt_1 Y f r al o) S R sh np nr nj nn := by
  obtain ⟨h1, h2, h3, h4, h5, h6, h7, h8, h9, h10⟩ := h
  have hx : ∀ {k i j}, k ≠ 44 → tk_g X f (8 * f + al) k i j = X k i j := fun q => tk_g_k q
  have hy : ∀ {k a b}, k ≠ 3 ∧ k ≠ 5 → dt_1 Y f r al o k a b = Y k a b := fun q => dt_1k (by omega) (by omega)
  refine ⟨rl_n_c h1 (fun j => hx (by omega)) (fun j => hy (by omega)) (fun j => hy (by omega)), h2, fun p' hp' => rl_p_c (h3 p' hp') (fun k a b => hx (by omega)) rfl (fun b => hy (by omega)) rfl rfl (Nat.le_refl _), rl_q_c h4 (fun k j a b => hx (by omega)) (fun _ _ => hy (by omega)), fun f' hf' => ?_, fun f' hf' => rl_c_c (h6 f' hf') (fun k a b => hx (by omega)) (fun r _ => hx (by omega)) (fun r _ _ _ e => (hx (by omega)).trans e) (fun b hb => dt_1k (by omega) (by omega)) (fun _ _ _ _ => hy (by omega)) rfl (Nat.le_refl _), fun f' hf' i hi => rl_i_c (h7 f' hf' i hi) (fun k a b => hx (by omega)) (fun _ _ => hy (by omega)) rfl (Nat.le_refl _), fun r' hr' => ?_, rl_z_c h9 (fun k r a b _ => hx (by omega)) (Nat.le_refl _), rl_j_c h10 (fun k j a => hx (by omega)) (fun _ _ _ _ => hy (by omega))⟩
  · by_cases e : f' = f
    · subst e
      obtain ⟨a1, a2, a3, ⟨nl', b1, b2, b3⟩, a5, s, c1, c2⟩ := h5 f' hf'
      have hnl' : nl' = nl := (nI_eq (by omega) (by omega)).mp (b2.symm.trans hnl)
      subst hnl'
      obtain ⟨l1, l2, l3, -⟩ := b3 al hal
      refine ⟨?_, ?_, ?_, ⟨nl', b1, ?_, fun l hl => rl_l_c (b3 l hl) (fun k _ _ => hx (by omega)) (fun k _ _ => hy (by omega))⟩, ?_, s, c1, ?_⟩
      · rw [tk_gas (r := r) (v := Y 5 r 3 + 1) a1 l1 l2 l3 ho ho3]
        unfold dt_1
        rw [u_3_eq]
      · rw [hx (by omega), dt_1k (by omega) (by omega)]; exact a2
      · rw [hx (by omega), dt_1k (by omega) (by omega)]; exact a3
      · rw [dt_1k (by omega) (by omega)]; exact b2
      · rw [hx (by omega), dt_1k (by omega) (by omega)]; exact a5
      · rw [dt_1k (by omega) (by omega)]; exact c2
    · refine rl_f_c (h5 f' hf') (fun k a => ?_) (fun k l a b _ => hx (by omega)) (fun _ _ => dt_1k (by omega) (by omega)) (fun _ _ _ _ => hy (by omega)) (Nat.le_refl _)
      by_cases e4 : k = 44
      · subst e4; exact tk_g_o e
      · exact hx e4
  · obtain ⟨a1, a2, a3, a4, a5, a6, a7⟩ := h8 r' hr'
    refine ⟨?_, ?_, ?_, ?_, ?_, ?_, ?_⟩
    · rw [hx (by omega), dt_1k (by omega) (by omega)]; exact a1
    · rw [hx (by omega), dt_1k (by omega) (by omega)]; exact a2
    · rw [hx (by omega), dt_1k (by omega) (by omega)]; exact a3
    · rw [hx (by omega), dt_1k (by omega) (by omega)]; exact a4
    · rw [hx (by omega), dt_1k (by omega) (by omega)]; exact a5
    · rw [hx (by omega), a6]
      by_cases e : r' = r
      · subst e
        rw [if_pos rfl]
        unfold dt_1
        rw [u_3_k (by decide), u_3_eq]
      · rw [if_neg e, dt_1k (by omega) (by omega)]
        exact Int32.add_zero _
    · rw [hx (by omega)]; exact a7
theorem M_64 {r : Nat} (h : Rm r X T Y S R sh np nr nj nn) (hr : r < nr) : Rl (u_3 X 64 0 r (X 64 0 r + 1)) T Y S R sh np nr nj nn := by
  obtain ⟨h1, h2, h3, h4, h5, h6, h7, h8, h9, h10⟩ := h
  have hx : ∀ {k i j}, k ≠ 64 → u_3 X 64 0 r (X 64 0 r + 1) k i j = X k i j := fun q => u_3_k q
  refine ⟨rl_n_c h1 (fun j => hx (by omega)) (fun j => rfl) (fun j => rfl), h2, fun p' hp' => rl_p_c (h3 p' hp') (fun k a b => hx (by omega)) rfl (fun b => rfl) rfl rfl (Nat.le_refl _), rl_q_c h4 (fun k j a b => hx (by omega)) (fun _ _ => rfl), fun f' hf' => rl_f_c (h5 f' hf') (fun k a => hx (by omega)) (fun k l a b _ => hx (by omega)) (fun _ _ => rfl) (fun _ _ _ _ => rfl) (Nat.le_refl _), fun f' hf' => rl_c_c (h6 f' hf') (fun k a b => hx (by omega)) (fun r _ => hx (by omega)) (fun r _ _ _ e => (hx (by omega)).trans e) (fun b hb => rfl) (fun _ _ _ _ => rfl) rfl (Nat.le_refl _), fun f' hf' i hi => rl_i_c (h7 f' hf' i hi) (fun k a b => hx (by omega)) (fun _ _ => rfl) rfl (Nat.le_refl _), fun r' hr' => ?_, rl_z_c h9 (fun k r' a b c => u_3_ne _ _ (by omega)) (Nat.le_refl _), rl_j_c h10 (fun k j a => hx (by omega)) (fun _ _ _ _ => rfl)⟩
  obtain ⟨a1, a2, a3, a4, a5, a6, a7⟩ := h8 r' hr'
  refine ⟨?_, ?_, ?_, ?_, ?_, ?_, ?_⟩
  · rw [hx (by omega)]; exact a1
  · rw [hx (by omega)]; exact a2
  · rw [hx (by omega)]; exact a3
  · rw [hx (by omega)]; exact a4
  · rw [hx (by omega)]; exact a5
  · by_cases e : r' = r
    · subst e
      rw [if_pos rfl] at a6
      rw [u_3_eq]
      exact a6
    · rw [if_neg e] at a6
      rw [u_3_ne _ _ (by omega), ← a6]
      exact (Int32.add_zero _).symm
  · rw [hx (by omega)]; exact a7
/-- the run goes on, at the same line or at the next -/
theorem P_go (h : Rl X T Y S R sh np nr nj nn) {f : Nat} (hf : f < 3) {r nl al : Nat} (hR : R 3 f 12 = some (5, r)) (hnl : Y 3 f 6 = nI nl) (hal : al < nl) (hnl8 : nl ≤ 8)
    (hx : ∀ k i j, ¬ (k = 54 ∧ i = 0 ∧ j = f) → ¬ (k = 55 ∧ i = 0 ∧ j = f) → ¬ (k = 62 ∧ i = 0 ∧ j = r) → X' k i j = X k i j)
    (hy : ∀ k a b, ¬ (k = 3 ∧ a = f ∧ b = 7) → ¬ (k = 3 ∧ a = f ∧ b = 11) → ¬ (k = 5 ∧ a = r ∧ b = 2) → Y' k a b = Y k a b)
    (e54 : X' 54 0 f = nI al) (e7 : Y' 3 f 7 = nI al) (e55 : X' 55 0 f = Y' 3 f 11) (e62 : X' 62 0 r = Y' 5 r 2) (e01 : X' 62 0 r = 0 ∨ X' 62 0 r = 1) (c0 : 0 ≤ (Y' 3 f 11).toInt) (c1 : Y 18 f al = 0 → Y' 3 f 11 = 0) (c2 : ¬ Y 18 f al = 0 → (Y' 3 f 11).toInt < (Y 20 f al).toInt) : Rl X' T Y' S R sh np nr nj nn := by
  obtain ⟨h1, h2, h3, h4, h5, h6, h7, h8, h9, h10⟩ := h
  have gx : ∀ {k i j}, k ≠ 54 ∧ k ≠ 55 ∧ k ≠ 62 → X' k i j = X k i j := fun q => hx _ _ _ (by omega) (by omega) (by omega)
  have gy : ∀ {k i j}, k ≠ 3 ∧ k ≠ 5 → Y' k i j = Y k i j := fun q => hy _ _ _ (by omega) (by omega) (by omega)
  have hrr : r < nr ∧ X 61 0 r = 0 ∧ X 59 0 r = nI f ∧ X 53 0 f = 1 ∧ X 56 0 f = nI r ∧ nl ≤ 8 := by
    rcases h6 f hf with ⟨e1, -⟩ | ⟨r', al', nl', a1, a2, a3, a4, a5, a6, a7, a8, -⟩
    · rw [hR] at e1; cases e1
    · rw [hR] at a1; cases a1
      exact ⟨a2, a6, a5, a3, a4, hnl8⟩
  refine ⟨rl_n_c h1 (fun j => gx (by omega)) (fun j => gy (by omega)) (fun j => gy (by omega)), h2, fun p' hp' => rl_p_c (h3 p' hp') (fun k a b => gx (by omega)) rfl (fun b => gy (by omega)) rfl rfl (Nat.le_refl _), rl_q_c h4 (fun k j a b => gx (by omega)) (fun _ _ => gy (by omega)), fun f' hf' => rl_f_c (h5 f' hf') (fun k a => gx (by omega)) (fun k l a b _ => gx (by omega)) (fun _ _ => hy _ _ _ (by omega) (by omega) (by omega)) (fun _ _ _ _ => gy (by omega)) (Nat.le_refl _), fun f' hf' => ?_, fun f' hf' i hi => rl_i_c (h7 f' hf' i hi) (fun k a b => gx (by omega)) (fun _ _ => gy (by omega)) rfl (Nat.le_refl _), fun r' hr' => ?_, rl_z_c h9 (fun k r' a b c => hx _ _ _ (by omega) (by omega) (by omega)) (Nat.le_refl _), rl_j_c h10 (fun k j a => gx (by omega)) (fun _ _ _ _ => gy (by omega))⟩
  · by_cases e : f' = f
    · subst e
      refine Or.inr ⟨r, al, nl, hR, hrr.1, ?_, ?_, ?_, ?_, ?_, hrr.2.2.2.2.2, hal, e54, e7, e55, c0, ?_, ?_⟩
      · rw [gx (by omega)]; exact hrr.2.2.2.1
      · rw [gx (by omega)]; exact hrr.2.2.2.2.1
      · rw [gx (by omega)]; exact hrr.2.2.1
      · rw [gx (by omega)]; exact hrr.2.1
      · rw [hy _ _ _ (by omega) (by omega) (by omega)]; exact hnl
      · rw [gy (by omega)]; exact c1
      · rw [show Y' 18 f' al = Y 18 f' al from gy (by omega), show Y' 20 f' al = Y 20 f' al from gy (by omega)]; exact c2
    · exact rl_c_c (h6 f' hf') (fun k a b => hx _ _ _ (by omega) (by omega) (by omega)) (fun r _ => gx (by omega)) (fun r _ _ _ e => (gx (by omega)).trans e) (fun _ _ => hy _ _ _ (by omega) (by omega) (by omega)) (fun _ _ _ _ => gy (by omega)) rfl (Nat.le_refl _)
  · by_cases e : r' = r
    · subst e
      obtain ⟨a1, a2, a3, a4, a5, a6, a7⟩ := h8 r' hr'
      have y5 : ∀ b, b ≠ 2 → Y' 5 r' b = Y 5 r' b := fun b hb => hy _ _ _ (by omega) (by omega) (by omega)
      refine ⟨?_, ?_, ?_, e62, ?_, ?_, e01⟩
      · rw [gx (by omega), y5 0 (by decide)]; exact a1
      · rw [gx (by omega), y5 4 (by decide)]; exact a2
      · rw [gx (by omega), y5 5 (by decide)]; exact a3
      · rw [gx (by omega), y5 1 (by decide)]; exact a5
      · rw [gx (by omega), y5 3 (by decide)]; exact a6
    · exact rl_r_c (h8 r' hr') (fun k a b => hx _ _ _ (by omega) (by omega) (by omega)) (fun _ => hy _ _ _ (by omega) (by omega) (by omega))
/-- the run comes to its end -/
theorem P_en (h : Rl X T Y S R sh np nr nj nn) {f : Nat} (hf : f < 3) {r : Nat} (hR : R 3 f 12 = some (5, r))
    (hx : ∀ k i j, ¬ (53 ≤ k ∧ k ≤ 55 ∧ i = 0 ∧ j = f) → ¬ (60 ≤ k ∧ k ≤ 62 ∧ i = 0 ∧ j = r) → X' k i j = X k i j)
    (hy : ∀ k a b, ¬ (k = 3 ∧ a = f ∧ (b = 7 ∨ b = 11)) → ¬ (k = 5 ∧ a = r ∧ (b = 2 ∨ b = 4 ∨ b = 5)) → Y' k a b = Y k a b)
    (e53 : X' 53 0 f = 0) (e11 : Y' 3 f 11 = 0) (e62 : X' 62 0 r = Y' 5 r 2) (e01 : X' 62 0 r = 0 ∨ X' 62 0 r = 1) (e60 : X' 60 0 r = 1) (e61 : X' 61 0 r = 1) (y4 : Y' 5 r 4 = 1) (y55 : Y' 5 r 5 = 1) : Rl X' T Y' S (u_3 R 3 f 12 none) sh np nr nj nn := by
  obtain ⟨h1, h2, h3, h4, h5, h6, h7, h8, h9, h10⟩ := h
  have gx : ∀ {k i j}, ¬ (53 ≤ k ∧ k ≤ 55) ∧ ¬ (60 ≤ k ∧ k ≤ 62) → X' k i j = X k i j := fun q => hx _ _ _ (by omega) (by omega)
  have gy : ∀ {k i j}, k ≠ 3 ∧ k ≠ 5 → Y' k i j = Y k i j := fun q => hy _ _ _ (by omega) (by omega)
  have gr : ∀ {k i j}, k ≠ 3 → u_3 R 3 f 12 none k i j = R k i j := fun q => u_3_k q
  have hrr : r < nr ∧ X 59 0 r = nI f := by
    rcases h6 f hf with ⟨e1, -⟩ | ⟨r', al', nl', a1, a2, a3, a4, a5, a6, a7, a8, -⟩
    · rw [hR] at e1; cases e1
    · rw [hR] at a1; cases a1; exact ⟨a2, a5⟩
  refine ⟨rl_n_c h1 (fun j => gx (by omega)) (fun j => gy (by omega)) (fun j => gy (by omega)), ?_, fun p' hp' => rl_p_c (h3 p' hp') (fun k a b => gx (by omega)) rfl (fun b => gy (by omega)) rfl (gr (by omega)) (Nat.le_refl _), rl_q_c h4 (fun k j a b => gx (by omega)) (fun _ _ => gy (by omega)), fun f' hf' => rl_f_c (h5 f' hf') (fun k a => gx (by omega)) (fun k l a b _ => gx (by omega)) (fun _ _ => hy _ _ _ (by omega) (by omega)) (fun _ _ _ _ => gy (by omega)) (Nat.le_refl _), fun f' hf' => ?_, fun f' hf' i hi => rl_i_c (h7 f' hf' i hi) (fun k a b => gx (by omega)) (fun _ _ => gy (by omega)) (gr (by omega)) (Nat.le_refl _), fun r' hr' => ?_, rl_z_c h9 (fun k r' a b c => hx _ _ _ (by omega) (by omega)) (Nat.le_refl _), rl_j_c h10 (fun k j a => gx (by omega)) (fun _ _ _ _ => gy (by omega))⟩
  · exact ⟨hs_mono h2.1 (fun k i j q _ => u_3_ne _ _ (by omega)) (fun k i n q => q), ⟨h2.2.1.1, fun j hj => ⟨(gr (by omega)).trans (h2.2.1.2 j hj).1, (h2.2.1.2 j hj).2⟩⟩, h2.2.2⟩
  · by_cases e : f' = f
    · subst e
      exact Or.inl ⟨u_3_eq _ _, e53, e11⟩
    · refine rl_c_c (h6 f' hf') (fun k a b => hx _ _ _ (by omega) (by omega)) (fun r _ => gx (by omega)) (fun r' _ _ q59 q61 => ?_) (fun _ _ => hy _ _ _ (by omega) (by omega)) (fun _ _ _ _ => gy (by omega)) (u_3_ne _ _ (by omega)) (Nat.le_refl _)
      have hne : r' ≠ r := fun q => by
        rw [q, hrr.2] at q59
        exact e ((nI_eq (by omega) (by omega)).mp q59).symm
      rw [hx _ _ _ (by omega) (by omega)]
      exact q61
  · by_cases e : r' = r
    · subst e
      obtain ⟨a1, a2, a3, a4, a5, a6, a7⟩ := h8 r' hr'
      have y5 : ∀ b, b ≠ 2 → b ≠ 4 → b ≠ 5 → Y' 5 r' b = Y 5 r' b := fun b b2 b4 b5 => hy _ _ _ (by omega) (by omega)
      refine ⟨?_, e60.trans y4.symm, e61.trans y55.symm, e62, ?_, ?_, e01⟩
      · rw [gx (by omega), y5 0 (by decide) (by decide) (by decide)]; exact a1
      · rw [gx (by omega), y5 1 (by decide) (by decide) (by decide)]; exact a5
      · rw [gx (by omega), y5 3 (by decide) (by decide) (by decide)]; exact a6
    · exact rl_r_c (h8 r' hr') (fun k a b => hx _ _ _ (by omega) (by omega)) (fun _ => hy _ _ _ (by omega) (by omega))
end RlT
