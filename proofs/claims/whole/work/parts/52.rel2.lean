/-! a step of a part: class and reference alike -/
theorem tu_o {X : MI_} {s f t : Nat} {c : Int32} (hft : f ≠ t) (hf : f < 4) (ht : t < 4) {j : Nat} (h : j < 4 * s ∨ 4 * s + 4 ≤ j) : tu_m X s f t c 41 0 j = X 41 0 j := by
  rw [tu_v hft, if_neg (by omega), if_neg (by omega)]
theorem ch_o41 {X : MI_} {p s j : Nat} (h : j < 4 * s ∨ 4 * s + 4 ≤ j) : ch_m X p s 41 0 j = X 41 0 j := by
  unfold ch_m
  rw [ch_c_k (by decide), ch_b_k (by decide)]
  unfold ch_a
  repeat' split
  · rfl
  · exact tu_o (by decide) (by decide) (by decide) h
  · exact tu_o (by decide) (by decide) (by decide) h
  · exact tu_o (by decide) (by decide) (by decide) h
  · exact (tu_o (by decide) (by decide) (by decide) h).trans ((tu_o (by decide) (by decide) (by decide) h).trans (tu_o (by decide) (by decide) (by decide) h))
theorem ch_o42 {X : MI_} {p s j : Nat} (h : j ≠ s) : ch_m X p s 42 0 j = X 42 0 j := by
  have h1 : ch_b (ch_a X p s) s (X 40 0 s) 42 0 j = X 42 0 j := by
    unfold ch_b
    repeat' split
    · exact ch_a_k (by decide)
    · exact ch_a_k (by decide)
    · rw [u_3_ne _ _ (by omega)]; exact ch_a_k (by decide)
  unfold ch_m ch_c
  split
  · rw [u_3_ne _ _ (by omega)]; exact h1
  · rw [u_3_ne _ _ (by omega)]; exact h1
theorem bt_o {Y : MI_} {s t : Nat} {c : Int32} {s' b : Nat} (h : s' ≠ s) : bt_m Y s t c 6 s' b = Y 6 s' b := by
  unfold bt_m
  rw [u_3_ne _ _ (by omega), u_3_ne _ _ (by omega)]
theorem cg_o {Y : MI_} {s : Nat} {p b : Int32} {s' x : Nat} (h : s' ≠ s) : cg_m Y s p b 6 s' x = Y 6 s' x := by
  have h1 : cg_a Y s p b 6 s' x = Y 6 s' x := by
    unfold cg_a bd_m
    repeat' split
    all_goals first | rfl | exact bt_o h | (unfold bh_m bh_c bh_b bh_a; rw [u_3_ne _ _ (by omega), u_3_ne _ _ (by omega), u_3_ne _ _ (by omega), u_3_ne _ _ (by omega)])
  have h2 : dr_a (cg_a Y s p b) s 6 s' x = Y 6 s' x := by
    unfold dr_a
    repeat' split
    · exact h1
    · exact h1
    · rw [u_3_ne _ _ (by omega)]; exact h1
  unfold cg_m dr_m
  split
  · exact h2
  · rw [u_3_ne _ _ (by omega)]; exact h2
theorem rl_s_eq {X X' Y Y' : MI_} {s : Nat} (h : rl_s X Y s) (h0 : X' 40 0 s = X 40 0 s) (h1 : ∀ j, 4 * s ≤ j → j < 4 * s + 4 → X' 41 0 j = X 41 0 j) (h2 : X' 42 0 s = X 42 0 s) (hy : ∀ b, Y' 6 s b = Y 6 s b) : rl_s X' Y' s := by
  obtain ⟨e0, e1, e2, e3, e4, e5⟩ := h
  refine ⟨?_, ?_, ?_, ?_, ?_, ?_⟩
  · rw [h0, hy]; exact e0
  · rw [h1 _ (by omega) (by omega), hy]; exact e1
  · rw [h1 _ (by omega) (by omega), hy]; exact e2
  · rw [h1 _ (by omega) (by omega), hy]; exact e3
  · rw [h1 _ (by omega) (by omega), hy]; exact e4
  · rw [h2, hy]; exact e5
theorem sh_k_eq {Y Y' : MI_} {s : Nat} (h : sh_k Y s) (hy : ∀ b, b ≠ 0 → Y' 6 s b = Y 6 s b) : sh_k Y' s := by
  unfold sh_k
  rw [hy 1 (by decide), hy 2 (by decide), hy 3 (by decide), hy 4 (by decide)]
  exact h
theorem mw_v {X Y : MI_} {p n : Nat} {g : Int32} (h1 : 1 ≤ n) (e40 : ∀ i, i < n → X 40 0 (6 * p + i) = Y 6 (6 * p + i) 0) (e33 : X 33 0 p = Y 4 p 3) (e34 : X 34 0 p = Y 4 p 4) : ∀ i, i ≤ n → (∀ s b, (mw_ Y p n g i).1 6 s b = if b = 0 ∧ 6 * p ≤ s ∧ s < 6 * p + i then Y 6 s 0 + (fl_ X p n g (s - 6 * p) - fl_ X p n g (s - 6 * p + 1)) else Y 6 s b) ∧ (mw_ Y p n g i).2 = fl_ X p n g i
  | 0, _ => by
    refine ⟨fun s b => ?_, ?_⟩
    · rw [if_neg (by omega)]; rfl
    · show fo_ Y p g = fl_ X p n g 0
      unfold fo_ fl_
      have := e40 0 (by omega)
      rw [Nat.add_zero] at this
      rw [if_pos rfl, this, e34]
  | i + 1, hi => by
    obtain ⟨a, b⟩ := mw_v h1 e40 e33 e34 i (by omega) (g := g)
    have hf : ff_ (mw_ Y p n g i).1 p n i = fl_ X p n g (i + 1) := by
      unfold ff_ fl_
      rw [if_neg (by omega : ¬ i + 1 = 0)]
      by_cases q : i + 1 < n
      · rw [if_pos q, if_pos q, a, a, if_neg (by omega), if_neg (by omega), mw_k (by decide) i, e33, show 6 * p + (i + 1) - 1 = 6 * p + i by omega, e40 i (by omega), e40 (i + 1) q]
      · rw [if_neg q, if_neg q]
    refine ⟨fun s c => ?_, hf⟩
    show u_3 (mw_ Y p n g i).1 6 (6 * p + i) 0 ((mw_ Y p n g i).1 6 (6 * p + i) 0 + ((mw_ Y p n g i).2 - ff_ (mw_ Y p n g i).1 p n i)) 6 s c = _
    rw [hf, b]
    by_cases q : c = 0 ∧ s = 6 * p + i
    · obtain ⟨rfl, rfl⟩ := q
      rw [u_3_eq, a, if_neg (by omega), if_pos (by omega), show 6 * p + i - 6 * p = i by omega]
    · rw [u_3_ne _ _ (by omega), a]
      by_cases q2 : c = 0 ∧ 6 * p ≤ s ∧ s < 6 * p + i
      · rw [if_pos q2, if_pos (by omega)]
      · rw [if_neg q2, if_neg (by omega)]
theorem st_w_41 {X : MI_} {p n : Nat} {g : Int32} {k j : Nat} (h : k ≠ 40 ∧ k ≠ 43) : st_w X p n g k 0 j = X k 0 j := by
  unfold st_w
  rw [m_seg_ne _ _ _ _ _ h.1, m_seg_ne _ _ _ _ _ h.2]
theorem st_w_40 {X : MI_} {p n : Nat} {g : Int32} {j : Nat} : st_w X p n g 40 0 j = if 6 * p ≤ j ∧ j < 6 * p + n then X 40 0 j + (fl_ X p n g (j - 6 * p) - fl_ X p n g (j - 6 * p + 1)) else X 40 0 j := by
  unfold st_w
  by_cases h : 6 * p ≤ j ∧ j < 6 * p + n
  · rw [if_pos h, m_seg_in _ _ _ _ _ h.1 h.2]; rfl
  · rw [if_neg h, m_seg_out _ _ _ _ _ (by omega), m_seg_ne _ _ _ _ _ (by decide)]
theorem cl_o {Y : MI_} {p : Nat} {s b : Nat} : ∀ i, s < 6 * p ∨ 6 * p + i ≤ s → cl_ Y p i 6 s b = Y 6 s b
  | 0, _ => rfl
  | i + 1, h => (cg_o (by omega)).trans (cl_o i (by omega))
theorem chl_o41 {X : MI_} {p : Nat} {j : Nat} : ∀ i, j < 4 * (6 * p) ∨ 4 * (6 * p + i) ≤ j → ch_l X p i 41 0 j = X 41 0 j
  | 0, _ => rfl
  | i + 1, h => (ch_o41 (by omega)).trans (chl_o41 i (by omega))
theorem chl_o42 {X : MI_} {p : Nat} {j : Nat} : ∀ i, j < 6 * p ∨ 6 * p + i ≤ j → ch_l X p i 42 0 j = X 42 0 j
  | 0, _ => rfl
  | i + 1, h => (ch_o42 (by omega)).trans (chl_o42 i (by omega))
theorem cl_rel {X Y : MI_} {p n : Nat} (e35 : X 35 0 p = Y 4 p 5) (e36 : X 36 0 p = Y 4 p 6) (n5 : 0 ≤ (Y 4 p 5).toInt) (n6 : 0 ≤ (Y 4 p 6).toInt) (h : ∀ c, c < n → rl_s X Y (6 * p + c) ∧ sh_k Y (6 * p + c)) : ∀ i, i ≤ n → ∀ c, c < n → rl_s (ch_l X p i) (cl_ Y p i) (6 * p + c) ∧ sh_k (cl_ Y p i) (6 * p + c)
  | 0, _ => h
  | i + 1, hi => by
    intro c hc
    have ih := cl_rel e35 e36 n5 n6 h i (by omega)
    have k5 : cl_ Y p i 4 p 5 = Y 4 p 5 := cl_k (by decide) i
    have k6 : cl_ Y p i 4 p 6 = Y 4 p 6 := cl_k (by decide) i
    show rl_s (ch_m (ch_l X p i) p (6 * p + i)) (cg_m (cl_ Y p i) (6 * p + i) (cl_ Y p i 4 p 5) (cl_ Y p i 4 p 6)) (6 * p + c) ∧ sh_k (cg_m (cl_ Y p i) (6 * p + i) (cl_ Y p i 4 p 5) (cl_ Y p i 4 p 6)) (6 * p + c)
    by_cases q : c = i
    · subst q
      exact ch_rel (ih c hc).1 (ih c hc).2 ((ch_l_k (by decide) (by decide) c).trans (e35.trans k5.symm)) ((ch_l_k (by decide) (by decide) c).trans (e36.trans k6.symm)) (by rw [k5]; exact n5) (by rw [k6]; exact n6)
    · exact ⟨rl_s_eq (ih c hc).1 (ch_m_k (by decide) (by decide)) (fun j h1 h2 => ch_o41 (by omega)) (ch_o42 (by omega)) (fun b => cg_o (by omega)), sh_k_eq (ih c hc).2 (fun b _ => cg_o (by omega))⟩
theorem st_rel {X Y : MI_} {p n : Nat} {g : Int32} (h1 : 1 ≤ n) (e33 : X 33 0 p = Y 4 p 3) (e34 : X 34 0 p = Y 4 p 4) (e35 : X 35 0 p = Y 4 p 5) (e36 : X 36 0 p = Y 4 p 6) (n5 : 0 ≤ (Y 4 p 5).toInt) (n6 : 0 ≤ (Y 4 p 6).toInt) (h : ∀ c, c < n → rl_s X Y (6 * p + c) ∧ sh_k Y (6 * p + c)) : ∀ c, c < n → rl_s (st_m X p n g) (sb_m Y p n g) (6 * p + c) ∧ sh_k (sb_m Y p n g) (6 * p + c) := by
  obtain ⟨mv, -⟩ := mw_v (g := g) h1 (fun i hi => (h i hi).1.1) e33 e34 n (Nat.le_refl n)
  refine cl_rel (X := st_w X p n g) (Y := (mw_ Y p n g n).1) ?_ ?_ ?_ ?_ ?_ n (Nat.le_refl n)
  · rw [st_w_41 (by decide), mw_k (by decide) n]; exact e35
  · rw [st_w_41 (by decide), mw_k (by decide) n]; exact e36
  · rw [mw_k (by decide) n]; exact n5
  · rw [mw_k (by decide) n]; exact n6
  · intro c hc
    obtain ⟨⟨e0, r⟩, k⟩ := h c hc
    have hv : ∀ b, b ≠ 0 → (mw_ Y p n g n).1 6 (6 * p + c) b = Y 6 (6 * p + c) b := fun b hb => by rw [mv, if_neg (by omega)]
    refine ⟨⟨?_, ?_, ?_, ?_, ?_, ?_⟩, sh_k_eq k hv⟩
    · rw [st_w_40, if_pos (by omega), mv, if_pos (by omega), e0]
    · rw [st_w_41 (by decide), hv 1 (by decide)]; exact r.1
    · rw [st_w_41 (by decide), hv 2 (by decide)]; exact r.2.1
    · rw [st_w_41 (by decide), hv 3 (by decide)]; exact r.2.2.1
    · rw [st_w_41 (by decide), hv 4 (by decide)]; exact r.2.2.2.1
    · rw [st_w_41 (by decide), hv 5 (by decide)]; exact r.2.2.2.2
theorem mw_o {Y : MI_} {p n : Nat} {g : Int32} {s b : Nat} : ∀ i, s < 6 * p ∨ 6 * p + i ≤ s → (mw_ Y p n g i).1 6 s b = Y 6 s b
  | 0, _ => rfl
  | i + 1, h => (u_3_ne _ _ (by omega)).trans (mw_o i (by omega))
theorem sb_o {Y : MI_} {p n : Nat} {g : Int32} {s b : Nat} (h : s < 6 * p ∨ 6 * p + n ≤ s) : sb_m Y p n g 6 s b = Y 6 s b := (cl_o n h).trans (mw_o n h)
theorem st_out {X Y : MI_} {p n : Nat} {g : Int32} {s : Nat} (h : s < 6 * p ∨ 6 * p + n ≤ s) (r : rl_s X Y s ∧ sh_k Y s) : rl_s (st_m X p n g) (sb_m Y p n g) s ∧ sh_k (sb_m Y p n g) s := by
  refine ⟨rl_s_eq r.1 ?_ (fun j a b => ?_) ?_ (fun b => sb_o h), sh_k_eq r.2 (fun b _ => sb_o h)⟩
  · show ch_l (st_w X p n g) p n 40 0 s = _
    rw [ch_l_k (by decide) (by decide), st_w_40, if_neg (by omega)]
  · show ch_l (st_w X p n g) p n 41 0 j = _
    rw [chl_o41 n (by omega), st_w_41 (by decide)]
  · show ch_l (st_w X p n g) p n 42 0 s = _
    rw [chl_o42 n h, st_w_41 (by decide)]
theorem fl_fo {X Y : MI_} {p n : Nat} {g : Int32} (e40 : X 40 0 (6 * p) = Y 6 (6 * p) 0) (e34 : X 34 0 p = Y 4 p 4) : fl_ X p n g 0 = fo_ Y p g := by
  unfold fl_ fo_
  rw [if_pos rfl, e40, e34]
theorem ha_hn {X Y : MI_} {s : Nat} (h : rl_s X Y s) : ha_ X s = hn_ Y s := by
  obtain ⟨e0, e1, e2, e3, e4, e5⟩ := h
  unfold ha_ hn_
  rw [e1, e2, e3, e4, e5]
  by_cases q : 400 ≤ Y 6 s 5 / 50
  · rw [if_pos q, if_neg (i32_nlt.mpr q)]
  · rw [if_neg q, if_pos (i32_nle.mp q)]
theorem sv_te {X Y : MI_} {s w : Nat} (h : rl_s X Y s) (hw : w ≤ 6) : sv_ X s w = te_ Y s w := by
  have hh := ha_hn h
  obtain ⟨e0, e1, e2, e3, e4, e5⟩ := h
  rcases (show w = 0 ∨ w = 1 ∨ w = 2 ∨ w = 3 ∨ w = 4 ∨ w = 5 ∨ w = 6 by omega) with rfl | rfl | rfl | rfl | rfl | rfl | rfl
  · exact e0
  · exact e1
  · exact e2
  · exact e3
  · exact e4
  · exact e5
  · exact hh
