/-! shells: class and reference alike -/
theorem i32_rng (a : Int32) : -2147483648 ≤ a.toInt ∧ a.toInt < 2147483648 := ⟨Int32.le_toInt a, Int32.toInt_lt a⟩
theorem i32_add {a b : Int32} (h1 : -2147483648 ≤ a.toInt + b.toInt) (h2 : a.toInt + b.toInt < 2147483648) : (a + b).toInt = a.toInt + b.toInt := by
  rw [Int32.toInt_add]
  exact Int.bmod_eq_of_le (by omega) (by omega)
theorem i32_sub {a b : Int32} (h1 : -2147483648 ≤ a.toInt - b.toInt) (h2 : a.toInt - b.toInt < 2147483648) : (a - b).toInt = a.toInt - b.toInt := by
  rw [Int32.toInt_sub]
  exact Int.bmod_eq_of_le (by omega) (by omega)
theorem i32_le {a b : Int32} : a ≤ b ↔ a.toInt ≤ b.toInt := Int32.le_iff_toInt_le
theorem i32_lt {a b : Int32} : a < b ↔ a.toInt < b.toInt := Int32.lt_iff_toInt_lt
def ok4 (a b c d : Int32) : Prop := 0 ≤ a.toInt ∧ 0 ≤ b.toInt ∧ 0 ≤ c.toInt ∧ 0 ≤ d.toInt ∧ a.toInt + b.toInt + c.toInt + d.toInt = 1000
def rl_s (X Y : MI_) (s : Nat) : Prop := X 40 0 s = Y 6 s 0 ∧ X 41 0 (4 * s) = Y 6 s 1 ∧ X 41 0 (4 * s + 1) = Y 6 s 2 ∧ X 41 0 (4 * s + 2) = Y 6 s 3 ∧ X 41 0 (4 * s + 3) = Y 6 s 4 ∧ X 42 0 s = Y 6 s 5
def sh_k (Y : MI_) (s : Nat) : Prop := ok4 (Y 6 s 1) (Y 6 s 2) (Y 6 s 3) (Y 6 s 4)
theorem i32_div {a b : Int32} (hb : b ≠ -1) : (a / b).toInt = a.toInt.tdiv b.toInt := Int32.toInt_div_of_ne_right a b hb
theorem tu_v {X : MI_} {s f t : Nat} {c : Int32} (hft : f ≠ t) (j : Nat) : tu_m X s f t c 41 0 j = if j = 4 * s + t then X 41 0 j + tu_n X s f c else if j = 4 * s + f then X 41 0 j - tu_n X s f c else X 41 0 j := by
  unfold tu_m u_3
  by_cases h1 : j = 4 * s + t
  · subst h1
    rw [if_pos ⟨rfl, rfl, rfl⟩, if_neg (by omega), if_pos rfl]
  · rw [if_neg (by omega), if_neg h1]
    by_cases h2 : j = 4 * s + f
    · subst h2
      rw [if_pos ⟨rfl, rfl, rfl⟩, if_pos rfl]
    · rw [if_neg (by omega), if_neg h2]
theorem bt_v {Y : MI_} {s t : Nat} {c : Int32} (ht : t ≠ 1) (b : Nat) : bt_m Y s t c 6 s b = if b = t then Y 6 s b + c else if b = 1 then Y 6 s b - c else Y 6 s b := by
  unfold bt_m u_3
  by_cases h1 : b = t
  · subst h1
    rw [if_pos ⟨rfl, rfl, rfl⟩, if_neg (by omega), if_pos rfl]
  · rw [if_neg (by omega), if_neg h1]
    by_cases h2 : b = 1
    · subst h2
      rw [if_pos ⟨rfl, rfl, rfl⟩, if_pos rfl]
    · rw [if_neg (by omega), if_neg h2]
theorem mn_b {a c : Int32} (ha : 0 ≤ a.toInt) (hc : 0 ≤ c.toInt) : 0 ≤ (if a < c then a else c).toInt ∧ (if a < c then a else c).toInt ≤ a.toInt ∧ (if a < c then a else c).toInt ≤ c.toInt := by
  by_cases h : a < c
  · rw [if_pos h]; rw [i32_lt] at h; omega
  · rw [if_neg h]; rw [i32_lt] at h; omega
theorem tu_rel {X Y : MI_} {s t : Nat} {c : Int32} (h : rl_s X Y s) (hk : sh_k Y s) (ht : t = 1 ∨ t = 2 ∨ t = 3) (hc : 0 ≤ c.toInt) : rl_s (tu_m X s 0 t c) (bt_m Y s (t + 1) (if Y 6 s 1 < c then Y 6 s 1 else c)) s ∧ sh_k (bt_m Y s (t + 1) (if Y 6 s 1 < c then Y 6 s 1 else c)) s := by
  obtain ⟨e0, e1, e2, e3, e4, e5⟩ := h
  obtain ⟨k1, k2, k3, k4, k5⟩ := hk
  obtain ⟨b1, b2, b3⟩ := mn_b k1 hc
  have en : tu_n X s 0 c = (if Y 6 s 1 < c then Y 6 s 1 else c) := by unfold tu_n; rw [Nat.add_zero, e1]
  generalize (if Y 6 s 1 < c then Y 6 s 1 else c) = n at *
  have hv := fun j => tu_v (X := X) (s := s) (f := 0) (t := t) (c := c) (by omega) j
  have hw := fun b => bt_v (Y := Y) (s := s) (t := t + 1) (c := n) (by omega) b
  rw [en] at hv
  have hA := i32_sub (a := Y 6 s 1) (b := n) (by omega) (by omega)
  refine ⟨⟨?_, ?_, ?_, ?_, ?_, ?_⟩, ?_⟩
  · rw [tu_m_k (by decide), hw 0, if_neg (by omega), if_neg (by decide)]; exact e0
  · rw [hv, hw 1, if_neg (by omega), if_pos (by omega), if_neg (by omega), if_pos rfl, e1]
  · rw [hv, hw 2, e2]
    by_cases q : t = 1
    · rw [if_pos (by omega), if_pos (by omega)]
    · rw [if_neg (by omega), if_neg (by omega), if_neg (by omega), if_neg (by decide)]
  · rw [hv, hw 3, e3]
    by_cases q : t = 2
    · rw [if_pos (by omega), if_pos (by omega)]
    · rw [if_neg (by omega), if_neg (by omega), if_neg (by omega), if_neg (by decide)]
  · rw [hv, hw 4, e4]
    by_cases q : t = 3
    · rw [if_pos (by omega), if_pos (by omega)]
    · rw [if_neg (by omega), if_neg (by omega), if_neg (by omega), if_neg (by decide)]
  · rw [tu_m_k (by decide), hw 5, if_neg (by omega), if_neg (by decide)]; exact e5
  · unfold sh_k ok4
    rw [hw 1, hw 2, hw 3, hw 4]
    have h2 := i32_add (a := Y 6 s 2) (b := n) (by omega) (by omega)
    have h3 := i32_add (a := Y 6 s 3) (b := n) (by omega) (by omega)
    have h4 := i32_add (a := Y 6 s 4) (b := n) (by omega) (by omega)
    rcases ht with rfl | rfl | rfl
    · simp only [Nat.reduceAdd, Nat.reduceEqDiff, reduceIte]; omega
    · simp only [Nat.reduceAdd, Nat.reduceEqDiff, reduceIte]; omega
    · simp only [Nat.reduceAdd, Nat.reduceEqDiff, reduceIte]; omega
theorem bh_v {Y : MI_} {s : Nat} {c : Int32} : bh_m Y s c 6 s 0 = Y 6 s 0 ∧ bh_m Y s c 6 s 1 = Y 6 s 1 + (bh_1 Y s c + bh_2 Y s c + bh_3 Y s c) ∧ bh_m Y s c 6 s 2 = Y 6 s 2 - bh_1 Y s c ∧ bh_m Y s c 6 s 3 = Y 6 s 3 - bh_2 Y s c ∧ bh_m Y s c 6 s 4 = Y 6 s 4 - bh_3 Y s c ∧ bh_m Y s c 6 s 5 = Y 6 s 5 := by
  unfold bh_m bh_c bh_b bh_a u_3
  simp
theorem ta_rel {X Y : MI_} {s : Nat} {c : Int32} (h : rl_s X Y s) (hk : sh_k Y s) (hc : 0 ≤ c.toInt) (hc9 : c.toInt < 1000000000) : rl_s (tu_m (tu_m (tu_m X s 1 0 c) s 2 0 (c - tu_n X s 1 c)) s 3 0 (c - tu_n X s 1 c - tu_n (tu_m X s 1 0 c) s 2 (c - tu_n X s 1 c))) (bh_m Y s c) s ∧ sh_k (bh_m Y s c) s := by
  obtain ⟨e0, e1, e2, e3, e4, e5⟩ := h
  obtain ⟨k1, k2, k3, k4, k5⟩ := hk
  obtain ⟨v0, v1, v2, v3, v4, v5⟩ := bh_v (Y := Y) (s := s) (c := c)
  have n1 : tu_n X s 1 c = bh_1 Y s c := by unfold tu_n bh_1; rw [e2]
  have m1 := mn_b k2 hc
  rw [show (if Y 6 s 2 < c then Y 6 s 2 else c) = bh_1 Y s c from rfl] at m1
  have s1 := i32_sub (a := c) (b := bh_1 Y s c) (by omega) (by omega)
  have n2 : tu_n (tu_m X s 1 0 c) s 2 (c - bh_1 Y s c) = bh_2 Y s c := by
    have w : tu_m X s 1 0 c 41 0 (4 * s + 2) = X 41 0 (4 * s + 2) := by rw [tu_v (by decide), if_neg (by omega), if_neg (by omega)]
    unfold tu_n bh_2
    rw [w, e3]
  have m2 := mn_b (c := c - bh_1 Y s c) k3 (by omega)
  rw [show (if Y 6 s 3 < c - bh_1 Y s c then Y 6 s 3 else c - bh_1 Y s c) = bh_2 Y s c from rfl] at m2
  have s2 := i32_sub (a := c - bh_1 Y s c) (b := bh_2 Y s c) (by omega) (by omega)
  rw [n1, n2]
  have n3 : tu_n (tu_m (tu_m X s 1 0 c) s 2 0 (c - bh_1 Y s c)) s 3 (c - bh_1 Y s c - bh_2 Y s c) = bh_3 Y s c := by
    have w : tu_m (tu_m X s 1 0 c) s 2 0 (c - bh_1 Y s c) 41 0 (4 * s + 3) = X 41 0 (4 * s + 3) := by rw [tu_v (by decide), if_neg (by omega), if_neg (by omega), tu_v (by decide), if_neg (by omega), if_neg (by omega)]
    unfold tu_n bh_3
    rw [w, e4]
  have m3 := mn_b (c := c - bh_1 Y s c - bh_2 Y s c) k4 (by omega)
  rw [show (if Y 6 s 4 < c - bh_1 Y s c - bh_2 Y s c then Y 6 s 4 else c - bh_1 Y s c - bh_2 Y s c) = bh_3 Y s c from rfl] at m3
  have tv : ∀ j, tu_m (tu_m (tu_m X s 1 0 c) s 2 0 (c - bh_1 Y s c)) s 3 0 (c - bh_1 Y s c - bh_2 Y s c) 41 0 j = if j = 4 * s then X 41 0 j + bh_1 Y s c + bh_2 Y s c + bh_3 Y s c else if j = 4 * s + 3 then X 41 0 j - bh_3 Y s c else if j = 4 * s + 2 then X 41 0 j - bh_2 Y s c else if j = 4 * s + 1 then X 41 0 j - bh_1 Y s c else X 41 0 j := by
    intro j
    rw [tu_v (by decide), n3, tu_v (by decide), n2, tu_v (by decide), n1]
    repeat' split
    all_goals first | rfl | (exfalso; omega)
  refine ⟨⟨?_, ?_, ?_, ?_, ?_, ?_⟩, ?_⟩
  · rw [tu_m_k (by decide), tu_m_k (by decide), tu_m_k (by decide), v0]; exact e0
  · rw [tv, if_pos rfl, v1, e1, Int32.add_assoc, Int32.add_assoc, Int32.add_assoc]
  · rw [tv, if_neg (by omega), if_neg (by omega), if_neg (by omega), if_pos rfl, v2, e2]
  · rw [tv, if_neg (by omega), if_neg (by omega), if_pos rfl, v3, e3]
  · rw [tv, if_neg (by omega), if_pos rfl, v4, e4]
  · rw [tu_m_k (by decide), tu_m_k (by decide), tu_m_k (by decide), v5]; exact e5
  · unfold sh_k ok4
    rw [v1, v2, v3, v4]
    have a1 := i32_add (a := bh_1 Y s c) (b := bh_2 Y s c) (by omega) (by omega)
    have a2 := i32_add (a := bh_1 Y s c + bh_2 Y s c) (b := bh_3 Y s c) (by omega) (by omega)
    have a3 := i32_add (a := Y 6 s 1) (b := bh_1 Y s c + bh_2 Y s c + bh_3 Y s c) (by omega) (by omega)
    have a4 := i32_sub (a := Y 6 s 2) (b := bh_1 Y s c) (by omega) (by omega)
    have a5 := i32_sub (a := Y 6 s 3) (b := bh_2 Y s c) (by omega) (by omega)
    have a6 := i32_sub (a := Y 6 s 4) (b := bh_3 Y s c) (by omega) (by omega)
    omega
theorem td_p {x k : Int} (h : 0 ≤ x) : x.tdiv k = x / k := Int.tdiv_eq_ediv_of_nonneg h
theorem td_n {x k : Int} (h : x ≤ 0) : x.tdiv k = -((-x) / k) := by
  rw [← td_p (x := -x) (k := k) (by omega), Int.neg_tdiv, Int.neg_neg]
theorem ch_a_rel {X Y : MI_} {s p : Nat} {pv bv : Int32} (h : rl_s X Y s) (hk : sh_k Y s) (hp : X 35 0 p = pv) (hb : X 36 0 p = bv) (hpv : 0 ≤ pv.toInt) (hbv : 0 ≤ bv.toInt) : rl_s (ch_a X p s) (cg_a Y s pv bv) s ∧ sh_k (cg_a Y s pv bv) s := by
  have h0 := h
  obtain ⟨e0, e1, e2, e3, e4, e5⟩ := h0
  have hk0 := hk
  obtain ⟨k1, k2, k3, k4, k5⟩ := hk0
  unfold ch_a cg_a
  rw [e0, e1, e4, hp, hb]
  by_cases c1 : Y 6 s 0 ≤ 7300
  · rw [if_pos c1, if_pos c1]
    by_cases c2 : Y 6 s 0 < 5500
    · rw [if_pos c2, if_pos c2]
      by_cases c3 : Y 6 s 0 < 3000
      · rw [if_pos c3, if_pos c3]
        unfold bd_m
        have hd : ((Y 6 s 1 + Y 6 s 4) * (3000 - Y 6 s 0) / 2600).toInt = ((Y 6 s 1 + Y 6 s 4) * (3000 - Y 6 s 0)).toInt.tdiv 2600 := i32_div (by decide)
        have hr := i32_rng ((Y 6 s 1 + Y 6 s 4) * (3000 - Y 6 s 0))
        generalize (Y 6 s 1 + Y 6 s 4) * (3000 - Y 6 s 0) / 2600 = c at *
        generalize (Y 6 s 1 + Y 6 s 4) * (3000 - Y 6 s 0) = x at *
        have hc : -1000000 < c.toInt ∧ c.toInt < 1000000 := by
          rw [hd]
          rcases Int.le_total 0 x.toInt with q | q
          · rw [td_p q]; omega
          · rw [td_n q]; omega
        have hs := i32_sub (a := c) (b := Y 6 s 4) (by omega) (by omega)
        by_cases c4 : c ≤ Y 6 s 4
        · rw [if_pos c4, if_pos (by rw [i32_le] at c4 ⊢; show _ ≤ (0 : Int); omega)]
          exact ⟨h, hk⟩
        · rw [if_neg c4, if_neg (by rw [i32_le] at c4 ⊢; show ¬ _ ≤ (0 : Int); omega)]
          exact tu_rel h hk (Or.inr (Or.inr rfl)) (by rw [i32_le] at c4; omega)
      · rw [if_neg c3, if_neg c3]
        exact tu_rel h hk (Or.inr (Or.inl rfl)) hbv
    · rw [if_neg c2, if_neg c2]
      exact tu_rel h hk (Or.inl rfl) hpv
  · rw [if_neg c1, if_neg c1]
    have hw := i32_rng (Y 6 s 0)
    rw [i32_le] at c1
    have e7 : (7300 : Int32).toInt = 7300 := rfl
    have hs := i32_sub (a := Y 6 s 0) (b := 7300) (by omega) (by omega)
    have hd : ((Y 6 s 0 - 7300) / 10).toInt = (Y 6 s 0 - 7300).toInt.tdiv 10 := i32_div (by decide)
    generalize (Y 6 s 0 - 7300) / 10 = c at *
    generalize Y 6 s 0 - 7300 = x at *
    exact ta_rel h hk (by rw [hd, td_p (by omega)]; omega) (by rw [hd, td_p (by omega)]; omega)
theorem ch_b_rel {X Y : MI_} {s : Nat} (h : rl_s X Y s) (hk : sh_k Y s) : rl_s (ch_b X s (Y 6 s 0)) (dr_a Y s) s ∧ sh_k (dr_a Y s) s := by
  have h0 := h
  obtain ⟨e0, e1, e2, e3, e4, e5⟩ := h0
  unfold ch_b dr_a
  rw [e4, e5]
  by_cases c1 : Y 6 s 4 ≤ 0
  · rw [if_pos c1, if_pos c1]
    by_cases c2 : z_in (Y 6 s 0) 1500 6500 = 0
    · rw [if_pos c2]; exact ⟨h, hk⟩
    · rw [if_neg c2]; exact ⟨h, hk⟩
  · rw [if_neg c1, if_neg c1]
    by_cases c2 : z_in (Y 6 s 0) 1500 6500 = 0
    · rw [if_pos c2, if_pos c2]; exact ⟨h, hk⟩
    · rw [if_neg c2, if_neg c2]
      refine ⟨⟨?_, ?_, ?_, ?_, ?_, ?_⟩, ?_⟩
      · rw [u_3_k (by decide), u_3_ne _ _ (by omega)]; exact e0
      · rw [u_3_k (by decide), u_3_ne _ _ (by omega)]; exact e1
      · rw [u_3_k (by decide), u_3_ne _ _ (by omega)]; exact e2
      · rw [u_3_k (by decide), u_3_ne _ _ (by omega)]; exact e3
      · rw [u_3_k (by decide), u_3_ne _ _ (by omega)]; exact e4
      · rw [u_3_eq, u_3_eq]
      · unfold sh_k
        rw [u_3_ne _ _ (by omega), u_3_ne _ _ (by omega), u_3_ne _ _ (by omega), u_3_ne _ _ (by omega)]; exact hk
theorem ch_c_rel {X Y : MI_} {s : Nat} (h : rl_s X (dr_a Y s) s) (hk : sh_k (dr_a Y s) s) : rl_s (ch_c X s) (dr_m Y s) s ∧ sh_k (dr_m Y s) s := by
  have h0 := h
  obtain ⟨e0, e1, e2, e3, e4, e5⟩ := h0
  unfold ch_c dr_m
  generalize dr_a Y s = Z at *
  rw [e1, e5]
  by_cases c1 : Z 6 s 1 ≤ 500
  · rw [if_pos c1, if_pos c1]
    refine ⟨⟨?_, ?_, ?_, ?_, ?_, ?_⟩, hk⟩
    · rw [u_3_k (by decide)]; exact e0
    · rw [u_3_k (by decide)]; exact e1
    · rw [u_3_k (by decide)]; exact e2
    · rw [u_3_k (by decide)]; exact e3
    · rw [u_3_k (by decide)]; exact e4
    · rw [u_3_eq]
  · rw [if_neg c1, if_neg c1]
    refine ⟨⟨?_, ?_, ?_, ?_, ?_, ?_⟩, ?_⟩
    · rw [u_3_k (by decide), u_3_ne _ _ (by omega)]; exact e0
    · rw [u_3_k (by decide), u_3_ne _ _ (by omega)]; exact e1
    · rw [u_3_k (by decide), u_3_ne _ _ (by omega)]; exact e2
    · rw [u_3_k (by decide), u_3_ne _ _ (by omega)]; exact e3
    · rw [u_3_k (by decide), u_3_ne _ _ (by omega)]; exact e4
    · rw [u_3_eq, u_3_eq]
    · unfold sh_k
      rw [u_3_ne _ _ (by omega), u_3_ne _ _ (by omega), u_3_ne _ _ (by omega), u_3_ne _ _ (by omega)]; exact hk
theorem ch_rel {X Y : MI_} {s p : Nat} {pv bv : Int32} (h : rl_s X Y s) (hk : sh_k Y s) (hp : X 35 0 p = pv) (hb : X 36 0 p = bv) (hpv : 0 ≤ pv.toInt) (hbv : 0 ≤ bv.toInt) : rl_s (ch_m X p s) (cg_m Y s pv bv) s ∧ sh_k (cg_m Y s pv bv) s := by
  have a := ch_a_rel h hk hp hb hpv hbv
  have e : X 40 0 s = cg_a Y s pv bv 6 s 0 := (ch_a_k (by decide)).symm.trans a.1.1
  unfold ch_m cg_m
  rw [e]
  have b := ch_b_rel a.1 a.2
  exact ch_c_rel b.1 b.2
