/-! a tick's end: soak, lines, furnaces in their order -/
section RlU
variable {X X' Y Y' : MI_} {T S : ML_} {R : MR_} {sh : SH_} {np nr nj : Nat} {nn : Nat → Nat}
theorem A_in (h : Rl X T Y S R sh np nr nj nn) {p : Nat} (hp : p < np) : in_ X p = Y 6 (6 * p + (nn p - 1)) 0 := by
  have hn := (hs_P h.2.1.1 p hp).2
  unfold in_
  rw [(h.2.2.1 p hp).1, nI_clamp (by omega), show 6 * p + nn p - 1 = 6 * p + (nn p - 1) by omega]
  exact (h.2.2.2.1 p hp (nn p - 1) (by omega)).1.1
theorem A_lan (h : Rl X T Y S R sh np nr nj nn) {f : Nat} (hf : f < 3) : ∀ i, i ≤ 4 → la_n X f i = nI (cs_l Y f (pl_c R f) i)
  | 0, _ => rfl
  | i + 1, hi => by
    obtain ⟨a, b, c, -⟩ := h.2.2.2.2.2.2.1 f hf i (by omega)
    rw [la_n, cs_l, A_lan h hf i (by omega), b, c]
    have e9 : pl_c R f i = (R 15 f i).map (fun q => q.2) := rfl
    rw [e9]
    have h12 := h.1.1.2.2
    cases hr : R 15 f i with
    | none =>
      rw [if_pos (show oI none = -1 from rfl)]
      by_cases q : Y 16 f i = 0
      · rw [if_pos q, if_neg (by decide)]; rfl
      · rw [if_neg q, if_pos rfl]; rfl
    | some q =>
      have e := (a q hr).2
      have eo : oI (some q) = nI q.2 := rfl
      rw [eo, if_neg (nI_m1 (by omega))]
      show (if (if Y 16 f i = 0 then (1 : Int32) else 0) = 0 then nI (cs_l Y f (pl_c R f) i) else nI (cs_l Y f (pl_c R f) i) + 1) = nI (if Y 16 f i = 0 then cs_l Y f (pl_c R f) i + 1 else cs_l Y f (pl_c R f) i)
      by_cases q : Y 16 f i = 0
      · rw [if_pos q, if_neg (by decide), if_pos q, ← nI_add]; rfl
      · rw [if_neg q, if_pos rfl, if_neg q]
theorem A_law (h : Rl X T Y S R sh np nr nj nn) {f : Nat} (hf : f < 3) (z : Int32) : ∀ i, i ≤ 4 → la_w X f z i = if cs_a Y f (pl_c R f) nn z i = true then 0 else 1
  | 0, _ => rfl
  | i + 1, hi => by
    obtain ⟨a, b, c, d⟩ := h.2.2.2.2.2.2.1 f hf i (by omega)
    rw [la_w, cs_a, A_law h hf z i (by omega), b, c, d]
    have e9 : pl_c R f i = (R 15 f i).map (fun q => q.2) := rfl
    unfold cs_c
    rw [e9]
    have h12 := h.1.1.2.2
    cases hr : R 15 f i with
    | none =>
      rw [if_pos (show oI none = -1 from rfl)]
      have e0 : ((none : Option (Nat × Nat)).map (fun q => q.2)).elim false (fun p => decide (Y 16 f i = 0) && decide (Y 6 (6 * p + (nn p - 1)) 0 + Y 17 f i < z)) = false := rfl
      rw [e0, Bool.or_false]
      by_cases q : Y 16 f i = 0
      · rw [if_pos q, if_neg (by decide)]
      · rw [if_neg q, if_pos rfl]
    | some q =>
      have e := (a q hr).2
      have eo : oI (some q) = nI q.2 := rfl
      have e0 : ((some q : Option (Nat × Nat)).map (fun q => q.2)).elim false (fun p => decide (Y 16 f i = 0) && decide (Y 6 (6 * p + (nn p - 1)) 0 + Y 17 f i < z)) = (decide (Y 16 f i = 0) && decide (Y 6 (6 * q.2 + (nn q.2 - 1)) 0 + Y 17 f i < z)) := rfl
      rw [e0, eo, if_neg (nI_m1 (by omega)), nI_clamp (by omega), A_in h e]
      by_cases q1 : Y 16 f i = 0
      · rw [if_pos q1, if_neg (show ¬ (1 : Int32) = 0 by decide)]
        by_cases q2 : cs_a Y f (pl_c R f) nn z i = true
        · rw [if_pos q2, if_pos rfl, q2, Bool.true_or, if_pos rfl]
        · have q3 : cs_a Y f (pl_c R f) nn z i = false := by simpa using q2
          rw [if_neg q2, if_neg (show ¬ (1 : Int32) = 0 by decide), q3, Bool.false_or]
          by_cases q4 : Y 6 (6 * q.2 + (nn q.2 - 1)) 0 + Y 17 f i < z
          · rw [if_pos q4, if_pos (by simp [q1, q4])]
          · rw [if_neg q4, if_neg (by simp [q4])]
      · rw [if_neg q1, if_pos rfl]
        have : decide (Y 16 f i = 0) = false := by simp [q1]
        rw [this, Bool.false_and, Bool.or_false]
theorem lo_c {f : Nat} (h : ∀ j, X' 50 0 j = X 50 0 j) : ∀ i, lo_ X' f i = lo_ X f i
  | 0 => rfl
  | i + 1 => by rw [lo_, lo_, lo_c h i, h]
/-- what is left of a tick behind the steps: the count, and whether the line is over -/
theorem P_cnt (h : Rl X T Y S R sh np nr nj nn) {f : Nat} (hf : f < 3) {r al nl o : Nat} (hR : R 3 f 12 = some (5, r)) (hr : r < nr) (hnl : Y 3 f 6 = nI nl) (hal : al < nl) (hnl8 : nl ≤ 8) (ho : Y 18 f al = nI o) (ho3 : o ≤ 3) (c0 : 0 ≤ (Y 3 f 11).toInt) (c1 : o = 0 → Y 3 f 11 = 0) (c2 : o ≠ 0 → (Y 3 f 11).toInt < (Y 20 f al).toInt) (e55 : X 55 0 f = Y 3 f 11) :
    (∀ k i j, ¬ (k = 55 ∧ i = 0 ∧ j = f) → ¬ (k = 62 ∧ i = 0 ∧ j = r) → tk_5 X f r (Y 19 f al) (nI o) k i j = X k i j) ∧
    (∀ k a b, ¬ (k = 3 ∧ a = f ∧ b = 11) → ¬ (k = 5 ∧ a = r ∧ b = 2) → li_m Y f r al o (pl_c R f) nn k a b = Y k a b) ∧
    tk_5 X f r (Y 19 f al) (nI o) 55 0 f = li_m Y f r al o (pl_c R f) nn 3 f 11 ∧
    tk_5 X f r (Y 19 f al) (nI o) 62 0 r = li_m Y f r al o (pl_c R f) nn 5 r 2 ∧
    (tk_5 X f r (Y 19 f al) (nI o) 62 0 r = 0 ∨ tk_5 X f r (Y 19 f al) (nI o) 62 0 r = 1) ∧
    0 ≤ (li_m Y f r al o (pl_c R f) nn 3 f 11).toInt ∧ (o = 0 → li_m Y f r al o (pl_c R f) nn 3 f 11 = 0) ∧ (o ≠ 0 → (li_m Y f r al o (pl_c R f) nn 3 f 11).toInt ≤ (Y 20 f al).toInt) := by
  obtain ⟨r1, r2, r3, r4, r5, r6, r7⟩ := h.2.2.2.2.2.2.2.1 r hr
  have hk : ∀ k a b, ¬ (k = 3 ∧ a = f ∧ b = 11) → ¬ (k = 5 ∧ a = r ∧ b = 2) → li_m Y f r al o (pl_c R f) nn k a b = Y k a b := fun k a b p q => li_k p q
  have hadd : o ≠ 0 → (Y 3 f 11 + 1).toInt = (Y 3 f 11).toInt + 1 := fun q => by
    have := c2 q
    have h20 := i32_rng (Y 20 f al)
    have e1 : (1 : Int32).toInt = 1 := rfl
    rw [i32_add (by omega) (by omega), e1]
  by_cases o0 : o = 0
  · subst o0
    have ex : tk_5 X f r (Y 19 f al) (nI 0) = X := by
      unfold tk_5
      rw [if_neg (by decide), if_pos (by decide)]
    have ey : li_m Y f r al 0 (pl_c R f) nn = Y := by unfold li_m; rw [if_pos rfl]
    rw [ex, ey]
    exact ⟨fun _ _ _ _ _ => rfl, fun _ _ _ _ _ => rfl, e55, r4, r7, c0, c1, fun q => absurd rfl q⟩
  · by_cases o1 : o = 1
    · subst o1
      have hL := A_lan h hf 4 (Nat.le_refl _)
      have hW := A_law h hf (Y 19 f al - 100) 4 (Nat.le_refl _)
      have hlo := A_load h hf 4 (Nat.le_refl _)
      have hle := cs_l_le (Y := Y) (f := f) (pl := pl_c R f) 4
      have hip := ip_le (pl_c R f) 4
      have elo : ∀ v, lo_ (u_3 X 55 0 f v) f 4 = nI (ip_ (pl_c R f) 4) := fun v => (lo_c (fun j => u_3_k (by decide)) 4).trans hlo
      have ela : la_ X f (Y 19 f al - 100) = if cs_a Y f (pl_c R f) nn (Y 19 f al - 100) 4 = true then -1 else nI (cs_l Y f (pl_c R f) 4) := by
        unfold la_
        rw [hW, hL]
        by_cases q : cs_a Y f (pl_c R f) nn (Y 19 f al - 100) 4 = true
        · rw [if_pos q, if_pos rfl, if_pos q]
        · rw [if_neg q, if_neg (by decide), if_neg q]
      have hx : ∀ k i j, ¬ (k = 55 ∧ i = 0 ∧ j = f) → ¬ (k = 62 ∧ i = 0 ∧ j = r) → tk_5 X f r (Y 19 f al) (nI 1) k i j = X k i j := fun k i j p q => by
        unfold tk_5
        rw [if_pos (show nI 1 = 1 from rfl), u_3_ne _ _ q, u_3_ne _ _ p]
      have x55 : tk_5 X f r (Y 19 f al) (nI 1) 55 0 f = Y 3 f 11 + (if la_ X f (Y 19 f al - 100) ≤ 0 then 0 else 1) := by
        unfold tk_5
        rw [if_pos (show nI 1 = 1 from rfl), u_3_k (by decide), u_3_eq, e55]
      have x62 : tk_5 X f r (Y 19 f al) (nI 1) 62 0 r = (if X 62 0 r = 0 then (if la_ X f (Y 19 f al - 100) = 1 then (if nI (ip_ (pl_c R f) 4) ≤ 1 then 0 else 1) else 0) else 1) := by
        unfold tk_5
        rw [if_pos (show nI 1 = 1 from rfl), u_3_eq, u_3_k (by decide), elo]
      have e62 : (if X 62 0 r = 0 then (0 : Int32) else 1) = X 62 0 r := by
        rcases r7 with q | q
        · rw [q]; rfl
        · rw [q]; rfl
      have z01 : tk_5 X f r (Y 19 f al) (nI 1) 62 0 r = 0 ∨ tk_5 X f r (Y 19 f al) (nI 1) 62 0 r = 1 := by
        rw [x62]
        repeat' split
        all_goals first | exact Or.inl rfl | exact Or.inr rfl
      have ey : li_m Y f r al 1 (pl_c R f) nn = sk_m Y f r al (pl_c R f) nn := by unfold li_m; rw [if_neg (by decide), if_pos rfl]
      refine ⟨hx, hk, ?_⟩
      rw [x55, ey]
      have c2' := c2 (by decide)
      have hadd' := hadd (by decide)
      have h20 := i32_rng (Y 20 f al)
      by_cases ca : cs_a Y f (pl_c R f) nn (Y 19 f al - 100) 4 = true
      · rw [if_pos ca] at ela
        have es : sk_m Y f r al (pl_c R f) nn = Y := by unfold sk_m; rw [if_pos ca]
        rw [es, ela, if_pos (by decide), Int32.add_zero]
        refine ⟨rfl, ?_, z01, c0, fun q => absurd q (by decide), fun _ => by omega⟩
        rw [x62, ela, if_neg (show ¬ (-1 : Int32) = 1 by decide), e62]
        exact r4
      · rw [if_neg ca] at ela
        have es : sk_m Y f r al (pl_c R f) nn = sk_w Y f r (pl_c R f) := by unfold sk_m; rw [if_neg ca]
        rw [es]
        by_cases l0 : cs_l Y f (pl_c R f) 4 = 0
        · have ew : sk_w Y f r (pl_c R f) = Y := by unfold sk_w; rw [if_pos l0]
          rw [l0] at ela
          rw [ew, ela, if_pos (by decide), Int32.add_zero]
          refine ⟨rfl, ?_, z01, c0, fun q => absurd q (by decide), fun _ => by omega⟩
          rw [x62, ela, if_neg (show ¬ nI 0 = 1 by decide), e62]
          exact r4
        · have hpos : ¬ nI (cs_l Y f (pl_c R f) 4) ≤ 0 := mt (nIl0 (by omega)).mp (by omega)
          have y11 : sk_w Y f r (pl_c R f) 3 f 11 = Y 3 f 11 + 1 := by
            unfold sk_w
            rw [if_neg l0]
            split
            · exact u_3_eq _ _
            · split
              · exact u_3_eq _ _
              · rw [u_3_k (by decide)]; exact u_3_eq _ _
          rw [ela, if_neg hpos, y11]
          refine ⟨rfl, ?_, z01, by omega, fun q => absurd q (by decide), fun _ => by omega⟩
          rw [x62, ela]
          by_cases l2 : 2 ≤ cs_l Y f (pl_c R f) 4
          · have ew : sk_w Y f r (pl_c R f) = u_3 Y 3 f 11 (Y 3 f 11 + 1) := by unfold sk_w; rw [if_neg l0, if_pos l2]
            rw [ew, u_3_k (by decide), if_neg (mt (nIe1 (by omega)).mp (by omega)), e62]
            exact r4
          · have l1 : cs_l Y f (pl_c R f) 4 = 1 := by omega
            rw [l1, if_pos (show nI 1 = 1 from rfl)]
            by_cases i1 : ip_ (pl_c R f) 4 ≤ 1
            · have ew : sk_w Y f r (pl_c R f) = u_3 Y 3 f 11 (Y 3 f 11 + 1) := by unfold sk_w; rw [if_neg l0, if_neg l2, if_pos i1]
              rw [ew, u_3_k (by decide), if_pos ((nIl1 (by omega)).mpr i1), e62]
              exact r4
            · have ew : sk_w Y f r (pl_c R f) = u_3 (u_3 Y 3 f 11 (Y 3 f 11 + 1)) 5 r 2 1 := by unfold sk_w; rw [if_neg l0, if_neg l2, if_neg i1]
              rw [ew, u_3_eq, if_neg (mt (nIl1 (by omega)).mp i1)]
              split <;> rfl
    · have ex : tk_5 X f r (Y 19 f al) (nI o) = u_3 X 55 0 f (X 55 0 f + 1) := by
        unfold tk_5
        rw [if_neg (mt (nIe1 (by omega)).mp o1), if_neg (mt (nIl1 (by omega)).mp (by omega))]
      have ey : li_m Y f r al o (pl_c R f) nn = u_3 Y 3 f 11 (Y 3 f 11 + 1) := by unfold li_m; rw [if_neg o0, if_neg o1]
      have c2' := c2 o0
      have hadd' := hadd o0
      rw [ex]
      refine ⟨fun k i j p q => u_3_ne _ _ p, hk, ?_⟩
      rw [ey, u_3_eq, u_3_eq, u_3_k (by decide), u_3_k (by decide), e55]
      exact ⟨rfl, r4, r7, by omega, fun q => absurd q o0, fun _ => by omega⟩
theorem tk_6v {f al o : Nat} {b v : Int32} {r : Nat} {pl : Nat → Option Nat} (ho3 : o ≤ 3) (e55 : X' 55 0 f = li_m Y f r al o pl nn 3 f 11) (e20 : li_m Y f r al o pl nn 20 f al = b) (hle : o ≠ 0 → (li_m Y f r al o pl nn 3 f 11).toInt ≤ b.toInt) (e44 : X 44 0 f = Y 3 f 10) : tk_6 X' f b (nI o) (tk_o X f (Y 19 f al) (nI o)) = li_v Y f r al o pl nn := by
  unfold tk_6 tk_o li_v
  rw [e44, e55, e20]
  by_cases o0 : o = 0
  · subst o0
    rw [if_pos (show nI 0 = 0 from rfl), if_pos rfl, if_pos (show nI 0 ≤ 0 by decide)]
    by_cases q : Y 3 f 10 = Y 19 f al
    · rw [if_pos q, if_neg (by decide)]
    · rw [if_neg q, if_pos rfl]
  · have hle' := hle o0
    rw [if_neg (mt (nIe0 (by omega)).mp o0), if_pos rfl, if_neg o0, if_neg (mt (nIl0 (by omega)).mp (by omega))]
    by_cases q : li_m Y f r al o pl nn 3 f 11 = b
    · rw [if_pos q, if_neg (by rw [q, i32_lt]; omega)]
    · rw [if_neg q, if_pos (by rw [i32_lt]; rcases Int.lt_or_eq_of_le hle' with g | g; exact g; exact absurd (Int32.toInt_inj.mp g) q)]
end RlU
