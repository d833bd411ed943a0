/-! jobs: both tables are the same -/
theorem jb_or : ∀ d, d < 128 → ∀ k, k < 7 → d / 2 ^ k % 2 = 0 → d ||| 2 ^ k = d + 2 ^ k := by decide +kernel
theorem jb_lt : ∀ n, n < 8 → ∀ d, d < 2 ^ n → ∀ k, k < n → d / 2 ^ k % 2 = 0 → d + 2 ^ k < 2 ^ n := by decide +kernel
theorem jb_all : ∀ n, n < 8 → ∀ k, k < n → (2 ^ n - 1) / 2 ^ k % 2 = 1 := by decide +kernel
def jb_any (n d : Nat) : Bool := (List.range n).any (fun k => d / 2 ^ k % 2 == 0)
theorem jb_ex0 : ∀ n, n < 8 → ∀ d, d < 2 ^ n - 1 → jb_any n d = true := by decide +kernel
theorem jb_ex {n d : Nat} (hn : n < 8) (hd : d < 2 ^ n - 1) : ∃ k, k < n ∧ d / 2 ^ k % 2 = 0 := by
  have h := jb_ex0 n hn d hd
  unfold jb_any at h
  obtain ⟨k, h1, h2⟩ := List.any_eq_true.mp h
  exact ⟨k, List.mem_range.mp h1, by simpa using h2⟩
def jb_c (d : Nat) : Nat := d % 2 + d / 2 % 2 + d / 4 % 2 + d / 8 % 2 + d / 16 % 2 + d / 32 % 2 + d / 64 % 2
theorem jb_cs : ∀ d, d < 128 → ∀ k, k < 7 → d / 2 ^ k % 2 = 0 → jb_c (d + 2 ^ k) = jb_c d + 1 := by decide +kernel
theorem jb_cl : ∀ n, n < 8 → ∀ d, d < 2 ^ n → jb_c d < n → d < 2 ^ n - 1 := by decide +kernel
section Jb
variable {X Z : MI_} {nj : Nat}
/-- times and dues of both, within their bounds -/
def jt_ (X Z : MI_) (nj : Nat) : Prop := ∀ j, j < nj → X 66 0 j = Z 11 0 j ∧ X 67 0 j = Z 12 0 j ∧ 1 ≤ (Z 11 0 j).toInt ∧ (Z 11 0 j).toInt ≤ 1000 ∧ 0 ≤ (Z 12 0 j).toInt ∧ (Z 12 0 j).toInt ≤ 10000
theorem en_el (h : jt_ X Z nj) {d k : Nat} (hk : k < nj) : ∀ c, c ≤ nj → en_ X d k c = el_ Z d k c
  | 0, _ => (h k hk).1
  | c + 1, hc => by
    rw [en_, el_, en_el h hk c (by omega), (h c (by omega)).1]
    by_cases q : d / 2 ^ c % 2 = 1
    · rw [if_pos q, if_pos q]
    · rw [if_neg q, if_neg q]; exact Int32.add_zero _
theorem el_b (h : jt_ X Z nj) (h7 : nj ≤ 7) {d k : Nat} (hk : k < nj) (hd : d / 2 ^ k % 2 = 0) : ∀ c, c ≤ nj → 1 ≤ (el_ Z d k c).toInt ∧ (el_ Z d k c).toInt ≤ 1000 * c + (if k < c then 0 else 1000)
  | 0, _ => by
    have := h k hk
    rw [if_neg (by omega)]
    show 1 ≤ (Z 11 0 k).toInt ∧ (Z 11 0 k).toInt ≤ 1000 * ((0 : Nat) : Int) + 1000
    omega
  | c + 1, hc => by
    have ih := el_b h h7 hk hd c (by omega)
    have hb := h c (by omega)
    rw [el_]
    by_cases q : d / 2 ^ c % 2 = 1
    · have hne : c ≠ k := fun e => by rw [e, hd] at q; cases q
      rw [if_pos q]
      by_cases q2 : k < c
      · rw [if_pos q2] at ih
        rw [if_pos (show k < c + 1 by omega), i32_add (by omega) (by omega)]
        omega
      · rw [if_neg q2] at ih
        rw [if_neg (show ¬ k < c + 1 by omega), i32_add (by omega) (by omega)]
        omega
    · rw [if_neg q]
      by_cases q2 : k < c
      · rw [if_pos q2] at ih
        rw [if_pos (show k < c + 1 by omega)]
        omega
      · rw [if_neg q2] at ih
        by_cases q3 : k < c + 1
        · rw [if_pos q3]; omega
        · rw [if_neg q3]; omega
def lp_ (Z : MI_) (nj d k : Nat) : Int32 := if 0 < el_ Z d k nj - Z 12 0 k then el_ Z d k nj - Z 12 0 k else 0
theorem lw_lp {d k : Nat} : lw_ Z nj d k = lp_ Z nj d k + Z 13 0 (d ||| 2 ^ k) := rfl
theorem lb_lp (h : jt_ X Z nj) (h7 : nj ≤ 7) {d k : Nat} (hk : k < nj) (hd : d / 2 ^ k % 2 = 0) : lb_ X nj d k = lp_ Z nj d k ∧ 0 ≤ (lp_ Z nj d k).toInt ∧ (lp_ Z nj d k).toInt ≤ 7000 := by
  have hb := el_b h h7 hk hd nj (Nat.le_refl _)
  rw [if_pos hk] at hb
  obtain ⟨h1, h2, h3, h4, h5, h6⟩ := h k hk
  unfold lb_ lp_
  rw [en_el h hk nj (Nat.le_refl _), h2]
  generalize el_ Z d k nj = e at *
  generalize Z 12 0 k = u at *
  have hs := i32_sub (a := e) (b := u) (by omega) (by omega)
  have e0 : (0 : Int32).toInt = 0 := rfl
  by_cases q : e ≤ u
  · rw [if_pos q, if_neg (by rw [i32_lt, hs, e0]; rw [i32_le] at q; omega)]
    exact ⟨rfl, by rw [e0]; omega, by rw [e0]; omega⟩
  · rw [if_neg q, if_pos (by rw [i32_lt, hs, e0]; rw [i32_le] at q; omega)]
    rw [i32_le] at q
    exact ⟨rfl, by omega, by omega⟩
theorem el_c {Z' : MI_} (h : ∀ j, Z' 11 0 j = Z 11 0 j) {d k : Nat} : ∀ c, el_ Z' d k c = el_ Z d k c
  | 0 => h k
  | c + 1 => by rw [el_, el_, el_c h c, h]
theorem lp_c {Z' : MI_} (h1 : ∀ j, Z' 11 0 j = Z 11 0 j) (h2 : ∀ j, Z' 12 0 j = Z 12 0 j) {d k : Nat} : lp_ Z' nj d k = lp_ Z nj d k := by
  unfold lp_; rw [el_c h1, h2]
theorem lw_c {Z' : MI_} (h1 : ∀ j, Z' 11 0 j = Z 11 0 j) (h2 : ∀ j, Z' 12 0 j = Z 12 0 j) (h3 : ∀ j, Z' 13 0 j = Z 13 0 j) {d k : Nat} : lw_ Z' nj d k = lw_ Z nj d k := by
  rw [lw_lp, lw_lp, lp_c h1 h2, h3]
theorem nx_c {Z' : MI_} (h1 : ∀ j, Z' 11 0 j = Z 11 0 j) (h2 : ∀ j, Z' 12 0 j = Z 12 0 j) (h3 : ∀ j, Z' 13 0 j = Z 13 0 j) {d : Nat} : ∀ c, nx_ Z' nj d c = nx_ Z nj d c
  | 0 => rfl
  | c + 1 => by rw [nx_, nx_, nx_c h1 h2 h3 c, lw_c h1 h2 h3]
theorem en_c {X' : MI_} (h : ∀ j, X' 66 0 j = X 66 0 j) {d k : Nat} : ∀ c, en_ X' d k c = en_ X d k c
  | 0 => h k
  | c + 1 => by rw [en_, en_, en_c h c, h]
theorem lb_c {X' : MI_} (h1 : ∀ j, X' 66 0 j = X 66 0 j) (h2 : ∀ j, X' 67 0 j = X 67 0 j) {d k : Nat} : lb_ X' nj d k = lb_ X nj d k := by
  unfold lb_; rw [en_c h1, h2]
theorem wk_o {W : MI_} {d j : Nat} (h : j ≠ d) : ∀ c, wk_ W nj d c 68 0 j = W 68 0 j
  | 0 => rfl
  | c + 1 => (u_3_ne _ _ (by omega)).trans (wk_o h c)
/-- the class's next job: the first of the least -/
theorem nx_spec {V : MI_} {d : Nat} (hb : ∀ k, k < nj → d / 2 ^ k % 2 = 0 → (lw_ V nj d k).toInt < 2147483647) : ∀ c, c ≤ nj → ((∀ k, k < c → ¬ d / 2 ^ k % 2 = 0) ∧ nx_ V nj d c = (0, 2147483647)) ∨ ((nx_ V nj d c).1 < c ∧ d / 2 ^ (nx_ V nj d c).1 % 2 = 0 ∧ (nx_ V nj d c).2 = lw_ V nj d (nx_ V nj d c).1 ∧ (∀ k, k < c → d / 2 ^ k % 2 = 0 → (nx_ V nj d c).2.toInt ≤ (lw_ V nj d k).toInt) ∧ (∀ k, k < (nx_ V nj d c).1 → d / 2 ^ k % 2 = 0 → (nx_ V nj d c).2.toInt < (lw_ V nj d k).toInt))
  | 0, _ => Or.inl ⟨fun k hk => by omega, rfl⟩
  | c + 1, hc => by
    have ih := nx_spec hb c (by omega)
    rw [nx_]
    by_cases q : d / 2 ^ c % 2 = 0
    · rw [if_pos q]
      have hc9 := hb c (by omega) q
      rcases ih with ⟨i1, i2⟩ | ⟨i1, i2, i3, i4, i5⟩
      · have hlt : ¬ (nx_ V nj d c).2 ≤ lw_ V nj d c := by
          rw [i2, i32_le]
          show ¬ (2147483647 : Int) ≤ _
          omega
        rw [if_neg hlt]
        refine Or.inr ⟨Nat.lt_succ_self c, q, rfl, fun k hk hd => ?_, fun k hk hd => absurd hd (i1 k hk)⟩
        by_cases e : k = c
        · subst e; exact Int.le_refl _
        · exact absurd hd (i1 k (by omega))
      · by_cases q2 : (nx_ V nj d c).2 ≤ lw_ V nj d c
        · rw [if_pos q2]
          refine Or.inr ⟨by omega, i2, i3, fun k hk hd => ?_, i5⟩
          by_cases e : k = c
          · subst e; exact i32_le.mp q2
          · exact i4 k (by omega) hd
        · rw [if_neg q2]
          rw [i32_le] at q2
          refine Or.inr ⟨Nat.lt_succ_self c, q, rfl, fun k hk hd => ?_, fun k hk hd => ?_⟩
          · by_cases e : k = c
            · subst e; exact Int.le_refl _
            · have := i4 k (by omega) hd
              show (lw_ V nj d c).toInt ≤ _
              omega
          · have := i4 k hk hd
            show (lw_ V nj d c).toInt < _
            omega
    · rw [if_neg q]
      rcases ih with ⟨i1, i2⟩ | ⟨i1, i2, i3, i4, i5⟩
      · refine Or.inl ⟨fun k hk => ?_, i2⟩
        by_cases e : k = c
        · subst e; exact q
        · exact i1 k (by omega)
      · refine Or.inr ⟨by omega, i2, i3, fun k hk hd => ?_, i5⟩
        by_cases e : k = c
        · subst e; exact absurd hd q
        · exact i4 k (by omega) hd
/-- the reference's weight of a set: the least -/
theorem wk_spec {W : MI_} {d : Nat} (hd128 : d < 128) (h7 : nj ≤ 7) (h0 : (W 68 0 d).toInt ≤ 1000000) : ∀ c, c ≤ nj → (wk_ W nj d c 68 0 d).toInt ≤ (W 68 0 d).toInt ∧ (∀ k, k < c → d / 2 ^ k % 2 = 0 → (wk_ W nj d c 68 0 d).toInt ≤ (lb_ W nj d k + W 68 0 (d ||| 2 ^ k)).toInt) ∧ (wk_ W nj d c 68 0 d = W 68 0 d ∨ ∃ k, k < c ∧ d / 2 ^ k % 2 = 0 ∧ wk_ W nj d c 68 0 d = lb_ W nj d k + W 68 0 (d ||| 2 ^ k))
  | 0, _ => ⟨Int.le_refl _, fun k hk => by omega, Or.inl rfl⟩
  | c + 1, hc => by
    obtain ⟨i1, i2, i3⟩ := wk_spec hd128 h7 h0 c (by omega)
    rw [wk_, u_3_eq]
    have eb : by_ (wk_ W nj d c) nj d c = if d / 2 ^ c % 2 = 1 then 1000000 else lb_ W nj d c + W 68 0 (d ||| 2 ^ c) := by
      unfold by_
      by_cases q : d / 2 ^ c % 2 = 1
      · rw [if_pos q, if_pos q]
      · rw [if_neg q, if_neg q, lb_c (X := W) (fun j => wk_k (by decide) c) (fun j => wk_k (by decide) c), wk_o (by
          rw [jb_or d hd128 c (by omega) (by omega)]
          have := Nat.one_le_two_pow (n := c)
          omega)]
    rw [eb]
    by_cases q : d / 2 ^ c % 2 = 1
    · rw [if_pos q]
      have e1 : (1000000 : Int32).toInt = 1000000 := rfl
      rw [if_pos (by rw [i32_le, e1]; omega)]
      refine ⟨i1, fun k hk hd => ?_, ?_⟩
      · by_cases e : k = c
        · subst e; omega
        · exact i2 k (by omega) hd
      · rcases i3 with g | ⟨k, g1, g2, g3⟩
        · exact Or.inl g
        · exact Or.inr ⟨k, by omega, g2, g3⟩
    · rw [if_neg q]
      have q0 : d / 2 ^ c % 2 = 0 := by omega
      by_cases q2 : wk_ W nj d c 68 0 d ≤ lb_ W nj d c + W 68 0 (d ||| 2 ^ c)
      · rw [if_pos q2]
        refine ⟨i1, fun k hk hd => ?_, ?_⟩
        · by_cases e : k = c
          · subst e; exact i32_le.mp q2
          · exact i2 k (by omega) hd
        · rcases i3 with g | ⟨k, g1, g2, g3⟩
          · exact Or.inl g
          · exact Or.inr ⟨k, by omega, g2, g3⟩
      · rw [if_neg q2]
        rw [i32_le] at q2
        refine ⟨by omega, fun k hk hd => ?_, Or.inr ⟨c, Nat.lt_succ_self c, q0, rfl⟩⟩
        by_cases e : k = c
        · subst e; exact Int.le_refl _
        · have := i2 k (by omega) hd
          omega
/-- one set of jobs: both weights alike, where those of all larger sets are -/
theorem jb_one {W V : MI_} {d : Nat} (hT : jt_ X Z nj) (h7 : nj ≤ 7) (hd : d < 2 ^ nj - 1) (w1 : ∀ j, W 66 0 j = X 66 0 j) (w2 : ∀ j, W 67 0 j = X 67 0 j) (v1 : ∀ j, V 11 0 j = Z 11 0 j) (v2 : ∀ j, V 12 0 j = Z 12 0 j) (w0 : W 68 0 d = 1000000) (ht : ∀ e, d < e → e < 2 ^ nj → W 68 0 e = V 13 0 e ∧ 0 ≤ (V 13 0 e).toInt ∧ (V 13 0 e).toInt ≤ 7000 * ((2 ^ nj - 1 : Nat) - e : Int)) :
    (nx_ V nj d nj).1 < nj ∧ d / 2 ^ (nx_ V nj d nj).1 % 2 = 0 ∧ wk_ W nj d nj 68 0 d = lw_ V nj d (nx_ V nj d nj).1 ∧ 0 ≤ (lw_ V nj d (nx_ V nj d nj).1).toInt ∧ (lw_ V nj d (nx_ V nj d nj).1).toInt ≤ 7000 * ((2 ^ nj - 1 : Nat) - d : Int) ∧ ∀ k, k < (nx_ V nj d nj).1 → d / 2 ^ k % 2 = 0 → (lw_ V nj d (nx_ V nj d nj).1).toInt < (lw_ V nj d k).toInt := by
  have hp := q_pow h7
  have hv : ∀ k, k < nj → d / 2 ^ k % 2 = 0 → lb_ W nj d k + W 68 0 (d ||| 2 ^ k) = lw_ V nj d k ∧ 0 ≤ (lw_ V nj d k).toInt ∧ (lw_ V nj d k).toInt ≤ 7000 * ((2 ^ nj - 1 : Nat) - d : Int) := by
    intro k hk hc
    have ho := jb_or d (by omega) k (by omega) hc
    have hl := jb_lt nj (by omega) d (by omega) k hk hc
    have h1 := Nat.one_le_two_pow (n := k)
    obtain ⟨t1, t2, t3⟩ := ht (d + 2 ^ k) (by omega) hl
    obtain ⟨l1, l2, l3⟩ := lb_lp hT h7 hk hc
    rw [lw_lp, lp_c v1 v2, lb_c w1 w2, l1, ho, t1]
    have ha := i32_add (a := lp_ Z nj d k) (b := V 13 0 (d + 2 ^ k)) (by omega) (by omega)
    exact ⟨rfl, by omega, by omega⟩
  have hbig : ∀ k, k < nj → d / 2 ^ k % 2 = 0 → (lw_ V nj d k).toInt < 1000000 := fun k hk hc => by
    have := (hv k hk hc).2.2
    omega
  obtain ⟨k0, k1, k2⟩ := jb_ex (n := nj) (by omega) hd
  have e6 : (1000000 : Int32).toInt = 1000000 := rfl
  rcases nx_spec (V := V) (d := d) (fun k hk hc => by have := hbig k hk hc; omega) nj (Nat.le_refl _) with ⟨i1, -⟩ | ⟨i1, i2, i3, i4, i5⟩
  · exact absurd k2 (i1 k0 k1)
  · obtain ⟨g1, g2, g3⟩ := wk_spec (W := W) (nj := nj) (d := d) (by omega) h7 (by rw [w0, e6]; omega) nj (Nat.le_refl _)
    have hn := hv _ i1 i2
    have hn9 := hbig _ i1 i2
    have g2' := g2 _ i1 i2
    rw [hn.1] at g2'
    refine ⟨i1, i2, ?_, hn.2.1, hn.2.2, fun k hk hc => by rw [← i3]; exact i5 k hk hc⟩
    rcases g3 with g | ⟨k, q1, q2, q3⟩
    · exfalso
      rw [g, w0, e6] at g2'
      omega
    · rw [(hv k q1 q2).1] at q3
      have := i4 k q1 q2
      rw [i3] at this
      rw [q3] at g2' ⊢
      exact Int32.toInt_inj.mp (by omega)
theorem wg_66 {c : Nat} (j : Nat) : wg_ X nj c 66 0 j = X 66 0 j := wg_k (by decide) c
theorem wg_67 {c : Nat} (j : Nat) : wg_ X nj c 67 0 j = X 67 0 j := wg_k (by decide) c
theorem pw_11 {c : Nat} (j : Nat) : pw_ Z nj c 11 0 j = Z 11 0 j := pw_k (by decide) c
theorem pw_12 {c : Nat} (j : Nat) : pw_ Z nj c 12 0 j = Z 12 0 j := pw_k (by decide) c
theorem wg_o {c d : Nat} (h : 2 ^ nj - 1 - c ≠ d) : wg_ X nj (c + 1) 68 0 d = wg_ X nj c 68 0 d := by
  rw [wg_, wk_o (Ne.symm h), u_3_ne _ _ (by omega)]
theorem jb_tab (hT : jt_ X Z nj) (h7 : nj ≤ 7) : ∀ c, c ≤ 2 ^ nj - 1 → ∀ d, 2 ^ nj - 1 - c ≤ d → d < 2 ^ nj → wg_ X nj (c + 1) 68 0 d = pw_ Z nj c 13 0 d ∧ 0 ≤ (pw_ Z nj c 13 0 d).toInt ∧ (pw_ Z nj c 13 0 d).toInt ≤ 7000 * ((2 ^ nj - 1 : Nat) - d : Int)
  | 0, _ => by
    intro d hd hd2
    have e : d = 2 ^ nj - 1 := by omega
    subst e
    have hp := q_pow h7
    have ez : pw_ Z nj 0 13 0 (2 ^ nj - 1) = 0 := u_3_eq _ _
    rw [ez]
    have e0 : (0 : Int32).toInt = 0 := rfl
    refine ⟨?_, by rw [e0]; omega, by rw [e0]; omega⟩
    rw [wg_]
    have hw : u_3 (wg_ X nj 0) 68 0 (2 ^ nj - 1 - 0) (if (0 : Nat) = 0 then (0 : Int32) else 1000000) 68 0 (2 ^ nj - 1) = 0 := by
      rw [if_pos rfl, Nat.sub_zero, u_3_eq]
    obtain ⟨g1, g2, g3⟩ := wk_spec (W := u_3 (wg_ X nj 0) 68 0 (2 ^ nj - 1 - 0) (if (0 : Nat) = 0 then (0 : Int32) else 1000000)) (nj := nj) (d := 2 ^ nj - 1) (by omega) h7 (by rw [hw, e0]; omega) nj (Nat.le_refl _)
    rw [Nat.sub_zero] at g3 ⊢
    rw [Nat.sub_zero] at hw
    rcases g3 with g | ⟨k, q1, q2, -⟩
    · rw [g, hw]
    · have := jb_all nj (by omega) k q1
      omega
  | c + 1, hc => by
    intro d hd hd2
    have ih := jb_tab hT h7 c (by omega)
    have hp := q_pow h7
    by_cases e : d = 2 ^ nj - 2 - c
    · have e2 : 2 ^ nj - 1 - (c + 1) = d := by omega
      rw [wg_, e2, if_neg (by omega : ¬ c + 1 = 0), pw_, ← e, u_3_eq]
      have := jb_one (X := X) (Z := Z) (W := u_3 (wg_ X nj (c + 1)) 68 0 d 1000000) (V := pw_ Z nj c) (nj := nj) (d := d) hT h7 (by omega) (fun j => (u_3_k (by decide)).trans (wg_66 j)) (fun j => (u_3_k (by decide)).trans (wg_67 j)) pw_11 pw_12 (u_3_eq _ _) (fun e' h1 h2 => by
        rw [u_3_ne _ _ (by omega)]
        exact ih e' (by omega) h2)
      exact ⟨this.2.2.1, this.2.2.2.1, this.2.2.2.2.1⟩
    · rw [wg_o (by omega), pw_, u_3_ne _ _ (by omega)]
      exact ih d (by omega) hd2
theorem jb_full (hT : jt_ X Z nj) (h7 : nj ≤ 7) {d : Nat} (hd : d < 2 ^ nj) : wg_ X nj (2 ^ nj) 68 0 d = pw_ Z nj (2 ^ nj - 1) 13 0 d ∧ 0 ≤ (pw_ Z nj (2 ^ nj - 1) 13 0 d).toInt ∧ (pw_ Z nj (2 ^ nj - 1) 13 0 d).toInt ≤ 7000 * ((2 ^ nj - 1 : Nat) - d : Int) := by
  have h1 := q_pow1 nj
  have := jb_tab hT h7 (2 ^ nj - 1) (Nat.le_refl _) d (by omega) hd
  rw [show 2 ^ nj - 1 + 1 = 2 ^ nj by omega] at this
  exact this
/-- a set that isn't all: the next job of the class is the first that the reference finds -/
theorem jb_next (hT : jt_ X Z nj) (h7 : nj ≤ 7) {d : Nat} (hd : d < 2 ^ nj - 1) : (nx_ (pw_ Z nj (2 ^ nj - 1)) nj d nj).1 < nj ∧ d / 2 ^ (nx_ (pw_ Z nj (2 ^ nj - 1)) nj d nj).1 % 2 = 0 ∧ lb_ (wg_ X nj (2 ^ nj)) nj d (nx_ (pw_ Z nj (2 ^ nj - 1)) nj d nj).1 + wg_ X nj (2 ^ nj) 68 0 (d ||| 2 ^ (nx_ (pw_ Z nj (2 ^ nj - 1)) nj d nj).1) = wg_ X nj (2 ^ nj) 68 0 d ∧ ∀ k, k < (nx_ (pw_ Z nj (2 ^ nj - 1)) nj d nj).1 → d / 2 ^ k % 2 = 1 ∨ ¬ lb_ (wg_ X nj (2 ^ nj)) nj d k + wg_ X nj (2 ^ nj) 68 0 (d ||| 2 ^ k) = wg_ X nj (2 ^ nj) 68 0 d := by
  have hp := q_pow h7
  have hone := jb_one (X := X) (Z := Z) (W := u_3 (wg_ X nj (2 ^ nj)) 68 0 d 1000000) (V := pw_ Z nj (2 ^ nj - 1)) (nj := nj) (d := d) hT h7 hd (fun j => (u_3_k (by decide)).trans (wg_66 j)) (fun j => (u_3_k (by decide)).trans (wg_67 j)) pw_11 pw_12 (u_3_eq _ _) (fun e' h1 h2 => by
    rw [u_3_ne _ _ (by omega)]
    exact jb_full hT h7 h2)
  -- what the table holds at d
  have hst : wg_ X nj (2 ^ nj) 68 0 d = lw_ (pw_ Z nj (2 ^ nj - 1)) nj d (nx_ (pw_ Z nj (2 ^ nj - 1)) nj d nj).1 := by
    have hk := jb_tab hT h7 (2 ^ nj - 2 - d) (by omega)
    have hsame : ∀ e, wg_ X nj (2 ^ nj - 1 - d) 66 0 e = X 66 0 e := fun e => wg_66 e
    have hc : ∀ c, 2 ^ nj - 1 - d ≤ c → c ≤ 2 ^ nj - 1 → wg_ X nj (c + 1) 68 0 d = wg_ X nj (2 ^ nj - 1 - d + 1) 68 0 d := by
      intro c h1 h2
      induction c with
      | zero => rw [show 2 ^ nj - 1 - d = 0 by omega]
      | succ c ih =>
        by_cases e : 2 ^ nj - 1 - d = c + 1
        · rw [e]
        · rw [wg_o (by omega)]
          exact ih (by omega) (by omega)
    have h1 := q_pow1 nj
    have hfin := hc (2 ^ nj - 1) (by omega) (Nat.le_refl _)
    rw [show 2 ^ nj - 1 + 1 = 2 ^ nj by omega] at hfin
    have hpd := (jb_full hT h7 (d := d) (by omega)).1
    rw [hfin, wg_, show 2 ^ nj - 1 - (2 ^ nj - 1 - d) = d by omega, if_neg (by omega : ¬ 2 ^ nj - 1 - d = 0)]
    -- both weights of d over the same larger sets
    have ha := jb_one (X := X) (Z := Z) (W := u_3 (wg_ X nj (2 ^ nj - 1 - d)) 68 0 d 1000000) (V := pw_ Z nj (2 ^ nj - 1)) (nj := nj) (d := d) hT h7 hd (fun j => (u_3_k (by decide)).trans (wg_66 j)) (fun j => (u_3_k (by decide)).trans (wg_67 j)) pw_11 pw_12 (u_3_eq _ _) (fun e' g1 g2 => by
      rw [u_3_ne _ _ (by omega)]
      have hf := jb_full hT h7 (d := e') g2
      refine ⟨?_, hf.2⟩
      rw [← hf.1]
      have hup : ∀ c, 2 ^ nj - 1 - d ≤ c → c ≤ 2 ^ nj → wg_ X nj c 68 0 e' = wg_ X nj (2 ^ nj - 1 - d) 68 0 e' := by
        intro c h1 h2
        induction c with
        | zero => rw [show 2 ^ nj - 1 - d = 0 by omega]
        | succ c ih =>
          by_cases e : 2 ^ nj - 1 - d = c + 1
          · rw [e]
          · rw [wg_o (by omega)]
            exact ih (by omega) (by omega)
      exact (hup (2 ^ nj) (by omega) (Nat.le_refl _)).symm)
    exact ha.2.2.1
  obtain ⟨o1, o2, o3, o4, o5, o6⟩ := hone
  have hval : ∀ k, k < nj → d / 2 ^ k % 2 = 0 → lb_ (wg_ X nj (2 ^ nj)) nj d k + wg_ X nj (2 ^ nj) 68 0 (d ||| 2 ^ k) = lw_ (pw_ Z nj (2 ^ nj - 1)) nj d k := by
    intro k hk hc
    have ho := jb_or d (by omega) k (by omega) hc
    have hl := jb_lt nj (by omega) d (by omega) k hk hc
    rw [lw_lp, lp_c (Z := Z) pw_11 pw_12, lb_c (X := X) wg_66 wg_67, (lb_lp hT h7 hk hc).1, ho, (jb_full hT h7 hl).1]
  refine ⟨o1, o2, ?_, fun k hk => ?_⟩
  · rw [hval _ o1 o2, hst]
  · by_cases q : d / 2 ^ k % 2 = 1
    · exact Or.inl q
    · have q0 : d / 2 ^ k % 2 = 0 := by omega
      refine Or.inr (fun g => ?_)
      rw [hval k (by omega) q0, hst] at g
      have := o6 k hk q0
      rw [g] at this
      omega
end Jb
