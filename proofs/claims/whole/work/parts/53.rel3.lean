/-! what binds class and reference -/
def oI (r : Option (Nat × Nat)) : Int32 := match r with
  | none => -1
  | some q => nI q.2
theorem oI_none {r : Option (Nat × Nat)} (h : r = none) : oI r = -1 := by rw [h]; rfl
theorem oI_some {r : Option (Nat × Nat)} {q : Nat × Nat} (h : r = some q) : oI r = nI q.2 := by rw [h]; rfl
theorem oI_iff {r : Option (Nat × Nat)} (h : ∀ q, r = some q → q.2 < 1000) : oI r = -1 ↔ r = none := by
  cases r with
  | none => exact ⟨fun _ => rfl, fun _ => rfl⟩
  | some q => exact ⟨fun e => absurd e (nI_m1 (by have := h q rfl; omega)), fun e => by cases e⟩
def rl_n (X Y : MI_) (np nr nj : Nat) : Prop := (X 7 0 0 = nI np ∧ Y 1 0 4 = nI np ∧ np ≤ 12) ∧ (X 7 0 28 = nI nr ∧ Y 1 0 5 = nI nr ∧ nr ≤ 100) ∧ (X 7 0 35 = nI nj ∧ Y 2 0 4 = nI nj ∧ nj ≤ 7)
def rl_p (X : MI_) (T : ML_) (Y : MI_) (S : ML_) (R : MR_) (nr : Nat) (nn : Nat → Nat) (p : Nat) : Prop := X 31 0 p = nI (nn p) ∧ X 32 0 p = Y 4 p 1 ∧ X 33 0 p = Y 4 p 3 ∧ X 34 0 p = Y 4 p 4 ∧ X 35 0 p = Y 4 p 5 ∧ X 36 0 p = Y 4 p 6 ∧ T 37 0 p = S 4 p 7 ∧ Y 4 p 0 = nI p ∧ Y 4 p 8 = (if X 38 0 p = -1 then 0 else 1) ∧ X 39 0 p = oI (R 4 p 9) ∧ (∀ q, R 4 p 9 = some q → q.1 = 5 ∧ q.2 < nr) ∧ 0 ≤ (Y 4 p 5).toInt ∧ 0 ≤ (Y 4 p 6).toInt
def rl_l (X Y : MI_) (f l : Nat) : Prop := X 47 0 (8 * f + l) = Y 18 f l ∧ X 48 0 (8 * f + l) = Y 19 f l ∧ X 49 0 (8 * f + l) = Y 20 f l ∧ (∃ o, o ≤ 3 ∧ Y 18 f l = nI o) ∧ 1 ≤ (Y 20 f l).toInt
def rl_i (X Y : MI_) (R : MR_) (np f i : Nat) : Prop := (∀ q, R 15 f i = some q → q.1 = 4 ∧ q.2 < np) ∧ X 50 0 (4 * f + i) = oI (R 15 f i) ∧ X 51 0 (4 * f + i) = (if Y 16 f i = 0 then 1 else 0) ∧ X 52 0 (4 * f + i) = Y 17 f i
def rl_f (X Y : MI_) (nr f : Nat) : Prop := X 44 0 f = Y 3 f 10 ∧ X 45 0 f = Y 3 f 8 ∧ X 46 0 f = Y 3 f 6 ∧ (∃ nl, nl ≤ 8 ∧ Y 3 f 6 = nI nl ∧ ∀ l, l < nl → rl_l X Y f l) ∧ X 57 0 f = Y 3 f 9 ∧ (∃ s, s ≤ nr ∧ Y 3 f 9 = nI s)
def rl_c (X Y : MI_) (R : MR_) (nr f : Nat) : Prop := (R 3 f 12 = none ∧ X 53 0 f = 0 ∧ Y 3 f 11 = 0) ∨ (∃ r al nl, R 3 f 12 = some (5, r) ∧ r < nr ∧ X 53 0 f = 1 ∧ X 56 0 f = nI r ∧ X 59 0 r = nI f ∧ X 61 0 r = 0 ∧ Y 3 f 6 = nI nl ∧ nl ≤ 8 ∧ al < nl ∧ X 54 0 f = nI al ∧ Y 3 f 7 = nI al ∧ X 55 0 f = Y 3 f 11 ∧ 0 ≤ (Y 3 f 11).toInt ∧ (Y 18 f al = 0 → Y 3 f 11 = 0) ∧ (¬ Y 18 f al = 0 → (Y 3 f 11).toInt < (Y 20 f al).toInt))
def rl_r (X Y : MI_) (r : Nat) : Prop := X 59 0 r = Y 5 r 0 ∧ X 60 0 r = Y 5 r 4 ∧ X 61 0 r = Y 5 r 5 ∧ X 62 0 r = Y 5 r 2 ∧ X 63 0 r = Y 5 r 1 ∧ X 64 0 r = Y 5 r 3 ∧ (X 62 0 r = 0 ∨ X 62 0 r = 1)
def rl_z (X : MI_) (nr : Nat) : Prop := ∀ r, nr ≤ r → r < 100 → X 60 0 r = 0 ∧ X 61 0 r = 0 ∧ X 62 0 r = 0 ∧ X 63 0 r = 0 ∧ X 64 0 r = 0
def tb_ (Y : MI_) (nj : Nat) : Prop := ∃ Z : MI_, (∀ j, j < nj → Z 11 0 j = Y 11 0 j ∧ Z 12 0 j = Y 12 0 j) ∧ Y 13 0 0 = pl_m Z nj 13 0 0 ∧ ∀ i, i < nj → Y 14 0 i = pl_m Z nj 14 0 i
def rl_j (X Y : MI_) (nj : Nat) : Prop := (∀ j, j < nj → X 66 0 j = Y 11 0 j ∧ X 67 0 j = Y 12 0 j ∧ 1 ≤ (Y 11 0 j).toInt ∧ (Y 11 0 j).toInt ≤ 1000 ∧ 0 ≤ (Y 12 0 j).toInt ∧ (Y 12 0 j).toInt ≤ 10000) ∧ tb_ Y nj
def rl_e (sh : SH_) (np nr : Nat) : Prop := (∀ p, np ≤ p → sh 4 p = none) ∧ (∀ p, np ≤ p → sh 21 p = none) ∧ (∀ s, 6 * np ≤ s → sh 6 s = none) ∧ (∀ r, nr ≤ r → sh 5 r = none)
def rl_q (X Y : MI_) (np : Nat) (nn : Nat → Nat) : Prop := ∀ p, p < np → ∀ i, i < nn p → rl_s X Y (6 * p + i) ∧ sh_k Y (6 * p + i)
def Rl (X : MI_) (T : ML_) (Y : MI_) (S : ML_) (R : MR_) (sh : SH_) (np nr nj : Nat) (nn : Nat → Nat) : Prop :=
  rl_n X Y np nr nj ∧ (hs_ R sh np nr nn ∧ mo_ R sh ∧ rl_e sh np nr) ∧ (∀ p, p < np → rl_p X T Y S R nr nn p) ∧ rl_q X Y np nn ∧ (∀ f, f < 3 → rl_f X Y nr f) ∧ (∀ f, f < 3 → rl_c X Y R nr f) ∧ (∀ f, f < 3 → ∀ i, i < 4 → rl_i X Y R np f i) ∧ (∀ r, r < nr → rl_r X Y r) ∧ rl_z X nr ∧ rl_j X Y nj
section RlC
variable {X X' Y Y' : MI_} {T T' S S' : ML_} {R R' : MR_} {sh sh' : SH_} {np nr nj nr' : Nat} {nn : Nat → Nat}
theorem rl_n_c (h : rl_n X Y np nr nj) (hX : ∀ j, X' 7 0 j = X 7 0 j) (h1 : ∀ j, Y' 1 0 j = Y 1 0 j) (h2 : ∀ j, Y' 2 0 j = Y 2 0 j) : rl_n X' Y' np nr nj := by
  unfold rl_n
  simp only [hX, h1, h2]
  exact h
theorem rl_p_c {p : Nat} (h : rl_p X T Y S R nr nn p) (hX : ∀ k, 31 ≤ k → k ≤ 39 → X' k 0 p = X k 0 p) (hT : T' 37 0 p = T 37 0 p) (hY : ∀ b, Y' 4 p b = Y 4 p b) (hS : S' 4 p 7 = S 4 p 7) (hR : R' 4 p 9 = R 4 p 9) (hn : nr ≤ nr') : rl_p X' T' Y' S' R' nr' nn p := by
  unfold rl_p
  rw [hX 31 (by decide) (by decide), hX 32 (by decide) (by decide), hX 33 (by decide) (by decide), hX 34 (by decide) (by decide), hX 35 (by decide) (by decide), hX 36 (by decide) (by decide), hX 38 (by decide) (by decide), hX 39 (by decide) (by decide), hT, hS, hR]
  simp only [hY]
  obtain ⟨a1, a2, a3, a4, a5, a6, a7, a8, a9, a10, a11, a12⟩ := h
  exact ⟨a1, a2, a3, a4, a5, a6, a7, a8, a9, a10, fun q hq => ⟨(a11 q hq).1, by have := (a11 q hq).2; omega⟩, a12⟩
theorem rl_l_c {f l : Nat} (h : rl_l X Y f l) (hX : ∀ k, 47 ≤ k → k ≤ 49 → X' k 0 (8 * f + l) = X k 0 (8 * f + l)) (hY : ∀ k, 18 ≤ k → k ≤ 20 → Y' k f l = Y k f l) : rl_l X' Y' f l := by
  unfold rl_l
  rw [hX 47 (by decide) (by decide), hX 48 (by decide) (by decide), hX 49 (by decide) (by decide), hY 18 (by decide) (by decide), hY 19 (by decide) (by decide), hY 20 (by decide) (by decide)]
  exact h
theorem rl_f_c {f : Nat} (h : rl_f X Y nr f) (hX : ∀ k, k = 44 ∨ k = 45 ∨ k = 46 ∨ k = 57 → X' k 0 f = X k 0 f) (hL : ∀ k l, 47 ≤ k → k ≤ 49 → l < 8 → X' k 0 (8 * f + l) = X k 0 (8 * f + l)) (hY : ∀ b, b = 6 ∨ b = 8 ∨ b = 9 ∨ b = 10 → Y' 3 f b = Y 3 f b) (hYL : ∀ k l, 18 ≤ k → k ≤ 20 → Y' k f l = Y k f l) (hn : nr ≤ nr') : rl_f X' Y' nr' f := by
  obtain ⟨a1, a2, a3, ⟨nl, b1, b2, b3⟩, a5, s, c1, c2⟩ := h
  unfold rl_f
  rw [hX 44 (by decide), hX 45 (by decide), hX 46 (by decide), hX 57 (by decide), hY 6 (by decide), hY 8 (by decide), hY 9 (by decide), hY 10 (by decide)]
  exact ⟨a1, a2, a3, ⟨nl, b1, b2, fun l hl => rl_l_c (b3 l hl) (fun k h1 h2 => hL k l h1 h2 (by omega)) (fun k h1 h2 => hYL k l h1 h2)⟩, a5, s, by omega, c2⟩
theorem rl_c_c {f : Nat} (h : rl_c X Y R nr f) (hX : ∀ k, 53 ≤ k → k ≤ 56 → X' k 0 f = X k 0 f) (h59 : ∀ r, r < nr → X' 59 0 r = X 59 0 r) (h61 : ∀ r, r < nr → R 3 f 12 = some (5, r) → X 59 0 r = nI f → X 61 0 r = 0 → X' 61 0 r = 0) (hY : ∀ b, b = 6 ∨ b = 7 ∨ b = 11 → Y' 3 f b = Y 3 f b) (hYL : ∀ k l, 18 ≤ k → k ≤ 20 → Y' k f l = Y k f l) (hR : R' 3 f 12 = R 3 f 12) (hn : nr ≤ nr') : rl_c X' Y' R' nr' f := by
  unfold rl_c
  rw [hR, hX 53 (by decide) (by decide), hX 54 (by decide) (by decide), hX 55 (by decide) (by decide), hX 56 (by decide) (by decide), hY 6 (by decide), hY 7 (by decide), hY 11 (by decide)]
  rcases h with h | ⟨r, al, nl, a1, a2, a3, a4, a5, a6, a7, a8, a9, a10, a11, a12, a13, a14, a15⟩
  · exact Or.inl h
  · exact Or.inr ⟨r, al, nl, a1, by omega, a3, a4, by rw [h59 r a2]; exact a5, h61 r a2 a1 a5 a6, a7, a8, a9, a10, a11, a12, a13, by rw [hYL 18 al (by decide) (by decide)]; exact a14, by rw [hYL 18 al (by decide) (by decide), hYL 20 al (by decide) (by decide)]; exact a15⟩
theorem rl_i_c {np' f i : Nat} (h : rl_i X Y R np f i) (hX : ∀ k, 50 ≤ k → k ≤ 52 → X' k 0 (4 * f + i) = X k 0 (4 * f + i)) (hY : ∀ k, k = 16 ∨ k = 17 → Y' k f i = Y k f i) (hR : R' 15 f i = R 15 f i) (hn : np ≤ np') : rl_i X' Y' R' np' f i := by
  unfold rl_i
  rw [hX 50 (by decide) (by decide), hX 51 (by decide) (by decide), hX 52 (by decide) (by decide), hY 16 (by decide), hY 17 (by decide), hR]
  exact ⟨fun q hq => ⟨(h.1 q hq).1, by have := (h.1 q hq).2; omega⟩, h.2⟩
theorem rl_r_c {r : Nat} (h : rl_r X Y r) (hX : ∀ k, 59 ≤ k → k ≤ 64 → X' k 0 r = X k 0 r) (hY : ∀ b, Y' 5 r b = Y 5 r b) : rl_r X' Y' r := by
  unfold rl_r
  rw [hX 59 (by decide) (by decide), hX 60 (by decide) (by decide), hX 61 (by decide) (by decide), hX 62 (by decide) (by decide), hX 63 (by decide) (by decide), hX 64 (by decide) (by decide)]
  simp only [hY]
  exact h
theorem rl_z_c (h : rl_z X nr) (hX : ∀ k r, 60 ≤ k → k ≤ 64 → nr ≤ r → X' k 0 r = X k 0 r) (hn : nr ≤ nr') : rl_z X' nr' := by
  intro r h1 h2
  rw [hX 60 r (by decide) (by decide) (by omega), hX 61 r (by decide) (by decide) (by omega), hX 62 r (by decide) (by decide) (by omega), hX 63 r (by decide) (by decide) (by omega), hX 64 r (by decide) (by decide) (by omega)]
  exact h r (by omega) h2
theorem rl_j_c (h : rl_j X Y nj) (hX : ∀ k j, k = 66 ∨ k = 67 → X' k 0 j = X k 0 j) (hY : ∀ k j, 11 ≤ k → k ≤ 14 → Y' k 0 j = Y k 0 j) : rl_j X' Y' nj := by
  have x6 := fun j => hX 66 j (by decide)
  have x7 := fun j => hX 67 j (by decide)
  have y1 := fun j => hY 11 j (by decide) (by decide)
  have y2 := fun j => hY 12 j (by decide) (by decide)
  have y3 := fun j => hY 13 j (by decide) (by decide)
  have y4 := fun j => hY 14 j (by decide) (by decide)
  unfold rl_j tb_
  simp only [x6, x7, y1, y2, y3, y4]
  exact h
theorem rl_q_c (h : rl_q X Y np nn) (hX : ∀ k j, 40 ≤ k → k ≤ 42 → X' k 0 j = X k 0 j) (hY : ∀ s b, Y' 6 s b = Y 6 s b) : rl_q X' Y' np nn := fun p hp i hi => ⟨rl_s_eq (h p hp i hi).1 (hX _ _ (by decide) (by decide)) (fun j _ _ => hX _ _ (by decide) (by decide)) (hX _ _ (by decide) (by decide)) (fun b => hY _ b), sh_k_eq (h p hp i hi).2 (fun b _ => hY _ b)⟩
/-- model kinds -/
theorem Rl_X (h : Rl X T Y S R sh np nr nj nn) (hX : ∀ k i j, k = 7 ∨ 30 ≤ k → X' k i j = X k i j) (hT : ∀ k i j, k = 7 ∨ 30 ≤ k → T' k i j = T k i j) : Rl X' T' Y S R sh np nr nj nn := by
  obtain ⟨h1, h2, h3, h4, h5, h6, h7, h8, h9, h10⟩ := h
  refine ⟨rl_n_c h1 (fun j => hX _ _ _ (Or.inl rfl)) (fun j => rfl) (fun j => rfl), h2, fun p hp => rl_p_c (h3 p hp) (fun k a b => hX _ _ _ (by omega)) (hT _ _ _ (by decide)) (fun b => rfl) rfl rfl (Nat.le_refl _), rl_q_c h4 (fun k j a b => hX _ _ _ (by omega)) (fun _ _ => rfl), fun f hf => rl_f_c (h5 f hf) (fun k a => hX _ _ _ (by omega)) (fun k l a b _ => hX _ _ _ (by omega)) (fun _ _ => rfl) (fun _ _ _ _ => rfl) (Nat.le_refl _), fun f hf => rl_c_c (h6 f hf) (fun k a b => hX _ _ _ (by omega)) (fun r _ => hX _ _ _ (by decide)) (fun r _ _ _ e => (hX _ _ _ (by decide)).trans e) (fun _ _ => rfl) (fun _ _ _ _ => rfl) rfl (Nat.le_refl _), fun f hf i hi => rl_i_c (h7 f hf i hi) (fun k a b => hX _ _ _ (by omega)) (fun _ _ => rfl) rfl (Nat.le_refl _), fun r hr => rl_r_c (h8 r hr) (fun k a b => hX _ _ _ (by omega)) (fun _ => rfl), rl_z_c h9 (fun k r a b _ => hX _ _ _ (by omega)) (Nat.le_refl _), rl_j_c h10 (fun k j a => hX _ _ _ (by omega)) (fun _ _ _ _ => rfl)⟩
/-- class kinds -/
theorem Rl_Y (h : Rl X T Y S R sh np nr nj nn) (hY : ∀ k i j, k < 30 → k ≠ 7 → Y' k i j = Y k i j) (hS : ∀ k i j, k < 30 → k ≠ 7 → S' k i j = S k i j) : Rl X T Y' S' R sh np nr nj nn := by
  obtain ⟨h1, h2, h3, h4, h5, h6, h7, h8, h9, h10⟩ := h
  refine ⟨rl_n_c h1 (fun j => rfl) (fun j => hY _ _ _ (by decide) (by decide)) (fun j => hY _ _ _ (by decide) (by decide)), h2, fun p hp => rl_p_c (h3 p hp) (fun k a b => rfl) rfl (fun b => hY _ _ _ (by decide) (by decide)) (hS _ _ _ (by decide) (by decide)) rfl (Nat.le_refl _), rl_q_c h4 (fun k j a b => rfl) (fun _ _ => hY _ _ _ (by decide) (by decide)), fun f hf => rl_f_c (h5 f hf) (fun k a => rfl) (fun k l a b _ => rfl) (fun _ _ => hY _ _ _ (by decide) (by decide)) (fun _ _ _ _ => hY _ _ _ (by omega) (by omega)) (Nat.le_refl _), fun f hf => rl_c_c (h6 f hf) (fun k a b => rfl) (fun r _ => rfl) (fun r _ _ _ e => e) (fun _ _ => hY _ _ _ (by decide) (by decide)) (fun _ _ _ _ => hY _ _ _ (by omega) (by omega)) rfl (Nat.le_refl _), fun f hf i hi => rl_i_c (h7 f hf i hi) (fun k a b => rfl) (fun _ _ => hY _ _ _ (by omega) (by omega)) rfl (Nat.le_refl _), fun r hr => rl_r_c (h8 r hr) (fun k a b => rfl) (fun _ => hY _ _ _ (by decide) (by decide)), h9, rl_j_c h10 (fun k j a => rfl) (fun _ _ _ _ => hY _ _ _ (by omega) (by omega))⟩
theorem Rl_pl (h : Rl X T Y S R sh np nr nj nn) : pl_ X np := by
  intro j hj hne
  obtain ⟨a, b, -⟩ := h.2.2.2.2.2.2.1 (j / 4) (by omega) (j % 4) (by omega)
  rw [show 4 * (j / 4) + j % 4 = j by omega] at b
  cases hr : R 15 (j / 4) (j % 4) with
  | none => rw [hr] at b; exact absurd b hne
  | some q => rw [hr] at b; exact ⟨q.2, (a q hr).2, b⟩
theorem Rl_sh (h : Rl X T Y S R sh np nr nj nn) : sh_ X np := fun p hp => ⟨nn p, (hs_P h.2.1.1 p hp).2.1, (hs_P h.2.1.1 p hp).2.2, (h.2.2.1 p hp).1⟩
theorem Rl_fp (h : Rl X T Y S R sh np nr nj nn) {f : Nat} (hf : f < 3) : fp_ R f np (pl_c R f) := by
  intro i hi
  obtain ⟨a, -⟩ := h.2.2.2.2.2.2.1 f hf i hi
  unfold pl_c
  cases hr : R 15 f i with
  | none => exact ⟨rfl, fun p e => by cases e⟩
  | some q =>
    obtain ⟨e1, e2⟩ := a q hr
    refine ⟨?_, fun p e => by cases e; exact e2⟩
    show some q = some (4, q.2)
    rw [← e1]
theorem Rl_fc (h : Rl X T Y S R sh np nr nj nn) {f : Nat} (hf : f < 3) : fc_ R sh f (cu_c R f) := by
  unfold fc_ cu_c
  rcases h.2.2.2.2.2.1 f hf with ⟨e, -⟩ | ⟨r, al, nl, e, hr, -⟩
  · rw [e]; exact ⟨rfl, fun r e => by cases e⟩
  · rw [e]; exact ⟨rfl, fun r' e' => by cases e'; exact hs_R h.2.1.1 hr⟩
theorem Rl_ir (h : Rl X T Y S R sh np nr nj nn) {f : Nat} (hf : f < 3) : X 53 0 f = ir_ (cu_c R f) := by
  unfold cu_c
  rcases h.2.2.2.2.2.1 f hf with ⟨e, e2, -⟩ | ⟨r, al, nl, e, hr, e2, -⟩
  · rw [e, e2]; rfl
  · rw [e, e2]; rfl
end RlC
