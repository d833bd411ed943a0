/-! a call of the class and the same call of the reference -/
def Iv (L : Nat) (M : Me_) : Prop := M.2.2.2 0 0 = some L ∧ ∃ np nr nj nn, Rl M.1 M.2.1 M.1 M.2.1 M.2.2.1 M.2.2.2 np nr nj nn
def Pr (L : Nat) (w : V_) (al : Bool) (y5 : MethodName) (d5 : Md_) (y6 : MethodName) (d6 : Md_) (as : List V_) (M : Me_) : Prop :=
  hg_Ok al y5 d5 (hv_r (some (1, 0)) :: as) M (fun v M' => v = some w ∧ M'.2.2.2 0 0 = some L ∧ M'.2.2.2 7 0 = some 39 ∧ M'.2.2.2 1 0 = some 6 ∧ (∀ j, M'.1 0 0 j = M.1 0 0 j) ∧ hg_Ok false y6 d6 (hv_r (some (7, 0)) :: as) M' (fun v' M'' => v' = some w ∧ Iv L M''))
theorem Dv {al : Bool} {y : MethodName} {d : Md_} {as : List V_} {M M' : Me_} {v v' : Option V_} (e : v = v') (h : hg_Det al y d as M v M') : hg_Det al y d as M v' M' := by subst e; exact h
theorem di {a b : Int32} (h : a = b) : some (hv_i a) = some (hv_i b) := by rw [h]
theorem dl {a b : Int64} (h : a = b) : some (hv_l a) = some (hv_l b) := by rw [h]
section Pairs
variable {L : Nat} {mi mi' mi'' : MI_} {ml ml' ml'' : ML_} {mr mr' : MR_} {sh sh' : SH_} {al : Bool} {y5 y6 : MethodName} {d5 d6 : Md_} {as : List V_} {w : V_} {np nr nj : Nat} {nn : Nat → Nat}
theorem Pr_eq (hI : Iv L (mi, ml, mr, sh)) (h5 : hg_Det al y5 d5 (hv_r (some (1, 0)) :: as) (mi, ml, mr, sh) (some w) (mi, ml, mr, sh)) (h6 : hg_Det false y6 d6 (hv_r (some (7, 0)) :: as) (mi, ml, mr, sh) (some w) (mi, ml, mr, sh)) : Pr L w al y5 d5 y6 d6 as (mi, ml, mr, sh) := by
  have hI' := hI
  obtain ⟨h0, np, nr, nj, nn, h⟩ := hI'
  exact h5 _ ⟨rfl, h0, h.2.1.2.1.1, h.2.1.1.1, fun _ => rfl, h6 _ ⟨rfl, hI⟩⟩
theorem Pr_up (h5 : hg_Det al y5 d5 (hv_r (some (1, 0)) :: as) (mi, ml, mr, sh) (some w) (mi', ml', mr', sh')) (h6 : hg_Det false y6 d6 (hv_r (some (7, 0)) :: as) (mi', ml', mr', sh') (some w) (mi'', ml'', mr', sh')) (h0 : sh' 0 0 = some L) (hs : ∀ j, mi' 0 0 j = mi 0 0 j) (hP : Rl mi'' ml'' mi' ml' mr' sh' np nr nj nn) (hc : ∀ k i j, k < 30 → k ≠ 7 → mi'' k i j = mi' k i j) (hl : ∀ k i j, k < 30 → k ≠ 7 → ml'' k i j = ml' k i j) : Pr L w al y5 d5 y6 d6 as (mi, ml, mr, sh) :=
  h5 _ ⟨rfl, h0, hP.2.1.2.1.1, hP.2.1.1.1, hs, h6 _ ⟨rfl, h0, np, nr, nj, nn, Rl_Y hP hc hl⟩⟩
theorem Iv_h (hI : Iv L (mi, ml, mr, sh)) : ∃ np nr nj nn, Rl mi ml mi ml mr sh np nr nj nn := hI.2
theorem ir_none {R : MR_} {f : Nat} (h : ir_ (cu_c R f) = 0) : R 3 f 12 = none := by
  unfold cu_c at h
  cases hr : R 3 f 12 with
  | none => rfl
  | some q => rw [hr] at h; exact absurd h (by show ¬ (1 : Int32) = 0; decide)
theorem pl_none {R : MR_} {f l : Nat} : pl_c R f l = none ↔ R 15 f l = none := by
  unfold pl_c
  cases R 15 f l with
  | none => exact ⟨fun _ => rfl, fun _ => rfl⟩
  | some q => exact ⟨fun h => absurd h (by intro g; cases g), fun h => absurd h (by intro g; cases g)⟩
theorem Rl_50 (h : Rl mi ml mi' ml' mr sh np nr nj nn) {f l : Nat} (hf : f < 3) (hl : l < 4) : mi 50 0 (4 * f + l) = -1 ↔ mr 15 f l = none := by
  obtain ⟨a, b, -⟩ := h.2.2.2.2.2.2.1 f hf l hl
  rw [b]
  have := h.1.1.2.2
  exact oI_iff (fun q hq => by have := (a q hq).2; omega)
theorem Rl_38 (h : Rl mi ml mi' ml' mr sh np nr nj nn) {p : Nat} (hp : p < np) : mi' 4 p 8 = 0 ↔ mi 38 0 p = -1 := by
  rw [(h.2.2.1 p hp).2.2.2.2.2.2.2.2.1]
  by_cases q : mi 38 0 p = -1
  · rw [if_pos q]; exact ⟨fun _ => q, fun _ => rfl⟩
  · rw [if_neg q]; exact ⟨fun e => absurd e (by decide), fun e => absurd e q⟩
-- frames
theorem sn_ck {Y : MI_} {T : ML_} {p n : Nat} {g : Int32} {k i j : Nat} (h : k ≠ 6) : ∀ c, (sn_c Y T p n g c).1 k i j = Y k i j
  | 0 => rfl
  | c + 1 => by rw [sn_c]; exact (sb_k h).trans (sn_ck h c)
theorem sn_clk {Y : MI_} {T : ML_} {p n : Nat} {g : Int32} {k i j : Nat} (h : k ≠ 4) : ∀ c, (sn_c Y T p n g c).2 k i j = T k i j
  | 0 => rfl
  | c + 1 => by rw [sn_c]; exact (u_3_k h).trans (sn_clk h c)
theorem sn_lk {X : MI_} {T : ML_} {p n : Nat} {g : Int32} {k i j : Nat} (h : k ≠ 37) : ∀ c, (sn_ X T p n g c).2 k i j = T k i j
  | 0 => rfl
  | c + 1 => by rw [sn_]; exact (u_3_k h).trans (sn_lk h c)
theorem Q_taken (hI : Iv L (mi, ml, mr, sh)) (x : Int32) : ∃ w, Pr L (hv_l w) false yX5_taken md_X5_taken yX6_taken md_X6_taken [hv_i x] (mi, ml, mr, sh) := by
  obtain ⟨np, nr, nj, nn, h⟩ := Iv_h hI
  have hH := h.2.1.1
  have hM := h.2.1.2.1
  have hn := h.1.1
  by_cases hb : z_in x 0 (mi 1 0 4 - 1) = 0
  · exact ⟨_, Pr_eq hI (c_X5_taken_b hH x hb) (c_X6_taken_b hM x (by rw [hn.1, ← hn.2.1]; exact hb))⟩
  · obtain ⟨p, hp, rfl⟩ := z_ix (n := np) (by omega) (by rw [← hn.2.1]; exact hb)
    exact ⟨_, Pr_eq hI (c_X5_taken hH hn.2.1 hn.2.2 p hp) (Dv (dl (h.2.2.1 p hp).2.2.2.2.2.2.1) (c_X6_taken hM np hn.1 hn.2.2 p hp))⟩
theorem Q_kept (hI : Iv L (mi, ml, mr, sh)) (x : Int32) : ∃ w, Pr L (hv_l w) false yX5_kept md_X5_kept yX6_kept md_X6_kept [hv_i x] (mi, ml, mr, sh) := by
  obtain ⟨np, nr, nj, nn, h⟩ := Iv_h hI
  have hH := h.2.1.1
  have hM := h.2.1.2.1
  have hn := h.1.1
  by_cases hb : z_in x 0 (mi 1 0 4 - 1) = 0
  · exact ⟨_, Pr_eq hI (c_X5_kept_b hH x hb) (c_X6_kept_b hM x (by rw [hn.1, ← hn.2.1]; exact hb))⟩
  · obtain ⟨p, hp, rfl⟩ := z_ix (n := np) (by omega) (by rw [← hn.2.1]; exact hb)
    have hq := (hs_P hH p hp).2
    exact ⟨_, Pr_eq hI (c_X5_kept hH hn.2.1 hn.2.2 p hp) (Dv (dl (A_kept h hp (nn p) (Nat.le_refl _))) (c_X6_kept hM np hn.1 hn.2.2 p hp (nn p) (h.2.2.1 p hp).1 hq.1 hq.2))⟩
theorem Q_step (hI : Iv L (mi, ml, mr, sh)) (x g z : Int32) : ∃ w, Pr L (hv_i w) false yX5_step md_X5_step yX6_step md_X6_step [hv_i x, hv_i g, hv_i z] (mi, ml, mr, sh) := by
  obtain ⟨np, nr, nj, nn, h⟩ := Iv_h hI
  have hH := h.2.1.1
  have hM := h.2.1.2.1
  have hn := h.1.1
  by_cases hb : z_in x 0 (mi 1 0 4 - 1) = 0
  · exact ⟨_, Pr_eq hI (c_X5_step_b hH x hb g z) (c_X6_step_b hM x g z (Or.inl (by rw [hn.1, ← hn.2.1]; exact hb)))⟩
  · obtain ⟨p, hp, rfl⟩ := z_ix (n := np) (by omega) (by rw [← hn.2.1]; exact hb)
    by_cases hg : z_in g (-1000) 12000 = 0 ∨ z_in z 1 200 = 0
    · exact ⟨_, Pr_eq hI (c_X5_step_c hH hn.2.1 hn.2.2 p hp g z hg) (c_X6_step_b hM (nI p) g z (Or.inr hg))⟩
    · have hg1 : ¬ z_in g (-1000) 12000 = 0 := fun q => hg (Or.inl q)
      have hz : ¬ z_in z 1 200 = 0 := fun q => hg (Or.inr q)
      by_cases hw : mi 38 0 p = -1
      · obtain ⟨c, c1, c2, rfl⟩ := z_nat (a := 1) (b := 200) (by decide) (by decide) hz
        have hq := (hs_P hH p hp).2
        have hX : Rl (sn_c mi ml p (nn p) g c).1 (sn_c mi ml p (nn p) g c).2 mi ml mr sh np nr nj nn := Rl_X h (fun k i j q => sn_ck (by omega) c) (fun k i j q => sn_clk (by omega) c)
        have hP := P_sn hX hp g c
        have ha := (hP.2.2.2.1 p hp (nn p - 1) (by omega)).1.1
        exact ⟨_, Pr_up (c_X5_step hH hn.2.1 hn.2.2 p hp g c c2 hg1 hz ((Rl_38 h hp).mpr hw)) (Dv (di (by rw [show 6 * p + nn p - 1 = 6 * p + (nn p - 1) by omega]; exact ha)) (c_X6_step hM np hX.1.1.1 hn.2.2 p hp (nn p) (hX.2.2.1 p hp).1 hq.1 hq.2 g c c2 hg1 hz ((sn_ck (by decide) c).trans hw))) hI.1 (fun j => sn_ck (by decide) c) hP (fun k i j k1 k2 => sn_k (by omega) c) (fun k i j k1 k2 => sn_lk (by omega) c)⟩
      · exact ⟨_, Pr_eq hI (c_X5_step_n hH hn.2.1 hn.2.2 p hp g z hg1 hz (mt (Rl_38 h hp).mp hw)) (c_X6_step_n hM np hn.1 hn.2.2 p hp g z hg1 hz hw)⟩
theorem Q_shell (hI : Iv L (mi, ml, mr, sh)) (x i v : Int32) : ∃ w, Pr L (hv_i w) false yX5_shell md_X5_shell yX6_shell md_X6_shell [hv_i x, hv_i i, hv_i v] (mi, ml, mr, sh) := by
  obtain ⟨np, nr, nj, nn, h⟩ := Iv_h hI
  have hH := h.2.1.1
  have hM := h.2.1.2.1
  have hn := h.1.1
  by_cases hb : z_in x 0 (mi 1 0 4 - 1) = 0
  · exact ⟨_, Pr_eq hI (c_X5_shell_b hH x hb i v) (c_X6_shell_b hM x i v (by rw [hn.1, ← hn.2.1]; exact hb))⟩
  · obtain ⟨p, hp, rfl⟩ := z_ix (n := np) (by omega) (by rw [← hn.2.1]; exact hb)
    have hq := (hs_P hH p hp).2
    by_cases hg : z_in i 0 (nI (nn p - 1)) = 0 ∨ z_in v 0 6 = 0
    · exact ⟨_, Pr_eq hI (c_X5_shell_c hH hn.2.1 hn.2.2 p hp i v hg) (c_X6_shell_c hM np hn.1 hn.2.2 p hp (nn p) (h.2.2.1 p hp).1 hq.1 hq.2 i v hg)⟩
    · obtain ⟨i', -, i2, rfl⟩ := z_nat (a := 0) (b := nn p - 1) (by decide) (by omega) (fun q => hg (Or.inl q))
      obtain ⟨v', -, v2, rfl⟩ := z_nat (a := 0) (b := 6) (by decide) (by decide) (fun q => hg (Or.inr q))
      exact ⟨_, Pr_eq hI (c_X5_shell hH hn.2.1 hn.2.2 p hp i' v' (by omega) v2) (Dv (di (sv_te (h.2.2.2.1 p hp i' (by omega)).1 v2)) (c_X6_shell hM np hn.1 hn.2.2 p hp (nn p) (h.2.2.1 p hp).1 hq.1 hq.2 i' v' (by omega) v2))⟩
theorem lt_li {o a b : Int32} : lt_z o a b = 0 ↔ z_in o 0 3 = 0 ∨ (¬ o = 3 ∧ z_in a 200 11000 = 0) ∨ z_in b 1 (if o = 0 then 1000 else 500) = 0 := by
  unfold lt_z
  by_cases q1 : z_in o 0 3 = 0
  · rw [if_pos q1]; exact ⟨fun _ => Or.inl q1, fun _ => rfl⟩
  · rw [if_neg q1]
    by_cases q2 : ¬ o = 3 ∧ z_in a 200 11000 = 0
    · rw [if_pos q2]; exact ⟨fun _ => Or.inr (Or.inl q2), fun _ => rfl⟩
    · rw [if_neg q2]
      by_cases q3 : z_in b 1 (if o = 0 then 1000 else 500) = 0
      · rw [if_pos q3]; exact ⟨fun _ => Or.inr (Or.inr q3), fun _ => rfl⟩
      · rw [if_neg q3]
        exact ⟨fun e => absurd e (by decide), fun e => by rcases e with e | e | e <;> contradiction⟩
theorem Q_line (hI : Iv L (mi, ml, mr, sh)) (x o a b : Int32) : ∃ w, Pr L (hv_i w) false yX5_line md_X5_line yX6_line md_X6_line [hv_i x, hv_i o, hv_i a, hv_i b] (mi, ml, mr, sh) := by
  obtain ⟨np, nr, nj, nn, h⟩ := Iv_h hI
  have hH := h.2.1.1
  have hM := h.2.1.2.1
  by_cases hb : z_in x 0 2 = 0
  · exact ⟨_, Pr_eq hI (c_X5_line_b hH x hb o a b) (c_X6_line_b hM x o a b (Or.inl hb))⟩
  · obtain ⟨f, -, f2, rfl⟩ := z_nat (a := 0) (b := 2) (by decide) (by decide) hb
    have hf : f < 3 := by omega
    by_cases hz : lt_z o a b = 0
    · exact ⟨_, Pr_eq hI (c_X5_line_c hH f hf o a b hz) (c_X6_line_b hM (nI f) o a b (Or.inr (lt_li.mp hz)))⟩
    · have hli : ¬ li_b (nI f) o a b := fun q => by
        rcases q with q | q
        · exact hb q
        · exact hz (lt_li.mpr q)
      have hi := Rl_ir h hf
      have hc := Rl_fc h hf
      by_cases hr : ir_ (cu_c mr f) = 0
      · obtain ⟨a1, a2, a3, ⟨nl, b1, b2, b3⟩, -⟩ := h.2.2.2.2.1 f hf
        by_cases h8 : nl = 8
        · exact ⟨_, Pr_eq hI (c_X5_line_f hH f hf hc o a b hz hr nl b2 h8) (c_X6_line_f hM f hf o a b hli (hi.trans hr) (by rw [a3, b2, h8]; rfl))⟩
        · have hk : ∀ {k i j}, k ≠ 3 ∧ k ≠ 18 ∧ k ≠ 19 ∧ k ≠ 20 → al_m mi f nl o a b k i j = mi k i j := by
            intro k i j q
            unfold al_m; rw [u_3_k (by omega), u_3_k (by omega), u_3_k (by omega), u_3_k (by omega)]
          have hX : Rl (al_m mi f nl o a b) ml mi ml mr sh np nr nj nn := Rl_X h (fun k i j q => hk (by omega)) (fun _ _ _ _ => rfl)
          have hP := P_line hX hf b2 (by omega) (ir_none hr) hli
          have e6 : al_m mi f nl o a b 3 f 6 = nI (nl + 1) := by unfold al_m; rw [u_3_eq]
          exact ⟨_, Pr_up (c_X5_line hH f hf hc o a b hz hr nl b2 (by omega)) (Dv (di ((hP.2.2.2.2.1 f hf).2.2.1.trans e6)) (c_X6_line hM f hf o a b hli ((hk (by decide)).trans (hi.trans hr)) nl ((hk (by decide)).trans (a3.trans b2)) (by omega))) hI.1 (fun j => hk (by decide)) hP (fun k i j k1 k2 => by unfold ln_m; rw [u_3_k (by omega), u_3_k (by omega), u_3_k (by omega), u_3_k (by omega)]) (fun _ _ _ _ _ => rfl)⟩
      · exact ⟨_, Pr_eq hI (c_X5_line_n hH f hf hc o a b hz hr) (c_X6_line_n hM f hf o a b hli (by rw [hi]; exact hr))⟩
theorem Q_clear (hI : Iv L (mi, ml, mr, sh)) (x : Int32) : ∃ w, Pr L (hv_i w) false yX5_clear md_X5_clear yX6_clear md_X6_clear [hv_i x] (mi, ml, mr, sh) := by
  obtain ⟨np, nr, nj, nn, h⟩ := Iv_h hI
  have hH := h.2.1.1
  have hM := h.2.1.2.1
  by_cases hb : z_in x 0 2 = 0
  · exact ⟨_, Pr_eq hI (c_X5_clear_b hH x hb) (c_X6_clear_b hM x hb)⟩
  · obtain ⟨f, -, f2, rfl⟩ := z_nat (a := 0) (b := 2) (by decide) (by decide) hb
    have hf : f < 3 := by omega
    have hi := Rl_ir h hf
    have hc := Rl_fc h hf
    by_cases hr : ir_ (cu_c mr f) = 0
    · obtain ⟨a1, a2, a3, -⟩ := h.2.2.2.2.1 f hf
      have hX : Rl (u_3 mi 3 f 6 0) ml mi ml mr sh np nr nj nn := Rl_X h (fun k i j q => u_3_k (by omega)) (fun _ _ _ _ => rfl)
      have hP := P_clear hX hf (ir_none hr)
      exact ⟨_, Pr_up (c_X5_clear hH f hf hc hr) (Dv (di ((u_3_k (by decide)).trans a3)) (c_X6_clear hM f hf ((u_3_k (by decide)).trans (hi.trans hr)))) hI.1 (fun j => u_3_k (by decide)) hP (fun k i j k1 k2 => u_3_k (by omega)) (fun _ _ _ _ _ => rfl)⟩
    · exact ⟨_, Pr_eq hI (c_X5_clear_n hH f hf hc hr) (c_X6_clear_n hM f hf (by rw [hi]; exact hr))⟩
theorem Q_load (hI : Iv L (mi, ml, mr, sh)) (x y z : Int32) : ∃ w, Pr L (hv_i w) false yX5_load md_X5_load yX6_load md_X6_load [hv_i x, hv_i y, hv_i z] (mi, ml, mr, sh) := by
  obtain ⟨np, nr, nj, nn, h⟩ := Iv_h hI
  have hH := h.2.1.1
  have hM := h.2.1.2.1
  have hn := h.1.1
  have e1 : mi 7 0 0 = mi 1 0 4 := hn.1.trans hn.2.1.symm
  by_cases hb : z_in x 0 2 = 0 ∨ z_in y 0 3 = 0 ∨ z_in z 0 (mi 1 0 4 - 1) = 0
  · exact ⟨_, Pr_eq hI (c_X5_load_b hH hn.2.1 hn.2.2 x y z hb) (c_X6_load_b hM x y z (by rw [e1]; exact hb))⟩
  · obtain ⟨f, -, f2, rfl⟩ := z_nat (a := 0) (b := 2) (by decide) (by decide) (fun q => hb (Or.inl q))
    obtain ⟨l, -, l2, rfl⟩ := z_nat (a := 0) (b := 3) (by decide) (by decide) (fun q => hb (Or.inr (Or.inl q)))
    obtain ⟨p, hp, rfl⟩ := z_ix (n := np) (by omega) (fun q => hb (Or.inr (Or.inr (by rw [hn.2.1]; exact q))))
    have hf : f < 3 := by omega
    have hl : l < 4 := by omega
    have hi := Rl_ir h hf
    have hc := Rl_fc h hf
    have hfp := Rl_fp h hf
    have em := A_mass h hf 4 (Nat.le_refl _)
    have e32 := (h.2.2.1 p hp).2.1
    by_cases hno : ¬ mi 4 p 8 = 0 ∨ ¬ pl_c mr f l = none ∨ ¬ ir_ (cu_c mr f) = 0 ∨ ¬ im_ mi (pl_c mr f) 4 + mi 4 p 1 ≤ 1000
    · refine ⟨_, Pr_eq hI (c_X5_load_n hH hn.2.1 hn.2.2 f hf l hl p hp hfp hc hno) (c_X6_load_n hM np hn.1 hn.2.2 (Rl_pl h) f hf l hl p hp ?_)⟩
      rcases hno with q | q | q | q
      · exact Or.inl (Or.inl (mt (Rl_38 h hp).mpr q))
      · exact Or.inl (Or.inr (Or.inl (mt (Rl_50 h hf hl).mp (mt pl_none.mpr q))))
      · exact Or.inl (Or.inr (Or.inr (by rw [hi]; exact q)))
      · exact Or.inr (by unfold ld_m; rw [em, e32]; exact q)
    · have g1 : mi 4 p 8 = 0 := Decidable.byContradiction (fun q => hno (Or.inl q))
      have g2 : pl_c mr f l = none := Decidable.byContradiction (fun q => hno (Or.inr (Or.inl q)))
      have g3 : ir_ (cu_c mr f) = 0 := Decidable.byContradiction (fun q => hno (Or.inr (Or.inr (Or.inl q))))
      have g4 : im_ mi (pl_c mr f) 4 + mi 4 p 1 ≤ 1000 := Decidable.byContradiction (fun q => hno (Or.inr (Or.inr (Or.inr q))))
      have hX : Rl (u_3 mi 4 p 8 1) ml mi ml mr sh np nr nj nn := Rl_X h (fun k i j q => u_3_k (by omega)) (fun _ _ _ _ => rfl)
      have hP := P_load hX hf hl hp
      have em' := A_mass hX hf 4 (Nat.le_refl _)
      have e32' := (hX.2.2.1 p hp).2.1
      refine ⟨_, Pr_up (c_X5_load hH hn.2.1 hn.2.2 f hf l hl p hp hfp hc g1 g2 g3 g4) (c_X6_load hP.2.1.2.1 np hX.1.1.1 hn.2.2 (Rl_pl hX) f hf l hl p hp ?_ ?_) hI.1 (fun j => u_3_k (by decide)) hP (fun k i j k1 k2 => (u_3_k (by omega)).trans (u_3_k (by omega))) (fun _ _ _ _ _ => rfl)⟩
      · rintro (q | q | q)
        · exact q ((Rl_38 hX hp).mp g1)
        · exact q ((Rl_50 hX hf hl).mpr (pl_none.mp g2))
        · exact q ((Rl_ir hX hf).trans g3)
      · unfold ld_m
        rw [em', e32']
        exact fun q => q g4
theorem Q_unload (hI : Iv L (mi, ml, mr, sh)) (x y : Int32) : ∃ w, Pr L (hv_i w) false yX5_unload md_X5_unload yX6_unload md_X6_unload [hv_i x, hv_i y] (mi, ml, mr, sh) := by
  obtain ⟨np, nr, nj, nn, h⟩ := Iv_h hI
  have hH := h.2.1.1
  have hM := h.2.1.2.1
  have hn := h.1.1
  by_cases hb : z_in x 0 2 = 0 ∨ z_in y 0 3 = 0
  · exact ⟨_, Pr_eq hI (c_X5_unload_b hH x y hb) (c_X6_unload_b hM x y hb)⟩
  · obtain ⟨f, -, f2, rfl⟩ := z_nat (a := 0) (b := 2) (by decide) (by decide) (fun q => hb (Or.inl q))
    obtain ⟨l, -, l2, rfl⟩ := z_nat (a := 0) (b := 3) (by decide) (by decide) (fun q => hb (Or.inr q))
    have hf : f < 3 := by omega
    have hl : l < 4 := by omega
    have hi := Rl_ir h hf
    have hc := Rl_fc h hf
    have hfp := Rl_fp h hf
    by_cases hno : pl_c mr f l = none ∨ ¬ ir_ (cu_c mr f) = 0
    · refine ⟨_, Pr_eq hI (c_X5_unload_n hH f hf l hl hfp hc hno) (c_X6_unload_n hM f hf l hl ?_)⟩
      rcases hno with q | q
      · exact Or.inl ((Rl_50 h hf hl).mpr (pl_none.mp q))
      · exact Or.inr (by rw [hi]; exact q)
    · have g3 : ir_ (cu_c mr f) = 0 := Decidable.byContradiction (fun q => hno (Or.inr q))
      have g2 : ¬ pl_c mr f l = none := fun q => hno (Or.inl q)
      cases hq : mr 15 f l with
      | none => exact absurd (pl_none.mpr hq) g2
      | some q =>
        have hp := ((h.2.2.2.2.2.2.1 f hf l hl).1 q hq).2
        have g2' : pl_c mr f l = some q.2 := by unfold pl_c; rw [hq]; rfl
        have hX : Rl (u_3 mi 4 q.2 8 0) ml mi ml mr sh np nr nj nn := Rl_X h (fun k i j q => u_3_k (by omega)) (fun _ _ _ _ => rfl)
        have hP := P_unload hX hf hl hp
        have e50 := (hX.2.2.2.2.2.2.1 f hf l hl).2.1
        rw [hq] at e50
        have e0 : u_3 mi 4 q.2 8 0 4 q.2 0 = nI q.2 := (u_3_ne _ _ (by omega)).trans (h.2.2.1 q.2 hp).2.2.2.2.2.2.2.1
        exact ⟨_, Pr_up (c_X5_unload hH f hf l hl hfp hc q.2 g2' g3) (Dv (di e0.symm) (c_X6_unload hP.2.1.2.1 f hf l hl q.2 (by omega) e50 ((Rl_ir hX hf).trans g3))) hI.1 (fun j => u_3_k (by decide)) hP (fun k i j k1 k2 => (u_3_k (by omega)).trans (u_3_k (by omega))) (fun _ _ _ _ _ => rfl)⟩
theorem Q_probe (hI : Iv L (mi, ml, mr, sh)) (x y v d : Int32) (hv : v = 0 ∨ v = 1) : ∃ w, Pr L (hv_i w) false yX5_probe md_X5_probe yX6_probe md_X6_probe [hv_i x, hv_i y, hv_i v, hv_i d] (mi, ml, mr, sh) := by
  obtain ⟨np, nr, nj, nn, h⟩ := Iv_h hI
  have hH := h.2.1.1
  have hM := h.2.1.2.1
  by_cases hb : z_in x 0 2 = 0 ∨ z_in y 0 3 = 0 ∨ z_in d (-500) 500 = 0
  · exact ⟨_, Pr_eq hI (c_X5_probe_b hH x y v d hb) (c_X6_probe_b hM x y v d hb)⟩
  · obtain ⟨f, -, f2, rfl⟩ := z_nat (a := 0) (b := 2) (by decide) (by decide) (fun q => hb (Or.inl q))
    obtain ⟨l, -, l2, rfl⟩ := z_nat (a := 0) (b := 3) (by decide) (by decide) (fun q => hb (Or.inr (Or.inl q)))
    have hd : ¬ z_in d (-500) 500 = 0 := fun q => hb (Or.inr (Or.inr q))
    have hf : f < 3 := by omega
    have hl : l < 4 := by omega
    have hX : Rl (u_3 (u_3 mi 16 f l (if v = 0 then 1 else 0)) 17 f l d) ml mi ml mr sh np nr nj nn := Rl_X h (fun k i j q => (u_3_k (by omega)).trans (u_3_k (by omega))) (fun _ _ _ _ => rfl)
    have hP := P_probe hX hf hl (d := d) hv
    exact ⟨_, Pr_up (c_X5_probe hH f hf l hl v d hd) (c_X6_probe hM f hf l hl v d hv hd) hI.1 (fun j => (u_3_k (by decide)).trans (u_3_k (by decide))) hP (fun k i j k1 k2 => (u_3_k (by omega)).trans (u_3_k (by omega))) (fun _ _ _ _ _ => rfl)⟩
end Pairs
