/-! a tick as a whole -/
section RlV
variable {X Y : MI_} {T S : ML_} {R : MR_} {sh : SH_} {np nr nj : Nat} {nn : Nat → Nat}
theorem P_fin (h : Rl X T Y S R sh np nr nj nn) {f : Nat} (hf : f < 3) {r al nl o : Nat} (hR : R 3 f 12 = some (5, r)) (hr : r < nr) (hnl : Y 3 f 6 = nI nl) (hal : al < nl) (hnl8 : nl ≤ 8) (ho : Y 18 f al = nI o) (ho3 : o ≤ 3) (c0 : 0 ≤ (Y 3 f 11).toInt) (c1 : o = 0 → Y 3 f 11 = 0) (c2 : o ≠ 0 → (Y 3 f 11).toInt < (Y 20 f al).toInt) (e55 : X 55 0 f = Y 3 f 11) (e54 : X 54 0 f = nI al) (e7 : Y 3 f 7 = nI al) :
    Rl (tk_e X f r (Y 19 f al) (Y 20 f al) (nI o)) T (if li_v Y f r al o (pl_c R f) nn = 0 then li_m Y f r al o (pl_c R f) nn else gt_m (li_m Y f r al o (pl_c R f) nn) f r) S (if li_v Y f r al o (pl_c R f) nn = 0 then R else gt_r (li_m Y f r al o (pl_c R f) nn) f R) sh np nr nj nn := by
  obtain ⟨kx, ky, k55, k62, k01, k0, k1, k2⟩ := P_cnt h hf hR hr hnl hal hnl8 ho ho3 c0 c1 c2 e55
  obtain ⟨a1, a2, a3, ⟨nl', b1, b2, b3⟩, -⟩ := h.2.2.2.2.1 f hf
  have hnl' : nl' = nl := (nI_eq (by omega) (by omega)).mp (b2.symm.trans hnl)
  subst hnl'
  have e20 : li_m Y f r al o (pl_c R f) nn 20 f al = Y 20 f al := ky _ _ _ (by omega) (by omega)
  have e6 := tk_6v (v := 0) (X := X) (X' := tk_5 X f r (Y 19 f al) (nI o)) (nn := nn) ho3 k55 e20 k2 a1
  have hv : li_v Y f r al o (pl_c R f) nn = 0 → o ≠ 0 → li_m Y f r al o (pl_c R f) nn 3 f 11 < li_m Y f r al o (pl_c R f) nn 20 f al := fun q o0 => by
    unfold li_v at q
    rw [if_neg o0] at q
    by_cases g : li_m Y f r al o (pl_c R f) nn 3 f 11 < li_m Y f r al o (pl_c R f) nn 20 f al
    · exact g
    · rw [if_neg g] at q; exact absurd q (by decide)
  unfold tk_e
  rw [e6]
  generalize li_v Y f r al o (pl_c R f) nn = v at *
  generalize li_m Y f r al o (pl_c R f) nn = Y1 at *
  generalize tk_5 X f r (Y 19 f al) (nI o) = X1 at *
  have o18 : ∀ {l : Nat}, Y 18 f al = 0 → o = 0 := fun q => (nI_eq (a := o) (b := 0) (by omega) (by omega)).mp (ho.symm.trans q)
  by_cases v0 : v = 0
  · rw [if_pos v0, if_pos v0]
    unfold tk_7
    rw [if_pos v0]
    refine P_go h hf hR hnl hal hnl8 (fun k i j _ p q => kx k i j p q) (fun k a b _ p q => ky k a b p q) ?_ ?_ k55 k62 k01 k0 (fun q => k1 (o18 (l := 0) q)) (fun q => ?_)
    · rw [kx _ _ _ (by omega) (by omega)]; exact e54
    · rw [ky _ _ _ (by omega) (by omega)]; exact e7
    · have := hv v0 (fun g => q (by rw [ho, g]; rfl))
      rw [e20] at this
      exact i32_lt.mp this
  · rw [if_neg v0, if_neg v0]
    have x54 : tk_x X1 f 54 0 f = nI (al + 1) := by
      unfold tk_x
      rw [u_3_k (by decide), u_3_eq, kx _ _ _ (by omega) (by omega), e54, ← nI_add]; rfl
    have x46 : tk_x X1 f 46 0 f = nI nl' := by
      rw [tk_x_k (by decide), kx _ _ _ (by omega) (by omega), a3]; exact hnl
    have x55 : tk_x X1 f 55 0 f = 0 := by unfold tk_x; rw [u_3_eq]
    have xo : ∀ k i j, ¬ (k = 54 ∧ i = 0 ∧ j = f) → ¬ (k = 55 ∧ i = 0 ∧ j = f) → tk_x X1 f k i j = X1 k i j := fun k i j p q => by
      unfold tk_x; rw [u_3_ne _ _ q, u_3_ne _ _ p]
    have y7 : gx_ Y1 f 3 f 7 = nI (al + 1) := by
      unfold gx_
      rw [u_3_ne _ _ (by omega), u_3_eq, ky _ _ _ (by omega) (by omega), e7, ← nI_add]; rfl
    have y6 : gx_ Y1 f 3 f 6 = nI nl' := by
      unfold gx_
      rw [u_3_ne _ _ (by omega), u_3_ne _ _ (by omega), ky _ _ _ (by omega) (by omega)]; exact hnl
    have y11 : gx_ Y1 f 3 f 11 = 0 := by unfold gx_; rw [u_3_eq]
    have yo : ∀ k a b, ¬ (k = 3 ∧ a = f ∧ b = 7) → ¬ (k = 3 ∧ a = f ∧ b = 11) → gx_ Y1 f k a b = Y1 k a b := fun k a b p q => by
      unfold gx_; rw [u_3_ne _ _ q, u_3_ne _ _ p]
    unfold tk_7 gt_m gt_r
    rw [if_neg v0, x54, x46, y7, y6]
    by_cases en : al + 1 = nl'
    · have hlt : ¬ nI (al + 1) < nI nl' := fun q => by have := (nI_ltI (a := al + 1) (b := nl') (by omega) (by omega)).mp q; omega
      rw [if_pos (by rw [en]), if_neg hlt, if_neg hlt]
      refine P_en h hf hR (fun k i j p q => ?_) (fun k a b p q => ?_) ?_ ?_ ?_ ?_ ?_ ?_ ?_ ?_
      · rw [u_3_ne _ _ (by omega), u_3_ne _ _ (by omega), u_3_ne _ _ (by omega), xo _ _ _ (by omega) (by omega), kx _ _ _ (by omega) (by omega)]
      · unfold en_m
        rw [u_3_ne _ _ (by omega), u_3_ne _ _ (by omega), u_3_ne _ _ (by omega), yo _ _ _ (by omega) (by omega), ky _ _ _ (by omega) (by omega)]
      · rw [u_3_k (by decide), u_3_k (by decide), u_3_eq]
      · unfold en_m; rw [u_3_eq]
      · unfold en_m
        rw [u_3_k (by decide), u_3_k (by decide), u_3_k (by decide), xo _ _ _ (by omega) (by omega), u_3_k (by decide), u_3_ne _ _ (by omega), u_3_ne _ _ (by omega), yo _ _ _ (by omega) (by omega)]
        exact k62
      · rw [u_3_k (by decide), u_3_k (by decide), u_3_k (by decide), xo _ _ _ (by omega) (by omega)]
        exact k01
      · rw [u_3_k (by decide), u_3_eq]
      · rw [u_3_eq]
      · unfold en_m; rw [u_3_k (by decide), u_3_ne _ _ (by omega), u_3_eq]
      · unfold en_m; rw [u_3_k (by decide), u_3_eq]
    · have hlt : nI (al + 1) < nI nl' := (nI_ltI (by omega) (by omega)).mpr (by omega)
      rw [if_neg (fun q => en ((nI_eq (by omega) (by omega)).mp q)), if_pos hlt, if_pos hlt]
      refine P_go h hf hR hnl (show al + 1 < nl' by omega) hnl8 (fun k i j p q s => ?_) (fun k a b p q s => ?_) x54 y7 ?_ ?_ ?_ ?_ (fun _ => y11) (fun _ => ?_)
      · rw [xo _ _ _ p q, kx _ _ _ q s]
      · rw [yo _ _ _ p q, ky _ _ _ q s]
      · rw [x55, y11]
      · rw [xo _ _ _ (by omega) (by omega), yo _ _ _ (by omega) (by omega)]; exact k62
      · rw [xo _ _ _ (by omega) (by omega)]; exact k01
      · rw [y11]; decide
      · rw [y11]
        have := (b3 (al + 1) (by omega)).2.2.2.2
        show (0 : Int) < _
        omega
theorem P_tk (h : Rl X T Y S R sh np nr nj nn) {f : Nat} (hf : f < 3) {q : Nat × Nat} (hR : R 3 f 12 = some q) : ∃ al, X 53 0 f = 1 ∧ X 54 0 f = nI al ∧ X 56 0 f = nI q.2 ∧ Y 3 f 7 = nI al ∧ al < 8 ∧ q.2 < 100 ∧ Y 18 f al = nI (op_c Y f) ∧ op_c Y f ≤ 3 ∧ al_c Y f = al ∧ Rl (tk_m X T f al q.2) (tk_l X T f al) (dt_m Y S f q.2 al (op_c Y f) (pl_c R f) nn) (dt_3 Y S f q.2 al (op_c Y f) (pl_c R f) nn).2 (dt_r Y S f q.2 al (op_c Y f) (pl_c R f) nn R) sh np nr nj nn := by
  rcases h.2.2.2.2.2.1 f hf with ⟨e1, -⟩ | ⟨r, al, nl, a1, hr, a3, a4, a5, a6, hnl, hnl8, hal, e54, e7, e55, c0, c1, c2⟩
  · rw [hR] at e1; cases e1
  · have hR' := a1
    rw [hR] at a1; cases a1
    show ∃ al, X 53 0 f = 1 ∧ X 54 0 f = nI al ∧ X 56 0 f = nI r ∧ Y 3 f 7 = nI al ∧ al < 8 ∧ r < 100 ∧ Y 18 f al = nI (op_c Y f) ∧ op_c Y f ≤ 3 ∧ al_c Y f = al ∧ Rl (tk_m X T f al r) (tk_l X T f al) (dt_m Y S f r al (op_c Y f) (pl_c R f) nn) (dt_3 Y S f r al (op_c Y f) (pl_c R f) nn).2 (dt_r Y S f r al (op_c Y f) (pl_c R f) nn R) sh np nr nj nn
    have h100 := h.1.2.1.2.2
    obtain ⟨f1, f2, f3, ⟨nl', b1, b2, b3⟩, -⟩ := h.2.2.2.2.1 f hf
    have hnl' : nl' = nl := (nI_eq (by omega) (by omega)).mp (b2.symm.trans hnl)
    subst hnl'
    obtain ⟨l1, l2, l3, ⟨o, ho3, ho⟩, l5⟩ := b3 al hal
    have ea : al_c Y f = al := by unfold al_c; rw [e7, nI_clamp (by omega)]
    have eo : op_c Y f = o := by unfold op_c; rw [ea, ho, nI_clamp (by omega)]
    rw [eo]
    refine ⟨al, a3, e54, a4, e7, by omega, by omega, ho, ho3, ea, ?_⟩
    have hm := M_tp (M_g h hf hr hnl hal hnl8 ho ho3) hf 4 (Nat.le_refl _)
    have yk : ∀ k a b, k ≠ 6 → ¬ (k = 3 ∧ a = f ∧ b = 10) → ¬ (k = 5 ∧ a = r ∧ b = 3) → (ds_ (dt_1 Y f r al o) S f (pl_c R f) nn 4).1 k a b = Y k a b := fun k a b p q s => (ds_k p 4).trans (dt_1k q s)
    have xk0 : ∀ k i j, ¬ (40 ≤ k ∧ k ≤ 44) → (tk_p (tk_g X f (8 * f + al)) T f 4).1 k i j = X k i j := fun k i j p => (tk_p_k (by omega) 4).trans (tk_g_k (by omega))
    unfold tk_m tk_l dt_m dt_r dt_v dt_4 dt_3
    generalize tk_p (tk_g X f (8 * f + al)) T f 4 = A at *
    generalize ds_ (dt_1 Y f r al o) S f (pl_c R f) nn 4 = B at *
    have xk : ∀ k i j, ¬ (40 ≤ k ∧ k ≤ 44) → k ≠ 64 → u_3 A.1 64 0 r (A.1 64 0 r + 1) k i j = X k i j := fun k i j p q => (u_3_k q).trans (xk0 k i j p)
    have y19 := yk 19 f al (by decide) (by omega) (by omega)
    have y20 := yk 20 f al (by decide) (by omega) (by omega)
    have y11 := yk 3 f 11 (by decide) (by omega) (by omega)
    have y18 := yk 18 f al (by decide) (by omega) (by omega)
    rw [l1, l2, l3, ho, ← y19, ← y20]
    exact P_fin (M_64 hm hr) hf hR' hr ((yk 3 f 6 (by decide) (by omega) (by omega)).trans hnl) hal hnl8 (y18.trans ho) ho3 (by rw [y11]; exact c0) (fun q => by rw [y11]; exact c1 (by rw [ho, q]; rfl)) (fun q => by rw [y11, y20]; exact c2 (fun g => q ((nIe0 (by omega)).mp (ho.symm.trans g)))) (by rw [y11, xk 55 0 f (by omega) (by omega)]; exact e55) ((xk 54 0 f (by omega) (by omega)).trans e54) ((yk 3 f 7 (by decide) (by omega) (by omega)).trans e7)
theorem P_ct {C : Cc_} (h : Rl X T C.1 C.2.1 C.2.2 sh np nr nj nn) {f : Nat} (hf : f < 3) : Rl (if X 53 0 f = 0 then (X, T) else (tk_m X T f (X 54 0 f).toNatClampNeg (X 56 0 f).toNatClampNeg, tk_l X T f (X 54 0 f).toNatClampNeg)).1 (if X 53 0 f = 0 then (X, T) else (tk_m X T f (X 54 0 f).toNatClampNeg (X 56 0 f).toNatClampNeg, tk_l X T f (X 54 0 f).toNatClampNeg)).2 (ct_1 nn f C).1 (ct_1 nn f C).2.1 (ct_1 nn f C).2.2 sh np nr nj nn := by
  have hi := Rl_ir h hf
  unfold ct_1
  cases hc : C.2.2 3 f 12 with
  | none =>
    unfold cu_c at hi
    rw [hc] at hi
    rw [if_pos (show X 53 0 f = 0 from hi)]
    exact h
  | some q =>
    obtain ⟨al, e53, e54, e56, e7, al8, q100, o1, o3, ea, hh⟩ := P_tk h hf hc
    rw [if_neg (by rw [e53]; decide), e54, e56, nI_clamp (by omega), nI_clamp (by omega)]
    show Rl (tk_m X T f al q.2) (tk_l X T f al) (dt_m C.1 C.2.1 f q.2 (al_c C.1 f) (op_c C.1 f) (pl_c C.2.2 f) nn) (dt_3 C.1 C.2.1 f q.2 (al_c C.1 f) (op_c C.1 f) (pl_c C.2.2 f) nn).2 (dt_r C.1 C.2.1 f q.2 (al_c C.1 f) (op_c C.1 f) (pl_c C.2.2 f) nn C.2.2) sh np nr nj nn
    rw [ea]
    exact hh
theorem P_tf {C : Cc_} (h : Rl X T C.1 C.2.1 C.2.2 sh np nr nj nn) : ∀ f, f ≤ 3 → Rl (tf_ X T f).1 (tf_ X T f).2 (ct_f nn C f).1 (ct_f nn C f).2.1 (ct_f nn C f).2.2 sh np nr nj nn
  | 0, _ => h
  | f + 1, hf => by
    rw [tf_]
    exact P_ct (P_tf h f (by omega)) (by omega)
theorem P_tz {C : Cc_} (h : Rl X T C.1 C.2.1 C.2.2 sh np nr nj nn) : ∀ z, Rl (tz_ X T z).1 (tz_ X T z).2 (ct_z nn C z).1 (ct_z nn C z).2.1 (ct_z nn C z).2.2 sh np nr nj nn
  | 0 => h
  | z + 1 => P_tf (P_tz h z) 3 (Nat.le_refl _)
def J_m (sh : SH_) (np nr nj : Nat) (nn : Nat → Nat) (X : MI_) (T : ML_) : Prop := ∃ C : Cc_, Rl X T C.1 C.2.1 C.2.2 sh np nr nj nn
def J_c (sh : SH_) (np nr nj : Nat) (nn : Nat → Nat) (C : Cc_) : Prop := ∃ X T, Rl X T C.1 C.2.1 C.2.2 sh np nr nj nn
theorem J_m1 : tJ_1 (J_m sh np nr nj nn) np := by
  rintro X T ⟨C, h⟩
  refine ⟨Rl_pl h, Rl_sh h, fun f hf hr => ?_⟩
  have hi := Rl_ir h hf
  cases hc : C.2.2 3 f 12 with
  | none => unfold cu_c at hi; rw [hc] at hi; exact absurd hi hr
  | some q =>
    obtain ⟨al, e53, e54, e56, e7, al8, q100, -⟩ := P_tk h hf hc
    exact ⟨al, q.2, al8, e54, q100, e56⟩
theorem J_m2 : tJ_2 (J_m sh np nr nj nn) := by
  rintro X T f al r ⟨C, h⟩ hf hr e54 e56 al8 r100
  have := P_ct h hf
  rw [if_neg hr, e54, e56, nI_clamp (by omega), nI_clamp (by omega)] at this
  exact ⟨ct_1 nn f C, this⟩
theorem J_c1 : cJ_1 (J_c sh np nr nj nn) sh np nr nn := by
  rintro C ⟨X, T, h⟩
  refine ⟨h.2.1.1, fun f hf => ⟨Rl_fp h hf, Rl_fc h hf, fun r hr => ?_⟩⟩
  unfold cu_c at hr
  cases hc : C.2.2 3 f 12 with
  | none => rw [hc] at hr; cases hr
  | some q =>
    obtain ⟨al, e53, e54, e56, e7, al8, q100, o1, o3, ea, -⟩ := P_tk h hf hc
    rw [ea]
    exact ⟨e7, al8, o1, o3⟩
theorem J_c2 : cJ_2 (J_c sh np nr nj nn) nn := by
  rintro C f ⟨X, T, h⟩ hf
  exact ⟨_, _, P_ct h hf⟩
theorem tk_m_k {f al r k i j : Nat} (h : k < 40) : tk_m X T f al r k i j = X k i j := by
  unfold tk_m tk_e
  rw [tk_7_k (by omega), tk_5_k (by omega), u_3_k (by omega), tk_p_k (by omega), tk_g_k (by omega)]
theorem tk_p_lk {f k i j : Nat} (h : k ≠ 37) : ∀ c, (tk_p X T f c).2 k i j = T k i j
  | 0 => rfl
  | c + 1 => by
    rw [tk_p]
    split
    · exact tk_p_lk h c
    · exact (u_3_k h).trans (tk_p_lk h c)
theorem tf_k {k i j : Nat} (h : k < 40) : ∀ f, (tf_ X T f).1 k i j = X k i j
  | 0 => rfl
  | f + 1 => by
    rw [tf_]
    split
    · exact tf_k h f
    · exact (tk_m_k h).trans (tf_k h f)
theorem tf_lk {k i j : Nat} (h : k ≠ 37) : ∀ f, (tf_ X T f).2 k i j = T k i j
  | 0 => rfl
  | f + 1 => by
    rw [tf_]
    split
    · exact tf_lk h f
    · exact (tk_p_lk h 4).trans (tf_lk h f)
theorem tz_k {k i j : Nat} (h : k < 40) : ∀ z, (tz_ X T z).1 k i j = X k i j
  | 0 => rfl
  | z + 1 => (tf_k h 3).trans (tz_k h z)
theorem tz_lk {k i j : Nat} (h : k ≠ 37) : ∀ z, (tz_ X T z).2 k i j = T k i j
  | 0 => rfl
  | z + 1 => (tf_lk h 3).trans (tz_lk h z)
theorem ds_lk {f : Nat} {pl : Nat → Option Nat} {k a b : Nat} (h : k ≠ 4) : ∀ i, (ds_ Y S f pl nn i).2 k a b = S k a b
  | 0 => rfl
  | i + 1 => by
    rw [ds_]
    cases pl i with
    | none => exact ds_lk h i
    | some p => exact (u_3_k h).trans (ds_lk h i)
theorem dt_mk {f r al o : Nat} {pl : Nat → Option Nat} {k a b : Nat} (h : k ≠ 3 ∧ k ≠ 5 ∧ k ≠ 6) : dt_m Y S f r al o pl nn k a b = Y k a b := by
  have h4 : dt_4 Y S f r al o pl nn k a b = Y k a b := by
    unfold dt_4 dt_3
    rw [li_k (by omega) (by omega), ds_k (by omega), dt_1k (by omega) (by omega)]
  unfold dt_m
  split
  · exact h4
  · unfold gt_m
    split
    · unfold gx_; rw [u_3_k (by omega), u_3_k (by omega)]; exact h4
    · unfold en_m gx_; rw [u_3_k (by omega), u_3_k (by omega), u_3_k (by omega), u_3_k (by omega), u_3_k (by omega)]; exact h4
theorem ct_1k {C : Cc_} {f k a b : Nat} (h : k ≠ 3 ∧ k ≠ 5 ∧ k ≠ 6) : (ct_1 nn f C).1 k a b = C.1 k a b := by
  unfold ct_1
  cases C.2.2 3 f 12 with
  | none => rfl
  | some q => exact dt_mk h
theorem ct_1lk {C : Cc_} {f k a b : Nat} (h : k ≠ 4) : (ct_1 nn f C).2.1 k a b = C.2.1 k a b := by
  unfold ct_1
  cases C.2.2 3 f 12 with
  | none => rfl
  | some q => exact ds_lk h 4
theorem ct_fk {C : Cc_} {k a b : Nat} (h : k ≠ 3 ∧ k ≠ 5 ∧ k ≠ 6) : ∀ f, (ct_f nn C f).1 k a b = C.1 k a b
  | 0 => rfl
  | f + 1 => (ct_1k h).trans (ct_fk h f)
theorem ct_flk {C : Cc_} {k a b : Nat} (h : k ≠ 4) : ∀ f, (ct_f nn C f).2.1 k a b = C.2.1 k a b
  | 0 => rfl
  | f + 1 => (ct_1lk h).trans (ct_flk h f)
theorem ct_zk {C : Cc_} {k a b : Nat} (h : k ≠ 3 ∧ k ≠ 5 ∧ k ≠ 6) : ∀ z, (ct_z nn C z).1 k a b = C.1 k a b
  | 0 => rfl
  | z + 1 => (ct_fk h 3).trans (ct_zk h z)
theorem ct_zlk {C : Cc_} {k a b : Nat} (h : k ≠ 4) : ∀ z, (ct_z nn C z).2.1 k a b = C.2.1 k a b
  | 0 => rfl
  | z + 1 => (ct_flk h 3).trans (ct_zlk h z)
end RlV
