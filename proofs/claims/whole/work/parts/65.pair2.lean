section Pairs2
variable {L : Nat} {mi : MI_} {ml : ML_} {mr : MR_} {sh : SH_}
theorem pt_ik {np n : Nat} {m k s q b : Int32} {c i j : Nat} (h : c ≠ 1 ∧ c ≠ 4 ∧ c ≠ 6 ∧ c ≠ 21) : (pt_m np n m k s q b (mi, ml, mr, sh)).1 c i j = mi c i j := by
  rw [pt_mi, u_3_k (by omega), pn_ik (by omega), pi_0i, nw_i, u_n_k (by omega), u_3_k (by omega), u_3_k (by omega), u_3_k (by omega), u_3_k (by omega), u_3_k (by omega), u_3_k (by omega), u_n_k (by omega)]
theorem pt_lk {np n : Nat} {m k s q b : Int32} {c i j : Nat} (h : c ≠ 4 ∧ c ≠ 6 ∧ c ≠ 21) : (pt_m np n m k s q b (mi, ml, mr, sh)).2.1 c i j = ml c i j := by
  rw [pt_ml, pn_lk (by omega), pi_0l, nw_l, u_n_k (by omega), u_n_k (by omega)]
theorem pt_sk {np n : Nat} {m k s q b : Int32} {c i : Nat} (h : c ≠ 4 ∧ c ≠ 6 ∧ c ≠ 21) : (pt_m np n m k s q b (mi, ml, mr, sh)).2.2.2 c i = sh c i := by
  rw [pt_ms, pn_sk (by omega), pi_0s, nw_s, u_2_k (by omega), u_2_k (by omega)]
theorem Q_part (hI : Iv L (mi, ml, mr, sh)) (a m k s q b : Int32) : ∃ w, Pr L (hv_i w) true yX5_part md_X5_part yX6_part md_X6_part [hv_i a, hv_i m, hv_i k, hv_i s, hv_i q, hv_i b] (mi, ml, mr, sh) := by
  obtain ⟨np, nr, nj, nn, h⟩ := Iv_h hI
  have hH := h.2.1.1
  have hM := h.2.1.2.1
  have hn := h.1.1
  by_cases hb : z_in a 1 6 = 0 ∨ z_in m 1 1000 = 0 ∨ z_in k 1 300 = 0 ∨ z_in s 1 300 = 0 ∨ z_in q 0 200 = 0 ∨ z_in b 0 200 = 0
  · exact ⟨_, Pr_eq hI (c_X5_part_b hH a m k s q b hb) (c_X6_part_b hM a m k s q b hb)⟩
  · by_cases h12 : np = 12
    · exact ⟨_, Pr_eq hI (c_X5_part_f hH hn.2.1 hn.2.2 h12 a m k s q b hb) (c_X6_part_f hM np hn.1 h12 a m k s q b hb)⟩
    · obtain ⟨n, n1, n6, rfl⟩ := z_nat (a := 1) (b := 6) (by decide) (by decide) (fun g => hb (Or.inl g))
      have hq : 0 ≤ q.toInt := i32_le.mp (z_in_ne (fun g => hb (Or.inr (Or.inr (Or.inr (Or.inr (Or.inl g))))))).1
      have hb0 : 0 ≤ b.toInt := i32_le.mp (z_in_ne (fun g => hb (Or.inr (Or.inr (Or.inr (Or.inr (Or.inr g))))))).1
      obtain ⟨E4, E21, E6, -⟩ := h.2.1.2.2
      have hX : Rl (pt_m np n m k s q b (mi, ml, mr, sh)).1 (pt_m np n m k s q b (mi, ml, mr, sh)).2.1 mi ml mr sh np nr nj nn := Rl_X h (fun c i j g => pt_ik (by omega)) (fun c i j g => pt_lk (by omega))
      have hP := P_part hX n1 n6 (by omega) m k s q b hq hb0
      exact ⟨_, Pr_up (mi' := (pt_m np n m k s q b (mi, ml, mr, sh)).1) (ml' := (pt_m np n m k s q b (mi, ml, mr, sh)).2.1) (mr' := (pt_m np n m k s q b (mi, ml, mr, sh)).2.2.1) (sh' := (pt_m np n m k s q b (mi, ml, mr, sh)).2.2.2) (c_X5_part hH hn.2.1 hn.2.2 (by omega) E4 E21 E6 n n1 n6 m k s q b hb) (c_X6_part hP.2.1.2.1 np hX.1.1.1 (by omega) (nI n) m k s q b hb) ((pt_sk (by decide)).trans hI.1) (fun j => pt_ik (by decide)) hP (fun c i j k1 k2 => by unfold pa_m; rw [u_3_k (by omega), pa_6k (by omega), pa_1k (by omega)]) (fun c i j k1 k2 => u_3_k (by omega))⟩
theorem rn_ik {f nr : Nat} {c i j : Nat} (h : c ≠ 1 ∧ c ≠ 3 ∧ c ≠ 5) : rn_i mi f nr c i j = mi c i j := by
  unfold rn_i; rw [u_3_k (by omega), u_3_k (by omega), u_3_k (by omega), u_n_k (by omega)]
theorem Q_run (hI : Iv L (mi, ml, mr, sh)) (x : Int32) : ∃ w, Pr L (hv_i w) true yX5_run md_X5_run yX6_run md_X6_run [hv_i x] (mi, ml, mr, sh) := by
  obtain ⟨np, nr, nj, nn, h⟩ := Iv_h hI
  have hH := h.2.1.1
  have hM := h.2.1.2.1
  have hn := h.1.1
  have hn2 := h.1.2.1
  by_cases hb : z_in x 0 2 = 0
  · exact ⟨_, Pr_eq hI (c_X5_run_b hH x hb) (c_X6_run_b hM x hb)⟩
  · obtain ⟨f, -, f2, rfl⟩ := z_nat (a := 0) (b := 2) (by decide) (by decide) hb
    have hf : f < 3 := by omega
    have hi := Rl_ir h hf
    have hc := Rl_fc h hf
    have hfp := Rl_fp h hf
    have hip := ip_le (pl_c mr f) 4
    have rn : ∀ {X : MI_} {T : ML_}, Rl X T mi ml mr sh np nr nj nn → (rn_n X f ↔ (¬ ir_ (cu_c mr f) = 0 ∨ mi 3 f 6 = 0 ∨ ip_ (pl_c mr f) 4 = 0)) := by
      intro X T hX
      unfold rn_n
      rw [Rl_ir hX hf, (hX.2.2.2.2.1 f hf).2.2.1, A_load hX hf 4 (Nat.le_refl _), nIe0 (by omega)]
    by_cases hno : ¬ ir_ (cu_c mr f) = 0 ∨ mi 3 f 6 = 0 ∨ ip_ (pl_c mr f) 4 = 0
    · exact ⟨_, Pr_eq hI (c_X5_run_n hH f hf hfp hc hno) (c_X6_run_n hM f hf ((rn h).mpr hno))⟩
    · by_cases h100 : nr = 100
      · exact ⟨_, Pr_eq hI (c_X5_run_f hH f hf hfp hc hno hn2.2.1 hn2.2.2 h100) (c_X6_run_f hM f hf (mt (rn h).mp hno) (by rw [hn2.1, h100]; rfl))⟩
      · have g3 : ir_ (cu_c mr f) = 0 := Decidable.byContradiction (fun q => hno (Or.inl q))
        have hX : Rl (rn_i mi f nr) (u_n ml 5 nr 0) mi ml mr sh np nr nj nn := Rl_X h (fun c i j g => rn_ik (by omega)) (fun c i j g => u_n_k (by omega))
        have hP := P_run hX hf (by omega) (ir_none g3) (fun q => hno (Or.inr (Or.inl (by rw [← (hX.2.2.2.2.1 f hf).2.2.1]; exact q))))
        have e28 : ru_m (rn_i mi f nr) f nr 7 0 28 - 1 = nI nr := by
          rw [hP.1.2.1.1]
          exact pk_sub (a := nr + 1) (b := 1) (by omega)
        exact ⟨_, Pr_up (c_X5_run hH f hf hfp hc hno hn2.2.1 hn2.2.2 (by omega) h.2.1.2.2.2.2.2) (Dv (di e28) (c_X6_run hP.2.1.2.1 np hn.2.2 (Rl_pl hX) f hf (mt (rn hX).mp hno) nr hX.1.2.1.1 (by omega))) ((u_2_k (by decide)).trans hI.1) (fun j => rn_ik (by decide)) hP (fun c i j k1 k2 => by unfold ru_m; rw [u_3_k (by omega), ru_l_k (by omega), ru_5_k (by omega)]) (fun _ _ _ _ _ => rfl)⟩
theorem Q_tick (hI : Iv L (mi, ml, mr, sh)) (x : Int32) : ∃ w, Pr L (hv_i w) false yX5_tick md_X5_tick yX6_tick md_X6_tick [hv_i x] (mi, ml, mr, sh) := by
  obtain ⟨np, nr, nj, nn, h⟩ := Iv_h hI
  have hH := h.2.1.1
  have hM := h.2.1.2.1
  have hn := h.1.1
  by_cases hb : z_in x 1 200 = 0
  · exact ⟨_, Pr_eq hI (c_X5_tick_b hH x hb) (c_X6_tick_b hM x hb)⟩
  · obtain ⟨z, z1, z2, rfl⟩ := z_nat (a := 1) (b := 200) (by decide) (by decide) hb
    have h5 := c_X5_tick (C := (mi, ml, mr)) (J := J_c sh np nr nj nn) ⟨mi, ml, h⟩ J_c1 J_c2 z z2 hb
    have fk := fun (k i j : Nat) (q : k ≠ 3 ∧ k ≠ 5 ∧ k ≠ 6) => ct_zk (nn := nn) (C := (mi, ml, mr)) (a := i) (b := j) q z
    have flk := fun (k i j : Nat) (q : k ≠ 4) => ct_zlk (nn := nn) (C := (mi, ml, mr)) (a := i) (b := j) q z
    have hX : Rl (ct_z nn (mi, ml, mr) z).1 (ct_z nn (mi, ml, mr) z).2.1 mi ml mr sh np nr nj nn := Rl_X h (fun k i j q => fk k i j (by omega)) (fun k i j q => flk k i j (by omega))
    have hP := P_tz (C := (mi, ml, mr)) hX z
    generalize ct_z nn (mi, ml, mr) z = D at *
    have h6 := c_X6_tick hP.2.1.2.1 np hn.2.2 (J := J_m sh np nr nj nn) ⟨(mi, ml, mr), hX⟩ J_m1 J_m2 z z2 hb
    exact ⟨_, Pr_up (mi' := D.1) (ml' := D.2.1) (mr' := D.2.2) (sh' := sh) h5 (Dv (di (A_run hP 3 (Nat.le_refl _))) h6) hI.1 (fun j => fk 0 0 j (by decide)) hP (fun k i j k1 k2 => tz_k (by omega) z) (fun k i j k1 k2 => tz_lk (by omega) z)⟩
theorem Q_stop (hI : Iv L (mi, ml, mr, sh)) (x : Int32) : ∃ w, Pr L (hv_i w) false yX5_stop md_X5_stop yX6_stop md_X6_stop [hv_i x] (mi, ml, mr, sh) := by
  obtain ⟨np, nr, nj, nn, h⟩ := Iv_h hI
  have hH := h.2.1.1
  have hM := h.2.1.2.1
  have hn2 := h.1.2.1
  by_cases hb : z_in x 0 2 = 0
  · exact ⟨_, Pr_eq hI (c_X5_stop_b hH x hb) (c_X6_stop_b hM x hb)⟩
  · obtain ⟨f, -, f2, rfl⟩ := z_nat (a := 0) (b := 2) (by decide) (by decide) hb
    have hf : f < 3 := by omega
    have hi := Rl_ir h hf
    have hc := Rl_fc h hf
    by_cases hr : ir_ (cu_c mr f) = 0
    · exact ⟨_, Pr_eq hI (c_X5_stop_n hH f hf hc hr) (c_X6_stop_n hM f hf (hi.trans hr))⟩
    · rcases h.2.2.2.2.2.1 f hf with ⟨e1, -⟩ | ⟨r, al, nl, a1, hr9, a3, a4, a5, a6, hnl, hnl8, hal, e54, e7, -⟩
      · exact absurd (show ir_ (cu_c mr f) = 0 by unfold cu_c; rw [e1]; rfl) hr
      · have hk : ∀ {k i j}, k ≠ 3 ∧ k ≠ 5 → en_m mi f r 0 k i j = mi k i j := by
          intro k i j q
          unfold en_m; rw [u_3_k (by omega), u_3_k (by omega), u_3_k (by omega)]
        have hX : Rl (en_m mi f r 0) ml mi ml mr sh np nr nj nn := Rl_X h (fun k i j q => hk (by omega)) (fun _ _ _ _ => rfl)
        have hP := P_stop hX hf a1
        have ea : sp_m (en_m mi f r 0) f r 54 0 f = mi 3 f 7 := by
          unfold sp_m
          rw [u_3_k (by decide), u_3_k (by decide), hk (by decide), e54, e7]
        exact ⟨_, Pr_up (c_X5_stop hH f hf r hr9 a1) (Dv (di ea) (c_X6_stop hP.2.1.2.1 f hf (by rw [hk (by decide), a3]; decide) r ((hk (by decide)).trans a4) (by omega))) hI.1 (fun j => hk (by decide)) hP (fun k i j k1 k2 => by unfold sp_m; rw [u_3_k (by omega), u_3_k (by omega)]) (fun _ _ _ _ _ => rfl)⟩
theorem Q_survey (hI : Iv L (mi, ml, mr, sh)) (x e : Int32) : ∃ w, Pr L (hv_i w) false yX5_survey md_X5_survey yX6_survey md_X6_survey [hv_i x, hv_i e] (mi, ml, mr, sh) := by
  obtain ⟨np, nr, nj, nn, h⟩ := Iv_h hI
  have hH := h.2.1.1
  have hM := h.2.1.2.1
  have hn2 := h.1.2.1
  by_cases hb : z_in x 0 2 = 0 ∨ z_in e (-500) 500 = 0
  · exact ⟨_, Pr_eq hI (c_X5_survey_b hH x e hb) (c_X6_survey_b hM x e hb)⟩
  · obtain ⟨f, -, f2, rfl⟩ := z_nat (a := 0) (b := 2) (by decide) (by decide) (fun q => hb (Or.inl q))
    have he : ¬ z_in e (-500) 500 = 0 := fun q => hb (Or.inr q)
    have hf : f < 3 := by omega
    have hi := Rl_ir h hf
    have hc := Rl_fc h hf
    by_cases hr : ir_ (cu_c mr f) = 0
    · obtain ⟨a1, a2, a3, -, a5, s, c1, c2⟩ := h.2.2.2.2.1 f hf
      by_cases hee : e = mi 3 f 8
      · have hk : ∀ {k i j}, k ≠ 3 → sv_m mi f e k i j = mi k i j := by
          intro k i j q
          unfold sv_m; rw [u_3_k (by omega), u_3_k (by omega)]
        have hX : Rl (sv_m mi f e) ml mi ml mr sh np nr nj nn := Rl_X h (fun k i j q => hk (by omega)) (fun _ _ _ _ => rfl)
        have hP := P_sy hX hf e
        exact ⟨_, Pr_up (c_X5_survey_e hH f hf e he hc hr hee) (c_X6_survey_e hM f hf e he nr s hX.1.2.1.1 hn2.2.2 ((hk (by decide)).trans (a5.trans c2)) c1 ((hk (by decide)).trans (hi.trans hr)) ((hk (by decide)).trans (a2.trans hee.symm))) hI.1 (fun j => hk (by decide)) hP (fun k i j k1 k2 => by unfold sy_m; rw [u_3_k (by omega), u_3_k (by omega)]) (fun _ _ _ _ _ => rfl)⟩
      · have hk : ∀ {k i j}, k ≠ 3 ∧ k ≠ 5 → sv_m (dd_ mi f s (nr - s)).2 f e k i j = mi k i j := by
          intro k i j q
          unfold sv_m; rw [u_3_k (by omega), u_3_k (by omega), dd_k (by omega)]
        have hX : Rl (sv_m (dd_ mi f s (nr - s)).2 f e) ml mi ml mr sh np nr nj nn := Rl_X h (fun k i j q => hk (by omega)) (fun _ _ _ _ => rfl)
        obtain ⟨hS, hA⟩ := P_su hX (f := f) (s := s) (nr - s) (by omega)
        have hP := P_sy hS hf e
        exact ⟨_, Pr_up (c_X5_survey hH f hf e he hc hn2.2.1 hn2.2.2 s c2 c1 hr hee) (Dv (di hA) (c_X6_survey hM f hf e he nr s hX.1.2.1.1 hn2.2.2 ((hk (by decide)).trans (a5.trans c2)) c1 ((hk (by decide)).trans (hi.trans hr)) (fun q => hee (by rw [← q, hk (by decide)]; exact a2)))) hI.1 (fun j => hk (by decide)) hP (fun k i j k1 k2 => by unfold sy_m; rw [u_3_k (by omega), u_3_k (by omega), su_k (by omega)]) (fun _ _ _ _ _ => rfl)⟩
    · exact ⟨_, Pr_eq hI (c_X5_survey_n hH f hf e he hc hr) (c_X6_survey_n hM f hf e he (by rw [hi]; exact hr))⟩
theorem Q_about (hI : Iv L (mi, ml, mr, sh)) (x v : Int32) : ∃ w, Pr L (hv_i w) false yX5_about md_X5_about yX6_about md_X6_about [hv_i x, hv_i v] (mi, ml, mr, sh) := by
  obtain ⟨np, nr, nj, nn, h⟩ := Iv_h hI
  have hH := h.2.1.1
  have hM := h.2.1.2.1
  have hn := h.1.1
  by_cases hb : z_in x 0 2 = 0
  · exact ⟨_, Pr_eq hI (c_X5_about_b hH x v (Or.inl hb)) (c_X6_about_b hM x v hb)⟩
  · obtain ⟨f, -, f2, rfl⟩ := z_nat (a := 0) (b := 2) (by decide) (by decide) hb
    have hf : f < 3 := by omega
    by_cases hv : z_in v 0 6 = 0
    · exact ⟨_, Pr_eq hI (c_X5_about_b hH (nI f) v (Or.inr hv)) (c_X6_about_c hM f hf v hv)⟩
    · obtain ⟨v', -, v2, rfl⟩ := z_nat (a := 0) (b := 6) (by decide) (by decide) hv
      exact ⟨_, Pr_eq hI (c_X5_about hH f hf (Rl_fp h hf) (Rl_fc h hf) v' v2) (Dv (di (A_about h hf v2)) (c_X6_about hM np hn.2.2 (Rl_pl h) f hf v' v2))⟩
theorem Q_runAt (hI : Iv L (mi, ml, mr, sh)) (x v : Int32) : ∃ w, Pr L (hv_i w) false yX5_runAt md_X5_runAt yX6_runAt md_X6_runAt [hv_i x, hv_i v] (mi, ml, mr, sh) := by
  obtain ⟨np, nr, nj, nn, h⟩ := Iv_h hI
  have hH := h.2.1.1
  have hM := h.2.1.2.1
  have hn2 := h.1.2.1
  by_cases hb : x < 0 ∨ z_in v 0 4 = 0
  · exact ⟨_, Pr_eq hI (c_X5_runAt_b hH x v hb) (c_X6_runAt_b hM x v hb)⟩
  · have hx : ¬ x < 0 := fun q => hb (Or.inl q)
    have hv : ¬ z_in v 0 4 = 0 := fun q => hb (Or.inr q)
    by_cases hl : x < mi 1 0 5
    · obtain ⟨r, hr, rfl⟩ := nI_of hx
      obtain ⟨v', -, v2, rfl⟩ := z_nat (a := 0) (b := 4) (by decide) (by decide) hv
      rw [hn2.2.1] at hl
      have hrn : r < nr := (nI_ltI hr (by omega)).mp hl
      exact ⟨_, Pr_eq hI (c_X5_runAt hH hn2.2.1 hn2.2.2 r hrn v' v2) (Dv (di (A_runAt h hrn v2)) (c_X6_runAt hM nr hn2.1 hn2.2.2 r v' hrn v2))⟩
    · exact ⟨_, Pr_eq hI (c_X5_runAt_n hH x v hx hv hl) (c_X6_runAt_n hM x v hx hv (by rw [hn2.1, ← hn2.2.1]; exact hl))⟩
theorem Q_paper (hI : Iv L (mi, ml, mr, sh)) (x a b : Int32) : ∃ w, Pr L (hv_i w) false yX5_paper md_X5_paper yX6_paper md_X6_paper [hv_i x, hv_i a, hv_i b] (mi, ml, mr, sh) := by
  obtain ⟨np, nr, nj, nn, h⟩ := Iv_h hI
  have hH := h.2.1.1
  have hM := h.2.1.2.1
  have hn := h.1.1
  have hn2 := h.1.2.1
  have e1 : mi 7 0 0 = mi 1 0 4 := hn.1.trans hn.2.1.symm
  by_cases hb : z_in x 0 (mi 1 0 4 - 1) = 0 ∨ ¬ a ≤ b
  · exact ⟨_, Pr_eq hI (c_X5_paper_b hH hn.2.1 hn.2.2 x a b hb) (c_X6_paper_b hM x a b (by rw [e1]; exact hb))⟩
  · obtain ⟨p, hp, rfl⟩ := z_ix (n := np) (by omega) (fun q => hb (Or.inl (by rw [hn.2.1]; exact q)))
    have hab : a ≤ b := Decidable.byContradiction (fun q => hb (Or.inr q))
    obtain ⟨-, -, -, -, -, -, -, -, -, p10, p11, -⟩ := h.2.2.1 p hp
    cases hr : mr 4 p 9 with
    | none => exact ⟨_, Pr_eq hI (c_X5_paper_0 hH hn.2.1 hn.2.2 p hp a b hab hr) (c_X6_paper_0 hM np hn.1 hn.2.2 p hp a b hab (by rw [p10, hr]; rfl))⟩
    | some q =>
      obtain ⟨q1, q2⟩ := p11 q hr
      have hr' : mr 4 p 9 = some (5, q.2) := by rw [hr, ← q1]
      exact ⟨_, Pr_eq hI (c_X5_paper hH hn.2.1 hn.2.2 p hp a b hab q.2 q2 hr') (Dv (di (A_paper h hp q2)) (c_X6_paper hM np hn.1 hn.2.2 p hp a b hab q.2 (by omega) (by rw [p10, hr]; rfl)))⟩
theorem Q_job (hI : Iv L (mi, ml, mr, sh)) (a b : Int32) : ∃ w, Pr L (hv_i w) false yX5_job md_X5_job yX6_job md_X6_job [hv_i a, hv_i b] (mi, ml, mr, sh) := by
  obtain ⟨np, nr, nj, nn, h⟩ := Iv_h hI
  have hH := h.2.1.1
  have hM := h.2.1.2.1
  have hn3 := h.1.2.2
  by_cases hb : z_in a 1 1000 = 0 ∨ z_in b 0 10000 = 0
  · exact ⟨_, Pr_eq hI (c_X5_job_b hH a b hb) (c_X6_job_b hM a b hb)⟩
  · by_cases h7 : nj = 7
    · exact ⟨_, Pr_eq hI (c_X5_job_f hH nj hn3.2.1 hn3.2.2 a b hb h7) (c_X6_job_f hM a b hb (by rw [hn3.1, h7]; rfl))⟩
    · have ha' := z_in_ne (fun q => hb (Or.inl q))
      have hb' := z_in_ne (fun q => hb (Or.inr q))
      have hk : ∀ {k i j}, k ≠ 2 ∧ k ≠ 11 ∧ k ≠ 12 ∧ k ≠ 13 ∧ k ≠ 14 → pl_m (ja_m mi nj a b) (nj + 1) k i j = mi k i j := by
        intro k i j q
        rw [pl_k (by omega)]; unfold ja_m ja_2; rw [u_3_k (by omega), u_3_k (by omega), u_3_k (by omega)]
      have hX : Rl (pl_m (ja_m mi nj a b) (nj + 1)) ml mi ml mr sh np nr nj nn := Rl_X h (fun k i j q => hk (by omega)) (fun _ _ _ _ => rfl)
      have hP := P_job hX (by omega) ⟨i32_le.mp ha'.1, i32_le.mp ha'.2⟩ ⟨i32_le.mp hb'.1, i32_le.mp hb'.2⟩
      have ea : jb_m (pl_m (ja_m mi nj a b) (nj + 1)) nj a b 7 0 35 - 1 = nI nj := by
        rw [hP.1.2.2.1]
        exact pk_sub (a := nj + 1) (b := 1) (by omega)
      exact ⟨_, Pr_up (c_X5_job hH nj hn3.2.1 hn3.2.2 a b hb (by omega)) (Dv (di ea) (c_X6_job hM a b hb nj hX.1.2.2.1 (by omega))) hI.1 (fun j => hk (by decide)) hP (fun k i j k1 k2 => by unfold jb_m jb_2; rw [u_3_k (by omega), u_3_k (by omega), u_3_k (by omega)]) (fun _ _ _ _ _ => rfl)⟩
theorem Q_clearJobs (hI : Iv L (mi, ml, mr, sh)) : ∃ w, Pr L (hv_i w) false yX5_clearJobs md_X5_clearJobs yX6_clearJobs md_X6_clearJobs [] (mi, ml, mr, sh) := by
  obtain ⟨np, nr, nj, nn, h⟩ := Iv_h hI
  have hH := h.2.1.1
  have hM := h.2.1.2.1
  have hn3 := h.1.2.2
  have hk : ∀ {k i j}, k ≠ 2 ∧ k ≠ 13 ∧ k ≠ 14 → pl_m (u_3 mi 2 0 4 (nI 0)) 0 k i j = mi k i j := by
    intro k i j q
    rw [pl_k (by omega), u_3_k (by omega)]
  have hX : Rl (pl_m (u_3 mi 2 0 4 (nI 0)) 0) ml mi ml mr sh np nr nj nn := Rl_X h (fun k i j q => hk (by omega)) (fun _ _ _ _ => rfl)
  have hP := P_clr hX
  exact ⟨_, Pr_up (c_X5_clearJobs hH nj hn3.2.1 hn3.2.2) (Dv (di hX.1.2.2.1) (c_X6_clearJobs hM)) hI.1 (fun j => hk (by decide)) hP (fun k i j k1 k2 => u_3_k (by omega)) (fun _ _ _ _ _ => rfl)⟩
theorem Q_lateness (hI : Iv L (mi, ml, mr, sh)) : ∃ w, Pr L (hv_i w) false yX5_lateness md_X5_lateness yX6_lateness md_X6_lateness [] (mi, ml, mr, sh) := by
  obtain ⟨np, nr, nj, nn, h⟩ := Iv_h hI
  have hH := h.2.1.1
  have hM := h.2.1.2.1
  have hn3 := h.1.2.2
  exact ⟨_, Pr_up (c_X5_lateness hH) (Dv (di (A_late h)) (c_X6_lateness hM nj hn3.1 hn3.2.2)) hI.1 (fun j => rfl) (P_wg h nj (2 ^ nj)) (fun k i j k1 k2 => wg_k (by omega) _) (fun _ _ _ _ _ => rfl)⟩
theorem Q_order (hI : Iv L (mi, ml, mr, sh)) (x : Int32) : ∃ w, Pr L (hv_i w) false yX5_order md_X5_order yX6_order md_X6_order [hv_i x] (mi, ml, mr, sh) := by
  obtain ⟨np, nr, nj, nn, h⟩ := Iv_h hI
  have hH := h.2.1.1
  have hM := h.2.1.2.1
  have hn3 := h.1.2.2
  by_cases hb : z_in x 0 (mi 2 0 4 - 1) = 0
  · exact ⟨_, Pr_eq hI (c_X5_order_b hH x hb) (c_X6_order_b hM x (by rw [hn3.1, ← hn3.2.1]; exact hb))⟩
  · obtain ⟨i, hi, rfl⟩ := z_ix (n := nj) (by omega) (by rw [← hn3.2.1]; exact hb)
    obtain ⟨dn, fd, d0, ds, df, de⟩ := A_ord h hi
    exact ⟨_, Pr_up (c_X5_order hH nj hn3.2.1 hn3.2.2 i hi) (Dv (di de) (c_X6_order hM nj hn3.1 hn3.2.2 i hi dn fd d0 ds df)) hI.1 (fun j => rfl) (P_wg h nj (2 ^ nj)) (fun k i j k1 k2 => wg_k (by omega) _) (fun _ _ _ _ _ => rfl)⟩
theorem Q_count (hI : Iv L (mi, ml, mr, sh)) (v : Int32) : ∃ w, Pr L (hv_i w) false yX5_count md_X5_count yX6_count md_X6_count [hv_i v] (mi, ml, mr, sh) := by
  obtain ⟨np, nr, nj, nn, h⟩ := Iv_h hI
  have hH := h.2.1.1
  have hM := h.2.1.2.1
  have hn2 := h.1.2.1
  by_cases hv : z_in v 0 4 = 0
  · exact ⟨_, Pr_eq hI (c_X5_count_b hH v hv) (c_X6_count_b hM v hv)⟩
  · obtain ⟨v', -, v2, rfl⟩ := z_nat (a := 0) (b := 4) (by decide) (by decide) hv
    exact ⟨_, Pr_eq hI (c_X5_count hH (cu := cu_c mr) (fun f hf => Rl_fc h hf) hn2.2.1 hn2.2.2 v' v2) (Dv (di (A_count h v2)) (c_X6_count hM nr hn2.1 hn2.2.2 v' v2))⟩
theorem Q_digest (hI : Iv L (mi, ml, mr, sh)) : ∃ w, Pr L (hv_l w) false yX5_digest md_X5_digest yX6_digest md_X6_digest [] (mi, ml, mr, sh) := by
  obtain ⟨np, nr, nj, nn, h⟩ := Iv_h hI
  have hH := h.2.1.1
  have hM := h.2.1.2.1
  have hn := h.1.1
  have hn2 := h.1.2.1
  exact ⟨_, Pr_eq hI (c_X5_digest hH hn.2.1 hn.2.2 (cu := cu_c mr) (fun f hf => Rl_fc h hf) hn2.2.1 hn2.2.2 (pl := pl_c mr) (fun f hf => Rl_fp h hf)) (Dv (dl (A_digest h)) (c_X6_digest hM np hn.1 hn.2.2 (Rl_pl h) (Rl_sh h) nr hn2.1 hn2.2.2))⟩
end Pairs2
