/-! memory: fields, arrays -/
/-- a class's table -/
def hc_C (c : Nat) (C : String) (T : u_T) (N : Nat) : Prop := vwCl[c]? = some (C, T, N) ∧ (∀ w ∈ u_ws C T N, w ∈ gtbl) ∧ (∀ k, k < N → parseFieldDescriptor (T k).2.2.1 = some (ft_ c k)) ∧ (∀ a, a < N → ∀ b, b < N → a ≠ b → (T a).2.1 ≠ (T b).2.1) ∧ Cond.instantiable C N ∈ gtbl ∧ Cond.initialized C ∈ gtbl
/-- a field, as class 'own' spells it -/
def hf_L (own : String) (idx c f : Nat) (fin : Bool) : Prop := ∃ (C : String) (T : u_T) (N : Nat), hc_C c C T N ∧ f < N ∧ Cond.fieldLink own idx (T f).1 (T f).2.1 (T f).2.2.1 ∈ gtbl ∧ (T f).2.2.2 = fin ∧ (T f).1 = C
theorem nf_of {c : Nat} {q : vw_C} (h : vwCl[c]? = some q) : nf_ c = q.2.2 := by simp [nf_, h]
/-- M' is M but for one place -/
def hm_up (M M' : Me_) (k i f : Nat) : Prop := M'.2.2.2 = M.2.2.2 ∧ ∀ k' i' f', ¬ (k' = k ∧ i' = i ∧ f' = f) → M'.1 k' i' f' = M.1 k' i' f' ∧ M'.2.1 k' i' f' = M.2.1 k' i' f' ∧ M'.2.2.1 k' i' f' = M.2.2.1 k' i' f'
theorem hm_v_same {ad : Nat → Nat → Nat} {ty : FieldType} {M M' : Me_} {k i f : Nat} (h : M'.1 k i f = M.1 k i f ∧ M'.2.1 k i f = M.2.1 k i f ∧ M'.2.2.1 k i f = M.2.2.1 k i f) : hm_v ad ty M' k i f = hm_v ad ty M k i f := by
  unfold hm_v
  split
  · rw [h.1]
  · rw [h.2.1]
  · rw [h.2.2]
theorem t_OB.toV {o : Nat} {cC : ClassId} {N : Nat} {iS : Nat → Nat} {H : Heap} {V V' : Nat → Value} (h : t_OB o cC N iS H V) (hv : ∀ k, V k = V' k) : t_OB o cC N iS H V' := h.to (fun k _ => hv k)
theorem arrV_to {cA : ClassId} {n : Nat} {f g : Nat → Value} (h : ∀ j, f j = g j) : arrV cA n f = arrV cA n g := by rw [funext h]
/-- a cell whose own place of the heap, and whose own rows of the memory, are as they were -/
theorem hm_at.kept {D : Hd_} {ad : Nat → Nat → Nat} {M M' : Me_} {U : State} {H H' : Heap} {k i n : Nat} (h : hm_at D ad M U H k i n) (hq : H'[ad k i]? = H[ad k i]?) (hm : ∀ f, M'.1 k i f = M.1 k i f ∧ M'.2.1 k i f = M.2.1 k i f ∧ M'.2.2.1 k i f = M.2.2.1 k i f) : hm_at D ad M' U H' k i n := by
  unfold hm_at at h ⊢
  by_cases hk : k = 0
  · rw [if_pos hk] at h ⊢
    obtain ⟨scr, h1, h2, h3, h4, h5⟩ := h
    exact ⟨scr, by rw [hq]; exact h1, h2, h3, h4, fun j hj => by rw [h5 j hj, (hm j).1]⟩
  · rw [if_neg hk] at h ⊢
    split
    · rename_i c hc
      rw [hc] at h
      exact (h.kept hq).toV (fun f => (hm_v_same (hm f)).symm)
    · rename_i a hc
      rw [hc] at h
      rw [hq, h, arrV_to (fun f => (hm_v_same (hm f)).symm)]
theorem hm_R.put {D : Hd_} {ad : Nat → Nat → Nat} {base : Nat} {M M' : Me_} {U : State} {H H' : Heap} {k i f n0 : Nat} (h : hm_R D ad base M U H) (hup : hm_up M M' k i f) (hl : M.2.2.2 k i = some n0) (hz : H'.size = H.size) (hq : ∀ q : Nat, q ≠ ad k i → H'[q]? = H[q]?) (ha : hm_at D ad M' U H' k i n0) (hlv : M'.2.2.1 k i f = M.2.2.1 k i f ∨ ∀ q, M'.2.2.1 k i f = some q → ∃ n', M.2.2.2 q.1 q.2 = some n') : hm_R D ad base M' U H' := by
  obtain ⟨h1, h2, h3, h4, h5⟩ := h
  refine ⟨fun k' i' n hn => ?_, ?_, ?_, by rw [hz]; exact h4, fun k' i' f' n q hn hq' => ?_⟩
  · rw [hup.1] at hn
    by_cases e : k' = k ∧ i' = i
    · obtain ⟨rfl, rfl⟩ := e
      rw [hl] at hn
      cases hn
      exact ha
    · exact (h1 k' i' n hn).kept (hq _ (fun z => e (h2 k' i' k i n n0 hn hl z))) (fun f' => hup.2 k' i' f' (fun z => e ⟨z.1, z.2.1⟩))
  · rw [hup.1]; exact h2
  · rw [hup.1]; exact h3
  · rw [hup.1] at hn ⊢
    by_cases e : k' = k ∧ i' = i ∧ f' = f
    · obtain ⟨rfl, rfl, rfl⟩ := e
      rcases hlv with h | h
      · rw [h] at hq'
        exact h5 _ _ _ _ _ hn hq'
      · exact h q hq'
    · rw [(hup.2 k' i' f' e).2.2] at hq'
      exact h5 _ _ _ _ _ hn hq'
theorem hm_upI {mi : MI_} {ml : ML_} {mr : MR_} {sh : SH_} {k i f : Nat} {x : Int32} : hm_up (mi, ml, mr, sh) (u_3 mi k i f x, ml, mr, sh) k i f := ⟨rfl, fun k' i' f' h => ⟨by simp [u_3, h], rfl, rfl⟩⟩
theorem hm_upL {mi : MI_} {ml : ML_} {mr : MR_} {sh : SH_} {k i f : Nat} {x : Int64} : hm_up (mi, ml, mr, sh) (mi, u_3 ml k i f x, mr, sh) k i f := ⟨rfl, fun k' i' f' h => ⟨rfl, by simp [u_3, h], rfl⟩⟩
theorem hm_upR {mi : MI_} {ml : ML_} {mr : MR_} {sh : SH_} {k i f : Nat} {x : Option (Nat × Nat)} : hm_up (mi, ml, mr, sh) (mi, ml, u_3 mr k i f x, sh) k i f := ⟨rfl, fun k' i' f' h => ⟨rfl, rfl, by simp [u_3, h]⟩⟩
theorem kd_ne0 {k c : Nat} (h : kd_ k = .inl c) : k ≠ 0 := by
  intro e
  subst e
  cases h
theorem hm_obj {D : Hd_} {ad : Nat → Nat → Nat} {M : Me_} {U : State} {H : Heap} {k i n c : Nat} (h : hm_at D ad M U H k i n) (hk : kd_ k = .inl c) : t_OB (ad k i) (D.1 c) (nf_ c) (D.2.1 c) H (fun f => hm_v ad (ft_ c f) M k i f) := by
  unfold hm_at at h
  rw [if_neg (kd_ne0 hk), hk] at h
  exact h
theorem hm_arr {D : Hd_} {ad : Nat → Nat → Nat} {M : Me_} {U : State} {H : Heap} {k i n a : Nat} (h : hm_at D ad M U H k i n) (h0 : k ≠ 0) (hk : kd_ k = .inr a) : H[ad k i]? = some (arrV (D.2.2 a) n (fun j => hm_v ad (et_ a) M k i j)) := by
  unfold hm_at at h
  rw [if_neg h0, hk] at h
  exact h
section HM
variable {d : Md_} {al : Bool} {sh0 : SH_} {Q : Option V_ → Me_ → Prop} {bc bs : Nat} {pc n : Nat} {ls : List (Option V_)} {st : List V_} {M M' : Me_}
theorem hg_get {k i len c f idx : Nat} {fin : Bool} {v : V_} (hd : decode (md_cc d) pc = .ok (.getfield idx, 3)) (hn : pc + 3 = n) (hL : hf_L (md_own d) idx c f fin) (hk : kd_ k = .inl c) (hs : M.2.2.2 k i = some len) (hv : ∀ ad, hm_v ad (ft_ c f) M k i f = hv_c ad v) (kk : hg_G d al sh0 Q bc bs n ls (v :: st) M) : hg_G d al sh0 Q bc bs pc ls (hv_r (some (k, i)) :: st) M := by
  subst hn
  obtain ⟨C, T, N, ⟨hc, hin, hty, hnm, -, -⟩, hf, hlk, hfin, hdecl⟩ := hL
  refine hg_pure (fun p l e R s m args below meth cd D ad base H locs cells slots arr Qf X hR hq _ _ kk => ?_) kk
  obtain ⟨cell, q1, q2, q3, q4⟩ := hm_obj (hR.1 k i len hs) hk
  have hK : va_K (D.1, D.2.1) vwCl (tys_ D) s := X.2.2.2.2.2.2.2.2.2.2.2.2.1
  obtain ⟨hS, hfc, kC, hkC, hkind⟩ := hK.1 c _ hc
  obtain ⟨cf, kf, fi, fd, hi, hsl⟩ := hS f hf
  have hN : f < nf_ c := by rw [nf_of hc]; exact hf
  refine W.getf X.1 X.2.1 X.2.2.2.2.1 (X.2.2.2.2.2.1 _ hlk) hi (u_facts hfc hkC (u_lays X.2.2.2.2.2.1 hin hf) hi).1 q1 (by rw [q3]; exact fun h => by cases h) (v := hv_c ad v) ?_ rfl rfl hd kk
  rw [hsl]
  exact (q4 f hN).trans (congrArg some (hv ad))
theorem hg_putG {k i len c f idx : Nat} {v : V_} (hd : decode (md_cc d) pc = .ok (.putfield idx, 3)) (hn : pc + 3 = n) {fin : Bool} (hL : hf_L (md_own d) idx c f fin) (hfo : fin = true → md_nm d = "<init>" ∧ ∃ C T N, vwCl[c]? = some (C, T, N) ∧ C = md_own d) (hk : kd_ k = .inl c) (hs : M.2.2.2 k i = some len) (hup : hm_up M M' k i f) (hv : ∀ ad, hm_v ad (ft_ c f) M' k i f = hv_c ad v)
    (hna : ∀ ad, narrow (ft_ c f) (hv_c ad v) = hv_c ad v) (hfi : ∀ ad, fits (ft_ c f) (hv_c ad v) = true) (hlv : M'.2.2.1 k i f = M.2.2.1 k i f ∨ ∀ q, M'.2.2.1 k i f = some q → ∃ n', M.2.2.2 q.1 q.2 = some n') (kk : hg_G d al sh0 Q bc bs n ls st M') : hg_G d al sh0 Q bc bs pc ls (v :: hv_r (some (k, i)) :: st) M := by
  subst hn
  obtain ⟨C, T, N, ⟨hc, hin, hty, hnm, -, -⟩, hf, hlk, hfin, hdecl⟩ := hL
  intro p l e R s m args below meth cd D ad0 ad base H locs cells slots arr X Y
  have hR := Y.1
  obtain ⟨cell, q1, q2, q3, q4⟩ := hm_obj (hR.1 k i len hs) hk
  have hK : va_K (D.1, D.2.1) vwCl (tys_ D) s := X.2.2.2.2.2.2.2.2.2.2.2.2.1
  have hts := X.2.2.2.2.2.1
  have hap := va_apart (own := C) hts hin (ft_ c) hty hnm hK hc
  obtain ⟨hS, hfc, kC, hkC, hkind⟩ := hK.1 c _ hc
  obtain ⟨cf, kf, fi, fd, hi, hsl⟩ := hS f hf
  have eN : nf_ c = N := nf_of hc
  have hN : f < nf_ c := by rw [eN]; exact hf
  have hst := (u_facts hfc hkC (u_lays hts hin hf) hi).1
  have hlay := hts _ (hin _ (u_in_lay hf))
  unfold u_lay at hlay
  have fin2 : ∀ H' : Heap, H'[ad k i]? = some (cell.setSlot (D.2.1 c f) (hv_c ad v)) → H'.size = H.size → (∀ q, q ≠ ad k i → H'[q]? = H[q]?) → W p l e R s m args below meth cd H' (locs ++ [⟨ad k i, fd.slot⟩]) cells slots (MQ below (hg_Q D base sh0 ad0 al Q) args s (md_mc d) (md_ms d) (fun q => base ≤ q)) (F0 m (pc + 3) arr (st.map (hv_c ad))) := by
    intro H' e1 e2 e3
    refine kk p l e R s m args below meth cd D ad0 ad base H' (locs ++ [⟨ad k i, fd.slot⟩]) cells slots arr X ⟨hR.put hup hs e2 e3 ?_ hlv, fun q hq => ?_, Y.2.2⟩
    · unfold hm_at
      rw [if_neg (kd_ne0 hk), hk]
      refine t_OB.toV (V := updV (fun f => hm_v ad (ft_ c f) M k i f) f (hv_c ad v)) ⟨_, e1, q2, q3, fun j hj => t_set q4 (fun a b ha hb => hap a b (by rw [← eN]; exact ha) (by rw [← eN]; exact hb)) hN (hv_c ad v) j hj⟩ (fun j => ?_)
      by_cases hj : j = f
      · subst hj
        simp [updV, hv ad]
      · simp only [updV, if_neg hj]
        exact (hm_v_same (hup.2 k i j (fun z => hj z.2.2))).symm
    · rcases List.mem_append.mp hq with h1 | h1
      · exact Y.2.1 q h1
      · rw [List.mem_singleton.mp h1]
        exact hR.2.2.1 k i len hs (kd_ne0 hk)
  cases fin with
  | false =>
    rw [if_neg (by rw [hfin]; decide)] at hlay
    have h6 := u_store hfc hkC hkind hlay hi (hty f hf) (hna ad) (hfi ad)
    refine W.putK X.1 X.2.1 (f := fd) ⟨X.2.2.2.2.1, hts _ hlk, ⟨_, _, _, hi⟩, hst⟩ (by rw [q2]; exact h6) q1 q3 (by rw [hsl]; exact k2_hasslot (q4 f hN)) rfl rfl hd fun H' e1 e2 e3 => ?_
    rw [hsl] at e1
    exact fin2 H' e1 e2 e3
  | true =>
    rw [if_pos hfin] at hlay
    obtain ⟨hnmI, C', T', N', hc', hown'⟩ := hfo rfl
    have hCo : C = md_own d := by
      rw [hc] at hc'
      cases hc'
      exact hown'
    have hcf : m.cls = cf := by
      obtain ⟨_, _, c', _, _, _, -, -, hf', -, -, -, hown2, -⟩ := Cond.laysFinal_spec hlay
      have e1 : c' = cf := by have := hi.symm.trans hf'; simp at this; exact this.1.symm
      rw [hdecl, hCo] at hown2
      rw [← e1]; exact Option.some.inj (X.2.2.2.2.1.symm.trans hown2)
    have h6 := u_fits hfc hkC hkind (Or.inr hlay) hi (hty f hf) (hna ad) (hfi ad)
    refine W.putFinK X.1 X.2.1 X.2.2.2.2.1 (hts _ hlk) hi hst hcf (X.2.2.2.2.2.2.2.1.trans hnmI) (by rw [q2]; exact h6) q1 q3 (by rw [hsl]; exact k2_hasslot (q4 f hN)) rfl rfl hd fun H' e1 e2 e3 => ?_
    rw [hsl] at e1
    exact fin2 H' e1 e2 e3
variable {mi : MI_} {ml : ML_} {mr : MR_} {sh : SH_}
theorem hg_getI {k i len c f idx : Nat} {fin : Bool} (hd : decode (md_cc d) pc = .ok (.getfield idx, 3)) (hn : pc + 3 = n) (hL : hf_L (md_own d) idx c f fin) (hk : kd_ k = .inl c) (hty : sort_ (ft_ c f) = 0) (hs : sh k i = some len) (kk : hg_G d al sh0 Q bc bs n ls (hv_i (mi k i f) :: st) (mi, ml, mr, sh)) : hg_G d al sh0 Q bc bs pc ls (hv_r (some (k, i)) :: st) (mi, ml, mr, sh) :=
  hg_get hd hn hL hk hs (fun ad => by unfold hm_v; rw [hty]; rfl) kk
theorem hg_getL {k i len c f idx : Nat} {fin : Bool} (hd : decode (md_cc d) pc = .ok (.getfield idx, 3)) (hn : pc + 3 = n) (hL : hf_L (md_own d) idx c f fin) (hk : kd_ k = .inl c) (hty : sort_ (ft_ c f) = 1) (hs : sh k i = some len) (kk : hg_G d al sh0 Q bc bs n ls (hv_l (ml k i f) :: st) (mi, ml, mr, sh)) : hg_G d al sh0 Q bc bs pc ls (hv_r (some (k, i)) :: st) (mi, ml, mr, sh) :=
  hg_get hd hn hL hk hs (fun ad => by unfold hm_v; rw [hty]; rfl) kk
theorem hg_getR {k i len c f idx : Nat} {fin : Bool} {r : Option (Nat × Nat)} (hd : decode (md_cc d) pc = .ok (.getfield idx, 3)) (hn : pc + 3 = n) (hL : hf_L (md_own d) idx c f fin) (hk : kd_ k = .inl c) (hty : sort_ (ft_ c f) = 2) (hs : sh k i = some len) (hr : mr k i f = r) (kk : hg_G d al sh0 Q bc bs n ls (hv_r r :: st) (mi, ml, mr, sh)) : hg_G d al sh0 Q bc bs pc ls (hv_r (some (k, i)) :: st) (mi, ml, mr, sh) := by
  subst hr
  exact hg_get hd hn hL hk hs (fun ad => by unfold hm_v; rw [hty]; rfl) kk
theorem fits_int (x : Int32) : fits .int (.int x) = true := rfl
theorem nar_ty {ty : FieldType} (h : ty = .int) (x : Int32) : narrow ty (.int x) = .int x ∧ fits ty (.int x) = true := by subst h; exact ⟨rfl, rfl⟩
theorem nar_tl {ty : FieldType} (h : ty = .long) (x : Int64) : narrow ty (.long x) = .long x ∧ fits ty (.long x) = true := by subst h; exact ⟨rfl, rfl⟩
theorem nar_tz {ty : FieldType} (h : ty = .boolean) {x : Int32} (hx : x = 0 ∨ x = 1) : narrow ty (.int x) = .int x ∧ fits ty (.int x) = true := by subst h; rcases hx with rfl | rfl <;> exact ⟨by decide, by decide⟩
theorem nar_tr {ty : FieldType} (h : sort_ ty = 2) (ad : Nat → Nat → Nat) (r : Option (Nat × Nat)) : narrow ty (hv_c ad (hv_r r)) = hv_c ad (hv_r r) ∧ fits ty (hv_c ad (hv_r r)) = true := by
  cases ty <;> simp [sort_] at h <;> cases r <;> exact ⟨rfl, rfl⟩
theorem hg_putI {k i len c f idx : Nat} {x : Int32} (hd : decode (md_cc d) pc = .ok (.putfield idx, 3)) (hn : pc + 3 = n) (hL : hf_L (md_own d) idx c f false) (hk : kd_ k = .inl c) (hty : ft_ c f = .int) (hs : sh k i = some len) (kk : hg_G d al sh0 Q bc bs n ls st (u_3 mi k i f x, ml, mr, sh)) : hg_G d al sh0 Q bc bs pc ls (hv_i x :: hv_r (some (k, i)) :: st) (mi, ml, mr, sh) :=
  hg_putG hd hn hL (fun h => by cases h) hk hs hm_upI (fun ad => by unfold hm_v; rw [hty]; simp [sort_, u_3, hv_c]) (fun _ => (nar_ty hty x).1) (fun _ => (nar_ty hty x).2) (Or.inl rfl) kk
theorem hg_putIF {k i len c f idx : Nat} {x : Int32} {C : String} {T : u_T} {N : Nat} (hd : decode (md_cc d) pc = .ok (.putfield idx, 3)) (hn : pc + 3 = n) (hL : hf_L (md_own d) idx c f true) (hnm : md_nm d = "<init>") (hcl : vwCl[c]? = some (C, T, N)) (hC : C = md_own d) (hk : kd_ k = .inl c) (hty : ft_ c f = .int) (hs : sh k i = some len) (kk : hg_G d al sh0 Q bc bs n ls st (u_3 mi k i f x, ml, mr, sh)) : hg_G d al sh0 Q bc bs pc ls (hv_i x :: hv_r (some (k, i)) :: st) (mi, ml, mr, sh) :=
  hg_putG hd hn hL (fun _ => ⟨hnm, C, T, N, hcl, hC⟩) hk hs hm_upI (fun ad => by unfold hm_v; rw [hty]; simp [sort_, u_3, hv_c]) (fun _ => (nar_ty hty x).1) (fun _ => (nar_ty hty x).2) (Or.inl rfl) kk
theorem hg_putZ {k i len c f idx : Nat} {x : Int32} (hd : decode (md_cc d) pc = .ok (.putfield idx, 3)) (hn : pc + 3 = n) (hL : hf_L (md_own d) idx c f false) (hk : kd_ k = .inl c) (hty : ft_ c f = .boolean) (hx : x = 0 ∨ x = 1) (hs : sh k i = some len) (kk : hg_G d al sh0 Q bc bs n ls st (u_3 mi k i f x, ml, mr, sh)) : hg_G d al sh0 Q bc bs pc ls (hv_i x :: hv_r (some (k, i)) :: st) (mi, ml, mr, sh) :=
  hg_putG hd hn hL (fun h => by cases h) hk hs hm_upI (fun ad => by unfold hm_v; rw [hty]; simp [sort_, u_3, hv_c]) (fun _ => (nar_tz hty hx).1) (fun _ => (nar_tz hty hx).2) (Or.inl rfl) kk
theorem hg_putL {k i len c f idx : Nat} {x : Int64} (hd : decode (md_cc d) pc = .ok (.putfield idx, 3)) (hn : pc + 3 = n) (hL : hf_L (md_own d) idx c f false) (hk : kd_ k = .inl c) (hty : ft_ c f = .long) (hs : sh k i = some len) (kk : hg_G d al sh0 Q bc bs n ls st (mi, u_3 ml k i f x, mr, sh)) : hg_G d al sh0 Q bc bs pc ls (hv_l x :: hv_r (some (k, i)) :: st) (mi, ml, mr, sh) :=
  hg_putG hd hn hL (fun h => by cases h) hk hs hm_upL (fun ad => by unfold hm_v; rw [hty]; simp [sort_, u_3, hv_c]) (fun _ => (nar_tl hty x).1) (fun _ => (nar_tl hty x).2) (Or.inl rfl) kk
theorem hg_putR {k i len c f idx : Nat} {r : Option (Nat × Nat)} (hd : decode (md_cc d) pc = .ok (.putfield idx, 3)) (hn : pc + 3 = n) (hL : hf_L (md_own d) idx c f false) (hk : kd_ k = .inl c) (hty : sort_ (ft_ c f) = 2) (hs : sh k i = some len) (hr : ∀ q, r = some q → ∃ n', sh q.1 q.2 = some n') (kk : hg_G d al sh0 Q bc bs n ls st (mi, ml, u_3 mr k i f r, sh)) : hg_G d al sh0 Q bc bs pc ls (hv_r r :: hv_r (some (k, i)) :: st) (mi, ml, mr, sh) :=
  hg_putG hd hn hL (fun h => by cases h) hk hs hm_upR (fun ad => by unfold hm_v; rw [hty]; simp [u_3]) (fun _ => (nar_tr hty _ r).1) (fun _ => (nar_tr hty _ r).2) (Or.inr (fun q h => hr q (by simpa [u_3] using h))) kk
theorem hg_putRF {k i len c f idx : Nat} {r : Option (Nat × Nat)} {C : String} {T : u_T} {N : Nat} (hd : decode (md_cc d) pc = .ok (.putfield idx, 3)) (hn : pc + 3 = n) (hL : hf_L (md_own d) idx c f true) (hnm : md_nm d = "<init>") (hcl : vwCl[c]? = some (C, T, N)) (hC : C = md_own d) (hk : kd_ k = .inl c) (hty : sort_ (ft_ c f) = 2) (hs : sh k i = some len) (hr : ∀ q, r = some q → ∃ n', sh q.1 q.2 = some n') (kk : hg_G d al sh0 Q bc bs n ls st (mi, ml, u_3 mr k i f r, sh)) : hg_G d al sh0 Q bc bs pc ls (hv_r r :: hv_r (some (k, i)) :: st) (mi, ml, mr, sh) :=
  hg_putG hd hn hL (fun _ => ⟨hnm, C, T, N, hcl, hC⟩) hk hs hm_upR (fun ad => by unfold hm_v; rw [hty]; simp [u_3]) (fun _ => (nar_tr hty _ r).1) (fun _ => (nar_tr hty _ r).2) (Or.inr (fun q h => hr q (by simpa [u_3] using h))) kk
end HM
