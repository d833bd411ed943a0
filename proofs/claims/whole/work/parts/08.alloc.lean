/-! new cells -/
theorem hm_at.addr {D : Hd_} {ad : Nat → Nat → Nat} {M : Me_} {U : State} {H : Heap} {k i n : Nat} (h : hm_at D ad M U H k i n) : ad k i < H.size := by
  unfold hm_at at h
  by_cases hk : k = 0
  · rw [if_pos hk] at h
    obtain ⟨scr, h1, -⟩ := h
    exact (Array.getElem?_eq_some_iff.mp h1).1
  · rw [if_neg hk] at h
    split at h
    · obtain ⟨cell, h1, -⟩ := h
      exact (Array.getElem?_eq_some_iff.mp h1).1
    · exact (Array.getElem?_eq_some_iff.mp h).1
theorem hm_v_ad {ad ad' : Nat → Nat → Nat} {ty : FieldType} {M M' : Me_} {k i f : Nat} (h : M'.1 k i f = M.1 k i f ∧ M'.2.1 k i f = M.2.1 k i f ∧ M'.2.2.1 k i f = M.2.2.1 k i f) (hv : hv_c ad' (hv_r (M.2.2.1 k i f)) = hv_c ad (hv_r (M.2.2.1 k i f))) : hm_v ad' ty M' k i f = hm_v ad ty M k i f := by
  unfold hm_v
  split
  · rw [h.1]
  · rw [h.2.1]
  · rw [h.2.2]; exact hv
abbrev hm_new (mi : MI_) (ml : ML_) (mr : MR_) (sh : SH_) (k i n : Nat) : Me_ := (u_n mi k i 0, u_n ml k i 0, u_n mr k i none, u_2 sh k i (some n))
theorem hm_R.grow {D : Hd_} {ad : Nat → Nat → Nat} {base : Nat} {mi : MI_} {ml : ML_} {mr : MR_} {sh : SH_} {U : State} {H H' : Heap} {k i n0 : Nat} (h : hm_R D ad base (mi, ml, mr, sh) U H) (h0 : k ≠ 0) (hs : sh k i = none) (hz : H'.size = H.size + 1) (hq : ∀ q : Nat, q < H.size → H'[q]? = H[q]?) (ha : hm_at D (u_2 ad k i H.size) (hm_new mi ml mr sh k i n0) U H' k i n0) :
    hm_R D (u_2 ad k i H.size) base (hm_new mi ml mr sh k i n0) U H' ∧ ∀ k' i' n, sh k' i' = some n → u_2 ad k i H.size k' i' = ad k' i' := by
  obtain ⟨h1, h2, h3, h4, h5⟩ := h
  have hne : ∀ {k' i' n'}, sh k' i' = some n' → ¬ (k' = k ∧ i' = i) := by
    rintro k' i' n' hl ⟨rfl, rfl⟩
    rw [hs] at hl
    cases hl
  have had : ∀ {k' i' n'}, sh k' i' = some n' → u_2 ad k i H.size k' i' = ad k' i' := fun hl => by simp only [u_2, if_neg (hne hl)]
  have hlive : ∀ {k' i' n'}, u_2 sh k i (some n0) k' i' = some n' → (k' = k ∧ i' = i ∧ n' = n0) ∨ (sh k' i' = some n' ∧ ¬ (k' = k ∧ i' = i)) := by
    intro k' i' n' hl
    by_cases e : k' = k ∧ i' = i
    · simp only [u_2, if_pos e] at hl
      cases hl
      exact Or.inl ⟨e.1, e.2, rfl⟩
    · simp only [u_2, if_neg e] at hl
      exact Or.inr ⟨hl, e⟩
  refine ⟨⟨fun k' i' n hn => ?_, fun k1 i1 k2 i2 n1 n2 l1 l2 e => ?_, fun k' i' n hn hk' => ?_, by omega, fun k' i' f n q hn hr => ?_⟩, fun _ _ _ hl => had hl⟩
  · rcases hlive hn with ⟨rfl, rfl, rfl⟩ | ⟨hl, e⟩
    · exact ha
    · have hold := h1 k' i' n hl
      have hlt := hold.addr
      have hm : ∀ f, (hm_new mi ml mr sh k i n0).1 k' i' f = mi k' i' f ∧ (hm_new mi ml mr sh k i n0).2.1 k' i' f = ml k' i' f ∧ (hm_new mi ml mr sh k i n0).2.2.1 k' i' f = mr k' i' f := fun f => ⟨by simp only [u_n, if_neg e], by simp only [u_n, if_neg e], by simp only [u_n, if_neg e]⟩
      have hv : ∀ f, hv_c (u_2 ad k i H.size) (hv_r (mr k' i' f)) = hv_c ad (hv_r (mr k' i' f)) := by
        intro f
        cases hr : mr k' i' f with
        | none => rfl
        | some q =>
          obtain ⟨n', hn'⟩ := h5 k' i' f n q hl hr
          show Value.ref _ = Value.ref _
          rw [had hn']
      have ea := had hl
      unfold hm_at at hold ⊢
      by_cases hk : k' = 0
      · rw [if_pos hk] at hold ⊢
        obtain ⟨scr, g1, g2, g3, g4, g5⟩ := hold
        exact ⟨scr, by rw [ea, hq _ hlt]; exact g1, g2, g3, g4, fun j hj => by rw [g5 j hj, (hm j).1]⟩
      · rw [if_neg hk] at hold ⊢
        split
        · rename_i c hc
          rw [hc] at hold
          rw [ea]
          exact (t_OB.kept hold (hq _ hlt)).toV (fun f => (hm_v_ad (hm f) (hv f)).symm)
        · rename_i a hc
          rw [hc] at hold
          rw [ea, hq _ hlt, hold]
          exact congrArg some (arrV_to (fun f => (hm_v_ad (hm f) (hv f)).symm))
  · rcases hlive l1 with ⟨rfl, rfl, rfl⟩ | ⟨a1, e1⟩ <;> rcases hlive l2 with ⟨rfl, rfl, rfl⟩ | ⟨a2, e2⟩
    · exact ⟨rfl, rfl⟩
    · have := (h1 _ _ _ a2).addr
      rw [had a2] at e
      simp only [u_2, and_self, if_true] at e
      omega
    · have := (h1 _ _ _ a1).addr
      rw [had a1] at e
      simp only [u_2, and_self, if_true] at e
      omega
    · rw [had a1, had a2] at e
      exact h2 _ _ _ _ _ _ a1 a2 e
  · rcases hlive hn with ⟨rfl, rfl, rfl⟩ | ⟨hl, e⟩
    · simp only [u_2, and_self, if_true]
      exact h4
    · rw [had hl]
      exact h3 _ _ _ hl hk'
  · rcases hlive hn with ⟨rfl, rfl, rfl⟩ | ⟨hl, e⟩
    · simp [u_n] at hr
    · simp only [u_n, if_neg e] at hr
      obtain ⟨n', hn'⟩ := h5 k' i' f n q hl hr
      exact ⟨n', by simp only [u_2, if_neg (hne hn')]; exact hn'⟩
theorem def_sort {ty : FieldType} (h : ty ≠ .float ∧ ty ≠ .double) {ad : Nat → Nat → Nat} {mi : MI_} {ml : ML_} {mr : MR_} {sh : SH_} {k i n f : Nat} : defaultValue ty = hm_v ad ty (hm_new mi ml mr sh k i n) k i f := by
  cases ty <;> first | exact absurd rfl h.1 | exact absurd rfl h.2 | simp [hm_v, sort_, defaultValue, u_n, hv_c]
section HN
variable {d : Md_} {al : Bool} {sh0 : SH_} {Q : Option V_ → Me_ → Prop} {bc bs : Nat} {pc n : Nat} {ls : List (Option V_)} {st : List V_} {mi : MI_} {ml : ML_} {mr : MR_} {sh : SH_}
/-- what a maker of cells needs: the id is free, what it holds lives -/
abbrev hg_fr (al : Bool) (sh0 sh : SH_) (k i : Nat) (ls : List (Option V_)) (st : List V_) : Prop := al = true ∧ k ≠ 0 ∧ sh k i = none ∧ sh0 k i = none ∧ (∀ v ∈ st, hv_lv sh v) ∧ (∀ v, some v ∈ ls → hv_lv sh v)
theorem hg_grown {k i n0 : Nat} (hf : hg_fr al sh0 sh k i ls st) (hb : 1 ≤ bc ∧ n0 ≤ bs) (kk : hg_G d al sh0 Q (bc - 1) (bs - n0) n ls (hv_r (some (k, i)) :: st) (hm_new mi ml mr sh k i n0))
    {p : Program} {l : Launch} {e : Env} {R : Room} {s : State} {m : MethodId} {args : Array Value} {below : List Frame} {meth : Method} {c : Code} {D : Hd_} {ad0 ad : Nat → Nat → Nat} {base : Nat} {H H' : Heap} {locs : List Loc} {cells slots : Nat} {arr : Array Slot}
    (X : hg_X d p R s m args meth c D) (Y : hg_Y d al sh0 bc bs ls (mi, ml, mr, sh) s D ad0 ad base H locs cells slots arr) (hz : H'.size = H.size + 1) (hq : ∀ q : Nat, q < H.size → H'[q]? = H[q]?) (ha : hm_at D (u_2 ad k i H.size) (hm_new mi ml mr sh k i n0) s H' k i n0) :
    W p l e R s m args below meth c H' locs (cells + 1) (slots + n0) (MQ below (hg_Q D base sh0 ad0 al Q) args s (md_mc d) (md_ms d) (fun q => base ≤ q)) (F0 m n arr (.ref H.size :: st.map (hv_c ad))) := by
  obtain ⟨f1, f2, f3, f4, f5, f6⟩ := hf
  obtain ⟨hR, hsame⟩ := Y.1.grow f2 f3 hz hq ha
  have e1 : (hv_r (some (k, i)) :: st).map (hv_c (u_2 ad k i H.size)) = .ref H.size :: st.map (hv_c ad) := by
    rw [List.map_cons, List.map_congr_left (fun v hv => hv_c_same hsame (f5 v hv))]
    simp [hv_c, u_2]
  have h := kk p l e R s m args below meth c D ad0 (u_2 ad k i H.size) base H' locs (cells + 1) (slots + n0) arr X ⟨hR, Y.2.1, by have := Y.2.2.1; omega, by have := Y.2.2.2.1; omega, fun k' i' n hn => ?_, (fun h => by rw [f1] at h; cases h), by rw [hl_as_same hsame f6]; exact Y.2.2.2.2.2.2⟩
  · rw [e1] at h
    exact h
  · have : ¬ (k' = k ∧ i' = i) := by
      rintro ⟨rfl, rfl⟩
      rw [f4] at hn
      cases hn
    simp only [u_2, if_neg this]
    exact Y.2.2.2.2.1 k' i' n hn
theorem hg_new {k i c idx : Nat} {C : String} {T : u_T} {N : Nat} (hd : decode (md_cc d) pc = .ok (.new idx, 3)) (hn : pc + 3 = n) (hw : Cond.classLink (md_own d) idx C ∈ gtbl) (hC : hc_C c C T N) (hnf : ∀ f, f < N → ft_ c f ≠ .float ∧ ft_ c f ≠ .double) (hk : kd_ k = .inl c) (hf : hg_fr al sh0 sh k i ls st) (hb : 1 ≤ bc ∧ N ≤ bs)
    (kk : hg_G d al sh0 Q (bc - 1) (bs - N) n ls (hv_r (some (k, i)) :: st) (hm_new mi ml mr sh k i N)) : hg_G d al sh0 Q bc bs pc ls st (mi, ml, mr, sh) := by
  subst hn
  intro p l e R s m args below meth cd D ad0 ad base H locs cells slots arr X Y
  have hts := X.2.2.2.2.2.1
  have hX9 := X.2.2.2.2.2.2.2.2
  have hK : va_K (D.1, D.2.1) vwCl (tys_ D) s := X.2.2.2.2.2.2.2.2.2.2.2.2.1
  obtain ⟨hc, hin, hty, hnm, hins, hini⟩ := hC
  have hKn := hK.1 c _ hc
  refine W.newcK X.1 X.2.1 X.2.2.2.2.1 (hts _ hw) (hts _ hins) (hts _ hini) rfl hd (by have := hX9.2.2.1; have := Y.2.2.1; omega) (by have := hX9.2.2.2.1; have := Y.2.2.2.1; omega) hKn.2.1 rfl fun H1 kC hkC e1 z1 o1 => ?_
  refine hg_grown hf hb kk X Y z1 o1 ?_
  unfold hm_at
  rw [if_neg hf.2.1, hk]
  have hb2 := u_born (ft_ c) hts hin hKn hkC e1 hty
  have ea : u_2 ad k i H.size k i = H.size := by simp [u_2]
  rw [ea]
  show t_OB H.size (D.1 c) (nf_ c) (D.2.1 c) H1 _
  rw [nf_of hc]
  exact hb2.to (fun f hf2 => def_sort (hnf f hf2))
theorem hg_newarray {k i a : Nat} {at9 : ArrayType} {x : Int32} {N : Nat} (hd : decode (md_cc d) pc = .ok (.newarray at9, 2)) (hn : pc + 2 = n) (hw : Cond.arrayClass (newarray.typeOf at9) ∈ gtbl) (hty : newarray.typeOf at9 = et_ a) (ha3 : a < 3) (hx : x = nI N) (hN : N < 1000) (hk : kd_ k = .inr a) (hf : hg_fr al sh0 sh k i ls st) (hb : 1 ≤ bc ∧ N ≤ bs)
    (kk : hg_G d al sh0 Q (bc - 1) (bs - N) n ls (hv_r (some (k, i)) :: st) (hm_new mi ml mr sh k i N)) : hg_G d al sh0 Q bc bs pc ls (hv_i x :: st) (mi, ml, mr, sh) := by
  subst hn hx
  intro p l e R s m args below meth cd D ad0 ad base H locs cells slots arr X Y
  have hts := X.2.2.2.2.2.1
  have hX9 := X.2.2.2.2.2.2.2.2
  have hK : va_K (D.1, D.2.1) vwCl (tys_ D) s := X.2.2.2.2.2.2.2.2.2.2.2.2.1
  have hra := (hK.2 a _ (tys_at D a (by omega))).2
  refine va_newaK X.1 X.2.1 (hts _ hw) rfl hd rfl (nI_pos (by omega)) (nI_clamp (by omega)) (by
    have : componentBytes (newarray.typeOf at9) ≤ 8 := by cases at9 <;> decide
    have := Nat.mul_le_mul (Nat.le_of_lt hN) this
    omega) (by have := hX9.2.2.1; have := Y.2.2.1; omega) (by have := hX9.2.2.2.1; have := Y.2.2.2.1; omega) rfl fun H1 cA e1 z1 o1 hAr hNm => ?_
  have hcA : cA = D.2.2 a := by
    rw [hty] at hNm
    match a, ha3 with
    | 0, _ => exact Option.some.inj (hNm.symm.trans hra)
    | 1, _ => exact Option.some.inj (hNm.symm.trans hra)
    | 2, _ => exact Option.some.inj (hNm.symm.trans hra)
  refine hg_grown hf hb kk X Y z1 o1 ?_
  unfold hm_at
  rw [if_neg hf.2.1, hk]
  have ea : u_2 ad k i H.size k i = H.size := by simp [u_2]
  rw [ea]
  refine e1.trans (congrArg some ?_)
  rw [hcA]
  refine arrV_to (fun j => ?_)
  rw [hty]
  refine def_sort ?_
  match a, ha3 with
  | 0, _ => exact ⟨by decide, by decide⟩
  | 1, _ => exact ⟨by decide, by decide⟩
  | 2, _ => exact ⟨by decide, by decide⟩
theorem hg_anewarray {k i a idx : Nat} {C : String} {x : Int32} {N : Nat} (hd : decode (md_cc d) pc = .ok (.anewarray idx, 3)) (hn : pc + 3 = n) (hw : Cond.classLink (md_own d) idx C ∈ gtbl) (hAO : ∀ D U, hm_K D U → va_AO C U) (hty : et_ a = .object C) (hx : x = nI N) (hN : N < 1000) (hk : kd_ k = .inr a) (hf : hg_fr al sh0 sh k i ls st) (hb : 1 ≤ bc ∧ N ≤ bs)
    (kk : hg_G d al sh0 Q (bc - 1) (bs - N) n ls (hv_r (some (k, i)) :: st) (hm_new mi ml mr sh k i N)) : hg_G d al sh0 Q bc bs pc ls (hv_i x :: st) (mi, ml, mr, sh) := by
  subst hn hx
  intro p l e R s m args below meth cd D ad0 ad base H locs cells slots arr X Y
  have hts := X.2.2.2.2.2.1
  have hX9 := X.2.2.2.2.2.2.2.2
  have hK : va_K (D.1, D.2.1) vwCl (tys_ D) s := X.2.2.2.2.2.2.2.2.2.2.2.2.1
  have hra := (hK.2 a _ (tys_at D a (kd_arr hk))).2
  rw [show ((D.2.2 a, et_ a) : ClassId × FieldType).2 = .object C from hty] at hra
  obtain ⟨kA', comp', -, -, -, k4⟩ := hra
  have hcl : (nI N).toNatClampNeg = N := nI_clamp (by omega)
  refine W.anew X.1 X.2.1 X.2.2.2.2.1 (hts _ hw) (va_AO.use (hAO D s hX9.2.2.2.2)) rfl hd rfl (nI_pos (by omega)) (by rw [hcl]; omega) (by have := hX9.2.2.1; have := Y.2.2.1; omega) (by rw [hcl]; have := hX9.2.2.2.1; have := Y.2.2.2.1; omega) fun cA kA comp f1 f2 f3 f4 => ?_
  have hcA : cA = D.2.2 a := Option.some.inj (f1.symm.trans k4)
  rw [hcl]
  refine hg_grown hf hb kk X Y (by rw [Array.size_push]) (fun q hq => by rw [Array.getElem?_push, if_neg (Nat.ne_of_lt hq)]) ?_
  unfold hm_at
  rw [if_neg hf.2.1, hk]
  have ea : u_2 ad k i H.size k i = H.size := by simp [u_2]
  rw [ea, Array.getElem?_push_size, arrV_new]
  refine congrArg some ?_
  rw [hcA]
  refine arrV_to (fun j => ?_)
  rw [hty]
  simp [hm_v, sort_, u_n, hv_c]
end HN
