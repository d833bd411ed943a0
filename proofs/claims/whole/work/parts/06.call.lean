/-! ends, calls, beginnings -/
def hl_in : List V_ → List (Option V_)
  | [] => []
  | v :: r => if hv_cat v = 2 then some v :: none :: hl_in r else some v :: hl_in r
def hl_pad (n : Nat) (ls : List (Option V_)) : List (Option V_) := ls ++ List.replicate (n - ls.length) none
theorem hl_as_none {ad : Nat → Nat → Nat} : ∀ {n k : Nat}, hl_as ad k (List.replicate n none) = []
  | 0, _ => rfl
  | n + 1, k => by rw [List.replicate_succ, hl_as]; exact hl_as_none
theorem hl_as_in {ad : Nat → Nat → Nat} {n : Nat} : ∀ {as : List V_} {k : Nat}, hl_as ad k (hl_in as ++ List.replicate n none) = lv_args k (as.map (hv_c ad))
  | [], k => by simp [hl_in, lv_args, hl_as_none]
  | v :: r, k => by
    rw [hl_in, List.map_cons, lv_args, hv_cat_c]
    by_cases h : hv_cat v = 2
    · rw [if_pos h, if_pos h]
      show (k, hv_c ad v) :: hl_as ad (k + 1 + 1) (hl_in r ++ List.replicate n none) = _
      rw [hl_as_in]
    · rw [if_neg h, if_neg h]
      show (k, hv_c ad v) :: hl_as ad (k + 1) (hl_in r ++ List.replicate n none) = _
      rw [hl_as_in]
theorem hl_in_len {ad : Nat → Nat → Nat} : ∀ {as : List V_}, (lg_sl (as.map (hv_c ad))).length = (hl_in as).length
  | [] => rfl
  | v :: r => by
    have ih := @hl_in_len ad r
    unfold lg_sl at ih ⊢
    rw [List.map_cons, List.flatMap_cons, List.length_append, ih, hv_cat_c, hl_in]
    by_cases h : hv_cat v = 2
    · rw [if_pos h, if_pos h]; simp; omega
    · rw [if_neg h, if_neg h]; simp; omega
def hg_Ok (al : Bool) (y : MethodName) (d : Md_) (as : List V_) (M : Me_) (Q : Option V_ → Me_ → Prop) : Prop :=
  ∀ (l : Launch) (D : Hd_) (ad : Nat → Nat → Nat) (base : Nat), Met l y (Cond.code y (md_cc d) (md_nL d) (md_ret d) :: gtbl) (md_rm d) (va_Pc (as.map (hv_c ad)) (fun U => hm_K D U ∧ hm_R D ad base M U U.heap)) (hg_Q D base M.2.2.2 ad al Q) (md_mc d) (md_ms d) (fun q => base ≤ q)
theorem hg_intro {al : Bool} {y : MethodName} {d : Md_} {as : List V_} {M : Me_} {Q : Option V_ → Me_ → Prop} {ls : List (Option V_)} (hy : plainName y.cls = true) (hcls : y.cls = md_own d) (hnm : y.name = md_nm d) (hlen : (hl_in as).length ≤ md_nL d) (hls : hl_pad (md_nL d) (hl_in as) = ls)
    (kk : hg_G d al M.2.2.2 Q (md_mc d) (md_ms d) 0 ls [] M) : hg_Ok al y d as M Q := by
  subst hls
  intro l D ad base
  refine Met.ofW (cc := md_cc d) (maxL := md_nL d) (ret := md_ret d) hy rfl ?_
  intro p e s m args below meth c s₁ B hml hv
  obtain ⟨rfl, hK, hR⟩ := hv
  have hts0 := atoms_spec (ws := Cond.code y (md_cc d) (md_nL d) (md_ret d) :: gtbl) B.pre
  have hown : s.vm.findClass (md_own d) = some m.cls := by rw [← hcls]; exact findClass_of_methodNamed B.named
  have hin : meth.name = md_nm d := by rw [← hnm]; exact (name_of_methodNamed B.named B.method).1
  have hl := lv_entry (as.map (hv_c ad)) (n := md_nL d) (by rw [hl_in_len]; exact hlen)
  rw [lg_entry_eq]
  refine kk p l e _ s m _ below meth c D ad ad base s.heap [] 0 0 _ ⟨B.exec, B.bytes, B.returns, hml, hown, fun w hw => hts0 w (List.mem_cons_of_mem _ hw), B.notSynchronized, hin, Nat.le_refl _, Nat.le_refl _, Nat.le_refl _, Nat.le_refl _, hK⟩ ⟨hR, (fun q h => by cases h), by omega, by omega, fun _ _ _ _ => rfl, fun _ => rfl, ?_⟩
  unfold hl_pad
  rw [hl_as_in]
  exact hl
section HE
variable {d : Md_} {al : Bool} {sh0 : SH_} {Q : Option V_ → Me_ → Prop} {bc bs : Nat} {pc n : Nat} {ls : List (Option V_)} {st : List V_} {M : Me_}
theorem hg_ireturn {x : Int32} (hd : decode (md_cc d) pc = .ok (.ireturn, 1)) (hr : md_ret d = some .int) (h : Q (some (hv_i x)) M) : hg_G d al sh0 Q bc bs pc ls [hv_i x] M := by
  intro p l e R s m args below meth c D ad0 ad base H locs cells slots arr X Y
  refine W.widen (k := md_mc d) (n := md_ms d) (by have := Y.2.2.1; omega) (by have := Y.2.2.2.1; omega) ?_
  exact W.iret X.1 X.2.1 (X.2.2.1.trans hr) (fun t ht hW => ⟨some (hv_i x), M, ad, rfl, h, by rw [ht]; exact Y.1.moved hW.alike, Y.2.2.2.2.1, Y.2.2.2.2.2.1⟩) Y.2.1 hd X.2.2.2.2.2.2.1
theorem hg_zreturn {x : Int32} (hd : decode (md_cc d) pc = .ok (.ireturn, 1)) (hr : md_ret d = some .boolean) (hx : x = 0 ∨ x = 1) (h : Q (some (hv_i x)) M) : hg_G d al sh0 Q bc bs pc ls [hv_i x] M := by
  intro p l e R s m args below meth c D ad0 ad base H locs cells slots arr X Y
  refine W.widen (k := md_mc d) (n := md_ms d) (by have := Y.2.2.1; omega) (by have := Y.2.2.2.1; omega) ?_
  exact W.zret X.1 X.2.1 (X.2.2.1.trans hr) (nar_tz rfl hx).1 (fun t ht hW => ⟨some (hv_i x), M, ad, rfl, h, by rw [ht]; exact Y.1.moved hW.alike, Y.2.2.2.2.1, Y.2.2.2.2.2.1⟩) Y.2.1 hd X.2.2.2.2.2.2.1
theorem hg_lreturn {x : Int64} (hd : decode (md_cc d) pc = .ok (.lreturn, 1)) (hr : md_ret d = some .long) (h : Q (some (hv_l x)) M) : hg_G d al sh0 Q bc bs pc ls [hv_l x] M := by
  intro p l e R s m args below meth c D ad0 ad base H locs cells slots arr X Y
  refine W.widen (k := md_mc d) (n := md_ms d) (by have := Y.2.2.1; omega) (by have := Y.2.2.2.1; omega) ?_
  exact W.lret X.1 X.2.1 (X.2.2.1.trans hr) (fun t ht hW => ⟨some (hv_l x), M, ad, rfl, h, by rw [ht]; exact Y.1.moved hW.alike, Y.2.2.2.2.1, Y.2.2.2.2.2.1⟩) Y.2.1 hd X.2.2.2.2.2.2.1
theorem hg_areturn {r : Option (Nat × Nat)} {C : String} (hd : decode (md_cc d) pc = .ok (.areturn, 1)) (hr : md_ret d = some (.object C)) (h : Q (some (hv_r r)) M) : hg_G d al sh0 Q bc bs pc ls [hv_r r] M := by
  intro p l e R s m args below meth c D ad0 ad base H locs cells slots arr X Y
  refine W.widen (k := md_mc d) (n := md_ms d) (by have := Y.2.2.1; omega) (by have := Y.2.2.2.1; omega) ?_
  exact W.aret X.1 X.2.1 (X.2.2.1.trans hr) (Or.inl ⟨_, rfl⟩) (by cases r with | none => exact Or.inl rfl | some q => exact Or.inr ⟨_, rfl⟩) (fun t ht hW => ⟨some (hv_r r), M, ad, rfl, h, by rw [ht]; exact Y.1.moved hW.alike, Y.2.2.2.2.1, Y.2.2.2.2.2.1⟩) Y.2.1 hd X.2.2.2.2.2.2.1
theorem hg_return (hd : decode (md_cc d) pc = .ok (.return_, 1)) (hr : md_ret d = none) (h : Q none M) : hg_G d al sh0 Q bc bs pc ls [] M := by
  intro p l e R s m args below meth c D ad0 ad base H locs cells slots arr X Y
  refine W.widen (k := md_mc d) (n := md_ms d) (by have := Y.2.2.1; omega) (by have := Y.2.2.2.1; omega) ?_
  exact W.vret X.1 X.2.1 (X.2.2.1.trans hr) (fun t ht hW => ⟨none, M, ad, rfl, h, by rw [ht]; exact Y.1.moved hW.alike, Y.2.2.2.2.1, Y.2.2.2.2.2.1⟩) Y.2.1 hd X.2.2.2.2.2.2.1
/-- live references -/
def hv_lv (sh : SH_) (v : V_) : Prop := match v with
  | .inr (.inr (some q)) => ∃ n, sh q.1 q.2 = some n
  | _ => True
theorem hv_c_same {ad ad' : Nat → Nat → Nat} {sh : SH_} (h : ∀ k i n, sh k i = some n → ad' k i = ad k i) {v : V_} (hv : hv_lv sh v) : hv_c ad' v = hv_c ad v := by
  rcases v with x | x | (_ | q)
  · rfl
  · rfl
  · rfl
  · obtain ⟨n, hn⟩ := hv
    show Value.ref _ = Value.ref _
    rw [h _ _ _ hn]
theorem hl_as_same {ad ad' : Nat → Nat → Nat} {sh : SH_} (h : ∀ k i n, sh k i = some n → ad' k i = ad k i) : ∀ {ls : List (Option V_)} {k : Nat}, (∀ v, some v ∈ ls → hv_lv sh v) → hl_as ad' k ls = hl_as ad k ls
  | [], _, _ => rfl
  | none :: r, k, hv => by rw [hl_as, hl_as]; exact hl_as_same h (fun v hm => hv v (List.mem_cons_of_mem _ hm))
  | some w :: r, k, hv => by rw [hl_as, hl_as, hv_c_same h (hv w List.mem_cons_self), hl_as_same h (fun v hm => hv v (List.mem_cons_of_mem _ hm))]
theorem hv_cats (ad : Nat → Nat → Nat) (rest : List V_) : ((rest.map (hv_c ad)).map fun v => v.category).sum = (rest.map hv_cat).sum := by
  rw [List.map_map]
  exact congrArg List.sum (List.map_congr_left (fun v _ => hv_cat_c ad v))
theorem hm_K.call {D : Hd_} {U : State} {g : JFrame} {mk : MethodId} {a : Array Value} (h : hm_K D U) : hm_K D (U.calling g mk a) := hm_K.warm (U := U.calling g mk a) (State.WarmedH.refl U) h
theorem hg_blind {D : Hd_} {ad : Nat → Nat → Nat} {base : Nat} {M : Me_} {av : List Value} : FrameBlind (va_Pc av (fun U => hm_K D U ∧ hm_R D ad base M U U.heap)) := by
  intro a U g mk q
  obtain ⟨q0, q1, q2⟩ := q
  exact ⟨q0, q1.call, q2.moved (U := U.calling g mk a) (Vm.Alike.refl U.vm)⟩
/-- behind a call -/
theorem hg_after {dy : Md_} {al' : Bool} {rest : List V_} {Q' : Option V_ → Me_ → Prop} {as : Array Value} (hn : pc + 3 = n) (hal : al' = true → al = true ∧ (∀ v ∈ rest, hv_lv M.2.2.2 v) ∧ (∀ v, some v ∈ ls → hv_lv M.2.2.2 v) ∧ ∀ k i n, sh0 k i = some n → ∃ n', M.2.2.2 k i = some n')
    (hb : md_mc dy ≤ bc ∧ md_ms dy ≤ bs) (kk : ∀ v M', Q' v M' → hg_G d al sh0 Q (bc - md_mc dy) (bs - md_ms dy) n ls (v.toList ++ rest) M')
    {p : Program} {l : Launch} {e : Env} {R : Room} {s : State} {m : MethodId} {args : Array Value} {below : List Frame} {meth : Method} {c : Code} {D : Hd_} {ad0 ad : Nat → Nat → Nat} {base : Nat} {H : Heap} {locs : List Loc} {cells slots : Nat} {arr : Array Slot} {stk : List Value}
    (X : hg_X d p R s m args meth c D) (Y : hg_Y d al sh0 bc bs ls M s D ad0 ad base H locs cells slots arr)
    (hr : va_Run p l e R s m args below meth c H locs cells slots (md_mc dy) (md_ms dy) (F0 m pc arr stk) (rest.map (hv_c ad)) (hg_Q D base M.2.2.2 ad al' Q' as) (fun q => base ≤ q)) :
    W p l e R s m args below meth c H locs cells slots (MQ below (hg_Q D base sh0 ad0 al Q) args s (md_mc d) (md_ms d) (fun q => base ≤ q)) (F0 m pc arr stk) := by
  subst hn
  intro T hT X0
  obtain ⟨v, st₀, t, T', L, h0, X', hL, e1, e2, ⟨v', M', ad', hv, hq, hR', hext, hsame⟩, st⟩ := hr T hT X0
  cases hv
  have hR2 : hm_R D ad' base M' s T'.heap := by
    rw [e1]
    exact hR'.moved (by rw [← e2]; exact X'.warmed.alike.symm)
  have key : rest.map (hv_c ad') = rest.map (hv_c ad) ∧ hl_as ad' 0 ls = hl_as ad 0 ls ∧ (∀ k i n, sh0 k i = some n → ad' k i = ad0 k i) ∧ (al = false → ad' = ad0) := by
    cases hz : al' with
    | false =>
      have := hsame hz
      subst this
      exact ⟨rfl, rfl, Y.2.2.2.2.1, Y.2.2.2.2.2.1⟩
    | true =>
      obtain ⟨h1, h2, h3, h4⟩ := hal hz
      refine ⟨List.map_congr_left (fun w hw => hv_c_same hext (h2 w hw)), hl_as_same hext h3, fun k i n hn => ?_, fun h => by rw [h1] at h; cases h⟩
      obtain ⟨n', hn'⟩ := h4 k i n hn
      rw [hext k i n' hn']
      exact Y.2.2.2.2.1 k i n hn
  obtain ⟨k1, k2, k3, k4⟩ := key
  obtain ⟨t2, a1, b1⟩ := kk v' M' hq p l e R s m args below meth c D ad0 ad' base T'.heap (locs ++ L) (cells + md_mc dy) (slots + md_ms dy) arr X ⟨hR2, fun q hq => by
      rcases List.mem_append.mp hq with h | h
      · exact Y.2.1 q h
      · exact hL q h, by have := Y.2.2.1; omega, by have := Y.2.2.2.1; omega, k3, k4, by rw [k2]; exact Y.2.2.2.2.2.2⟩ T' rfl X'
  refine ⟨t2, st t2 ?_, b1⟩
  have e3 : (v'.toList ++ rest).map (hv_c ad') = (v'.map (hv_c ad')).toList ++ rest.map (hv_c ad) := by
    rw [List.map_append, k1]
    cases v' <;> rfl
  rw [e3] at a1
  exact a1
end HE
