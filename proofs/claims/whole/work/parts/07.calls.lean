/-! the calls -/
section HC
variable {d : Md_} {al : Bool} {sh0 : SH_} {Q : Option V_ → Me_ → Prop} {bc bs : Nat} {pc n : Nat} {ls : List (Option V_)} {rest : List V_} {M : Me_}
/-- what every call of y needs of the tables -/
def hy_L (y : MethodName) (dy : Md_) (na : Nat) : Prop := Cond.code y (md_cc dy) (md_nL dy) (md_ret dy) ∈ gtbl ∧ Cond.initialized y.cls ∈ gtbl ∧ (y.cls ≠ "java/lang/invoke/MethodHandle" ∧ y.cls ≠ "java/lang/invoke/VarHandle" ∧ (parseMethodDescriptor y.desc).map (fun d => d.parameters.length) = some na)
/-- an instance method of the class number c -/
def hy_V (y : MethodName) (c : Nat) : Prop := ∃ (C : String) (T : u_T) (N : Nat), hc_C c C T N ∧ Cond.instanceMethod y ∈ gtbl ∧ Cond.selects C y y ∈ gtbl
abbrev hg_rm (d dy : Md_) : Prop := md_fr dy + 1 ≤ md_fr d ∧ 8 + (md_nL dy + 11) + md_lo dy ≤ md_lo d
abbrev hg_al (al al' : Bool) (sh0 : SH_) (M : Me_) (rest : List V_) (ls : List (Option V_)) : Prop := al' = true → al = true ∧ (∀ v ∈ rest, hv_lv M.2.2.2 v) ∧ (∀ v, some v ∈ ls → hv_lv M.2.2.2 v) ∧ ∀ k i n, sh0 k i = some n → ∃ n', M.2.2.2 k i = some n'
theorem hg_callB {own : String} {idx na : Nat} {y : MethodName} {dy : Md_} {R : Room} {s : State} {args : Array Value} (hts : ∀ w ∈ gtbl, w.before args s = true) (hL : hy_L y dy na) (hl : Cond.methodLink own idx y ∈ gtbl) (hR : md_fr dy + 1 ≤ R.frames ∧ 8 + (md_nL dy + 11) + md_lo dy ≤ R.locals) : CallB R s args own idx y (md_cc dy) (md_nL dy) (md_ret dy) (Cond.code y (md_cc dy) (md_nL dy) (md_ret dy) :: gtbl) (md_rm dy) (md_mc dy) (md_ms dy) na :=
  callB_of na hts (gtbl_good hL.1) rfl rfl rfl (hts _ hL.2.1) (hts _ hl) hL.2.2 hR
theorem hg_callV {y : MethodName} {dy : Md_} {al' : Bool} {as : List V_} {k i len c idx na : Nat} {Q' : Option V_ → Me_ → Prop} {stk : List V_} (hd : decode (md_cc d) pc = .ok (.invokevirtual idx, 3)) (hn : pc + 3 = n) (hl : Cond.methodLink (md_own d) idx y ∈ gtbl) (hL : hy_L y dy na) (hV : hy_V y c) (hk : kd_ k = .inl c) (hs : M.2.2.2 k i = some len) (hrm : hg_rm d dy) (hc8 : (rest.map hv_cat).sum ≤ 8) (hb : md_mc dy ≤ bc ∧ md_ms dy ≤ bs) (hal : hg_al al al' sh0 M rest ls) (hlen : as.length = na) (hstk : stk = as.reverse ++ hv_r (some (k, i)) :: rest)
    (hOk : hg_Ok al' y dy (hv_r (some (k, i)) :: as) M Q') (kk : ∀ v M', Q' v M' → hg_G d al sh0 Q (bc - md_mc dy) (bs - md_ms dy) n ls (v.toList ++ rest) M') : hg_G d al sh0 Q bc bs pc ls stk M := by
  subst hstk
  intro p l e R s m args below meth cd D ad0 ad base H locs cells slots arr X Y
  have hts := X.2.2.2.2.2.1
  obtain ⟨C, T, N, hC, hin, hsel⟩ := hV
  have hK : va_K (D.1, D.2.1) vwCl (tys_ D) s := X.2.2.2.2.2.2.2.2.2.2.2.2.1
  obtain ⟨cell, q1, q2, q3, -⟩ := hm_obj (Y.1.1 k i len hs) hk
  have hX9 := X.2.2.2.2.2.2.2.2
  refine hg_after (dy := dy) hn hal hb kk X Y (va_runV (As := as.map (hv_c ad)) (C := C) (b := ad k i) ⟨X.1, X.2.1, X.2.2.2.1, X.2.2.2.2.1, hts⟩ (hOk l D ad base) ⟨hg_callB hts hL hl ⟨Nat.le_trans hrm.1 hX9.1, Nat.le_trans hrm.2 hX9.2.1⟩, hts _ hin, hts _ hsel⟩ ⟨hg_blind, ⟨cell, q1, by rw [q3]; rfl, by rw [q2]; exact (hK.1 c _ hC.1).2.1⟩, fun U hU hW => ⟨rfl, hm_K.warm hW hX9.2.2.2.2, by rw [hU]; exact Y.1.moved hW.alike⟩⟩ rfl (by rw [List.length_map]; exact hlen) Y.2.2.2.2.2.2.1 ?_ ?_ hd ⟨by have := hX9.2.2.1; have := Y.2.2.1; omega, by have := hX9.2.2.2.1; have := Y.2.2.2.1; omega⟩)
  · show (as.reverse ++ hv_r (some (k, i)) :: rest).map (hv_c ad) = (as.map (hv_c ad)).reverse ++ Value.ref (ad k i) :: rest.map (hv_c ad)
    rw [List.map_append, List.map_reverse]
    rfl
  · exact lv_room (by rw [hv_cats]; exact hc8)
theorem hg_callS {y : MethodName} {dy : Md_} {al' : Bool} {as : List V_} {idx na : Nat} {Q' : Option V_ → Me_ → Prop} {stk : List V_} (hd : decode (md_cc d) pc = .ok (.invokestatic idx, 3)) (hn : pc + 3 = n) (hl : Cond.methodLink (md_own d) idx y ∈ gtbl) (hL : hy_L y dy na) (hV : Cond.static y ∈ gtbl) (hrm : hg_rm d dy) (hc8 : (rest.map hv_cat).sum ≤ 8) (hb : md_mc dy ≤ bc ∧ md_ms dy ≤ bs) (hal : hg_al al al' sh0 M rest ls) (hlen : as.length = na) (hstk : stk = as.reverse ++ rest)
    (hOk : hg_Ok al' y dy as M Q') (kk : ∀ v M', Q' v M' → hg_G d al sh0 Q (bc - md_mc dy) (bs - md_ms dy) n ls (v.toList ++ rest) M') : hg_G d al sh0 Q bc bs pc ls stk M := by
  subst hstk
  intro p l e R s m args below meth cd D ad0 ad base H locs cells slots arr X Y
  have hts := X.2.2.2.2.2.1
  have hX9 := X.2.2.2.2.2.2.2.2
  refine hg_after (dy := dy) hn hal hb kk X Y (va_runS (As := as.map (hv_c ad)) ⟨X.1, X.2.1, X.2.2.2.1, X.2.2.2.2.1, hts⟩ (hOk l D ad base) ⟨hg_callB hts hL hl ⟨Nat.le_trans hrm.1 hX9.1, Nat.le_trans hrm.2 hX9.2.1⟩, hts _ hV⟩ ⟨hg_blind, fun U hU hW => ⟨rfl, hm_K.warm hW hX9.2.2.2.2, by rw [hU]; exact Y.1.moved hW.alike⟩⟩ rfl (by rw [List.length_map]; exact hlen) Y.2.2.2.2.2.2.1 ?_ ?_ hd ⟨by have := hX9.2.2.1; have := Y.2.2.1; omega, by have := hX9.2.2.2.1; have := Y.2.2.2.1; omega⟩)
  · show (as.reverse ++ rest).map (hv_c ad) = (as.map (hv_c ad)).reverse ++ rest.map (hv_c ad)
    rw [List.map_append, List.map_reverse]
  · exact lv_room (by rw [hv_cats]; exact hc8)
theorem hg_callSN {y : MethodName} {dy : Md_} {al' : Bool} {as : List V_} {idx na : Nat} {Q' : Option V_ → Me_ → Prop} {stk : List V_} {host : String} (hd : decode (md_cc d) pc = .ok (.invokestatic idx, 3)) (hn : pc + 3 = n) (hl : ∀ D U, hm_K D U → va_Nw (.methodLinkNest (md_own d) idx y host) U) (hL : hy_L y dy na) (hV : Cond.static y ∈ gtbl) (hrm : hg_rm d dy) (hc8 : (rest.map hv_cat).sum ≤ 8) (hb : md_mc dy ≤ bc ∧ md_ms dy ≤ bs) (hal : hg_al al al' sh0 M rest ls) (hlen : as.length = na) (hstk : stk = as.reverse ++ rest)
    (hOk : hg_Ok al' y dy as M Q') (kk : ∀ v M', Q' v M' → hg_G d al sh0 Q (bc - md_mc dy) (bs - md_ms dy) n ls (v.toList ++ rest) M') : hg_G d al sh0 Q bc bs pc ls stk M := by
  subst hstk
  intro p l e R s m args below meth cd D ad0 ad base H locs cells slots arr X Y
  have hts := X.2.2.2.2.2.1
  have hX9 := X.2.2.2.2.2.2.2.2
  refine hg_after (dy := dy) hn hal hb kk X Y (va_runSN (As := as.map (hv_c ad)) ⟨X.1, X.2.1, X.2.2.2.1, X.2.2.2.2.1, hts⟩ (hOk l D ad base) ⟨va_cnB na hts (gtbl_good hL.1) rfl rfl rfl (hl D s hX9.2.2.2.2) (hts _ hL.2.1) hL.2.2 ⟨Nat.le_trans hrm.1 hX9.1, Nat.le_trans hrm.2 hX9.2.1⟩, hts _ hV, trivial⟩ ⟨hg_blind, fun U hU hW => ⟨rfl, hm_K.warm hW hX9.2.2.2.2, by rw [hU]; exact Y.1.moved hW.alike⟩⟩ rfl (by rw [List.length_map]; exact hlen) Y.2.2.2.2.2.2.1 ?_ ?_ hd ⟨by have := hX9.2.2.1; have := Y.2.2.1; omega, by have := hX9.2.2.2.1; have := Y.2.2.2.1; omega⟩)
  · show (as.reverse ++ rest).map (hv_c ad) = (as.map (hv_c ad)).reverse ++ rest.map (hv_c ad)
    rw [List.map_append, List.map_reverse]
  · exact lv_room (by rw [hv_cats]; exact hc8)
theorem hg_callI {y : MethodName} {dy : Md_} {al' : Bool} {as : List V_} {k i idx na : Nat} {Q' : Option V_ → Me_ → Prop} {stk : List V_} (hd : decode (md_cc d) pc = .ok (.invokespecial idx, 3)) (hn : pc + 3 = n) (hl : Cond.methodLink (md_own d) idx y ∈ gtbl) (hL : hy_L y dy na) (hy1 : y.name = "<init>") (hret : md_ret dy = none) (hV : Cond.instanceMethod y ∈ gtbl) (hrm : hg_rm d dy) (hc8 : (rest.map hv_cat).sum ≤ 8) (hb : md_mc dy ≤ bc ∧ md_ms dy ≤ bs) (hal : hg_al al al' sh0 M rest ls) (hlen : as.length = na) (hstk : stk = as.reverse ++ hv_r (some (k, i)) :: rest)
    (hOk : hg_Ok al' y dy (hv_r (some (k, i)) :: as) M Q') (kk : ∀ v M', Q' v M' → hg_G d al sh0 Q (bc - md_mc dy) (bs - md_ms dy) n ls (v.toList ++ rest) M') : hg_G d al sh0 Q bc bs pc ls stk M := by
  subst hstk
  intro p l e R s m args below meth cd D ad0 ad base H locs cells slots arr X Y
  have hts := X.2.2.2.2.2.1
  have hX9 := X.2.2.2.2.2.2.2.2
  have hCB := hg_callB (R := R) hts hL hl ⟨Nat.le_trans hrm.1 hX9.1, Nat.le_trans hrm.2 hX9.2.1⟩
  have hM := hOk l D ad base
  rw [hret] at hCB hM
  refine hg_after (dy := dy) hn hal hb kk X Y (va_runI (As := as.map (hv_c ad)) (b := ad k i) ⟨X.1, X.2.1, X.2.2.2.1, X.2.2.2.2.1, hts⟩ hM ⟨hCB, hy1, hts _ hV⟩ ⟨hg_blind, fun U hU hW => ⟨rfl, hm_K.warm hW hX9.2.2.2.2, by rw [hU]; exact Y.1.moved hW.alike⟩⟩ rfl (by rw [List.length_map]; exact hlen) Y.2.2.2.2.2.2.1 ?_ ?_ hd ⟨by have := hX9.2.2.1; have := Y.2.2.1; omega, by have := hX9.2.2.2.1; have := Y.2.2.2.1; omega⟩)
  · show (as.reverse ++ hv_r (some (k, i)) :: rest).map (hv_c ad) = (as.map (hv_c ad)).reverse ++ Value.ref (ad k i) :: rest.map (hv_c ad)
    rw [List.map_append, List.map_reverse]
    rfl
  · exact lv_room (by rw [hv_cats]; exact hc8)
theorem hg_callIN {y : MethodName} {dy : Md_} {al' : Bool} {as : List V_} {k i idx na : Nat} {Q' : Option V_ → Me_ → Prop} {stk : List V_} {host : String} (hd : decode (md_cc d) pc = .ok (.invokespecial idx, 3)) (hn : pc + 3 = n) (hl : ∀ D U, hm_K D U → va_Nw (.methodLinkNest (md_own d) idx y host) U) (hL : hy_L y dy na) (hy1 : y.name = "<init>") (hret : md_ret dy = none) (hV : Cond.instanceMethod y ∈ gtbl) (hrm : hg_rm d dy) (hc8 : (rest.map hv_cat).sum ≤ 8) (hb : md_mc dy ≤ bc ∧ md_ms dy ≤ bs) (hal : hg_al al al' sh0 M rest ls) (hlen : as.length = na) (hstk : stk = as.reverse ++ hv_r (some (k, i)) :: rest)
    (hOk : hg_Ok al' y dy (hv_r (some (k, i)) :: as) M Q') (kk : ∀ v M', Q' v M' → hg_G d al sh0 Q (bc - md_mc dy) (bs - md_ms dy) n ls (v.toList ++ rest) M') : hg_G d al sh0 Q bc bs pc ls stk M := by
  subst hstk
  intro p l e R s m args below meth cd D ad0 ad base H locs cells slots arr X Y
  have hts := X.2.2.2.2.2.1
  have hX9 := X.2.2.2.2.2.2.2.2
  have hCB := va_cnB (R := R) na hts (gtbl_good hL.1) rfl (rm := md_rm dy) rfl rfl (hl D s hX9.2.2.2.2) (hts _ hL.2.1) hL.2.2 ⟨Nat.le_trans hrm.1 hX9.1, Nat.le_trans hrm.2 hX9.2.1⟩
  have hM := hOk l D ad base
  rw [hret] at hCB hM
  refine hg_after (dy := dy) hn hal hb kk X Y (va_runIN (As := as.map (hv_c ad)) (b := ad k i) ⟨X.1, X.2.1, X.2.2.2.1, X.2.2.2.2.1, hts⟩ hM ⟨hCB, hy1, hts _ hV⟩ ⟨hg_blind, fun U hU hW => ⟨rfl, hm_K.warm hW hX9.2.2.2.2, by rw [hU]; exact Y.1.moved hW.alike⟩⟩ rfl (by rw [List.length_map]; exact hlen) Y.2.2.2.2.2.2.1 ?_ ?_ hd ⟨by have := hX9.2.2.1; have := Y.2.2.1; omega, by have := hX9.2.2.2.1; have := Y.2.2.2.1; omega⟩)
  · show (as.reverse ++ hv_r (some (k, i)) :: rest).map (hv_c ad) = (as.map (hv_c ad)).reverse ++ Value.ref (ad k i) :: rest.map (hv_c ad)
    rw [List.map_append, List.map_reverse]
    rfl
  · exact lv_room (by rw [hv_cats]; exact hc8)
variable {st : List V_}
theorem hg_objInit {k i idx : Nat} (hd : decode (md_cc d) pc = .ok (.invokespecial idx, 3)) (hn : pc + 3 = n) (hl : Cond.methodLink (md_own d) idx objectInit ∈ gtbl) (hi : Cond.instanceMethod objectInit ∈ gtbl) (hc : Cond.code objectInit ⟨#[0xb1]⟩ 1 none ∈ gtbl) (hf : 1 ≤ md_fr d) (hlo : (st.map hv_cat).sum + 12 ≤ md_lo d) (kk : hg_G d al sh0 Q bc bs n ls st M) : hg_G d al sh0 Q bc bs pc ls (hv_r (some (k, i)) :: st) M := by
  subst hn
  refine hg_pure (fun p l e R s m args below meth c D ad base H locs cells slots arr Qf X hR hq _ _ kk => ?_) kk
  have hts := X.2.2.2.2.2.1
  have hX9 := X.2.2.2.2.2.2.2.2
  refine W.objInit X.1 X.2.1 X.2.2.2.2.1 (hts _ hl) (hts _ hi) (hts _ hc) rfl (by rw [X.2.2.2.1]; exact hq.1) rfl hd (Nat.le_trans hf hX9.1) ?_ kk
  show 2 * 0 + _ + 12 ≤ _
  rw [hv_cats]
  have := hX9.2.1
  omega
theorem hg_min {x y : Int32} {idx : Nat} (hd : decode (md_cc d) pc = .ok (.invokestatic idx, 3)) (hn : pc + 3 = n) (hl : Cond.methodLink (md_own d) idx Lib.Math.min.name ∈ gtbl) (hs : Cond.static Lib.Math.min.name ∈ gtbl) (hi : Cond.initialized "java/lang/Math" ∈ gtbl) (hc : Cond.code Lib.Math.min.name Lib.Math.min.code 2 (some .int) ∈ gtbl) (hf : 1 ≤ md_fr d) (hlo : (st.map hv_cat).sum + 13 ≤ md_lo d) (kk : hg_G d al sh0 Q bc bs n ls (hv_i (if y < x then y else x) :: st) M) : hg_G d al sh0 Q bc bs pc ls (hv_i y :: hv_i x :: st) M := by
  subst hn
  refine hg_pure (fun p l e R s m args below meth c D ad base H locs cells slots arr Qf X hR hq hc1 hc2 kk => ?_) kk
  have hts := X.2.2.2.2.2.1
  have hX9 := X.2.2.2.2.2.2.2.2
  exact va_mmin X.1 X.2.1 (by rw [X.2.2.2.1]; exact hq.1.symm) X.2.2.2.2.1 (hts _ hl) (hts _ hs) (hts _ hi) (hts _ hc) (Nat.le_trans hf hX9.1) (by rw [hv_cats]; have := hX9.2.1; omega) hc1 hc2 hd kk
theorem hg_max {x y : Int32} {idx : Nat} (hd : decode (md_cc d) pc = .ok (.invokestatic idx, 3)) (hn : pc + 3 = n) (hl : Cond.methodLink (md_own d) idx Lib.Math.max.name ∈ gtbl) (hs : Cond.static Lib.Math.max.name ∈ gtbl) (hi : Cond.initialized "java/lang/Math" ∈ gtbl) (hc : Cond.code Lib.Math.max.name Lib.Math.max.code 2 (some .int) ∈ gtbl) (hf : 1 ≤ md_fr d) (hlo : (st.map hv_cat).sum + 13 ≤ md_lo d) (kk : hg_G d al sh0 Q bc bs n ls (hv_i (if x < y then y else x) :: st) M) : hg_G d al sh0 Q bc bs pc ls (hv_i y :: hv_i x :: st) M := by
  subst hn
  refine hg_pure (fun p l e R s m args below meth c D ad base H locs cells slots arr Qf X hR hq hc1 hc2 kk => ?_) kk
  have hts := X.2.2.2.2.2.1
  have hX9 := X.2.2.2.2.2.2.2.2
  exact va_mmax X.1 X.2.1 (by rw [X.2.2.2.1]; exact hq.1.symm) X.2.2.2.2.1 (hts _ hl) (hts _ hs) (hts _ hi) (hts _ hc) (Nat.le_trans hf hX9.1) (by rw [hv_cats]; have := hX9.2.1; omega) hc1 hc2 hd kk
end HC
