/-! contracts that name answer and memory -/
def hg_Det (al : Bool) (y : MethodName) (d : Md_) (as : List V_) (M : Me_) (v : Option V_) (M' : Me_) : Prop := ∀ Q : Option V_ → Me_ → Prop, Q v M' → hg_Ok al y d as M Q
section HDet
variable {d : Md_} {al : Bool} {sh0 : SH_} {Q : Option V_ → Me_ → Prop} {bc bs : Nat} {pc n : Nat} {ls : List (Option V_)} {rest stk : List V_} {M M' : Me_} {y : MethodName} {dy : Md_} {al' : Bool} {as : List V_} {k i len c idx na : Nat} {v : Option V_} {host : String} {Q' : Option V_ → Me_ → Prop}
theorem hg_callVd (hOk : hg_Det al' y dy (hv_r (some (k, i)) :: as) M v M') (hd : decode (md_cc d) pc = .ok (.invokevirtual idx, 3)) (hn : pc + 3 = n) (hl : Cond.methodLink (md_own d) idx y ∈ gtbl) (hL : hy_L y dy na) (hV : hy_V y c) (hk : kd_ k = .inl c) (hs : M.2.2.2 k i = some len) (hrm : hg_rm d dy) (hb : md_mc dy ≤ bc ∧ md_ms dy ≤ bs) (hlen : as.length = na) (hstk : stk = as.reverse ++ hv_r (some (k, i)) :: rest) (hc8 : (rest.map hv_cat).sum ≤ 8) (hal : hg_al al al' sh0 M rest ls)
    (kk : hg_G d al sh0 Q (bc - md_mc dy) (bs - md_ms dy) n ls (v.toList ++ rest) M') : hg_G d al sh0 Q bc bs pc ls stk M :=
  hg_callV hd hn hl hL hV hk hs hrm hc8 hb hal hlen hstk (hOk (fun v' M'' => v' = v ∧ M'' = M') ⟨rfl, rfl⟩) (fun v' M'' h => by rw [h.1, h.2]; exact kk)
theorem hg_callSd (hOk : hg_Det al' y dy as M v M') (hd : decode (md_cc d) pc = .ok (.invokestatic idx, 3)) (hn : pc + 3 = n) (hl : Cond.methodLink (md_own d) idx y ∈ gtbl) (hL : hy_L y dy na) (hV : Cond.static y ∈ gtbl) (hrm : hg_rm d dy) (hb : md_mc dy ≤ bc ∧ md_ms dy ≤ bs) (hlen : as.length = na) (hstk : stk = as.reverse ++ rest) (hc8 : (rest.map hv_cat).sum ≤ 8) (hal : hg_al al al' sh0 M rest ls)
    (kk : hg_G d al sh0 Q (bc - md_mc dy) (bs - md_ms dy) n ls (v.toList ++ rest) M') : hg_G d al sh0 Q bc bs pc ls stk M :=
  hg_callS hd hn hl hL hV hrm hc8 hb hal hlen hstk (hOk (fun v' M'' => v' = v ∧ M'' = M') ⟨rfl, rfl⟩) (fun v' M'' h => by rw [h.1, h.2]; exact kk)
theorem hg_callSNd (hOk : hg_Det al' y dy as M v M') (hd : decode (md_cc d) pc = .ok (.invokestatic idx, 3)) (hn : pc + 3 = n) (hl : ∀ D U, hm_K D U → va_Nw (.methodLinkNest (md_own d) idx y host) U) (hL : hy_L y dy na) (hV : Cond.static y ∈ gtbl) (hrm : hg_rm d dy) (hb : md_mc dy ≤ bc ∧ md_ms dy ≤ bs) (hlen : as.length = na) (hstk : stk = as.reverse ++ rest) (hc8 : (rest.map hv_cat).sum ≤ 8) (hal : hg_al al al' sh0 M rest ls)
    (kk : hg_G d al sh0 Q (bc - md_mc dy) (bs - md_ms dy) n ls (v.toList ++ rest) M') : hg_G d al sh0 Q bc bs pc ls stk M :=
  hg_callSN hd hn hl hL hV hrm hc8 hb hal hlen hstk (hOk (fun v' M'' => v' = v ∧ M'' = M') ⟨rfl, rfl⟩) (fun v' M'' h => by rw [h.1, h.2]; exact kk)
theorem hg_callId (hOk : hg_Det al' y dy (hv_r (some (k, i)) :: as) M v M') (hd : decode (md_cc d) pc = .ok (.invokespecial idx, 3)) (hn : pc + 3 = n) (hl : Cond.methodLink (md_own d) idx y ∈ gtbl) (hL : hy_L y dy na) (hy1 : y.name = "<init>") (hret : md_ret dy = none) (hV : Cond.instanceMethod y ∈ gtbl) (hrm : hg_rm d dy) (hb : md_mc dy ≤ bc ∧ md_ms dy ≤ bs) (hlen : as.length = na) (hstk : stk = as.reverse ++ hv_r (some (k, i)) :: rest) (hc8 : (rest.map hv_cat).sum ≤ 8) (hal : hg_al al al' sh0 M rest ls)
    (kk : hg_G d al sh0 Q (bc - md_mc dy) (bs - md_ms dy) n ls (v.toList ++ rest) M') : hg_G d al sh0 Q bc bs pc ls stk M :=
  hg_callI hd hn hl hL hy1 hret hV hrm hc8 hb hal hlen hstk (hOk (fun v' M'' => v' = v ∧ M'' = M') ⟨rfl, rfl⟩) (fun v' M'' h => by rw [h.1, h.2]; exact kk)
theorem hg_callINd (hOk : hg_Det al' y dy (hv_r (some (k, i)) :: as) M v M') (hd : decode (md_cc d) pc = .ok (.invokespecial idx, 3)) (hn : pc + 3 = n) (hl : ∀ D U, hm_K D U → va_Nw (.methodLinkNest (md_own d) idx y host) U) (hL : hy_L y dy na) (hy1 : y.name = "<init>") (hret : md_ret dy = none) (hV : Cond.instanceMethod y ∈ gtbl) (hrm : hg_rm d dy) (hb : md_mc dy ≤ bc ∧ md_ms dy ≤ bs) (hlen : as.length = na) (hstk : stk = as.reverse ++ hv_r (some (k, i)) :: rest) (hc8 : (rest.map hv_cat).sum ≤ 8) (hal : hg_al al al' sh0 M rest ls)
    (kk : hg_G d al sh0 Q (bc - md_mc dy) (bs - md_ms dy) n ls (v.toList ++ rest) M') : hg_G d al sh0 Q bc bs pc ls stk M :=
  hg_callIN hd hn hl hL hy1 hret hV hrm hc8 hb hal hlen hstk (hOk (fun v' M'' => v' = v ∧ M'' = M') ⟨rfl, rfl⟩) (fun v' M'' h => by rw [h.1, h.2]; exact kk)
theorem hg_callVp (hOk : hg_Ok al' y dy (hv_r (some (k, i)) :: as) M Q') (hd : decode (md_cc d) pc = .ok (.invokevirtual idx, 3)) (hn : pc + 3 = n) (hl : Cond.methodLink (md_own d) idx y ∈ gtbl) (hL : hy_L y dy na) (hV : hy_V y c) (hk : kd_ k = .inl c) (hs : M.2.2.2 k i = some len) (hrm : hg_rm d dy) (hb : md_mc dy ≤ bc ∧ md_ms dy ≤ bs) (hlen : as.length = na) (hstk : stk = as.reverse ++ hv_r (some (k, i)) :: rest) (hc8 : (rest.map hv_cat).sum ≤ 8) (hal : hg_al al al' sh0 M rest ls)
    (kk : ∀ v M', Q' v M' → hg_G d al sh0 Q (bc - md_mc dy) (bs - md_ms dy) n ls (v.toList ++ rest) M') : hg_G d al sh0 Q bc bs pc ls stk M :=
  hg_callV hd hn hl hL hV hk hs hrm hc8 hb hal hlen hstk hOk kk
theorem hg_topI {x z : Int32} {st : List V_} (h : x = z) (kk : hg_G d al sh0 Q bc bs pc ls (hv_i z :: st) M) : hg_G d al sh0 Q bc bs pc ls (hv_i x :: st) M := h ▸ kk
end HDet
/-- a number between two others: 1, else 0 -/
def z_in (x a b : Int32) : Int32 := if a ≤ x ∧ x ≤ b then 1 else 0
theorem i32_nle {a b : Int32} : ¬ a ≤ b ↔ b < a := by rw [Int32.le_iff_toInt_le, Int32.lt_iff_toInt_lt]; omega
theorem i32_nlt {a b : Int32} : ¬ a < b ↔ b ≤ a := by rw [Int32.le_iff_toInt_le, Int32.lt_iff_toInt_lt]; omega
theorem z_in_lt {x a b : Int32} (h : x < a) : z_in x a b = 0 := if_neg (fun q => i32_nle.mpr h q.1)
theorem z_in_gt {x a b : Int32} (h : b < x) : z_in x a b = 0 := if_neg (fun q => i32_nle.mpr h q.2)
theorem z_in_ok {x a b : Int32} (h1 : ¬ x < a) (h2 : ¬ b < x) : z_in x a b = 1 := if_pos ⟨i32_nlt.mp h1, i32_nlt.mp h2⟩
theorem z_in_01 (x a b : Int32) : z_in x a b = 0 ∨ z_in x a b = 1 := by
  unfold z_in
  split
  · exact Or.inr rfl
  · exact Or.inl rfl
theorem z_in_ne {x a b : Int32} (h : ¬ z_in x a b = 0) : a ≤ x ∧ x ≤ b := by
  unfold z_in at h
  split at h
  · assumption
  · exact absurd rfl h
theorem z_in_1 {x a b : Int32} (h : ¬ z_in x a b = 0) : z_in x a b = 1 := (z_in_01 x a b).resolve_left h
