/-! fewer locals -/
def hl_le : List (Option V_) → List (Option V_) → Prop
  | [], _ => True
  | none :: r, _ :: r' => hl_le r r'
  | none :: r, [] => hl_le r []
  | some v :: r, x :: r' => x = some v ∧ hl_le r r'
  | some _ :: _, [] => False
theorem hl_le_ok : ∀ {ls' ls : List (Option V_)}, hl_le ls' ls → ∀ {j : Nat} {v : V_}, ls'[j]? = some (some v) → ls[j]? = some (some v)
  | [], _, _, j, v, h => by simp at h
  | none :: r, x :: r', hl, 0, v, h => by simp at h
  | none :: r, x :: r', hl, j + 1, v, h => by
    rw [List.getElem?_cons_succ] at h ⊢
    exact hl_le_ok (ls' := r) hl h
  | none :: r, [], hl, 0, v, h => by simp at h
  | none :: r, [], hl, j + 1, v, h => by
    rw [List.getElem?_cons_succ] at h
    have := hl_le_ok (ls' := r) (ls := []) hl h
    simp at this
  | some w :: r, x :: r', hl, 0, v, h => by
    simp only [List.getElem?_cons_zero] at h ⊢
    rw [hl.1]; exact h
  | some w :: r, x :: r', hl, j + 1, v, h => by
    rw [List.getElem?_cons_succ] at h ⊢
    exact hl_le_ok (ls' := r) hl.2 h
  | some w :: r, [], hl, _, v, h => False.elim hl
theorem hg_ls {d : Md_} {al : Bool} {sh0 : SH_} {Q : Option V_ → Me_ → Prop} {bc bs pc : Nat} {ls ls' : List (Option V_)} {st : List V_} {M : Me_} (kk : hg_G d al sh0 Q bc bs pc ls' st M) (h : hl_le ls' ls) : hg_G d al sh0 Q bc bs pc ls st M := by
  intro p l e R s m args below meth c D ad0 ad base H locs cells slots arr X Y
  refine kk p l e R s m args below meth c D ad0 ad base H locs cells slots arr X ⟨Y.1, Y.2.1, Y.2.2.1, Y.2.2.2.1, Y.2.2.2.2.1, Y.2.2.2.2.2.1, ?_⟩
  have hl := Y.2.2.2.2.2.2
  refine ⟨hl.1, hl.2.1, fun q hq => hl.2.2 q ?_⟩
  obtain ⟨j, v, h1, h2⟩ := hl_mem.mp hq
  exact hl_mem.mpr ⟨j, v, hl_le_ok h h1, h2⟩
theorem hg_iincI {d : Md_} {al : Bool} {sh0 : SH_} {Q : Option V_ → Me_ → Prop} {bc bs pc n : Nat} {ls : List (Option V_)} {st : List V_} {M : Me_} (c : Int32) {k : Nat} {z : Int} {x : Int32} (hd : decode (md_cc d) pc = .ok (.iinc k z, 3)) (hn : pc + 3 = n) (hl : ls[k]? = some (some (hv_i x))) (hv : Int32.ofInt z = c) (hi : k < md_nL d) (hz : hl_nl ls k = true) {ls' : List (Option V_)} (he : ls.set k (some (hv_i (x + c))) = ls') (kk : hg_G d al sh0 Q bc bs n ls' st M) : hg_G d al sh0 Q bc bs pc ls st M :=
  hg_iinc hd hn hl (by rw [hv]) hi hz he kk
theorem u_3_k {α : Type} {X : Nat → Nat → Nat → α} {k i f k' i' f' : Nat} {x : α} (h : k' ≠ k) : u_3 X k i f x k' i' f' = X k' i' f' := if_neg (fun q => h q.1)
