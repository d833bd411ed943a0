/-! locals -/
def hl_as (ad : Nat → Nat → Nat) : Nat → List (Option V_) → List (Nat × Value)
  | _, [] => []
  | k, none :: r => hl_as ad (k + 1) r
  | k, some v :: r => (k, hv_c ad v) :: hl_as ad (k + 1) r
theorem hl_mem {ad : Nat → Nat → Nat} {q : Nat × Value} : ∀ {ls : List (Option V_)} {k : Nat}, q ∈ hl_as ad k ls ↔ ∃ j v, ls[j]? = some (some v) ∧ q = (k + j, hv_c ad v)
  | [], k => by simp [hl_as]
  | none :: r, k => by
    rw [hl_as, hl_mem]
    constructor
    · rintro ⟨j, v, h1, h2⟩
      exact ⟨j + 1, v, by simpa using h1, by rw [h2]; congr 1; omega⟩
    · rintro ⟨j, v, h1, h2⟩
      cases j with
      | zero => simp at h1
      | succ j => exact ⟨j, v, by simpa using h1, by rw [h2]; congr 1; omega⟩
  | some w :: r, k => by
    rw [hl_as, List.mem_cons, hl_mem]
    constructor
    · rintro (h | ⟨j, v, h1, h2⟩)
      · exact ⟨0, w, rfl, h⟩
      · exact ⟨j + 1, v, by simpa using h1, by rw [h2]; congr 1; omega⟩
    · rintro ⟨j, v, h1, h2⟩
      cases j with
      | zero =>
        simp at h1
        subst h1
        exact Or.inl h2
      | succ j => exact Or.inr ⟨j, v, by simpa using h1, by rw [h2]; congr 1; omega⟩
theorem hl_at {ad : Nat → Nat → Nat} {arr : Array Slot} {nL : Nat} {ls : List (Option V_)} {j : Nat} {v : V_} (h : lv_has arr nL (hl_as ad 0 ls)) (hj : ls[j]? = some (some v)) : arr[j]? = some (.val (hv_c ad v)) := h.2.2 (j, hv_c ad v) (hl_mem.mpr ⟨j, v, hj, by simp⟩)
def hl_nl (ls : List (Option V_)) (i : Nat) : Bool := match i with
  | 0 => true
  | j + 1 => match ls[j]? with
    | some (some (.inr (.inl _))) => false
    | _ => true
theorem hl_nl_ok {ls : List (Option V_)} {j : Nat} {v : V_} (h : hl_nl ls (j + 1) = true) (hj : ls[j]? = some (some v)) : hv_cat v = 1 := by
  rcases v with x | x | x
  · rfl
  · simp [hl_nl, hj] at h
  · rfl
theorem hl_set1 {ad : Nat → Nat → Nat} {arr : Array Slot} {nL i : Nat} {ls : List (Option V_)} {v : V_} (hn : hl_nl ls i = true)
    (h : lv_has arr nL ((i, hv_c ad v) :: (hl_as ad 0 ls).filter (fun q => !(q.1 == i) && !(q.1 + 1 == i && q.2.category == 2)))) : lv_has arr nL (hl_as ad 0 (ls.set i (some v))) := by
  refine ⟨h.1, h.2.1, fun q hq => h.2.2 q ?_⟩
  obtain ⟨j, w, h1, rfl⟩ := hl_mem.mp hq
  by_cases hj : j = i
  · subst hj
    have hlt : j < ls.length := by
      have := (List.getElem?_eq_some_iff.mp h1).1
      simpa using this
    rw [List.getElem?_set_self hlt] at h1
    cases h1
    simp
  · rw [List.getElem?_set_ne (Ne.symm hj)] at h1
    refine List.mem_cons_of_mem _ (List.mem_filter.mpr ⟨hl_mem.mpr ⟨j, w, h1, rfl⟩, ?_⟩)
    by_cases h2 : j + 1 = i
    · subst h2
      have := hl_nl_ok hn h1
      simp [hv_cat_c, this]
    · simp [hj, h2]
theorem hl_set2 {ad : Nat → Nat → Nat} {arr : Array Slot} {nL i : Nat} {ls : List (Option V_)} {v : V_} (hn : hl_nl ls i = true)
    (h : lv_has arr nL ((i, hv_c ad v) :: (hl_as ad 0 ls).filter (fun q => !(q.1 == i) && (!(q.1 == i + 1) && !(q.1 + 1 == i && q.2.category == 2))))) : lv_has arr nL (hl_as ad 0 ((ls.set i (some v)).set (i + 1) none)) := by
  refine ⟨h.1, h.2.1, fun q hq => h.2.2 q ?_⟩
  obtain ⟨j, w, h1, rfl⟩ := hl_mem.mp hq
  have hj1 : j ≠ i + 1 := by
    intro e
    subst e
    rw [List.getElem?_set] at h1
    split at h1
    · split at h1 <;> simp at h1
    · omega
  rw [List.getElem?_set_ne (Ne.symm hj1)] at h1
  by_cases hj : j = i
  · subst hj
    have hlt : j < ls.length := by
      have := (List.getElem?_eq_some_iff.mp h1).1
      simpa using this
    rw [List.getElem?_set_self hlt] at h1
    cases h1
    simp
  · rw [List.getElem?_set_ne (Ne.symm hj)] at h1
    refine List.mem_cons_of_mem _ (List.mem_filter.mpr ⟨hl_mem.mpr ⟨j, w, h1, rfl⟩, ?_⟩)
    by_cases h2 : j + 1 = i
    · subst h2
      have := hl_nl_ok hn h1
      simp [hv_cat_c, this]
      omega
    · simp [hj, hj1, h2]
/-! the judgement: method's data = code, own class, name, locals, result's type, room (frames, locals, cells, slots) -/
abbrev Md_ : Type := ByteArray × String × String × Nat × Option FieldType × Nat × Nat × Nat × Nat
abbrev md_cc (d : Md_) : ByteArray := d.1
abbrev md_own (d : Md_) : String := d.2.1
abbrev md_nm (d : Md_) : String := d.2.2.1
abbrev md_nL (d : Md_) : Nat := d.2.2.2.1
abbrev md_ret (d : Md_) : Option FieldType := d.2.2.2.2.1
abbrev md_fr (d : Md_) : Nat := d.2.2.2.2.2.1
abbrev md_lo (d : Md_) : Nat := d.2.2.2.2.2.2.1
abbrev md_mc (d : Md_) : Nat := d.2.2.2.2.2.2.2.1
abbrev md_ms (d : Md_) : Nat := d.2.2.2.2.2.2.2.2
abbrev md_rm (d : Md_) : Room := { frames := md_fr d, cells := md_mc d, slots := md_ms d, locals := md_lo d }
/-- what stands fast inside a method -/
def hg_X (d : Md_) (p : Program) (R : Room) (s : State) (m : MethodId) (args : Array Value) (meth : Method) (c : Code) (D : Hd_) : Prop :=
  p.tables.exec = Jvm.exec ∧ c.code = md_cc d ∧ meth.sig.returnType = md_ret d ∧ c.maxLocals = md_nL d ∧ s.vm.findClass (md_own d) = some m.cls ∧ (∀ w ∈ gtbl, w.before args s = true) ∧ meth.locks = false ∧ meth.name = md_nm d ∧ md_fr d ≤ R.frames ∧ md_lo d ≤ R.locals ∧ md_mc d ≤ R.cells ∧ md_ms d ≤ R.slots ∧ hm_K D s
/-- a method's end: answer and memory; cells stay where they were -/
def hg_Q (D : Hd_) (base : Nat) (sh0 : SH_) (ad0 : Nat → Nat → Nat) (al : Bool) (Q : Option V_ → Me_ → Prop) : Array Value → State → Outcome → State → Prop := fun _ _ oc t =>
  ∃ (v : Option V_) (M' : Me_) (ad' : Nat → Nat → Nat), oc = .returned (v.map (hv_c ad')) ∧ Q v M' ∧ hm_R D ad' base M' t t.heap ∧ (∀ k i n, sh0 k i = some n → ad' k i = ad0 k i) ∧ (al = false → ad' = ad0)
/-- all that moves inside a method -/
def hg_Y (d : Md_) (al : Bool) (sh0 : SH_) (bc bs : Nat) (ls : List (Option V_)) (M : Me_) (s : State) (D : Hd_) (ad0 ad : Nat → Nat → Nat) (base : Nat) (H : Heap) (locs : List Loc) (cells slots : Nat) (arr : Array Slot) : Prop :=
  hm_R D ad base M s H ∧ (∀ q ∈ locs, base ≤ q.base) ∧ cells + bc ≤ md_mc d ∧ slots + bs ≤ md_ms d ∧ (∀ k i n, sh0 k i = some n → ad k i = ad0 k i) ∧ (al = false → ad = ad0) ∧ lv_has arr (md_nL d) (hl_as ad 0 ls)
def hg_G (d : Md_) (al : Bool) (sh0 : SH_) (Q : Option V_ → Me_ → Prop) (bc bs : Nat) (pc : Nat) (ls : List (Option V_)) (st : List V_) (M : Me_) : Prop :=
  ∀ (p : Program) (l : Launch) (e : Env) (R : Room) (s : State) (m : MethodId) (args : Array Value) (below : List Frame) (meth : Method) (c : Code) (D : Hd_) (ad0 ad : Nat → Nat → Nat) (base : Nat) (H : Heap) (locs : List Loc) (cells slots : Nat) (arr : Array Slot),
    hg_X d p R s m args meth c D → hg_Y d al sh0 bc bs ls M s D ad0 ad base H locs cells slots arr →
    W p l e R s m args below meth c H locs cells slots (MQ below (hg_Q D base sh0 ad0 al Q) args s (md_mc d) (md_ms d) (fun q => base ≤ q)) (F0 m pc arr (st.map (hv_c ad)))
section HG
variable {d : Md_} {al : Bool} {sh0 : SH_} {Q : Option V_ → Me_ → Prop} {bc bs : Nat} {pc n : Nat} {ls : List (Option V_)} {st st' : List V_} {M : Me_}
theorem hg_pure (h : ∀ (p : Program) (l : Launch) (e : Env) (R : Room) (s : State) (m : MethodId) (args : Array Value) (below : List Frame) (meth : Method) (c : Code) (D : Hd_) (ad : Nat → Nat → Nat) (base : Nat) (H : Heap) (locs : List Loc) (cells slots : Nat) (arr : Array Slot) (Qf : State → Prop),
      hg_X d p R s m args meth c D → hm_R D ad base M s H → lv_has arr (md_nL d) (hl_as ad 0 ls) → cells ≤ R.cells → slots ≤ R.slots → W p l e R s m args below meth c H locs cells slots Qf (F0 m n arr (st'.map (hv_c ad))) → W p l e R s m args below meth c H locs cells slots Qf (F0 m pc arr (st.map (hv_c ad))))
    (kk : hg_G d al sh0 Q bc bs n ls st' M) : hg_G d al sh0 Q bc bs pc ls st M := by
  intro p l e R s m args below meth c D ad0 ad base H locs cells slots arr X Y
  exact h p l e R s m args below meth c D ad base H locs cells slots arr _ X Y.1 Y.2.2.2.2.2.2 (by have := X.2.2.2.2.2.2.2.2.2.2.1; have := Y.2.2.1; omega) (by have := X.2.2.2.2.2.2.2.2.2.2.2.1; have := Y.2.2.2.1; omega) (kk p l e R s m args below meth c D ad0 ad base H locs cells slots arr X Y)
theorem hg_iconst {k : Int} {v : Int32} (hd : decode (md_cc d) pc = .ok (.iconst k, 1)) (hn : pc + 1 = n) (hv : Int32.ofInt k = v) (kk : hg_G d al sh0 Q bc bs n ls (hv_i v :: st) M) : hg_G d al sh0 Q bc bs pc ls (st) M := by
  subst hn
  exact hg_pure (fun _ _ _ _ _ _ _ _ _ _ _ _ _ _ _ _ _ _ _ X _ hq _ _ k => lv_iconst X.1 X.2.1 hd hv k) kk
theorem hg_bipush {k : Int} {v : Int32} (hd : decode (md_cc d) pc = .ok (.bipush k, 2)) (hn : pc + 2 = n) (hv : (Int8.ofInt k).toInt32 = v) (kk : hg_G d al sh0 Q bc bs n ls (hv_i v :: st) M) : hg_G d al sh0 Q bc bs pc ls (st) M := by
  subst hn
  exact hg_pure (fun _ _ _ _ _ _ _ _ _ _ _ _ _ _ _ _ _ _ _ X _ hq _ _ k => lv_bipush X.1 X.2.1 hd hv k) kk
theorem hg_sipush {k : Int} {v : Int32} (hd : decode (md_cc d) pc = .ok (.sipush k, 3)) (hn : pc + 3 = n) (hv : (Int16.ofInt k).toInt32 = v) (kk : hg_G d al sh0 Q bc bs n ls (hv_i v :: st) M) : hg_G d al sh0 Q bc bs pc ls (st) M := by
  subst hn
  exact hg_pure (fun _ _ _ _ _ _ _ _ _ _ _ _ _ _ _ _ _ _ _ X _ hq _ _ k => lv_sipush X.1 X.2.1 hd hv k) kk
theorem hg_lconst {k : Fin 2} {v : Int64} (hd : decode (md_cc d) pc = .ok (.lconst k, 1)) (hn : pc + 1 = n) (hv : Int64.ofNat (k : Nat) = v) (kk : hg_G d al sh0 Q bc bs n ls (hv_l v :: st) M) : hg_G d al sh0 Q bc bs pc ls (st) M := by
  subst hn
  exact hg_pure (fun _ _ _ _ _ _ _ _ _ _ _ _ _ _ _ _ _ _ _ X _ hq _ _ k => lv_lconst X.1 X.2.1 hd hv k) kk
theorem hg_ldc {k : Nat} {v : Int32} (hd : decode (md_cc d) pc = .ok (.ldc k, 2)) (hn : pc + 2 = n) (hw : Cond.constant (md_own d) k v ∈ gtbl) (kk : hg_G d al sh0 Q bc bs n ls (hv_i v :: st) M) : hg_G d al sh0 Q bc bs pc ls (st) M := by
  subst hn
  exact hg_pure (fun _ _ _ _ _ _ _ _ _ _ _ _ _ _ _ _ _ _ _ X _ hq _ _ k => lv_ldc X.1 X.2.1 X.2.2.2.2.1 (X.2.2.2.2.2.1 _ hw) hd k) kk
theorem hg_ldc2 {k : Nat} {v : Int64} (hd : decode (md_cc d) pc = .ok (.ldc2_w k, 3)) (hn : pc + 3 = n) (hw : Cond.constantLong (md_own d) k v ∈ gtbl) (kk : hg_G d al sh0 Q bc bs n ls (hv_l v :: st) M) : hg_G d al sh0 Q bc bs pc ls (st) M := by
  subst hn
  exact hg_pure (fun _ _ _ _ _ _ _ _ _ _ _ _ _ _ _ _ _ _ _ X _ hq _ _ k => lv_ldc2 X.1 X.2.1 X.2.2.2.2.1 (X.2.2.2.2.2.1 _ hw) hd k) kk
theorem hg_null  (hd : decode (md_cc d) pc = .ok (.aconst_null, 1)) (hn : pc + 1 = n)  (kk : hg_G d al sh0 Q bc bs n ls (hv_r none :: st) M) : hg_G d al sh0 Q bc bs pc ls (st) M := by
  subst hn
  exact hg_pure (fun _ _ _ _ _ _ _ _ _ _ _ _ _ _ _ _ _ _ _ X _ hq _ _ k => lv_null X.1 X.2.1 hd k) kk
theorem hg_iadd {x y : Int32} (hd : decode (md_cc d) pc = .ok (.iadd, 1)) (hn : pc + 1 = n)  (kk : hg_G d al sh0 Q bc bs n ls (hv_i (x + y) :: st) M) : hg_G d al sh0 Q bc bs pc ls (hv_i y :: hv_i x :: st) M := by
  subst hn
  exact hg_pure (fun _ _ _ _ _ _ _ _ _ _ _ _ _ _ _ _ _ _ _ X _ hq _ _ k => lv_iadd X.1 X.2.1 hd k) kk
theorem hg_isub {x y : Int32} (hd : decode (md_cc d) pc = .ok (.isub, 1)) (hn : pc + 1 = n)  (kk : hg_G d al sh0 Q bc bs n ls (hv_i (x - y) :: st) M) : hg_G d al sh0 Q bc bs pc ls (hv_i y :: hv_i x :: st) M := by
  subst hn
  exact hg_pure (fun _ _ _ _ _ _ _ _ _ _ _ _ _ _ _ _ _ _ _ X _ hq _ _ k => lv_isub X.1 X.2.1 hd k) kk
theorem hg_imul {x y : Int32} (hd : decode (md_cc d) pc = .ok (.imul, 1)) (hn : pc + 1 = n)  (kk : hg_G d al sh0 Q bc bs n ls (hv_i (x * y) :: st) M) : hg_G d al sh0 Q bc bs pc ls (hv_i y :: hv_i x :: st) M := by
  subst hn
  exact hg_pure (fun _ _ _ _ _ _ _ _ _ _ _ _ _ _ _ _ _ _ _ X _ hq _ _ k => lv_imul X.1 X.2.1 hd k) kk
theorem hg_iand {x y : Int32} (hd : decode (md_cc d) pc = .ok (.iand, 1)) (hn : pc + 1 = n)  (kk : hg_G d al sh0 Q bc bs n ls (hv_i (x &&& y) :: st) M) : hg_G d al sh0 Q bc bs pc ls (hv_i y :: hv_i x :: st) M := by
  subst hn
  exact hg_pure (fun _ _ _ _ _ _ _ _ _ _ _ _ _ _ _ _ _ _ _ X _ hq _ _ k => lv_iand X.1 X.2.1 hd k) kk
theorem hg_ior {x y : Int32} (hd : decode (md_cc d) pc = .ok (.ior, 1)) (hn : pc + 1 = n)  (kk : hg_G d al sh0 Q bc bs n ls (hv_i (x ||| y) :: st) M) : hg_G d al sh0 Q bc bs pc ls (hv_i y :: hv_i x :: st) M := by
  subst hn
  exact hg_pure (fun _ _ _ _ _ _ _ _ _ _ _ _ _ _ _ _ _ _ _ X _ hq _ _ k => lv_ior X.1 X.2.1 hd k) kk
theorem hg_ishl {x y : Int32} (hd : decode (md_cc d) pc = .ok (.ishl, 1)) (hn : pc + 1 = n)  (kk : hg_G d al sh0 Q bc bs n ls (hv_i (x <<< (y &&& 31)) :: st) M) : hg_G d al sh0 Q bc bs pc ls (hv_i y :: hv_i x :: st) M := by
  subst hn
  exact hg_pure (fun _ _ _ _ _ _ _ _ _ _ _ _ _ _ _ _ _ _ _ X _ hq _ _ k => lv_ishl X.1 X.2.1 hd k) kk
theorem hg_ishr {x y : Int32} (hd : decode (md_cc d) pc = .ok (.ishr, 1)) (hn : pc + 1 = n)  (kk : hg_G d al sh0 Q bc bs n ls (hv_i (x >>> (y &&& 31)) :: st) M) : hg_G d al sh0 Q bc bs pc ls (hv_i y :: hv_i x :: st) M := by
  subst hn
  exact hg_pure (fun _ _ _ _ _ _ _ _ _ _ _ _ _ _ _ _ _ _ _ X _ hq _ _ k => lv_ishr X.1 X.2.1 hd k) kk
theorem hg_idiv {x y : Int32} (hd : decode (md_cc d) pc = .ok (.idiv, 1)) (hn : pc + 1 = n) (hy : ¬ y = 0) (kk : hg_G d al sh0 Q bc bs n ls (hv_i (x / y) :: st) M) : hg_G d al sh0 Q bc bs pc ls (hv_i y :: hv_i x :: st) M := by
  subst hn
  exact hg_pure (fun _ _ _ _ _ _ _ _ _ _ _ _ _ _ _ _ _ _ _ X _ hq _ _ k => lv_idiv X.1 X.2.1 hd hy k) kk
theorem hg_ladd {x y : Int64} (hd : decode (md_cc d) pc = .ok (.ladd, 1)) (hn : pc + 1 = n)  (kk : hg_G d al sh0 Q bc bs n ls (hv_l (x + y) :: st) M) : hg_G d al sh0 Q bc bs pc ls (hv_l y :: hv_l x :: st) M := by
  subst hn
  exact hg_pure (fun _ _ _ _ _ _ _ _ _ _ _ _ _ _ _ _ _ _ _ X _ hq _ _ k => lv_ladd X.1 X.2.1 hd k) kk
theorem hg_lsub {x y : Int64} (hd : decode (md_cc d) pc = .ok (.lsub, 1)) (hn : pc + 1 = n)  (kk : hg_G d al sh0 Q bc bs n ls (hv_l (x - y) :: st) M) : hg_G d al sh0 Q bc bs pc ls (hv_l y :: hv_l x :: st) M := by
  subst hn
  exact hg_pure (fun _ _ _ _ _ _ _ _ _ _ _ _ _ _ _ _ _ _ _ X _ hq _ _ k => lv_lsub X.1 X.2.1 hd k) kk
theorem hg_lmul {x y : Int64} (hd : decode (md_cc d) pc = .ok (.lmul, 1)) (hn : pc + 1 = n)  (kk : hg_G d al sh0 Q bc bs n ls (hv_l (x * y) :: st) M) : hg_G d al sh0 Q bc bs pc ls (hv_l y :: hv_l x :: st) M := by
  subst hn
  exact hg_pure (fun _ _ _ _ _ _ _ _ _ _ _ _ _ _ _ _ _ _ _ X _ hq _ _ k => lv_lmul X.1 X.2.1 hd k) kk
theorem hg_lneg {x : Int64} (hd : decode (md_cc d) pc = .ok (.lneg, 1)) (hn : pc + 1 = n)  (kk : hg_G d al sh0 Q bc bs n ls (hv_l (-x) :: st) M) : hg_G d al sh0 Q bc bs pc ls (hv_l x :: st) M := by
  subst hn
  exact hg_pure (fun _ _ _ _ _ _ _ _ _ _ _ _ _ _ _ _ _ _ _ X _ hq _ _ k => lv_lneg X.1 X.2.1 hd k) kk
theorem hg_i2l {x : Int32} (hd : decode (md_cc d) pc = .ok (.i2l, 1)) (hn : pc + 1 = n)  (kk : hg_G d al sh0 Q bc bs n ls (hv_l x.toInt64 :: st) M) : hg_G d al sh0 Q bc bs pc ls (hv_i x :: st) M := by
  subst hn
  exact hg_pure (fun _ _ _ _ _ _ _ _ _ _ _ _ _ _ _ _ _ _ _ X _ hq _ _ k => lv_i2l X.1 X.2.1 hd rfl k) kk
theorem hg_lcmp {x y : Int64} (hd : decode (md_cc d) pc = .ok (.lcmp, 1)) (hn : pc + 1 = n)  (kk : hg_G d al sh0 Q bc bs n ls (hv_i (lg_cmp x y) :: st) M) : hg_G d al sh0 Q bc bs pc ls (hv_l y :: hv_l x :: st) M := by
  subst hn
  exact hg_pure (fun _ _ _ _ _ _ _ _ _ _ _ _ _ _ _ _ _ _ _ X _ hq _ _ k => W.lcmp X.1 X.2.1 hd k) kk
theorem hg_dup {v : V_} (hd : decode (md_cc d) pc = .ok (.dup, 1)) (hn : pc + 1 = n) (hv : hv_cat v = 1) (kk : hg_G d al sh0 Q bc bs n ls (v :: v :: st) M) : hg_G d al sh0 Q bc bs pc ls (v :: st) M := by
  subst hn
  exact hg_pure (fun _ _ _ _ _ _ _ _ _ _ _ _ _ _ _ _ _ _ _ X _ hq _ _ k => lv_dup X.1 X.2.1 hd ((hv_cat_c _ _).trans hv) k) kk
theorem hg_dup2 {v w : V_} (hd : decode (md_cc d) pc = .ok (.dup2, 1)) (hn : pc + 1 = n) (hv : hv_cat v = 1) (hw : hv_cat w = 1) (kk : hg_G d al sh0 Q bc bs n ls (v :: w :: v :: w :: st) M) : hg_G d al sh0 Q bc bs pc ls (v :: w :: st) M := by
  subst hn
  exact hg_pure (fun _ _ _ _ _ _ _ _ _ _ _ _ _ _ _ _ _ _ _ X _ hq _ _ k => lv_dup2_11 X.1 X.2.1 hd ((hv_cat_c _ _).trans hv) ((hv_cat_c _ _).trans hw) k) kk
theorem hg_dup_x1 {v w : V_} (hd : decode (md_cc d) pc = .ok (.dup_x1, 1)) (hn : pc + 1 = n) (hv : hv_cat v = 1) (hw : hv_cat w = 1) (kk : hg_G d al sh0 Q bc bs n ls (v :: w :: v :: st) M) : hg_G d al sh0 Q bc bs pc ls (v :: w :: st) M := by
  subst hn
  exact hg_pure (fun _ _ _ _ _ _ _ _ _ _ _ _ _ _ _ _ _ _ _ X _ hq _ _ k => lv_dup_x1 X.1 X.2.1 hd ((hv_cat_c _ _).trans hv) ((hv_cat_c _ _).trans hw) k) kk
theorem hg_iload_n {k : Fin 4} {x : Int32} (hd : decode (md_cc d) pc = .ok (.iload_n k, 1)) (hn : pc + 1 = n) (hl : ls[(k : Nat)]? = some (some (hv_i x))) (kk : hg_G d al sh0 Q bc bs n ls (hv_i x :: st) M) : hg_G d al sh0 Q bc bs pc ls (st) M := by
  subst hn
  exact hg_pure (fun _ _ _ _ _ _ _ _ _ _ _ _ _ _ _ _ _ _ _ X _ hq _ _ k => lv_iload_n X.1 X.2.1 hd rfl (hl_at hq hl) k) kk
theorem hg_iload {k : Nat} {x : Int32} (hd : decode (md_cc d) pc = .ok (.iload k, 2)) (hn : pc + 2 = n) (hl : ls[k]? = some (some (hv_i x))) (kk : hg_G d al sh0 Q bc bs n ls (hv_i x :: st) M) : hg_G d al sh0 Q bc bs pc ls (st) M := by
  subst hn
  exact hg_pure (fun _ _ _ _ _ _ _ _ _ _ _ _ _ _ _ _ _ _ _ X _ hq _ _ k => lv_iload X.1 X.2.1 hd (hl_at hq hl) k) kk
theorem hg_lload_n {k : Fin 4} {x : Int64} (hd : decode (md_cc d) pc = .ok (.lload_n k, 1)) (hn : pc + 1 = n) (hl : ls[(k : Nat)]? = some (some (hv_l x))) (kk : hg_G d al sh0 Q bc bs n ls (hv_l x :: st) M) : hg_G d al sh0 Q bc bs pc ls (st) M := by
  subst hn
  exact hg_pure (fun _ _ _ _ _ _ _ _ _ _ _ _ _ _ _ _ _ _ _ X _ hq _ _ k => lv_lload_n X.1 X.2.1 hd rfl (hl_at hq hl) k) kk
theorem hg_lload {k : Nat} {x : Int64} (hd : decode (md_cc d) pc = .ok (.lload k, 2)) (hn : pc + 2 = n) (hl : ls[k]? = some (some (hv_l x))) (kk : hg_G d al sh0 Q bc bs n ls (hv_l x :: st) M) : hg_G d al sh0 Q bc bs pc ls (st) M := by
  subst hn
  exact hg_pure (fun _ _ _ _ _ _ _ _ _ _ _ _ _ _ _ _ _ _ _ X _ hq _ _ k => lv_lload X.1 X.2.1 hd (hl_at hq hl) k) kk
theorem hg_aload_n {k : Fin 4} {r : Option (Nat × Nat)} (hd : decode (md_cc d) pc = .ok (.aload_n k, 1)) (hn : pc + 1 = n) (hl : ls[(k : Nat)]? = some (some (hv_r r))) (kk : hg_G d al sh0 Q bc bs n ls (hv_r r :: st) M) : hg_G d al sh0 Q bc bs pc ls st M := by
  subst hn
  cases r with
  | none => exact hg_pure (fun _ _ _ _ _ _ _ _ _ _ _ _ _ _ _ _ _ _ _ X _ hq _ _ k => lv_aload_nN X.1 X.2.1 hd rfl (hl_at hq hl) k) kk
  | some q => exact hg_pure (fun _ _ _ _ _ _ _ _ _ _ _ _ _ _ _ _ _ _ _ X _ hq _ _ k => lv_aload_n X.1 X.2.1 hd rfl (hl_at hq hl) k) kk
theorem hg_aload {k : Nat} {r : Option (Nat × Nat)} (hd : decode (md_cc d) pc = .ok (.aload k, 2)) (hn : pc + 2 = n) (hl : ls[k]? = some (some (hv_r r))) (kk : hg_G d al sh0 Q bc bs n ls (hv_r r :: st) M) : hg_G d al sh0 Q bc bs pc ls st M := by
  subst hn
  cases r with
  | none => exact hg_pure (fun _ _ _ _ _ _ _ _ _ _ _ _ _ _ _ _ _ _ _ X _ hq _ _ k => lv_aloadN X.1 X.2.1 hd (hl_at hq hl) k) kk
  | some q => exact hg_pure (fun _ _ _ _ _ _ _ _ _ _ _ _ _ _ _ _ _ _ _ X _ hq _ _ k => lv_aload X.1 X.2.1 hd (hl_at hq hl) k) kk
theorem hg_istore_n {k : Fin 4} {x : Int32} (hd : decode (md_cc d) pc = .ok (.istore_n k, 1)) (hn : pc + 1 = n) (hi : (k : Nat) < md_nL d) (hz : hl_nl ls (k : Nat) = true) {ls' : List (Option V_)} (he : ls.set (k : Nat) (some (hv_i x)) = ls') (kk : hg_G d al sh0 Q bc bs n ls' st M) : hg_G d al sh0 Q bc bs pc ls (hv_i x :: st) M := by
  subst hn he
  intro p l e R s m args below meth c D ad0 ad base H locs cells slots arr X Y
  exact lv_istore_n X.1 X.2.1 hd rfl Y.2.2.2.2.2.2 hi rfl (fun arr' h' => kk p l e R s m args below meth c D ad0 ad base H locs cells slots arr' X ⟨Y.1, Y.2.1, Y.2.2.1, Y.2.2.2.1, Y.2.2.2.2.1, Y.2.2.2.2.2.1, hl_set1 (v := hv_i x) hz h'⟩)
theorem hg_istore {k : Nat} {x : Int32} (hd : decode (md_cc d) pc = .ok (.istore k, 2)) (hn : pc + 2 = n) (hi : k < md_nL d) (hz : hl_nl ls k = true) {ls' : List (Option V_)} (he : ls.set k (some (hv_i x)) = ls') (kk : hg_G d al sh0 Q bc bs n ls' st M) : hg_G d al sh0 Q bc bs pc ls (hv_i x :: st) M := by
  subst hn he
  intro p l e R s m args below meth c D ad0 ad base H locs cells slots arr X Y
  exact lv_istore X.1 X.2.1 hd Y.2.2.2.2.2.2 hi rfl (fun arr' h' => kk p l e R s m args below meth c D ad0 ad base H locs cells slots arr' X ⟨Y.1, Y.2.1, Y.2.2.1, Y.2.2.2.1, Y.2.2.2.2.1, Y.2.2.2.2.2.1, hl_set1 (v := hv_i x) hz h'⟩)
theorem hg_lstore_n {k : Fin 4} {x : Int64} (hd : decode (md_cc d) pc = .ok (.lstore_n k, 1)) (hn : pc + 1 = n) (hi : (k : Nat) + 1 < md_nL d) (hz : hl_nl ls (k : Nat) = true) {ls' : List (Option V_)} (he : (ls.set (k : Nat) (some (hv_l x))).set ((k : Nat) + 1) none = ls') (kk : hg_G d al sh0 Q bc bs n ls' st M) : hg_G d al sh0 Q bc bs pc ls (hv_l x :: st) M := by
  subst hn he
  intro p l e R s m args below meth c D ad0 ad base H locs cells slots arr X Y
  exact lv_lstore_n X.1 X.2.1 hd rfl Y.2.2.2.2.2.2 hi rfl (fun arr' h' => kk p l e R s m args below meth c D ad0 ad base H locs cells slots arr' X ⟨Y.1, Y.2.1, Y.2.2.1, Y.2.2.2.1, Y.2.2.2.2.1, Y.2.2.2.2.2.1, hl_set2 (v := hv_l x) hz h'⟩)
theorem hg_astore_n {k : Fin 4} {r : Option (Nat × Nat)} (hd : decode (md_cc d) pc = .ok (.astore_n k, 1)) (hn : pc + 1 = n) (hi : (k : Nat) < md_nL d) (hz : hl_nl ls (k : Nat) = true) {ls' : List (Option V_)} (he : ls.set (k : Nat) (some (hv_r r)) = ls') (kk : hg_G d al sh0 Q bc bs n ls' st M) : hg_G d al sh0 Q bc bs pc ls (hv_r r :: st) M := by
  subst hn he
  intro p l e R s m args below meth c D ad0 ad base H locs cells slots arr X Y
  cases r with
  | none => exact lv_astore_nN X.1 X.2.1 hd rfl Y.2.2.2.2.2.2 hi rfl (fun arr' h' => kk p l e R s m args below meth c D ad0 ad base H locs cells slots arr' X ⟨Y.1, Y.2.1, Y.2.2.1, Y.2.2.2.1, Y.2.2.2.2.1, Y.2.2.2.2.2.1, hl_set1 (v := hv_r none) hz h'⟩)
  | some q => exact lv_astore_n X.1 X.2.1 hd rfl Y.2.2.2.2.2.2 hi rfl (fun arr' h' => kk p l e R s m args below meth c D ad0 ad base H locs cells slots arr' X ⟨Y.1, Y.2.1, Y.2.2.1, Y.2.2.2.1, Y.2.2.2.2.1, Y.2.2.2.2.2.1, hl_set1 (v := hv_r (some q)) hz h'⟩)
theorem hg_astore {k : Nat} {r : Option (Nat × Nat)} (hd : decode (md_cc d) pc = .ok (.astore k, 2)) (hn : pc + 2 = n) (hi : k < md_nL d) (hz : hl_nl ls k = true) {ls' : List (Option V_)} (he : ls.set k (some (hv_r r)) = ls') (kk : hg_G d al sh0 Q bc bs n ls' st M) : hg_G d al sh0 Q bc bs pc ls (hv_r r :: st) M := by
  subst hn he
  intro p l e R s m args below meth c D ad0 ad base H locs cells slots arr X Y
  cases r with
  | none => exact lv_astoreN X.1 X.2.1 hd Y.2.2.2.2.2.2 hi rfl (fun arr' h' => kk p l e R s m args below meth c D ad0 ad base H locs cells slots arr' X ⟨Y.1, Y.2.1, Y.2.2.1, Y.2.2.2.1, Y.2.2.2.2.1, Y.2.2.2.2.2.1, hl_set1 (v := hv_r none) hz h'⟩)
  | some q => exact lv_astore X.1 X.2.1 hd Y.2.2.2.2.2.2 hi rfl (fun arr' h' => kk p l e R s m args below meth c D ad0 ad base H locs cells slots arr' X ⟨Y.1, Y.2.1, Y.2.2.1, Y.2.2.2.1, Y.2.2.2.2.1, Y.2.2.2.2.2.1, hl_set1 (v := hv_r (some q)) hz h'⟩)
theorem hg_iinc {k : Nat} {z : Int} {x v : Int32} (hd : decode (md_cc d) pc = .ok (.iinc k z, 3)) (hn : pc + 3 = n) (hl : ls[k]? = some (some (hv_i x))) (hv : x + Int32.ofInt z = v) (hi : k < md_nL d) (hz : hl_nl ls k = true) {ls' : List (Option V_)} (he : ls.set k (some (hv_i v)) = ls') (kk : hg_G d al sh0 Q bc bs n ls' st M) : hg_G d al sh0 Q bc bs pc ls st M := by
  subst hn he
  intro p l e R s m args below meth c D ad0 ad base H locs cells slots arr X Y
  obtain ⟨j, hj⟩ := List.getElem?_of_mem (hl_mem (ad := ad) (k := 0).mpr ⟨k, hv_i x, hl, rfl⟩)
  rw [Nat.zero_add] at hj
  exact lv_iinc X.1 X.2.1 hd Y.2.2.2.2.2.2 hj hv hi rfl (fun arr' h' => kk p l e R s m args below meth c D ad0 ad base H locs cells slots arr' X ⟨Y.1, Y.2.1, Y.2.2.1, Y.2.2.2.1, Y.2.2.2.2.1, Y.2.2.2.2.2.1, hl_set1 (v := hv_i v) hz h'⟩)
theorem hg_icmp_lt {x y : Int32} {off : Int} {tgt : Nat} (hd : decode (md_cc d) pc = .ok (.if_icmp .lt off, 3)) (hn : pc + 3 = n) (ht : (pc : Int) + off = (tgt : Int)) (kt : x < y → hg_G d al sh0 Q bc bs tgt ls st M) (kf : ¬ x < y → hg_G d al sh0 Q bc bs n ls st M) : hg_G d al sh0 Q bc bs pc ls (hv_i y :: hv_i x :: st) M := by
  subst hn
  intro p l e R s m args below meth c D ad0 ad base H locs cells slots arr X Y
  exact lv_icmp_lt X.1 X.2.1 hd ht (fun h => kt h p l e R s m args below meth c D ad0 ad base H locs cells slots arr X Y) (fun h => kf h p l e R s m args below meth c D ad0 ad base H locs cells slots arr X Y)
theorem hg_if_lt {x : Int32} {off : Int} {tgt : Nat} (hd : decode (md_cc d) pc = .ok (.ifCond .lt off, 3)) (hn : pc + 3 = n) (ht : (pc : Int) + off = (tgt : Int)) (kt : x < 0 → hg_G d al sh0 Q bc bs tgt ls st M) (kf : ¬ x < 0 → hg_G d al sh0 Q bc bs n ls st M) : hg_G d al sh0 Q bc bs pc ls (hv_i x :: st) M := by
  subst hn
  intro p l e R s m args below meth c D ad0 ad base H locs cells slots arr X Y
  exact lv_if_lt X.1 X.2.1 hd ht (fun h => kt h p l e R s m args below meth c D ad0 ad base H locs cells slots arr X Y) (fun h => kf h p l e R s m args below meth c D ad0 ad base H locs cells slots arr X Y)
theorem hg_icmp_ge {x y : Int32} {off : Int} {tgt : Nat} (hd : decode (md_cc d) pc = .ok (.if_icmp .ge off, 3)) (hn : pc + 3 = n) (ht : (pc : Int) + off = (tgt : Int)) (kt : y ≤ x → hg_G d al sh0 Q bc bs tgt ls st M) (kf : ¬ y ≤ x → hg_G d al sh0 Q bc bs n ls st M) : hg_G d al sh0 Q bc bs pc ls (hv_i y :: hv_i x :: st) M := by
  subst hn
  intro p l e R s m args below meth c D ad0 ad base H locs cells slots arr X Y
  exact lv_icmp_ge X.1 X.2.1 hd ht (fun h => kt h p l e R s m args below meth c D ad0 ad base H locs cells slots arr X Y) (fun h => kf h p l e R s m args below meth c D ad0 ad base H locs cells slots arr X Y)
theorem hg_if_ge {x : Int32} {off : Int} {tgt : Nat} (hd : decode (md_cc d) pc = .ok (.ifCond .ge off, 3)) (hn : pc + 3 = n) (ht : (pc : Int) + off = (tgt : Int)) (kt : 0 ≤ x → hg_G d al sh0 Q bc bs tgt ls st M) (kf : ¬ 0 ≤ x → hg_G d al sh0 Q bc bs n ls st M) : hg_G d al sh0 Q bc bs pc ls (hv_i x :: st) M := by
  subst hn
  intro p l e R s m args below meth c D ad0 ad base H locs cells slots arr X Y
  exact lv_if_ge X.1 X.2.1 hd ht (fun h => kt h p l e R s m args below meth c D ad0 ad base H locs cells slots arr X Y) (fun h => kf h p l e R s m args below meth c D ad0 ad base H locs cells slots arr X Y)
theorem hg_icmp_eq {x y : Int32} {off : Int} {tgt : Nat} (hd : decode (md_cc d) pc = .ok (.if_icmp .eq off, 3)) (hn : pc + 3 = n) (ht : (pc : Int) + off = (tgt : Int)) (kt : x = y → hg_G d al sh0 Q bc bs tgt ls st M) (kf : ¬ x = y → hg_G d al sh0 Q bc bs n ls st M) : hg_G d al sh0 Q bc bs pc ls (hv_i y :: hv_i x :: st) M := by
  subst hn
  intro p l e R s m args below meth c D ad0 ad base H locs cells slots arr X Y
  exact lv_icmp_eq X.1 X.2.1 hd ht (fun h => kt h p l e R s m args below meth c D ad0 ad base H locs cells slots arr X Y) (fun h => kf h p l e R s m args below meth c D ad0 ad base H locs cells slots arr X Y)
theorem hg_if_eq {x : Int32} {off : Int} {tgt : Nat} (hd : decode (md_cc d) pc = .ok (.ifCond .eq off, 3)) (hn : pc + 3 = n) (ht : (pc : Int) + off = (tgt : Int)) (kt : x = 0 → hg_G d al sh0 Q bc bs tgt ls st M) (kf : ¬ x = 0 → hg_G d al sh0 Q bc bs n ls st M) : hg_G d al sh0 Q bc bs pc ls (hv_i x :: st) M := by
  subst hn
  intro p l e R s m args below meth c D ad0 ad base H locs cells slots arr X Y
  exact lv_if_eq X.1 X.2.1 hd ht (fun h => kt h p l e R s m args below meth c D ad0 ad base H locs cells slots arr X Y) (fun h => kf h p l e R s m args below meth c D ad0 ad base H locs cells slots arr X Y)
theorem hg_icmp_ne {x y : Int32} {off : Int} {tgt : Nat} (hd : decode (md_cc d) pc = .ok (.if_icmp .ne off, 3)) (hn : pc + 3 = n) (ht : (pc : Int) + off = (tgt : Int)) (kt : ¬ x = y → hg_G d al sh0 Q bc bs tgt ls st M) (kf : x = y → hg_G d al sh0 Q bc bs n ls st M) : hg_G d al sh0 Q bc bs pc ls (hv_i y :: hv_i x :: st) M := by
  subst hn
  intro p l e R s m args below meth c D ad0 ad base H locs cells slots arr X Y
  exact lv_icmp_ne X.1 X.2.1 hd ht (fun h => kt h p l e R s m args below meth c D ad0 ad base H locs cells slots arr X Y) (fun h => kf h p l e R s m args below meth c D ad0 ad base H locs cells slots arr X Y)
theorem hg_if_ne {x : Int32} {off : Int} {tgt : Nat} (hd : decode (md_cc d) pc = .ok (.ifCond .ne off, 3)) (hn : pc + 3 = n) (ht : (pc : Int) + off = (tgt : Int)) (kt : ¬ x = 0 → hg_G d al sh0 Q bc bs tgt ls st M) (kf : x = 0 → hg_G d al sh0 Q bc bs n ls st M) : hg_G d al sh0 Q bc bs pc ls (hv_i x :: st) M := by
  subst hn
  intro p l e R s m args below meth c D ad0 ad base H locs cells slots arr X Y
  exact lv_if_ne X.1 X.2.1 hd ht (fun h => kt h p l e R s m args below meth c D ad0 ad base H locs cells slots arr X Y) (fun h => kf h p l e R s m args below meth c D ad0 ad base H locs cells slots arr X Y)
theorem hg_icmp_gt {x y : Int32} {off : Int} {tgt : Nat} (hd : decode (md_cc d) pc = .ok (.if_icmp .gt off, 3)) (hn : pc + 3 = n) (ht : (pc : Int) + off = (tgt : Int)) (kt : y < x → hg_G d al sh0 Q bc bs tgt ls st M) (kf : ¬ y < x → hg_G d al sh0 Q bc bs n ls st M) : hg_G d al sh0 Q bc bs pc ls (hv_i y :: hv_i x :: st) M := by
  subst hn
  intro p l e R s m args below meth c D ad0 ad base H locs cells slots arr X Y
  exact lv_icmp_gt X.1 X.2.1 hd ht (fun h => kt h p l e R s m args below meth c D ad0 ad base H locs cells slots arr X Y) (fun h => kf h p l e R s m args below meth c D ad0 ad base H locs cells slots arr X Y)
theorem hg_if_gt {x : Int32} {off : Int} {tgt : Nat} (hd : decode (md_cc d) pc = .ok (.ifCond .gt off, 3)) (hn : pc + 3 = n) (ht : (pc : Int) + off = (tgt : Int)) (kt : 0 < x → hg_G d al sh0 Q bc bs tgt ls st M) (kf : ¬ 0 < x → hg_G d al sh0 Q bc bs n ls st M) : hg_G d al sh0 Q bc bs pc ls (hv_i x :: st) M := by
  subst hn
  intro p l e R s m args below meth c D ad0 ad base H locs cells slots arr X Y
  exact lv_if_gt X.1 X.2.1 hd ht (fun h => kt h p l e R s m args below meth c D ad0 ad base H locs cells slots arr X Y) (fun h => kf h p l e R s m args below meth c D ad0 ad base H locs cells slots arr X Y)
theorem hg_icmp_le {x y : Int32} {off : Int} {tgt : Nat} (hd : decode (md_cc d) pc = .ok (.if_icmp .le off, 3)) (hn : pc + 3 = n) (ht : (pc : Int) + off = (tgt : Int)) (kt : x ≤ y → hg_G d al sh0 Q bc bs tgt ls st M) (kf : ¬ x ≤ y → hg_G d al sh0 Q bc bs n ls st M) : hg_G d al sh0 Q bc bs pc ls (hv_i y :: hv_i x :: st) M := by
  subst hn
  intro p l e R s m args below meth c D ad0 ad base H locs cells slots arr X Y
  exact lv_icmp_le X.1 X.2.1 hd ht (fun h => kt h p l e R s m args below meth c D ad0 ad base H locs cells slots arr X Y) (fun h => kf h p l e R s m args below meth c D ad0 ad base H locs cells slots arr X Y)
theorem hg_if_le {x : Int32} {off : Int} {tgt : Nat} (hd : decode (md_cc d) pc = .ok (.ifCond .le off, 3)) (hn : pc + 3 = n) (ht : (pc : Int) + off = (tgt : Int)) (kt : x ≤ 0 → hg_G d al sh0 Q bc bs tgt ls st M) (kf : ¬ x ≤ 0 → hg_G d al sh0 Q bc bs n ls st M) : hg_G d al sh0 Q bc bs pc ls (hv_i x :: st) M := by
  subst hn
  intro p l e R s m args below meth c D ad0 ad base H locs cells slots arr X Y
  exact lv_if_le X.1 X.2.1 hd ht (fun h => kt h p l e R s m args below meth c D ad0 ad base H locs cells slots arr X Y) (fun h => kf h p l e R s m args below meth c D ad0 ad base H locs cells slots arr X Y)
theorem hg_goto {off : Int} {tgt : Nat} (hd : decode (md_cc d) pc = .ok (.goto off, 3)) (ht : (pc : Int) + off = (tgt : Int)) (kk : hg_G d al sh0 Q bc bs tgt ls st M) : hg_G d al sh0 Q bc bs pc ls st M :=
  hg_pure (fun _ _ _ _ _ _ _ _ _ _ _ _ _ _ _ _ _ _ _ X _ _ _ _ k => lv_goto X.1 X.2.1 hd ht k) kk
theorem hg_ifnull {r : Option (Nat × Nat)} {off : Int} {tgt : Nat} (hd : decode (md_cc d) pc = .ok (.ifnull off, 3)) (hn : pc + 3 = n) (ht : (pc : Int) + off = (tgt : Int)) (kt : r = none → hg_G d al sh0 Q bc bs tgt ls st M) (kf : ∀ q, r = some q → hg_G d al sh0 Q bc bs n ls st M) : hg_G d al sh0 Q bc bs pc ls (hv_r r :: st) M := by
  subst hn
  cases r with
  | none => exact hg_pure (fun _ _ _ _ _ _ _ _ _ _ _ _ _ _ _ _ _ _ _ X _ _ _ _ k => lv_ifnullN X.1 X.2.1 hd ht k) (kt rfl)
  | some q => exact hg_pure (fun _ _ _ _ _ _ _ _ _ _ _ _ _ _ _ _ _ _ _ X _ _ _ _ k => lv_ifnull X.1 X.2.1 hd k) (kf q rfl)
theorem hg_ifnonnull {r : Option (Nat × Nat)} {off : Int} {tgt : Nat} (hd : decode (md_cc d) pc = .ok (.ifnonnull off, 3)) (hn : pc + 3 = n) (ht : (pc : Int) + off = (tgt : Int)) (kt : ∀ q, r = some q → hg_G d al sh0 Q bc bs tgt ls st M) (kf : r = none → hg_G d al sh0 Q bc bs n ls st M) : hg_G d al sh0 Q bc bs pc ls (hv_r r :: st) M := by
  subst hn
  cases r with
  | none => exact hg_pure (fun _ _ _ _ _ _ _ _ _ _ _ _ _ _ _ _ _ _ _ X _ _ _ _ k => lv_ifnonnullN X.1 X.2.1 hd k) (kf rfl)
  | some q => exact hg_pure (fun _ _ _ _ _ _ _ _ _ _ _ _ _ _ _ _ _ _ _ X _ _ _ _ k => lv_ifnonnull X.1 X.2.1 hd ht k) (kt q rfl)
theorem hg_tableIn {dflt lo hi : Int} {offs : Array Int} {len : Nat} {x : Int32} {off : Int} {tgt : Nat} (hd : decode (md_cc d) pc = .ok (.tableswitch dflt lo hi offs, len)) (h1 : ¬ x.toInt < lo) (h2 : ¬ hi < x.toInt) (ho : offs[(x.toInt - lo).toNat]? = some off) (ht : (pc : Int) + off = (tgt : Int)) (kk : hg_G d al sh0 Q bc bs tgt ls st M) : hg_G d al sh0 Q bc bs pc ls (hv_i x :: st) M :=
  hg_pure (fun _ _ _ _ _ _ _ _ _ _ _ _ _ _ _ _ _ _ _ X _ _ _ _ k => lv_tableIn X.1 X.2.1 hd h1 h2 ho ht k) kk
theorem hg_tableOut {dflt lo hi : Int} {offs : Array Int} {len : Nat} {x : Int32} {tgt : Nat} (hd : decode (md_cc d) pc = .ok (.tableswitch dflt lo hi offs, len)) (h : x.toInt < lo ∨ hi < x.toInt) (ht : (pc : Int) + dflt = (tgt : Int)) (kk : hg_G d al sh0 Q bc bs tgt ls st M) : hg_G d al sh0 Q bc bs pc ls (hv_i x :: st) M :=
  hg_pure (fun _ _ _ _ _ _ _ _ _ _ _ _ _ _ _ _ _ _ _ X _ _ _ _ k => lv_tableOut X.1 X.2.1 hd h ht k) kk
end HG
