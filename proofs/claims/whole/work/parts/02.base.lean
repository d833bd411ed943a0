/-! values, memory, kinds -/
abbrev V_ : Type := Int32 ⊕ Int64 ⊕ Option (Nat × Nat)
abbrev hv_i (x : Int32) : V_ := .inl x
abbrev hv_l (x : Int64) : V_ := .inr (.inl x)
abbrev hv_r (r : Option (Nat × Nat)) : V_ := .inr (.inr r)
def hv_c (ad : Nat → Nat → Nat) (v : V_) : Value := match v with
  | .inl x => .int x
  | .inr (.inl x) => .long x
  | .inr (.inr none) => .null
  | .inr (.inr (some q)) => .ref (ad q.1 q.2)
def hv_cat (v : V_) : Nat := match v with
  | .inr (.inl _) => 2
  | _ => 1
theorem hv_cat_c (ad : Nat → Nat → Nat) (v : V_) : (hv_c ad v).category = hv_cat v := by
  rcases v with x | x | (_ | q) <;> rfl
abbrev MI_ : Type := Nat → Nat → Nat → Int32
abbrev ML_ : Type := Nat → Nat → Nat → Int64
abbrev MR_ : Type := Nat → Nat → Nat → Option (Nat × Nat)
abbrev SH_ : Type := Nat → Nat → Option Nat
abbrev Me_ : Type := MI_ × ML_ × MR_ × SH_
def u_3 {α : Type} (m : Nat → Nat → Nat → α) (k i f : Nat) (x : α) : Nat → Nat → Nat → α := fun k' i' f' => if k' = k ∧ i' = i ∧ f' = f then x else m k' i' f'
def u_2 {α : Type} (m : Nat → Nat → α) (k i : Nat) (x : α) : Nat → Nat → α := fun k' i' => if k' = k ∧ i' = i then x else m k' i'
/-- a new cell: all its fields -/
def u_n {α : Type} (m : Nat → Nat → Nat → α) (k i : Nat) (x : α) : Nat → Nat → Nat → α := fun k' i' f' => if k' = k ∧ i' = i then x else m k' i' f'
/-- a kind's class, or its array's kind of element -/
def kd_ (k : Nat) : Nat ⊕ Nat := match k with
  | 1 => .inl 5
  | 2 => .inl 1
  | 3 => .inl 0
  | 4 => .inl 2
  | 5 => .inl 3
  | 6 => .inl 4
  | 7 => .inl 6
  | 8 => .inr 3
  | 9 => .inr 4
  | 10 => .inr 5
  | 15 => .inr 3
  | 16 => .inr 2
  | 21 => .inr 6
  | 37 => .inr 1
  | 51 => .inr 2
  | 53 => .inr 2
  | 60 => .inr 2
  | 61 => .inr 2
  | 62 => .inr 2
  | 63 => .inr 2
  | _ => .inr 0
def et_ (a : Nat) : FieldType := match a with
  | 0 => .int
  | 1 => .long
  | 2 => .boolean
  | 3 => .object RX2
  | 4 => .object RX0
  | 5 => .object RX3
  | _ => .object RX4
def ft_ (c : Nat) : Nat → FieldType := match c with
  | 0 => tyX0
  | 1 => tyX1
  | 2 => tyX2
  | 3 => tyX3
  | 4 => tyX4
  | 5 => tyX5
  | _ => tyX6
/-- a field's or an element's type: 0 an int, 1 a long, 2 a reference -/
def sort_ (ty : FieldType) : Nat := match ty with
  | .long => 1
  | .object _ => 2
  | .array _ => 2
  | _ => 0
def hm_v (ad : Nat → Nat → Nat) (ty : FieldType) (M : Me_) (k i f : Nat) : Value := match sort_ ty with
  | 0 => .int (M.1 k i f)
  | 1 => .long (M.2.1 k i f)
  | _ => hv_c ad (hv_r (M.2.2.1 k i f))
abbrev Hd_ : Type := (Nat → ClassId) × (Nat → Nat → Nat) × (Nat → ClassId)
abbrev tys_ (D : Hd_) : List (ClassId × FieldType) := [(D.2.2 0, .int), (D.2.2 1, .long), (D.2.2 2, .boolean), (D.2.2 3, .object RX2), (D.2.2 4, .object RX0), (D.2.2 5, .object RX3), (D.2.2 6, .object RX4)]
def nf_ (c : Nat) : Nat := match vwCl[c]? with
  | some q => q.2.2
  | none => 0
/-- a live cell of the memory, as the heap holds it -/
def hm_at (D : Hd_) (ad : Nat → Nat → Nat) (M : Me_) (U : State) (H : Heap) (k i n : Nat) : Prop := if k = 0 then
    (∃ scr : Cell, H[ad k i]? = some scr ∧ U.isArrayOf scr .int ∧ scr.vm ≠ .unknown ∧ scr.slots.size = n ∧ ∀ j : Nat, j < n → scr.slots[j]? = some (.int (M.1 k i j)))
  else match kd_ k with
    | .inl c => t_OB (ad k i) (D.1 c) (nf_ c) (D.2.1 c) H (fun f => hm_v ad (ft_ c f) M k i f)
    | .inr a => H[ad k i]? = some (arrV (D.2.2 a) n (fun j => hm_v ad (et_ a) M k i j))
def hm_R (D : Hd_) (ad : Nat → Nat → Nat) (base : Nat) (M : Me_) (U : State) (H : Heap) : Prop :=
  (∀ k i n, M.2.2.2 k i = some n → hm_at D ad M U H k i n) ∧ (∀ k i k' i' n n', M.2.2.2 k i = some n → M.2.2.2 k' i' = some n' → ad k i = ad k' i' → k = k' ∧ i = i') ∧ (∀ k i n, M.2.2.2 k i = some n → k ≠ 0 → base ≤ ad k i) ∧ base ≤ H.size ∧ (∀ k i f n q, M.2.2.2 k i = some n → M.2.2.1 k i f = some q → ∃ n', M.2.2.2 q.1 q.2 = some n')
/-- the words that every method may use -/
def gtbl : List Cond := lw_tbl.filter goodWord
theorem in_g {w : Cond} (i : Nat) (h : lw_tbl[i]? = some w) (hg : goodWord w = true) : w ∈ gtbl := List.mem_filter.mpr ⟨List.mem_of_getElem? h, hg⟩
theorem in_t {w : Cond} (i : Nat) (h : tables_1[i]? = some w) (hg : goodWord w = true) : w ∈ gtbl := List.mem_filter.mpr ⟨List.mem_append_right _ (List.mem_of_getElem? h), hg⟩
theorem gtbl_good {y : MethodName} {cc : ByteArray} {nL : Nat} {ret : Option FieldType} (h : Cond.code y cc nL ret ∈ gtbl) : GoodIn gtbl (Cond.code y cc nL ret :: gtbl) := fun w hw => by
  have hm : w ∈ gtbl := by
    rcases List.mem_cons.mp hw with rfl | h2
    · exact h
    · exact h2
  exact ⟨hm, good_of_word (List.mem_filter.mp hm).2⟩
/-- what the class table says, and the words that go with the state -/
def hm_K (D : Hd_) (U : State) : Prop := va_K (D.1, D.2.1) vwCl (tys_ D) U ∧
  (va_Nw (.methodLinkNest RX5 29 yX1_init RX5) U ∧ va_Nw (.methodLinkNest RX5 34 yX0_init RX5) U ∧ va_Nw (.methodLinkNest RX2 36 yX4_init RX5) U ∧ va_Nw (.methodLinkNest RX4 49 yX5_within RX5) U ∧ va_Nw (.methodLinkNest RX0 115 yX5_truth RX5) U ∧ va_Nw (.methodLinkNest RX3 25 yX5_truth RX5) U) ∧
  (va_AO RX2 U ∧ va_AO RX0 U ∧ va_AO RX3 U ∧ va_AO RX4 U)
theorem hm_K.warm {D : Hd_} {s U : State} (hW : s.WarmedH U.vm) (h : hm_K D s) : hm_K D U := by
  obtain ⟨h1, ⟨a1, a2, a3, a4, a5, a6⟩, b1, b2, b3, b4⟩ := h
  exact ⟨va_K.moved hW.alike h1, ⟨a1.warmM hW, a2.warmM hW, a3.warmM hW, a4.warmM hW, a5.warmM hW, a6.warmM hW⟩, b1.moved hW.alike, b2.moved hW.alike, b3.moved hW.alike, b4.moved hW.alike⟩
theorem hm_at.moved {D : Hd_} {ad : Nat → Nat → Nat} {M : Me_} {u U : State} {H : Heap} {k i n : Nat} (hvm : u.vm.Alike U.vm) (h : hm_at D ad M u H k i n) : hm_at D ad M U H k i n := by
  unfold hm_at at h ⊢
  by_cases hk : k = 0
  · rw [if_pos hk] at h ⊢
    obtain ⟨scr, h1, h2, h3⟩ := h
    exact ⟨scr, h1, State.isArrayOf_alike hvm h2, h3⟩
  · rw [if_neg hk] at h ⊢
    exact h
theorem hm_R.moved {D : Hd_} {ad : Nat → Nat → Nat} {base : Nat} {M : Me_} {u U : State} {H : Heap} (hvm : u.vm.Alike U.vm) (h : hm_R D ad base M u H) : hm_R D ad base M U H := ⟨fun k i n hn => (h.1 k i n hn).moved hvm, h.2⟩
