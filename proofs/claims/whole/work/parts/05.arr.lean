/-! arrays -/
theorem nI_vin {x : Int32} {j n : Nat} (hx : x = nI j) (hj : j < n) (hn : n < 2 ^ 31) : vp_in x n ∧ x.toNatClampNeg = j := by
  subst hx
  exact ⟨vp_in_nI hj hn, nI_clamp (by omega)⟩
section HA
variable {d : Md_} {al : Bool} {sh0 : SH_} {Q : Option V_ → Me_ → Prop} {bc bs : Nat} {pc n : Nat} {ls : List (Option V_)} {st : List V_} {M M' : Me_}
theorem tys_at (D : Hd_) : ∀ a, a < 7 → (tys_ D)[a]? = some (D.2.2 a, et_ a) := by
  intro a ha
  match a, ha with
  | 0, _ => rfl
  | 1, _ => rfl
  | 2, _ => rfl
  | 3, _ => rfl
  | 4, _ => rfl
  | 5, _ => rfl
  | 6, _ => rfl
  | a + 7, h => omega
theorem kd_arr {k a : Nat} (h : kd_ k = .inr a) : a < 7 := by
  unfold kd_ at h
  split at h <;> cases h <;> decide
theorem hg_aldG {ins : Instr} {k i len a j : Nat} {x : Int32} {v : V_} (hn : pc + 1 = n) (h0 : k ≠ 0) (hk : kd_ k = .inr a) (hs : M.2.2.2 k i = some len) (hx : x = nI j) (hj : j < len) (hlen : len < 2 ^ 31) (hv : ∀ ad, hm_v ad (et_ a) M k i j = hv_c ad v)
    (hstep : ∀ (p : Program) (l : Launch) (e : Env) (R : Room) (s : State) (m : MethodId) (args : Array Value) (below : List Frame) (meth : Method) (c : Code) (D : Hd_) (ad : Nat → Nat → Nat) (H : Heap) (locs : List Loc) (cells slots : Nat) (arr : Array Slot) (Qf : State → Prop) (cell : Cell), hg_X d p R s m args meth c D → H[ad k i]? = some cell → s.isArrayOf cell (et_ a) → cell.vm ≠ .unknown → ¬ (x < 0 ∨ cell.slots.size ≤ x.toNatClampNeg) → cell.slots[x.toNatClampNeg]? = some (hv_c ad v) →
      W p l e R s m args below meth c H locs cells slots Qf (F0 m (pc + 1) arr (hv_c ad v :: st.map (hv_c ad))) → W p l e R s m args below meth c H locs cells slots Qf (F0 m pc arr (.int x :: .ref (ad k i) :: st.map (hv_c ad))))
    (kk : hg_G d al sh0 Q bc bs n ls (v :: st) M) : hg_G d al sh0 Q bc bs pc ls (hv_i x :: hv_r (some (k, i)) :: st) M := by
  subst hn
  obtain ⟨hin, hcl⟩ := nI_vin hx hj hlen
  refine hg_pure (fun p l e R s m args below meth c D ad base H locs cells slots arr Qf X hR hq _ _ kk => ?_) kk
  have hc := hm_arr (hR.1 k i len hs) h0 hk
  have hK : va_K (D.1, D.2.1) vwCl (tys_ D) s := X.2.2.2.2.2.2.2.2.2.2.2.2.1
  refine hstep p l e R s m args below meth c D ad H locs cells slots arr Qf _ X hc ((hK.2 a _ (tys_at D a (kd_arr hk))).1 len _) (fun q => by cases q) (by rw [arrV_size]; exact hin) ?_ kk
  rw [hcl, arrV_read _ _ hj]
  exact congrArg some (hv ad)
variable {mi : MI_} {ml : ML_} {mr : MR_} {sh : SH_}
theorem hg_iaload (j : Nat) {k i len : Nat} {x : Int32} (hd : decode (md_cc d) pc = .ok (.iaload, 1)) (hn : pc + 1 = n) (h0 : k ≠ 0) (hk : kd_ k = .inr 0) (hs : sh k i = some len) (hx : x = nI j) (hj : j < len) (hlen : len < 2 ^ 31) (kk : hg_G d al sh0 Q bc bs n ls (hv_i (mi k i j) :: st) (mi, ml, mr, sh)) : hg_G d al sh0 Q bc bs pc ls (hv_i x :: hv_r (some (k, i)) :: st) (mi, ml, mr, sh) :=
  hg_aldG (ins := .iaload) (v := hv_i (mi k i j)) hn h0 hk hs hx hj hlen (fun _ => rfl) (fun _ _ _ _ _ _ _ _ _ _ _ _ _ _ _ _ _ _ _ X h1 h2 h3 h4 h5 k => W.iald X.1 X.2.1 h1 h2 h3 h4 h5 rfl rfl hd k) kk
theorem hg_baload (j : Nat) {k i len : Nat} {x : Int32} (hd : decode (md_cc d) pc = .ok (.baload, 1)) (hn : pc + 1 = n) (h0 : k ≠ 0) (hk : kd_ k = .inr 2) (hs : sh k i = some len) (hx : x = nI j) (hj : j < len) (hlen : len < 2 ^ 31) (kk : hg_G d al sh0 Q bc bs n ls (hv_i (mi k i j) :: st) (mi, ml, mr, sh)) : hg_G d al sh0 Q bc bs pc ls (hv_i x :: hv_r (some (k, i)) :: st) (mi, ml, mr, sh) :=
  hg_aldG (ins := .baload) (v := hv_i (mi k i j)) hn h0 hk hs hx hj hlen (fun _ => rfl) (fun _ _ _ _ _ _ _ _ _ _ _ _ _ _ _ _ _ _ _ X h1 h2 h3 h4 h5 k => W.zald X.1 X.2.1 h1 h2 h3 h4 h5 rfl rfl hd k) kk
theorem hg_laload (j : Nat) {k i len : Nat} {x : Int32} (hd : decode (md_cc d) pc = .ok (.laload, 1)) (hn : pc + 1 = n) (h0 : k ≠ 0) (hk : kd_ k = .inr 1) (hs : sh k i = some len) (hx : x = nI j) (hj : j < len) (hlen : len < 2 ^ 31) (kk : hg_G d al sh0 Q bc bs n ls (hv_l (ml k i j) :: st) (mi, ml, mr, sh)) : hg_G d al sh0 Q bc bs pc ls (hv_i x :: hv_r (some (k, i)) :: st) (mi, ml, mr, sh) :=
  hg_aldG (ins := .laload) (v := hv_l (ml k i j)) hn h0 hk hs hx hj hlen (fun _ => rfl) (fun _ _ _ _ _ _ _ _ _ _ _ _ _ _ _ _ _ _ _ X h1 h2 h3 h4 h5 k => W.lald X.1 X.2.1 h1 h2 h3 h4 h5 rfl rfl hd k) kk
theorem hg_aaload (j : Nat) {k i len a : Nat} {x : Int32} {r : Option (Nat × Nat)} (hd : decode (md_cc d) pc = .ok (.aaload, 1)) (hn : pc + 1 = n) (h0 : k ≠ 0) (hk : kd_ k = .inr a) (ha : sort_ (et_ a) = 2) (hs : sh k i = some len) (hx : x = nI j) (hj : j < len) (hlen : len < 2 ^ 31) (hr : mr k i j = r) (kk : hg_G d al sh0 Q bc bs n ls (hv_r r :: st) (mi, ml, mr, sh)) : hg_G d al sh0 Q bc bs pc ls (hv_i x :: hv_r (some (k, i)) :: st) (mi, ml, mr, sh) := by
  subst hr
  have hre : (et_ a).isReference = true := by
    revert ha
    cases et_ a <;> simp [sort_, FieldType.isReference]
  exact hg_aldG (ins := .aaload) (v := hv_r (mr k i j)) hn h0 hk hs hx hj hlen (fun _ => by unfold hm_v; rw [ha]; rfl) (fun _ _ _ _ _ _ _ _ _ _ _ _ _ _ _ _ _ _ _ X h1 h2 h3 h4 h5 k => W.aald X.1 X.2.1 h1 h2 hre h3 h4 h5 rfl rfl hd k) kk
/-- the script -/
theorem hg_script (j : Nat) {i len : Nat} {x : Int32} (hd : decode (md_cc d) pc = .ok (.iaload, 1)) (hn : pc + 1 = n) (hs : sh 0 i = some len) (hx : x = nI j) (hj : j < len) (hlen : len < 2 ^ 31) (kk : hg_G d al sh0 Q bc bs n ls (hv_i (mi 0 i j) :: st) (mi, ml, mr, sh)) : hg_G d al sh0 Q bc bs pc ls (hv_i x :: hv_r (some (0, i)) :: st) (mi, ml, mr, sh) := by
  subst hn
  obtain ⟨hin, hcl⟩ := nI_vin hx hj hlen
  refine hg_pure (fun p l e R s m args below meth c D ad base H locs cells slots arr Qf X hR hq _ _ kk => ?_) kk
  have h := hR.1 0 i len hs
  unfold hm_at at h
  rw [if_pos rfl] at h
  obtain ⟨scr, h1, h2, h3, h4, h5⟩ := h
  exact W.iald (v := .int (mi 0 i j)) X.1 X.2.1 h1 h2 h3 (by rw [h4]; exact hin) (by rw [hcl]; exact h5 j hj) rfl rfl hd kk
theorem hg_scriptlen {i len : Nat} (hd : decode (md_cc d) pc = .ok (.arraylength, 1)) (hn : pc + 1 = n) (hs : sh 0 i = some len) (kk : hg_G d al sh0 Q bc bs n ls (hv_i (nI len) :: st) (mi, ml, mr, sh)) : hg_G d al sh0 Q bc bs pc ls (hv_r (some (0, i)) :: st) (mi, ml, mr, sh) := by
  subst hn
  refine hg_pure (fun p l e R s m args below meth c D ad base H locs cells slots arr Qf X hR hq _ _ kk => ?_) kk
  have h := hR.1 0 i len hs
  unfold hm_at at h
  rw [if_pos rfl] at h
  obtain ⟨scr, h1, h2, h3, h4, h5⟩ := h
  exact W.alen X.1 X.2.1 h1 h2 (by rw [h4]; rfl) rfl rfl hd kk
theorem hg_alen {k i len a : Nat} (hd : decode (md_cc d) pc = .ok (.arraylength, 1)) (hn : pc + 1 = n) (h0 : k ≠ 0) (hk : kd_ k = .inr a) (hs : sh k i = some len) (kk : hg_G d al sh0 Q bc bs n ls (hv_i (nI len) :: st) (mi, ml, mr, sh)) : hg_G d al sh0 Q bc bs pc ls (hv_r (some (k, i)) :: st) (mi, ml, mr, sh) := by
  subst hn
  refine hg_pure (fun p l e R s m args below meth c D ad base H locs cells slots arr Qf X hR hq _ _ kk => ?_) kk
  have hc := hm_arr (hR.1 k i len hs) h0 hk
  have hK : va_K (D.1, D.2.1) vwCl (tys_ D) s := X.2.2.2.2.2.2.2.2.2.2.2.2.1
  exact W.alen X.1 X.2.1 hc ((hK.2 a _ (tys_at D a (kd_arr hk))).1 len _) (by rw [arrV_size]; rfl) rfl rfl hd kk
theorem hg_astG {k i len a j : Nat} {x : Int32} {v : V_} (hn : pc + 1 = n) (h0 : k ≠ 0) (hk : kd_ k = .inr a) (hs : M.2.2.2 k i = some len) (hx : x = nI j) (hj : j < len) (hlen : len < 2 ^ 31) (hup : hm_up M M' k i j) (hv : ∀ ad, hm_v ad (et_ a) M' k i j = hv_c ad v) (hlv : M'.2.2.1 k i j = M.2.2.1 k i j ∨ ∀ q, M'.2.2.1 k i j = some q → ∃ n', M.2.2.2 q.1 q.2 = some n')
    (hstep : ∀ (p : Program) (l : Launch) (e : Env) (R : Room) (s : State) (m : MethodId) (args : Array Value) (below : List Frame) (meth : Method) (c : Code) (D : Hd_) (ad : Nat → Nat → Nat) (base : Nat) (H : Heap) (locs : List Loc) (cells slots : Nat) (arr : Array Slot) (Qf : State → Prop) (cell : Cell), hg_X d p R s m args meth c D → hm_R D ad base M s H → H[ad k i]? = some cell → cell.cls = D.2.2 a → cell.vm = .none → s.isArrayOf cell (et_ a) → cell.vm ≠ .unknown → ¬ (x < 0 ∨ cell.slots.size ≤ x.toNatClampNeg) →
      (∀ H' : Heap, H'[ad k i]? = some (cell.setSlot x.toNatClampNeg (hv_c ad v)) → H'.size = H.size → (∀ q, q ≠ ad k i → H'[q]? = H[q]?) → W p l e R s m args below meth c H' (locs ++ [⟨ad k i, x.toNatClampNeg⟩]) cells slots Qf (F0 m (pc + 1) arr (st.map (hv_c ad)))) → W p l e R s m args below meth c H locs cells slots Qf (F0 m pc arr (hv_c ad v :: .int x :: .ref (ad k i) :: st.map (hv_c ad))))
    (kk : hg_G d al sh0 Q bc bs n ls st M') : hg_G d al sh0 Q bc bs pc ls (v :: hv_i x :: hv_r (some (k, i)) :: st) M := by
  subst hn
  obtain ⟨hin, hcl⟩ := nI_vin hx hj hlen
  intro p l e R s m args below meth c D ad0 ad base H locs cells slots arr X Y
  have hR := Y.1
  have hc := hm_arr (hR.1 k i len hs) h0 hk
  have hK : va_K (D.1, D.2.1) vwCl (tys_ D) s := X.2.2.2.2.2.2.2.2.2.2.2.2.1
  refine hstep p l e R s m args below meth c D ad base H locs cells slots arr _ _ X hR hc rfl rfl ((hK.2 a _ (tys_at D a (kd_arr hk))).1 len _) (fun q => by cases q) (by rw [arrV_size]; exact hin) fun H' e1 e2 e3 => ?_
  rw [hcl] at e1 ⊢
  refine kk p l e R s m args below meth c D ad0 ad base H' (locs ++ [⟨ad k i, j⟩]) cells slots arr X ⟨hR.put hup hs e2 e3 ?_ hlv, fun q hq => ?_, Y.2.2⟩
  · unfold hm_at
    rw [if_neg h0, hk]
    rw [e1, arrV_store]
    refine congrArg some (arrV_to (fun j' => ?_))
    by_cases hjj : j' = j
    · subst hjj
      simp only [updV, if_pos rfl]
      exact (hv ad).symm
    · simp only [updV, if_neg hjj]
      exact (hm_v_same (hup.2 k i j' (fun z => hjj z.2.2))).symm
  · rcases List.mem_append.mp hq with h1 | h1
    · exact Y.2.1 q h1
    · rw [List.mem_singleton.mp h1]
      exact hR.2.2.1 k i len hs h0
theorem hg_iastore (j : Nat) {k i len : Nat} {x y : Int32} (hd : decode (md_cc d) pc = .ok (.iastore, 1)) (hn : pc + 1 = n) (h0 : k ≠ 0) (hk : kd_ k = .inr 0) (hs : sh k i = some len) (hx : x = nI j) (hj : j < len) (hlen : len < 2 ^ 31) (kk : hg_G d al sh0 Q bc bs n ls st (u_3 mi k i j y, ml, mr, sh)) : hg_G d al sh0 Q bc bs pc ls (hv_i y :: hv_i x :: hv_r (some (k, i)) :: st) (mi, ml, mr, sh) :=
  hg_astG (M := (mi, ml, mr, sh)) (v := hv_i y) hn h0 hk hs hx hj hlen hm_upI (fun _ => by simp [hm_v, et_, sort_, u_3, hv_c]) (Or.inl rfl) (fun _ _ _ _ _ _ _ _ _ _ _ _ _ _ _ _ _ _ _ _ X _ h1 _ _ h2 h3 h4 k => W.iast X.1 X.2.1 h1 h2 h3 h4 rfl rfl hd k) kk
theorem hg_bastore (j : Nat) {k i len : Nat} {x y : Int32} (hd : decode (md_cc d) pc = .ok (.bastore, 1)) (hn : pc + 1 = n) (h0 : k ≠ 0) (hk : kd_ k = .inr 2) (hy : y = 0 ∨ y = 1) (hs : sh k i = some len) (hx : x = nI j) (hj : j < len) (hlen : len < 2 ^ 31) (kk : hg_G d al sh0 Q bc bs n ls st (u_3 mi k i j y, ml, mr, sh)) : hg_G d al sh0 Q bc bs pc ls (hv_i y :: hv_i x :: hv_r (some (k, i)) :: st) (mi, ml, mr, sh) :=
  hg_astG (M := (mi, ml, mr, sh)) (v := hv_i y) hn h0 hk hs hx hj hlen hm_upI (fun _ => by simp [hm_v, et_, sort_, u_3, hv_c]) (Or.inl rfl) (fun _ _ _ _ _ _ _ _ _ _ _ _ _ _ _ _ _ _ _ _ X _ h1 _ _ h2 h3 h4 k => W.zast X.1 X.2.1 h1 h2 h3 h4 rfl rfl hd (by rw [(nar_tz rfl hy).1]; exact k)) kk
theorem hg_lastore (j : Nat) {k i len : Nat} {x : Int32} {y : Int64} (hd : decode (md_cc d) pc = .ok (.lastore, 1)) (hn : pc + 1 = n) (h0 : k ≠ 0) (hk : kd_ k = .inr 1) (hs : sh k i = some len) (hx : x = nI j) (hj : j < len) (hlen : len < 2 ^ 31) (kk : hg_G d al sh0 Q bc bs n ls st (mi, u_3 ml k i j y, mr, sh)) : hg_G d al sh0 Q bc bs pc ls (hv_l y :: hv_i x :: hv_r (some (k, i)) :: st) (mi, ml, mr, sh) :=
  hg_astG (M := (mi, ml, mr, sh)) (v := hv_l y) hn h0 hk hs hx hj hlen hm_upL (fun _ => by simp [hm_v, et_, sort_, u_3, hv_c]) (Or.inl rfl) (fun _ _ _ _ _ _ _ _ _ _ _ _ _ _ _ _ _ _ _ _ X _ h1 _ _ h2 h3 h4 k => W.last X.1 X.2.1 h1 h2 h3 h4 rfl rfl hd k) kk
theorem hg_aastoreN (j : Nat) {k i len a : Nat} {C : String} {x : Int32} (hd : decode (md_cc d) pc = .ok (.aastore, 1)) (hn : pc + 1 = n) (h0 : k ≠ 0) (hk : kd_ k = .inr a) (ha : et_ a = .object C) (hs : sh k i = some len) (hx : x = nI j) (hj : j < len) (hlen : len < 2 ^ 31) (kk : hg_G d al sh0 Q bc bs n ls st (mi, ml, u_3 mr k i j none, sh)) : hg_G d al sh0 Q bc bs pc ls (hv_r none :: hv_i x :: hv_r (some (k, i)) :: st) (mi, ml, mr, sh) :=
  hg_astG (M := (mi, ml, mr, sh)) (v := hv_r none) hn h0 hk hs hx hj hlen hm_upR (fun _ => by simp [hm_v, ha, sort_, u_3]) (Or.inr (fun q h => by simp [u_3] at h)) (fun _ _ _ _ _ _ _ _ _ _ _ _ _ _ _ _ _ _ _ _ X _ h1 _ _ h2 h3 h4 k => va_WaastN X.1 X.2.1 h1 (by rw [← ha]; exact h2) h3 h4 rfl rfl hd k) kk
theorem hg_aastore (j : Nat) {k i len a c k' i' n' : Nat} {C : String} {T : u_T} {N : Nat} {x : Int32} (hd : decode (md_cc d) pc = .ok (.aastore, 1)) (hn : pc + 1 = n) (h0 : k ≠ 0) (hk : kd_ k = .inr a) (hC : hc_C c C T N) (ha : et_ a = .object C) (hs : sh k i = some len) (hx : x = nI j) (hj : j < len) (hlen : len < 2 ^ 31) (hk' : kd_ k' = .inl c) (hs' : sh k' i' = some n') (kk : hg_G d al sh0 Q bc bs n ls st (mi, ml, u_3 mr k i j (some (k', i')), sh)) : hg_G d al sh0 Q bc bs pc ls (hv_r (some (k', i')) :: hv_i x :: hv_r (some (k, i)) :: st) (mi, ml, mr, sh) := by
  refine hg_astG (M := (mi, ml, mr, sh)) (v := hv_r (some (k', i'))) hn h0 hk hs hx hj hlen hm_upR (fun _ => by simp [hm_v, ha, sort_, u_3]) (Or.inr (fun q h => by simp [u_3] at h; subst h; exact ⟨n', hs'⟩)) (fun p l e R s m args below meth cd D ad base H locs cells slots arr Qf cell X hR h1 hcl hvm h2 h3 h4 kk => ?_) kk
  have hK : va_K (D.1, D.2.1) vwCl (tys_ D) s := X.2.2.2.2.2.2.2.2.2.2.2.2.1
  obtain ⟨cellV, g1, g2, g3, -⟩ := hm_obj (hR.1 k' i' n' hs') hk'
  have hcls := (hK.1 c _ hC.1).2
  have hra := (hK.2 a _ (tys_at D a (kd_arr hk))).2
  rw [show ((D.2.2 a, et_ a) : ClassId × FieldType).2 = .object C from ha] at hra
  obtain ⟨kA, comp, k1, k2, k3, -⟩ := hra
  have hcomp : comp = D.1 c := Option.some.inj (k3.symm.trans hcls.1)
  subst hcomp
  have hcls2 := hcls
  obtain ⟨-, kC, hkC, -⟩ := hcls2
  exact W.aast X.1 X.2.1 h1 (fun q h => by rw [hvm] at h; cases h) h3 (by rw [hcl]; exact k1) k2 rfl hkC ⟨fun q => h4 (Or.inl q), Nat.not_le.mp fun q => h4 (Or.inr q)⟩ g1 (fun q h => by rw [g3] at h; cases h) (by rw [g2]; exact hkC) (by rw [g2]; exact va_assign hcls) rfl rfl hd kk
end HA
