/-! what the steps leave alone -/
theorem tu_m_k {X : MI_} {s f t : Nat} {c : Int32} {k i j : Nat} (h : k ≠ 41) : tu_m X s f t c k i j = X k i j := by
  unfold tu_m
  rw [u_3_ne _ _ (fun q => h q.1), u_3_ne _ _ (fun q => h q.1)]
theorem ch_a_k {X : MI_} {p s : Nat} {k i j : Nat} (h : k ≠ 41) : ch_a X p s k i j = X k i j := by
  unfold ch_a
  split
  · split
    · split
      · split
        · rfl
        · exact tu_m_k h
      · exact tu_m_k h
    · exact tu_m_k h
  · rw [tu_m_k h, tu_m_k h, tu_m_k h]
theorem ch_b_k {X : MI_} {s : Nat} {w : Int32} {k i j : Nat} (h : k ≠ 42) : ch_b X s w k i j = X k i j := by
  unfold ch_b
  split
  · rfl
  · split
    · rfl
    · exact u_3_ne _ _ (fun q => h q.1)
theorem ch_c_k {X : MI_} {s : Nat} {k i j : Nat} (h : k ≠ 42) : ch_c X s k i j = X k i j := by
  unfold ch_c
  split <;> exact u_3_ne _ _ (fun q => h q.1)
theorem ch_m_k {X : MI_} {p s : Nat} {k i j : Nat} (h1 : k ≠ 41) (h2 : k ≠ 42) : ch_m X p s k i j = X k i j := by
  unfold ch_m
  rw [ch_c_k h2, ch_b_k h2, ch_a_k h1]
theorem ch_l_k {X : MI_} {p : Nat} {k i j : Nat} (h1 : k ≠ 41) (h2 : k ≠ 42) : ∀ n, ch_l X p n k i j = X k i j
  | 0 => rfl
  | n + 1 => by rw [ch_l, ch_m_k h1 h2, ch_l_k h1 h2 n]
theorem st_m_k {X : MI_} {p n : Nat} {g : Int32} {k i j : Nat} (h : k ≠ 40 ∧ k ≠ 41 ∧ k ≠ 42 ∧ k ≠ 43) : st_m X p n g k i j = X k i j := by
  unfold st_m st_w
  rw [ch_l_k h.2.1 h.2.2.1, m_seg_ne _ _ _ _ _ h.1, m_seg_ne _ _ _ _ _ h.2.2.2]
/-- many steps of one part -/
def sn_ (X : MI_) (T : ML_) (p n : Nat) (g : Int32) : Nat → MI_ × ML_
  | 0 => (X, T)
  | k + 1 => (st_m (sn_ X T p n g k).1 p n g, st_l (sn_ X T p n g k).1 (sn_ X T p n g k).2 p n g)
theorem sn_k {X : MI_} {T : ML_} {p n : Nat} {g : Int32} {k i j : Nat} (h : k ≠ 40 ∧ k ≠ 41 ∧ k ≠ 42 ∧ k ≠ 43) : ∀ c, (sn_ X T p n g c).1 k i j = X k i j
  | 0 => rfl
  | c + 1 => by rw [sn_]; exact (st_m_k h).trans (sn_k h c)
theorem z_ix {x : Int32} {n : Nat} (hn : n < 2 ^ 31) (h : ¬ z_in x 0 (nI n - 1) = 0) : ∃ j, j < n ∧ x = nI j := by
  obtain ⟨h1, h2⟩ := z_in_ne h
  have h3 : ¬ x < 0 := i32_nlt.mpr h1
  obtain ⟨j, hj, rfl⟩ := nI_of h3
  refine ⟨j, ?_, rfl⟩
  cases n with
  | zero =>
    exfalso
    rw [Int32.le_iff_toInt_le] at h2
    rw [nI_toInt hj] at h2
    have : (nI 0 - 1 : Int32).toInt = -1 := by decide
    omega
  | succ n =>
    rw [nI_pred] at h2
    have := (nI_leI hj (by omega)).mp h2
    omega
theorem z_ix2 {n j : Nat} (hn : n < 2 ^ 31) (h : j < n) : z_in (nI j) 0 (nI n - 1) = 1 := by
  unfold z_in
  cases n with
  | zero => omega
  | succ n =>
    rw [nI_pred, if_pos ⟨nI_pos' (by omega), (nI_leI (by omega) (by omega)).mpr (by omega)⟩]
/-- a number between two, as a natural -/
theorem z_nat {x : Int32} {a b : Nat} (ha : a < 2 ^ 31) (hb : b < 2 ^ 31) (h : ¬ z_in x (nI a) (nI b) = 0) : ∃ j, a ≤ j ∧ j ≤ b ∧ x = nI j := by
  obtain ⟨h1, h2⟩ := z_in_ne h
  rw [Int32.le_iff_toInt_le] at h1 h2
  rw [nI_toInt ha] at h1
  rw [nI_toInt hb] at h2
  have h3 : ¬ x < 0 := by
    rw [Int32.lt_iff_toInt_lt]
    have : (0 : Int32).toInt = 0 := by decide
    omega
  obtain ⟨j, hj, rfl⟩ := nI_of h3
  rw [nI_toInt hj] at h1 h2
  exact ⟨j, by omega, by omega, rfl⟩
theorem z_nat2 {j a b : Nat} (hb : b < 2 ^ 31) (h1 : a ≤ j) (h2 : j ≤ b) : z_in (nI j) (nI a) (nI b) = 1 := by
  unfold z_in
  rw [if_pos ⟨(nI_leI (by omega) (by omega)).mpr h1, (nI_leI (by omega) (by omega)).mpr h2⟩]
theorem z_nat3 {j a b : Nat} (hb : b < 2 ^ 31) (h1 : a ≤ j) (h2 : j ≤ b) : ¬ z_in (nI j) (nI a) (nI b) = 0 := by
  rw [z_nat2 hb h1 h2]; decide
section HNat2
variable {d : Md_} {al : Bool} {sh0 : SH_} {Q : Option V_ → Me_ → Prop} {bc bs : Nat} {pc n : Nat} {ls : List (Option V_)} {st : List V_} {M : Me_}
theorem hg_if_eqN (a : Nat) {off : Int} {tgt : Nat} (hd : decode (md_cc d) pc = .ok (.ifCond .eq off, 3)) (hn : pc + 3 = n) (ht : (pc : Int) + off = (tgt : Int)) (ha : a < 2 ^ 31) (kt : a = 0 → hg_G d al sh0 Q bc bs tgt ls st M) (kf : a ≠ 0 → hg_G d al sh0 Q bc bs n ls st M) : hg_G d al sh0 Q bc bs pc ls (hv_i (nI a) :: st) M :=
  hg_if_eq hd hn ht (fun h => kt ((nI_eq ha (by decide : (0 : Nat) < 2 ^ 31)).mp h)) (fun h => kf (fun q => h (by rw [q]; rfl)))
theorem hg_if_neN (a : Nat) {off : Int} {tgt : Nat} (hd : decode (md_cc d) pc = .ok (.ifCond .ne off, 3)) (hn : pc + 3 = n) (ht : (pc : Int) + off = (tgt : Int)) (ha : a < 2 ^ 31) (kt : a ≠ 0 → hg_G d al sh0 Q bc bs tgt ls st M) (kf : a = 0 → hg_G d al sh0 Q bc bs n ls st M) : hg_G d al sh0 Q bc bs pc ls (hv_i (nI a) :: st) M :=
  hg_if_ne hd hn ht (fun h => kt (fun q => h (by rw [q]; rfl))) (fun h => kf ((nI_eq ha (by decide : (0 : Nat) < 2 ^ 31)).mp h))
theorem hg_if_leN (a : Nat) {off : Int} {tgt : Nat} (hd : decode (md_cc d) pc = .ok (.ifCond .le off, 3)) (hn : pc + 3 = n) (ht : (pc : Int) + off = (tgt : Int)) (ha : a < 2 ^ 31) (kt : a = 0 → hg_G d al sh0 Q bc bs tgt ls st M) (kf : 0 < a → hg_G d al sh0 Q bc bs n ls st M) : hg_G d al sh0 Q bc bs pc ls (hv_i (nI a) :: st) M :=
  hg_if_le hd hn ht (fun h => kt (by have := (nI_leI ha (by decide : (0 : Nat) < 2 ^ 31)).mp h; omega)) (fun h => kf (Nat.pos_of_ne_zero (fun q => h (by rw [q]; decide))))
theorem hg_if_ltN (a : Nat) {off : Int} {tgt : Nat} (hd : decode (md_cc d) pc = .ok (.ifCond .lt off, 3)) (hn : pc + 3 = n) (ha : a < 2 ^ 31) (kf : hg_G d al sh0 Q bc bs n ls st M) (ht : (pc : Int) + off = (tgt : Int)) : hg_G d al sh0 Q bc bs pc ls (hv_i (nI a) :: st) M :=
  hg_if_lt hd hn ht (fun h => absurd h (nI_pos ha)) (fun _ => kf)
end HNat2
