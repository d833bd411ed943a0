/-! rows for numbers that are naturals -/
section HNat
variable {d : Md_} {al : Bool} {sh0 : SH_} {Q : Option V_ → Me_ → Prop} {bc bs : Nat} {pc n : Nat} {ls : List (Option V_)} {st : List V_} {M : Me_} {mi : MI_} {ml : ML_} {mr : MR_} {sh : SH_}
theorem hg_iaddN (a b : Nat) (hd : decode (md_cc d) pc = .ok (.iadd, 1)) (hn : pc + 1 = n) (kk : hg_G d al sh0 Q bc bs n ls (hv_i (nI (a + b)) :: st) M) : hg_G d al sh0 Q bc bs pc ls (hv_i (nI b) :: hv_i (nI a) :: st) M :=
  hg_iadd hd hn (by rw [nI_add]; exact kk)
theorem hg_isubN (a b : Nat) (hd : decode (md_cc d) pc = .ok (.isub, 1)) (hn : pc + 1 = n) (h : b ≤ a) (kk : hg_G d al sh0 Q bc bs n ls (hv_i (nI (a - b)) :: st) M) : hg_G d al sh0 Q bc bs pc ls (hv_i (nI b) :: hv_i (nI a) :: st) M :=
  hg_isub hd hn (by rw [pk_sub h]; exact kk)
theorem hg_imulN (a b : Nat) (hd : decode (md_cc d) pc = .ok (.imul, 1)) (hn : pc + 1 = n) (kk : hg_G d al sh0 Q bc bs n ls (hv_i (nI (a * b)) :: st) M) : hg_G d al sh0 Q bc bs pc ls (hv_i (nI b) :: hv_i (nI a) :: st) M :=
  hg_imul hd hn (by rw [pk_mul]; exact kk)
theorem hg_iincN (a z : Nat) {k : Nat} {z' : Int} (hd : decode (md_cc d) pc = .ok (.iinc k z', 3)) (hn : pc + 3 = n) (hl : ls[k]? = some (some (hv_i (nI a)))) (hz' : Int32.ofInt z' = nI z) (hi : k < md_nL d) (hz : hl_nl ls k = true) {ls' : List (Option V_)} (he : ls.set k (some (hv_i (nI (a + z)))) = ls') (kk : hg_G d al sh0 Q bc bs n ls' st M) : hg_G d al sh0 Q bc bs pc ls st M :=
  hg_iinc hd hn hl (by rw [hz', nI_add]) hi hz he kk
theorem hg_getN (a : Nat) {k i len c f idx : Nat} {fin : Bool} (hd : decode (md_cc d) pc = .ok (.getfield idx, 3)) (hn : pc + 3 = n) (hL : hf_L (md_own d) idx c f fin) (hk : kd_ k = .inl c) (hty : sort_ (ft_ c f) = 0) (hs : sh k i = some len) (hv : mi k i f = nI a) (kk : hg_G d al sh0 Q bc bs n ls (hv_i (nI a) :: st) (mi, ml, mr, sh)) : hg_G d al sh0 Q bc bs pc ls (hv_r (some (k, i)) :: st) (mi, ml, mr, sh) :=
  hg_getI hd hn hL hk hty hs (by rw [hv]; exact kk)
theorem hg_ialoadN (a : Nat) (j : Nat) {k i len : Nat} {x : Int32} (hd : decode (md_cc d) pc = .ok (.iaload, 1)) (hn : pc + 1 = n) (h0 : k ≠ 0) (hk : kd_ k = .inr 0) (hs : sh k i = some len) (hx : x = nI j) (hj : j < len) (hlen : len < 2 ^ 31) (hv : mi k i j = nI a) (kk : hg_G d al sh0 Q bc bs n ls (hv_i (nI a) :: st) (mi, ml, mr, sh)) : hg_G d al sh0 Q bc bs pc ls (hv_i x :: hv_r (some (k, i)) :: st) (mi, ml, mr, sh) :=
  hg_iaload j hd hn h0 hk hs hx hj hlen (by rw [hv]; exact kk)
theorem hg_icmp_ltN (a b : Nat) {off : Int} {tgt : Nat} (hd : decode (md_cc d) pc = .ok (.if_icmp .lt off, 3)) (hn : pc + 3 = n) (ht : (pc : Int) + off = (tgt : Int)) (ha : a < 2 ^ 31) (hb : b < 2 ^ 31) (kt : a < b → hg_G d al sh0 Q bc bs tgt ls st M) (kf : b ≤ a → hg_G d al sh0 Q bc bs n ls st M) : hg_G d al sh0 Q bc bs pc ls (hv_i (nI b) :: hv_i (nI a) :: st) M :=
  hg_icmp_lt hd hn ht (fun h => kt ((nI_ltI ha hb).mp h)) (fun h => kf (Nat.not_lt.mp (fun q => h ((nI_ltI ha hb).mpr q))))
theorem hg_icmp_geN (a b : Nat) {off : Int} {tgt : Nat} (hd : decode (md_cc d) pc = .ok (.if_icmp .ge off, 3)) (hn : pc + 3 = n) (ht : (pc : Int) + off = (tgt : Int)) (ha : a < 2 ^ 31) (hb : b < 2 ^ 31) (kt : b ≤ a → hg_G d al sh0 Q bc bs tgt ls st M) (kf : a < b → hg_G d al sh0 Q bc bs n ls st M) : hg_G d al sh0 Q bc bs pc ls (hv_i (nI b) :: hv_i (nI a) :: st) M :=
  hg_icmp_ge hd hn ht (fun h => kt ((nI_leI hb ha).mp h)) (fun h => kf (Nat.not_le.mp (fun q => h ((nI_leI hb ha).mpr q))))
theorem hg_icmp_gtN (a b : Nat) {off : Int} {tgt : Nat} (hd : decode (md_cc d) pc = .ok (.if_icmp .gt off, 3)) (hn : pc + 3 = n) (ht : (pc : Int) + off = (tgt : Int)) (ha : a < 2 ^ 31) (hb : b < 2 ^ 31) (kt : b < a → hg_G d al sh0 Q bc bs tgt ls st M) (kf : a ≤ b → hg_G d al sh0 Q bc bs n ls st M) : hg_G d al sh0 Q bc bs pc ls (hv_i (nI b) :: hv_i (nI a) :: st) M :=
  hg_icmp_gt hd hn ht (fun h => kt ((nI_ltI hb ha).mp h)) (fun h => kf (Nat.not_lt.mp (fun q => h ((nI_ltI hb ha).mpr q))))
theorem hg_icmp_leN (a b : Nat) {off : Int} {tgt : Nat} (hd : decode (md_cc d) pc = .ok (.if_icmp .le off, 3)) (hn : pc + 3 = n) (ht : (pc : Int) + off = (tgt : Int)) (ha : a < 2 ^ 31) (hb : b < 2 ^ 31) (kt : a ≤ b → hg_G d al sh0 Q bc bs tgt ls st M) (kf : b < a → hg_G d al sh0 Q bc bs n ls st M) : hg_G d al sh0 Q bc bs pc ls (hv_i (nI b) :: hv_i (nI a) :: st) M :=
  hg_icmp_le hd hn ht (fun h => kt ((nI_leI ha hb).mp h)) (fun h => kf (Nat.not_le.mp (fun q => h ((nI_leI ha hb).mpr q))))
theorem hg_icmp_eqN (a b : Nat) {off : Int} {tgt : Nat} (hd : decode (md_cc d) pc = .ok (.if_icmp .eq off, 3)) (hn : pc + 3 = n) (ht : (pc : Int) + off = (tgt : Int)) (ha : a < 2 ^ 31) (hb : b < 2 ^ 31) (kt : a = b → hg_G d al sh0 Q bc bs tgt ls st M) (kf : a ≠ b → hg_G d al sh0 Q bc bs n ls st M) : hg_G d al sh0 Q bc bs pc ls (hv_i (nI b) :: hv_i (nI a) :: st) M :=
  hg_icmp_eq hd hn ht (fun h => kt ((nI_eq ha hb).mp h)) (fun h => kf (fun q => h ((nI_eq ha hb).mpr q)))
theorem hg_icmp_neN (a b : Nat) {off : Int} {tgt : Nat} (hd : decode (md_cc d) pc = .ok (.if_icmp .ne off, 3)) (hn : pc + 3 = n) (ht : (pc : Int) + off = (tgt : Int)) (ha : a < 2 ^ 31) (hb : b < 2 ^ 31) (kt : a ≠ b → hg_G d al sh0 Q bc bs tgt ls st M) (kf : a = b → hg_G d al sh0 Q bc bs n ls st M) : hg_G d al sh0 Q bc bs pc ls (hv_i (nI b) :: hv_i (nI a) :: st) M :=
  hg_icmp_ne hd hn ht (fun h => kt (fun q => h ((nI_eq ha hb).mpr q))) (fun h => kf ((nI_eq ha hb).mp h))
/-- a part of a walk that ends where another begins -/
theorem hg_memo {M' : Me_} (h : M = M') (kk : hg_G d al sh0 Q bc bs pc ls st M') : hg_G d al sh0 Q bc bs pc ls st M := h ▸ kk
end HNat
