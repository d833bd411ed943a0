/-! bits of small numbers -/
theorem q_sl : ∀ n, n < 32 → ((nI n &&& 31).toBitVec.smod 32).toNat = n := by decide +kernel
theorem q_or (a b : Nat) : nI a ||| nI b = nI (a ||| b) := by
  apply Int32.toBitVec_inj.1
  show BitVec.ofNat 32 a ||| BitVec.ofNat 32 b = BitVec.ofNat 32 (a ||| b)
  apply BitVec.eq_of_getLsbD_eq
  intro i hi
  simp [hi]
theorem q_shr {a b : Nat} (ha : a < 2 ^ 31) (hb : b < 32) : nI a >>> (nI b &&& 31) = nI (a / 2 ^ b) := pk_shrN ha _ b (q_sl b hb)
theorem q_shl {b : Nat} (hb : b < 31) : nI 1 <<< (nI b &&& 31) = nI (2 ^ b) := by
  rw [pk_shlN _ b (q_sl b (by omega)) (by rw [Nat.one_mul]; exact Nat.pow_lt_pow_right (by decide) (by omega)), Nat.one_mul]
theorem q_and {a : Nat} (ha : a < 2 ^ 32) : nI a &&& 1 = nI (a % 2) := pk_andN (m := 1) ha 1 (by decide)
theorem or_lt7 {d k : Nat} (hd : d < 128) (hk : k < 7) : d ||| 2 ^ k < 128 := Nat.or_lt_two_pow (n := 7) hd (Nat.pow_lt_pow_right (by decide) hk)
section HBits
variable {d : Md_} {al : Bool} {sh0 : SH_} {Q : Option V_ → Me_ → Prop} {bc bs : Nat} {pc n : Nat} {ls : List (Option V_)} {st : List V_} {M : Me_}
theorem hg_ishrN (a b : Nat) (hd : decode (md_cc d) pc = .ok (.ishr, 1)) (hn : pc + 1 = n) (ha : a < 2 ^ 31) (hb : b < 32) (kk : hg_G d al sh0 Q bc bs n ls (hv_i (nI (a / 2 ^ b)) :: st) M) : hg_G d al sh0 Q bc bs pc ls (hv_i (nI b) :: hv_i (nI a) :: st) M :=
  hg_ishr hd hn (by rw [q_shr ha hb]; exact kk)
theorem hg_ishl1 (b : Nat) (hd : decode (md_cc d) pc = .ok (.ishl, 1)) (hn : pc + 1 = n) (hb : b < 31) (kk : hg_G d al sh0 Q bc bs n ls (hv_i (nI (2 ^ b)) :: st) M) : hg_G d al sh0 Q bc bs pc ls (hv_i (nI b) :: hv_i 1 :: st) M :=
  hg_ishl hd hn (by rw [show (1 : Int32) = nI 1 from rfl, q_shl hb]; exact kk)
theorem hg_iand1N (a : Nat) (hd : decode (md_cc d) pc = .ok (.iand, 1)) (hn : pc + 1 = n) (ha : a < 2 ^ 32) (kk : hg_G d al sh0 Q bc bs n ls (hv_i (nI (a % 2)) :: st) M) : hg_G d al sh0 Q bc bs pc ls (hv_i 1 :: hv_i (nI a) :: st) M :=
  hg_iand hd hn (by rw [q_and ha]; exact kk)
theorem hg_iorN (a b : Nat) (hd : decode (md_cc d) pc = .ok (.ior, 1)) (hn : pc + 1 = n) (kk : hg_G d al sh0 Q bc bs n ls (hv_i (nI (a ||| b)) :: st) M) : hg_G d al sh0 Q bc bs pc ls (hv_i (nI b) :: hv_i (nI a) :: st) M :=
  hg_ior hd hn (by rw [q_or]; exact kk)
end HBits
theorem q_div {d k : Nat} (hd : d < 128) : d / 2 ^ k < 128 := Nat.lt_of_le_of_lt (Nat.div_le_self _ _) hd
theorem q_pow {n : Nat} (hn : n ≤ 7) : 2 ^ n ≤ 128 := Nat.pow_le_pow_right (by decide) hn
theorem q_pow1 (n : Nat) : 1 ≤ 2 ^ n := Nat.one_le_two_pow
