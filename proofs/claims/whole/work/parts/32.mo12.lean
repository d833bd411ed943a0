def dg_c (X : MI_) (nr : Nat) : Nat → Int64
  | 0 => 139
  | k + 1 => 31 * dg_c X nr k + (co_ X nr k).toInt64
def dg_s (X : MI_) (s : Nat) (h : Int64) : Nat → Int64
  | 0 => h
  | k + 1 => 31 * dg_s X s h k + (sv_ X s k).toInt64
def dg_i (X : MI_) (p : Nat) (h : Int64) : Nat → Int64
  | 0 => h
  | i + 1 => dg_s X (6 * p + i) (dg_i X p h i) 7
def dg_p (X : MI_) (T : ML_) (h : Int64) : Nat → Int64
  | 0 => h
  | p + 1 => dg_i X p (31 * dg_p X T h p + T 37 0 p) (X 31 0 p).toNatClampNeg
def dg_a (X : MI_) (f : Nat) (h : Int64) : Nat → Int64
  | 0 => h
  | k + 1 => 31 * dg_a X f h k + (ab_ X f k).toInt64
def dg_f (X : MI_) (h : Int64) : Nat → Int64
  | 0 => h
  | f + 1 => dg_a X f (dg_f X h f) 7
def dg_q (X : MI_) (r : Nat) (h : Int64) : Nat → Int64
  | 0 => h
  | k + 1 => 31 * dg_q X r h k + (ra_ X r k).toInt64
def dg_r (X : MI_) (h : Int64) : Nat → Int64
  | 0 => h
  | r + 1 => dg_q X r (dg_r X h r) 5
def dg_ (X : MI_) (T : ML_) (np nr : Nat) : Int64 := dg_r X (dg_f X (dg_p X T (dg_c X nr 5) np) 3) nr
set_option maxHeartbeats 4000000 in
set_option maxRecDepth 100000 in
theorem c_X6_digest {mi : MI_} {ml : ML_} {mr : MR_} {sh : SH_} (hM : mo_ mr sh) (np : Nat) (hnp : mi 7 0 0 = nI np) (hn12 : np ≤ 12) (hpl : pl_ mi np) (hsh : sh_ mi np) (nr : Nat) (hnr : mi 7 0 28 = nI nr) (hnr9 : nr ≤ 100) : hg_Det false yX6_digest md_X6_digest [hv_r (some (7, 0))] (mi, ml, mr, sh) (some (hv_l (dg_ mi ml np nr))) (mi, ml, mr, sh) := by
  intro Q hQ
  refine hg_intro rfl rfl rfl (Nat.le_of_ble_eq_true rfl) rfl ?_
  have lr : ∀ j r, r + j = nr → hg_G md_X6_digest false sh Q 0 0 158 [some (hv_r (some (7, 0))), some (hv_l (dg_r mi (dg_f mi (dg_p mi ml (dg_c mi nr 5) np) 3) r)), none, some (hv_i (nI r)), none, none] [] (mi, ml, mr, sh) := by
    intro j
    induction j with
    | zero =>
      intro r hr
      refine hg_iload_n (n := 159) dX6_digest_158 rfl rfl ?_
      refine hg_aload_n (n := 160) dX6_digest_159 rfl rfl ?_
      refine hg_getN (n := 163) (nr) dX6_digest_160 rfl fl_X6_165 rfl rfl (mo_s hM) hnr ?_
      refine hg_icmp_geN (n := 166) (tgt := 202) (r) (nr) dX6_digest_163 rfl (by decide) (by omega) (by omega) (fun h163 => ?_) (fun h163 => ?_)
      · have e := show r = nr by omega
        subst e
        refine hg_lload_n (n := 203) dX6_digest_202 rfl rfl ?_
        refine hg_lreturn dX6_digest_203 rfl ?_
        exact hQ
      · exact absurd h163 (by omega)
    | succ j ih0 =>
      intro r hr
      have l2 : ∀ m k, k + m = 5 → hg_G md_X6_digest false sh Q 0 0 169 [some (hv_r (some (7, 0))), some (hv_l (dg_q mi r (dg_r mi (dg_f mi (dg_p mi ml (dg_c mi nr 5) np) 3) r) k)), none, some (hv_i (nI r)), some (hv_i (nI k)), none] [] (mi, ml, mr, sh) := by
        intro m
        induction m with
        | zero =>
          intro k hk
          refine hg_iload (n := 171) dX6_digest_169 rfl rfl ?_
          refine hg_iconst (n := 172) (v := 5) dX6_digest_171 rfl (by decide) ?_
          refine hg_icmp_geN (n := 175) (tgt := 196) (k) (5) dX6_digest_172 rfl (by decide) (by omega) (by omega) (fun h172 => ?_) (fun h172 => ?_)
          · have e := show k = 5 by omega
            subst e
            refine hg_iincN (n := 199) (r) 1 dX6_digest_196 rfl rfl (by decide) (by decide) rfl rfl ?_
            refine hg_goto (tgt := 158) dX6_digest_199 (by decide) ?_
            exact hg_ls (ih0 (r + 1) (by omega)) ⟨rfl, rfl, rfl, trivial⟩
          · exact absurd h172 (by omega)
        | succ m ih =>
          intro k hk
          refine hg_iload (n := 171) dX6_digest_169 rfl rfl ?_
          refine hg_iconst (n := 172) (v := 5) dX6_digest_171 rfl (by decide) ?_
          refine hg_icmp_geN (n := 175) (tgt := 196) (k) (5) dX6_digest_172 rfl (by decide) (by omega) (by omega) (fun h172 => ?_) (fun h172 => ?_)
          · exact absurd h172 (by omega)
          · refine hg_ldc2 (n := 178) dX6_digest_175 rfl kc_X6_195 ?_
            refine hg_lload_n (n := 179) dX6_digest_178 rfl rfl ?_
            refine hg_lmul (n := 180) dX6_digest_179 rfl ?_
            refine hg_aload_n (n := 181) dX6_digest_180 rfl rfl ?_
            refine hg_iload_n (n := 182) dX6_digest_181 rfl rfl ?_
            refine hg_iload (n := 184) dX6_digest_182 rfl rfl ?_
            refine hg_callVd (n := 187) (c_X6_runAt hM nr hnr hnr9 (r) (k) (by omega) (by omega)) dX6_digest_184 rfl mk_X6_207 yl_X6_runAt yv_X6_runAt rfl (mo_s hM) (by decide) (by decide) rfl rfl (Nat.le_of_ble_eq_true rfl) (fun h => by cases h) ?_
            refine hg_i2l (n := 188) dX6_digest_187 rfl ?_
            refine hg_ladd (n := 189) dX6_digest_188 rfl ?_
            refine hg_lstore_n (n := 190) dX6_digest_189 rfl (by decide) rfl rfl ?_
            refine hg_iincN (n := 193) (k) 1 dX6_digest_190 rfl rfl (by decide) (by decide) rfl rfl ?_
            refine hg_goto (tgt := 169) dX6_digest_193 (by decide) ?_
            exact ih (k + 1) (by omega)
      refine hg_iload_n (n := 159) dX6_digest_158 rfl rfl ?_
      refine hg_aload_n (n := 160) dX6_digest_159 rfl rfl ?_
      refine hg_getN (n := 163) (nr) dX6_digest_160 rfl fl_X6_165 rfl rfl (mo_s hM) hnr ?_
      refine hg_icmp_geN (n := 166) (tgt := 202) (r) (nr) dX6_digest_163 rfl (by decide) (by omega) (by omega) (fun h163 => ?_) (fun h163 => ?_)
      · exact absurd h163 (by omega)
      · refine hg_iconst (n := 167) (v := 0) dX6_digest_166 rfl (by decide) ?_
        refine hg_istore (n := 169) dX6_digest_167 rfl (by decide) rfl rfl ?_
        exact l2 5 0 (by omega)
  have lf : ∀ j f, f + j = 3 → hg_G md_X6_digest false sh Q 0 0 114 [some (hv_r (some (7, 0))), some (hv_l (dg_f mi (dg_p mi ml (dg_c mi nr 5) np) f)), none, some (hv_i (nI f)), none, none] [] (mi, ml, mr, sh) := by
    intro j
    induction j with
    | zero =>
      intro f hf
      refine hg_iload_n (n := 115) dX6_digest_114 rfl rfl ?_
      refine hg_iconst (n := 116) (v := 3) dX6_digest_115 rfl (by decide) ?_
      refine hg_icmp_geN (n := 119) (tgt := 156) (f) (3) dX6_digest_116 rfl (by decide) (by omega) (by omega) (fun h116 => ?_) (fun h116 => ?_)
      · have e := show f = 3 by omega
        subst e
        refine hg_iconst (n := 157) (v := 0) dX6_digest_156 rfl (by decide) ?_
        refine hg_istore_n (n := 158) dX6_digest_157 rfl (by decide) rfl rfl ?_
        exact hg_ls (lr nr 0 (by omega)) ⟨rfl, rfl, rfl, trivial⟩
      · exact absurd h116 (by omega)
    | succ j ih0 =>
      intro f hf
      have l2 : ∀ m k, k + m = 7 → hg_G md_X6_digest false sh Q 0 0 122 [some (hv_r (some (7, 0))), some (hv_l (dg_a mi f (dg_f mi (dg_p mi ml (dg_c mi nr 5) np) f) k)), none, some (hv_i (nI f)), some (hv_i (nI k)), none] [] (mi, ml, mr, sh) := by
        intro m
        induction m with
        | zero =>
          intro k hk
          refine hg_iload (n := 124) dX6_digest_122 rfl rfl ?_
          refine hg_bipush (n := 126) (v := 7) dX6_digest_124 rfl (by decide) ?_
          refine hg_icmp_geN (n := 129) (tgt := 150) (k) (7) dX6_digest_126 rfl (by decide) (by omega) (by omega) (fun h126 => ?_) (fun h126 => ?_)
          · have e := show k = 7 by omega
            subst e
            refine hg_iincN (n := 153) (f) 1 dX6_digest_150 rfl rfl (by decide) (by decide) rfl rfl ?_
            refine hg_goto (tgt := 114) dX6_digest_153 (by decide) ?_
            exact hg_ls (ih0 (f + 1) (by omega)) ⟨rfl, rfl, rfl, trivial⟩
          · exact absurd h126 (by omega)
        | succ m ih =>
          intro k hk
          refine hg_iload (n := 124) dX6_digest_122 rfl rfl ?_
          refine hg_bipush (n := 126) (v := 7) dX6_digest_124 rfl (by decide) ?_
          refine hg_icmp_geN (n := 129) (tgt := 150) (k) (7) dX6_digest_126 rfl (by decide) (by omega) (by omega) (fun h126 => ?_) (fun h126 => ?_)
          · exact absurd h126 (by omega)
          · refine hg_ldc2 (n := 132) dX6_digest_129 rfl kc_X6_195 ?_
            refine hg_lload_n (n := 133) dX6_digest_132 rfl rfl ?_
            refine hg_lmul (n := 134) dX6_digest_133 rfl ?_
            refine hg_aload_n (n := 135) dX6_digest_134 rfl rfl ?_
            refine hg_iload_n (n := 136) dX6_digest_135 rfl rfl ?_
            refine hg_iload (n := 138) dX6_digest_136 rfl rfl ?_
            refine hg_callVd (n := 141) (c_X6_about hM np hn12 hpl (f) (by omega) (k) (by omega)) dX6_digest_138 rfl mk_X6_204 yl_X6_about yv_X6_about rfl (mo_s hM) (by decide) (by decide) rfl rfl (Nat.le_of_ble_eq_true rfl) (fun h => by cases h) ?_
            refine hg_i2l (n := 142) dX6_digest_141 rfl ?_
            refine hg_ladd (n := 143) dX6_digest_142 rfl ?_
            refine hg_lstore_n (n := 144) dX6_digest_143 rfl (by decide) rfl rfl ?_
            refine hg_iincN (n := 147) (k) 1 dX6_digest_144 rfl rfl (by decide) (by decide) rfl rfl ?_
            refine hg_goto (tgt := 122) dX6_digest_147 (by decide) ?_
            exact ih (k + 1) (by omega)
      refine hg_iload_n (n := 115) dX6_digest_114 rfl rfl ?_
      refine hg_iconst (n := 116) (v := 3) dX6_digest_115 rfl (by decide) ?_
      refine hg_icmp_geN (n := 119) (tgt := 156) (f) (3) dX6_digest_116 rfl (by decide) (by omega) (by omega) (fun h116 => ?_) (fun h116 => ?_)
      · exact absurd h116 (by omega)
      · refine hg_iconst (n := 120) (v := 0) dX6_digest_119 rfl (by decide) ?_
        refine hg_istore (n := 122) dX6_digest_120 rfl (by decide) rfl rfl ?_
        exact l2 7 0 (by omega)
  have lp : ∀ j p, p + j = np → hg_G md_X6_digest false sh Q 0 0 32 [some (hv_r (some (7, 0))), some (hv_l (dg_p mi ml (dg_c mi nr 5) p)), none, some (hv_i (nI p)), none, none] [] (mi, ml, mr, sh) := by
    intro j
    induction j with
    | zero =>
      intro p hp
      refine hg_iload_n (n := 33) dX6_digest_32 rfl rfl ?_
      refine hg_aload_n (n := 34) dX6_digest_33 rfl rfl ?_
      refine hg_getN (n := 37) (np) dX6_digest_34 rfl fl_X6_7 rfl rfl (mo_s hM) hnp ?_
      refine hg_icmp_geN (n := 40) (tgt := 112) (p) (np) dX6_digest_37 rfl (by decide) (by omega) (by omega) (fun h37 => ?_) (fun h37 => ?_)
      · have e := show p = np by omega
        subst e
        refine hg_iconst (n := 113) (v := 0) dX6_digest_112 rfl (by decide) ?_
        refine hg_istore_n (n := 114) dX6_digest_113 rfl (by decide) rfl rfl ?_
        exact hg_ls (lf 3 0 (by omega)) ⟨rfl, rfl, rfl, trivial⟩
      · exact absurd h37 (by omega)
    | succ j ih0 =>
      intro p hp
      obtain ⟨n, h1, h6, hn⟩ := hsh p (by omega)
      have l2 : ∀ q i, i + q = n → hg_G md_X6_digest false sh Q 0 0 56 [some (hv_r (some (7, 0))), some (hv_l (dg_i mi p (31 * dg_p mi ml (dg_c mi nr 5) p + ml 37 0 p) i)), none, some (hv_i (nI p)), some (hv_i (nI i)), none] [] (mi, ml, mr, sh) := by
        intro q
        induction q with
        | zero =>
          intro i hi
          refine hg_iload (n := 58) dX6_digest_56 rfl rfl ?_
          refine hg_aload_n (n := 59) dX6_digest_58 rfl rfl ?_
          refine hg_getR (n := 62) (r := some (31, 0)) dX6_digest_59 rfl fl_X6_11 rfl rfl (mo_s hM) (mo_r hM 1 (by decide)) ?_
          refine hg_iload_n (n := 63) dX6_digest_62 rfl rfl ?_
          refine hg_ialoadN (n := 64) (len := 12) (n) (p) dX6_digest_63 rfl (by decide) rfl (mo_a hM 1 (by decide)) rfl (by omega) (by decide) hn ?_
          refine hg_icmp_geN (n := 67) (tgt := 106) (i) (n) dX6_digest_64 rfl (by decide) (by omega) (by omega) (fun h64 => ?_) (fun h64 => ?_)
          · have e := show i = n by omega
            subst e
            refine hg_iincN (n := 109) (p) 1 dX6_digest_106 rfl rfl (by decide) (by decide) rfl rfl ?_
            refine hg_goto (tgt := 32) dX6_digest_109 (by decide) ?_
            have e2 : dg_p mi ml (dg_c mi nr 5) (p + 1) = dg_i mi p (31 * dg_p mi ml (dg_c mi nr 5) p + ml 37 0 p) i := by rw [dg_p, hn, nI_clamp (by omega)]
            rw [← e2]
            exact hg_ls (ih0 (p + 1) (by omega)) ⟨rfl, rfl, rfl, trivial⟩
          · exact absurd h64 (by omega)
        | succ q ih1 =>
          intro i hi
          have l3 : ∀ m k, k + m = 7 → hg_G md_X6_digest false sh Q 0 0 70 [some (hv_r (some (7, 0))), some (hv_l (dg_s mi (6 * p + i) (dg_i mi p (31 * dg_p mi ml (dg_c mi nr 5) p + ml 37 0 p) i) k)), none, some (hv_i (nI p)), some (hv_i (nI i)), some (hv_i (nI k))] [] (mi, ml, mr, sh) := by
            intro m
            induction m with
            | zero =>
              intro k hk
              refine hg_iload (n := 72) dX6_digest_70 rfl rfl ?_
              refine hg_bipush (n := 74) (v := 7) dX6_digest_72 rfl (by decide) ?_
              refine hg_icmp_geN (n := 77) (tgt := 100) (k) (7) dX6_digest_74 rfl (by decide) (by omega) (by omega) (fun h74 => ?_) (fun h74 => ?_)
              · have e := show k = 7 by omega
                subst e
                refine hg_iincN (n := 103) (i) 1 dX6_digest_100 rfl rfl (by decide) (by decide) rfl rfl ?_
                refine hg_goto (tgt := 56) dX6_digest_103 (by decide) ?_
                exact hg_ls (ih1 (i + 1) (by omega)) ⟨rfl, rfl, rfl, rfl, trivial⟩
              · exact absurd h74 (by omega)
            | succ m ih =>
              intro k hk
              refine hg_iload (n := 72) dX6_digest_70 rfl rfl ?_
              refine hg_bipush (n := 74) (v := 7) dX6_digest_72 rfl (by decide) ?_
              refine hg_icmp_geN (n := 77) (tgt := 100) (k) (7) dX6_digest_74 rfl (by decide) (by omega) (by omega) (fun h74 => ?_) (fun h74 => ?_)
              · exact absurd h74 (by omega)
              · refine hg_ldc2 (n := 80) dX6_digest_77 rfl kc_X6_195 ?_
                refine hg_lload_n (n := 81) dX6_digest_80 rfl rfl ?_
                refine hg_lmul (n := 82) dX6_digest_81 rfl ?_
                refine hg_aload_n (n := 83) dX6_digest_82 rfl rfl ?_
                refine hg_iload_n (n := 84) dX6_digest_83 rfl rfl ?_
                refine hg_iload (n := 86) dX6_digest_84 rfl rfl ?_
                refine hg_iload (n := 88) dX6_digest_86 rfl rfl ?_
                refine hg_callVd (n := 91) (c_X6_shell hM np hnp hn12 (p) (by omega) n hn h1 h6 (i) (k) (by omega) (by omega)) dX6_digest_88 rfl mk_X6_200 yl_X6_shell yv_X6_shell rfl (mo_s hM) (by decide) (by decide) rfl rfl (Nat.le_of_ble_eq_true rfl) (fun h => by cases h) ?_
                refine hg_i2l (n := 92) dX6_digest_91 rfl ?_
                refine hg_ladd (n := 93) dX6_digest_92 rfl ?_
                refine hg_lstore_n (n := 94) dX6_digest_93 rfl (by decide) rfl rfl ?_
                refine hg_iincN (n := 97) (k) 1 dX6_digest_94 rfl rfl (by decide) (by decide) rfl rfl ?_
                refine hg_goto (tgt := 70) dX6_digest_97 (by decide) ?_
                exact ih (k + 1) (by omega)
          refine hg_iload (n := 58) dX6_digest_56 rfl rfl ?_
          refine hg_aload_n (n := 59) dX6_digest_58 rfl rfl ?_
          refine hg_getR (n := 62) (r := some (31, 0)) dX6_digest_59 rfl fl_X6_11 rfl rfl (mo_s hM) (mo_r hM 1 (by decide)) ?_
          refine hg_iload_n (n := 63) dX6_digest_62 rfl rfl ?_
          refine hg_ialoadN (n := 64) (len := 12) (n) (p) dX6_digest_63 rfl (by decide) rfl (mo_a hM 1 (by decide)) rfl (by omega) (by decide) hn ?_
          refine hg_icmp_geN (n := 67) (tgt := 106) (i) (n) dX6_digest_64 rfl (by decide) (by omega) (by omega) (fun h64 => ?_) (fun h64 => ?_)
          · exact absurd h64 (by omega)
          · refine hg_iconst (n := 68) (v := 0) dX6_digest_67 rfl (by decide) ?_
            refine hg_istore (n := 70) dX6_digest_68 rfl (by decide) rfl rfl ?_
            exact l3 7 0 (by omega)
      refine hg_iload_n (n := 33) dX6_digest_32 rfl rfl ?_
      refine hg_aload_n (n := 34) dX6_digest_33 rfl rfl ?_
      refine hg_getN (n := 37) (np) dX6_digest_34 rfl fl_X6_7 rfl rfl (mo_s hM) hnp ?_
      refine hg_icmp_geN (n := 40) (tgt := 112) (p) (np) dX6_digest_37 rfl (by decide) (by omega) (by omega) (fun h37 => ?_) (fun h37 => ?_)
      · exact absurd h37 (by omega)
      · refine hg_ldc2 (n := 43) dX6_digest_40 rfl kc_X6_195 ?_
        refine hg_lload_n (n := 44) dX6_digest_43 rfl rfl ?_
        refine hg_lmul (n := 45) dX6_digest_44 rfl ?_
        refine hg_aload_n (n := 46) dX6_digest_45 rfl rfl ?_
        refine hg_getR (n := 49) (r := some (37, 0)) dX6_digest_46 rfl fl_X6_30 rfl rfl (mo_s hM) (mo_r hM 7 (by decide)) ?_
        refine hg_iload_n (n := 50) dX6_digest_49 rfl rfl ?_
        refine hg_laload (n := 51) (len := 12) (p) dX6_digest_50 rfl (by decide) rfl (mo_a hM 7 (by decide)) rfl (by omega) (by decide) ?_
        refine hg_ladd (n := 52) dX6_digest_51 rfl ?_
        refine hg_lstore_n (n := 53) dX6_digest_52 rfl (by decide) rfl rfl ?_
        refine hg_iconst (n := 54) (v := 0) dX6_digest_53 rfl (by decide) ?_
        refine hg_istore (n := 56) dX6_digest_54 rfl (by decide) rfl rfl ?_
        exact l2 n 0 (by omega)
  have lc : ∀ j k, k + j = 5 → hg_G md_X6_digest false sh Q 0 0 6 [some (hv_r (some (7, 0))), some (hv_l (dg_c mi nr k)), none, some (hv_i (nI k)), none, none] [] (mi, ml, mr, sh) := by
    intro j
    induction j with
    | zero =>
      intro k hk
      refine hg_iload_n (n := 7) dX6_digest_6 rfl rfl ?_
      refine hg_iconst (n := 8) (v := 5) dX6_digest_7 rfl (by decide) ?_
      refine hg_icmp_geN (n := 11) (tgt := 30) (k) (5) dX6_digest_8 rfl (by decide) (by omega) (by omega) (fun h8 => ?_) (fun h8 => ?_)
      · have e := show k = 5 by omega
        subst e
        refine hg_iconst (n := 31) (v := 0) dX6_digest_30 rfl (by decide) ?_
        refine hg_istore_n (n := 32) dX6_digest_31 rfl (by decide) rfl rfl ?_
        exact hg_ls (lp np 0 (by omega)) ⟨rfl, rfl, rfl, trivial⟩
      · exact absurd h8 (by omega)
    | succ j ih =>
      intro k hk
      refine hg_iload_n (n := 7) dX6_digest_6 rfl rfl ?_
      refine hg_iconst (n := 8) (v := 5) dX6_digest_7 rfl (by decide) ?_
      refine hg_icmp_geN (n := 11) (tgt := 30) (k) (5) dX6_digest_8 rfl (by decide) (by omega) (by omega) (fun h8 => ?_) (fun h8 => ?_)
      · exact absurd h8 (by omega)
      · refine hg_ldc2 (n := 14) dX6_digest_11 rfl kc_X6_195 ?_
        refine hg_lload_n (n := 15) dX6_digest_14 rfl rfl ?_
        refine hg_lmul (n := 16) dX6_digest_15 rfl ?_
        refine hg_aload_n (n := 17) dX6_digest_16 rfl rfl ?_
        refine hg_iload_n (n := 18) dX6_digest_17 rfl rfl ?_
        refine hg_callVd (n := 21) (c_X6_count hM nr hnr hnr9 (k) (by omega)) dX6_digest_18 rfl mk_X6_197 yl_X6_count yv_X6_count rfl (mo_s hM) (by decide) (by decide) rfl rfl (Nat.le_of_ble_eq_true rfl) (fun h => by cases h) ?_
        refine hg_i2l (n := 22) dX6_digest_21 rfl ?_
        refine hg_ladd (n := 23) dX6_digest_22 rfl ?_
        refine hg_lstore_n (n := 24) dX6_digest_23 rfl (by decide) rfl rfl ?_
        refine hg_iincN (n := 27) (k) 1 dX6_digest_24 rfl rfl (by decide) (by decide) rfl rfl ?_
        refine hg_goto (tgt := 6) dX6_digest_27 (by decide) ?_
        exact ih (k + 1) (by omega)
  refine hg_ldc2 (n := 3) dX6_digest_0 rfl kc_X6_193 ?_
  refine hg_lstore_n (n := 4) dX6_digest_3 rfl (by decide) rfl rfl ?_
  refine hg_iconst (n := 5) (v := 0) dX6_digest_4 rfl (by decide) ?_
  refine hg_istore_n (n := 6) dX6_digest_5 rfl (by decide) rfl rfl ?_
  exact lc 5 0 (by omega)

