def tk_g (X : MI_) (f t : Nat) : MI_ :=
  if X 47 0 t = 0 then u_3 X 44 0 f (if X 48 0 t ≤ X 44 0 f then (if X 44 0 f - X 49 0 t ≤ X 48 0 t then X 48 0 t else X 44 0 f - X 49 0 t) else (if X 48 0 t ≤ X 44 0 f + X 49 0 t then X 48 0 t else X 44 0 f + X 49 0 t))
  else if 3 ≤ X 47 0 t then X else u_3 X 44 0 f (X 48 0 t)
def tk_p (X : MI_) (T : ML_) (f : Nat) : Nat → MI_ × ML_
  | 0 => (X, T)
  | i + 1 => if (tk_p X T f i).1 50 0 (4 * f + i) = -1 then tk_p X T f i else
    (st_m (tk_p X T f i).1 ((tk_p X T f i).1 50 0 (4 * f + i)).toNatClampNeg ((tk_p X T f i).1 31 0 ((tk_p X T f i).1 50 0 (4 * f + i)).toNatClampNeg).toNatClampNeg ((tk_p X T f i).1 44 0 f + (tk_p X T f i).1 45 0 f),
     st_l (tk_p X T f i).1 (tk_p X T f i).2 ((tk_p X T f i).1 50 0 (4 * f + i)).toNatClampNeg ((tk_p X T f i).1 31 0 ((tk_p X T f i).1 50 0 (4 * f + i)).toNatClampNeg).toNatClampNeg ((tk_p X T f i).1 44 0 f + (tk_p X T f i).1 45 0 f))
theorem tk_p_k {X : MI_} {T : ML_} {f k i j : Nat} (h : k ≠ 40 ∧ k ≠ 41 ∧ k ≠ 42 ∧ k ≠ 43) : ∀ c, (tk_p X T f c).1 k i j = X k i j
  | 0 => rfl
  | c + 1 => by
    rw [tk_p]
    split
    · exact tk_p_k h c
    · exact (st_m_k h).trans (tk_p_k h c)
theorem tk_g_k {X : MI_} {f t k i j : Nat} (h : k ≠ 44) : tk_g X f t k i j = X k i j := by
  unfold tk_g
  split
  · exact u_3_k h
  · split
    · rfl
    · exact u_3_k h
def tk_5 (X : MI_) (f r : Nat) (a op : Int32) : MI_ :=
  if op = 1 then u_3 (u_3 X 55 0 f (X 55 0 f + (if la_ X f (a - 100) ≤ 0 then 0 else 1))) 62 0 r (if u_3 X 55 0 f (X 55 0 f + (if la_ X f (a - 100) ≤ 0 then 0 else 1)) 62 0 r = 0 then (if la_ X f (a - 100) = 1 then (if lo_ (u_3 X 55 0 f (X 55 0 f + (if la_ X f (a - 100) ≤ 0 then 0 else 1))) f 4 ≤ 1 then 0 else 1) else 0) else 1)
  else if op ≤ 1 then X else u_3 X 55 0 f (X 55 0 f + 1)
def tk_o (X : MI_) (f : Nat) (a op : Int32) : Int32 := if op = 0 then (if X 44 0 f = a then 1 else 0) else 0
def tk_6 (X : MI_) (f : Nat) (b op v : Int32) : Int32 := if v = 0 then (if op ≤ 0 then 0 else if X 55 0 f = b then 1 else 0) else 1
def tk_x (X : MI_) (f : Nat) : MI_ := u_3 (u_3 X 54 0 f (X 54 0 f + 1)) 55 0 f 0
def tk_7 (X : MI_) (f r : Nat) (v : Int32) : MI_ := if v = 0 then X else if tk_x X f 54 0 f = tk_x X f 46 0 f then u_3 (u_3 (u_3 (tk_x X f) 53 0 f 0) 60 0 r 1) 61 0 r 1 else tk_x X f
def tk_e (X : MI_) (f r : Nat) (a b op : Int32) : MI_ := tk_7 (tk_5 X f r a op) f r (tk_6 (tk_5 X f r a op) f b op (tk_o X f a op))
def tk_m (X : MI_) (T : ML_) (f al r : Nat) : MI_ := tk_e (u_3 (tk_p (tk_g X f (8 * f + al)) T f 4).1 64 0 r ((tk_p (tk_g X f (8 * f + al)) T f 4).1 64 0 r + 1)) f r (X 48 0 (8 * f + al)) (X 49 0 (8 * f + al)) (X 47 0 (8 * f + al))
def tk_l (X : MI_) (T : ML_) (f al : Nat) : ML_ := (tk_p (tk_g X f (8 * f + al)) T f 4).2
theorem tk_5_k {X : MI_} {f r : Nat} {a op : Int32} {k i j : Nat} (h : k ≠ 55 ∧ k ≠ 62) : tk_5 X f r a op k i j = X k i j := by
  unfold tk_5
  split
  · rw [u_3_k h.2, u_3_k h.1]
  · split
    · rfl
    · exact u_3_k h.1
theorem tk_x_k {X : MI_} {f : Nat} {k i j : Nat} (h : k ≠ 54 ∧ k ≠ 55) : tk_x X f k i j = X k i j := by
  unfold tk_x
  rw [u_3_k h.2, u_3_k h.1]
theorem tk_7_k {X : MI_} {f r : Nat} {v : Int32} {k i j : Nat} (h : k ≠ 54 ∧ k ≠ 55 ∧ k ≠ 53 ∧ k ≠ 60 ∧ k ≠ 61) : tk_7 X f r v k i j = X k i j := by
  unfold tk_7
  split
  · rfl
  · split
    · rw [u_3_k h.2.2.2.2, u_3_k h.2.2.2.1, u_3_k h.2.2.1, tk_x_k ⟨h.1, h.2.1⟩]
    · exact tk_x_k ⟨h.1, h.2.1⟩
set_option maxHeartbeats 4000000 in
set_option maxRecDepth 100000 in
theorem c_X6_ticks {mi : MI_} {ml : ML_} {mr : MR_} {sh : SH_} (hM : mo_ mr sh) (np : Nat) (hn12 : np ≤ 12) (hpl : pl_ mi np) (hsh : sh_ mi np) (f : Nat) (hf : f < 3) (al r : Nat) (hal : mi 54 0 f = nI al) (hal8 : al < 8) (hor : mi 56 0 f = nI r) (hr9 : r < 100) : hg_Det false yX6_ticks md_X6_ticks [hv_r (some (7, 0)), hv_i (nI f)] (mi, ml, mr, sh) none (tk_m mi ml f al r, tk_l mi ml f al, mr, sh) := by
  intro Q hQ
  refine hg_intro rfl rfl rfl (Nat.le_of_ble_eq_true rfl) rfl ?_
  have s348 : ∀ X T v, X 56 0 f = nI r → Q none (tk_7 X f r v, T, mr, sh) → hg_G md_X6_ticks false sh Q 0 0 348 [some (hv_r (some (7, 0))), some (hv_i (nI f)), none, some (hv_i (mi 48 0 (8 * f + al))), some (hv_i (mi 49 0 (8 * f + al))), some (hv_i (mi 47 0 (8 * f + al))), some (hv_i v), none] [] (X, T, mr, sh) := by
    intro X T v hr hq
    refine hg_iload (n := 350) dX6_ticks_348 rfl rfl ?_
    refine hg_if_eq (n := 353) (tgt := 416) dX6_ticks_350 rfl (by decide) (fun h350 => ?_) (fun h350 => ?_)
    · refine hg_return dX6_ticks_416 rfl ?_
      unfold tk_7 at hq
      try unfold tk_x at hq
      rw [if_pos h350] at hq
      exact hq
    · refine hg_aload_n (n := 354) dX6_ticks_353 rfl rfl ?_
      refine hg_getR (n := 357) (r := some (54, 0)) dX6_ticks_354 rfl fl_X6_114 rfl rfl (mo_s hM) (mo_r hM 24 (by decide)) ?_
      refine hg_iload_n (n := 358) dX6_ticks_357 rfl rfl ?_
      refine hg_dup2 (n := 359) dX6_ticks_358 rfl rfl rfl ?_
      refine hg_iaload (n := 360) (len := 3) (f) dX6_ticks_359 rfl (by decide) rfl (mo_a hM 24 (by decide)) rfl (by omega) (by decide) ?_
      refine hg_iconst (n := 361) (v := 1) dX6_ticks_360 rfl (by decide) ?_
      refine hg_iadd (n := 362) dX6_ticks_361 rfl ?_
      refine hg_iastore (n := 363) (len := 3) (f) dX6_ticks_362 rfl (by decide) rfl (mo_a hM 24 (by decide)) rfl (by omega) (by decide) ?_
      refine hg_aload_n (n := 364) dX6_ticks_363 rfl rfl ?_
      refine hg_getR (n := 367) (r := some (55, 0)) dX6_ticks_364 rfl fl_X6_117 rfl rfl (mo_s hM) (mo_r hM 25 (by decide)) ?_
      refine hg_iload_n (n := 368) dX6_ticks_367 rfl rfl ?_
      refine hg_iconst (n := 369) (v := 0) dX6_ticks_368 rfl (by decide) ?_
      refine hg_iastore (n := 370) (len := 3) (f) dX6_ticks_369 rfl (by decide) rfl (mo_a hM 25 (by decide)) rfl (by omega) (by decide) ?_
      refine hg_aload_n (n := 371) dX6_ticks_370 rfl rfl ?_
      refine hg_getR (n := 374) (r := some (54, 0)) dX6_ticks_371 rfl fl_X6_114 rfl rfl (mo_s hM) (mo_r hM 24 (by decide)) ?_
      refine hg_iload_n (n := 375) dX6_ticks_374 rfl rfl ?_
      refine hg_iaload (n := 376) (len := 3) (f) dX6_ticks_375 rfl (by decide) rfl (mo_a hM 24 (by decide)) rfl (by omega) (by decide) ?_
      refine hg_aload_n (n := 377) dX6_ticks_376 rfl rfl ?_
      refine hg_getR (n := 380) (r := some (46, 0)) dX6_ticks_377 rfl fl_X6_89 rfl rfl (mo_s hM) (mo_r hM 16 (by decide)) ?_
      refine hg_iload_n (n := 381) dX6_ticks_380 rfl rfl ?_
      refine hg_iaload (n := 382) (len := 3) (f) dX6_ticks_381 rfl (by decide) rfl (mo_a hM 16 (by decide)) rfl (by omega) (by decide) ?_
      refine hg_icmp_ne (n := 385) (tgt := 416) dX6_ticks_382 rfl (by decide) (fun h382 => ?_) (fun h382 => ?_)
      · refine hg_return dX6_ticks_416 rfl ?_
        unfold tk_7 at hq
        try unfold tk_x at hq
        rw [if_neg h350, if_neg h382] at hq
        exact hq
      · refine hg_aload_n (n := 386) dX6_ticks_385 rfl rfl ?_
        refine hg_getR (n := 389) (r := some (53, 0)) dX6_ticks_386 rfl fl_X6_111 rfl rfl (mo_s hM) (mo_r hM 23 (by decide)) ?_
        refine hg_iload_n (n := 390) dX6_ticks_389 rfl rfl ?_
        refine hg_iconst (n := 391) (v := 0) dX6_ticks_390 rfl (by decide) ?_
        refine hg_bastore (n := 392) (len := 3) (f) dX6_ticks_391 rfl (by decide) rfl (by decide) (mo_a hM 23 (by decide)) rfl (by omega) (by decide) ?_
        have hr3 : u_3 (tk_x X f) 53 0 f 0 56 0 f = nI r := (u_3_k (by decide)).trans ((tk_x_k (by decide)).trans hr)
        refine hg_aload_n (n := 393) dX6_ticks_392 rfl rfl ?_
        refine hg_getR (n := 396) (r := some (60, 0)) dX6_ticks_393 rfl fl_X6_129 rfl rfl (mo_s hM) (mo_r hM 30 (by decide)) ?_
        refine hg_aload_n (n := 397) dX6_ticks_396 rfl rfl ?_
        refine hg_getR (n := 400) (r := some (56, 0)) dX6_ticks_397 rfl fl_X6_120 rfl rfl (mo_s hM) (mo_r hM 26 (by decide)) ?_
        refine hg_iload_n (n := 401) dX6_ticks_400 rfl rfl ?_
        refine hg_ialoadN (n := 402) (len := 3) (r) (f) dX6_ticks_401 rfl (by decide) rfl (mo_a hM 26 (by decide)) rfl (by omega) (by decide) hr3 ?_
        refine hg_iconst (n := 403) (v := 1) dX6_ticks_402 rfl (by decide) ?_
        refine hg_bastore (n := 404) (len := 100) (r) dX6_ticks_403 rfl (by decide) rfl (by decide) (mo_a hM 30 (by decide)) rfl (by omega) (by decide) ?_
        have hr4 : u_3 (u_3 (tk_x X f) 53 0 f 0) 60 0 r 1 56 0 f = nI r := (u_3_k (by decide)).trans hr3
        refine hg_aload_n (n := 405) dX6_ticks_404 rfl rfl ?_
        refine hg_getR (n := 408) (r := some (61, 0)) dX6_ticks_405 rfl fl_X6_132 rfl rfl (mo_s hM) (mo_r hM 31 (by decide)) ?_
        refine hg_aload_n (n := 409) dX6_ticks_408 rfl rfl ?_
        refine hg_getR (n := 412) (r := some (56, 0)) dX6_ticks_409 rfl fl_X6_120 rfl rfl (mo_s hM) (mo_r hM 26 (by decide)) ?_
        refine hg_iload_n (n := 413) dX6_ticks_412 rfl rfl ?_
        refine hg_ialoadN (n := 414) (len := 3) (r) (f) dX6_ticks_413 rfl (by decide) rfl (mo_a hM 26 (by decide)) rfl (by omega) (by decide) hr4 ?_
        refine hg_iconst (n := 415) (v := 1) dX6_ticks_414 rfl (by decide) ?_
        refine hg_bastore (n := 416) (len := 100) (r) dX6_ticks_415 rfl (by decide) rfl (by decide) (mo_a hM 31 (by decide)) rfl (by omega) (by decide) ?_
        refine hg_return dX6_ticks_416 rfl ?_
        unfold tk_7 at hq
        try unfold tk_x at hq
        rw [if_neg h350, if_pos h382] at hq
        exact hq
  have s320 : ∀ X T v, X 56 0 f = nI r → Q none (tk_7 X f r (tk_6 X f (mi 49 0 (8 * f + al)) (mi 47 0 (8 * f + al)) v), T, mr, sh) → hg_G md_X6_ticks false sh Q 0 0 320 [some (hv_r (some (7, 0))), some (hv_i (nI f)), none, some (hv_i (mi 48 0 (8 * f + al))), some (hv_i (mi 49 0 (8 * f + al))), some (hv_i (mi 47 0 (8 * f + al))), some (hv_i v), none] [] (X, T, mr, sh) := by
    intro X T v hr hq
    refine hg_iload (n := 322) dX6_ticks_320 rfl rfl ?_
    refine hg_if_ne (n := 325) (tgt := 341) dX6_ticks_322 rfl (by decide) (fun h322 => ?_) (fun h322 => ?_)
    · refine hg_iconst (n := 342) (v := 1) dX6_ticks_341 rfl (by decide) ?_
      refine hg_goto (tgt := 346) dX6_ticks_342 (by decide) ?_
      refine hg_topI (z := tk_6 X f (mi 49 0 (8 * f + al)) (mi 47 0 (8 * f + al)) v) (by unfold tk_6; rw [if_neg h322]) ?_
      refine hg_istore (n := 348) dX6_ticks_346 rfl (by decide) rfl rfl ?_
      exact s348 X T _ hr hq
    · refine hg_iload (n := 327) dX6_ticks_325 rfl rfl ?_
      refine hg_if_le (n := 330) (tgt := 345) dX6_ticks_327 rfl (by decide) (fun h327 => ?_) (fun h327 => ?_)
      · refine hg_iconst (n := 346) (v := 0) dX6_ticks_345 rfl (by decide) ?_
        refine hg_topI (z := tk_6 X f (mi 49 0 (8 * f + al)) (mi 47 0 (8 * f + al)) v) (by unfold tk_6; rw [if_pos h322, if_pos h327]) ?_
        refine hg_istore (n := 348) dX6_ticks_346 rfl (by decide) rfl rfl ?_
        exact s348 X T _ hr hq
      · refine hg_aload_n (n := 331) dX6_ticks_330 rfl rfl ?_
        refine hg_getR (n := 334) (r := some (55, 0)) dX6_ticks_331 rfl fl_X6_117 rfl rfl (mo_s hM) (mo_r hM 25 (by decide)) ?_
        refine hg_iload_n (n := 335) dX6_ticks_334 rfl rfl ?_
        refine hg_iaload (n := 336) (len := 3) (f) dX6_ticks_335 rfl (by decide) rfl (mo_a hM 25 (by decide)) rfl (by omega) (by decide) ?_
        refine hg_iload (n := 338) dX6_ticks_336 rfl rfl ?_
        refine hg_icmp_ne (n := 341) (tgt := 345) dX6_ticks_338 rfl (by decide) (fun h338 => ?_) (fun h338 => ?_)
        · refine hg_iconst (n := 346) (v := 0) dX6_ticks_345 rfl (by decide) ?_
          refine hg_topI (z := tk_6 X f (mi 49 0 (8 * f + al)) (mi 47 0 (8 * f + al)) v) (by unfold tk_6; rw [if_pos h322, if_neg h327, if_neg h338]) ?_
          refine hg_istore (n := 348) dX6_ticks_346 rfl (by decide) rfl rfl ?_
          exact s348 X T _ hr hq
        · refine hg_iconst (n := 342) (v := 1) dX6_ticks_341 rfl (by decide) ?_
          refine hg_goto (tgt := 346) dX6_ticks_342 (by decide) ?_
          refine hg_topI (z := tk_6 X f (mi 49 0 (8 * f + al)) (mi 47 0 (8 * f + al)) v) (by unfold tk_6; rw [if_pos h322, if_neg h327, if_pos h338]) ?_
          refine hg_istore (n := 348) dX6_ticks_346 rfl (by decide) rfl rfl ?_
          exact s348 X T _ hr hq
  have s220 : ∀ X T v, X 56 0 f = nI r → pl_ X np → sh_ X np → Q none (tk_7 (tk_5 X f r (mi 48 0 (8 * f + al)) (mi 47 0 (8 * f + al))) f r (tk_6 (tk_5 X f r (mi 48 0 (8 * f + al)) (mi 47 0 (8 * f + al))) f (mi 49 0 (8 * f + al)) (mi 47 0 (8 * f + al)) v), T, mr, sh) → hg_G md_X6_ticks false sh Q 0 0 220 [some (hv_r (some (7, 0))), some (hv_i (nI f)), none, some (hv_i (mi 48 0 (8 * f + al))), some (hv_i (mi 49 0 (8 * f + al))), some (hv_i (mi 47 0 (8 * f + al))), some (hv_i v), none] [] (X, T, mr, sh) := by
    intro X T v hr hpl hsh hq
    refine hg_iload (n := 222) dX6_ticks_220 rfl rfl ?_
    refine hg_iconst (n := 223) (v := 1) dX6_ticks_222 rfl (by decide) ?_
    refine hg_icmp_ne (n := 226) (tgt := 304) dX6_ticks_223 rfl (by decide) (fun h223 => ?_) (fun h223 => ?_)
    · refine hg_iload (n := 306) dX6_ticks_304 rfl rfl ?_
      refine hg_iconst (n := 307) (v := 1) dX6_ticks_306 rfl (by decide) ?_
      refine hg_icmp_le (n := 310) (tgt := 320) dX6_ticks_307 rfl (by decide) (fun h307 => ?_) (fun h307 => ?_)
      · refine s320 _ T v (by first | exact hr | exact (u_3_k (by decide)).trans hr) ?_
        unfold tk_5 at hq
        rw [if_neg h223, if_pos h307] at hq
        exact hq
      · refine hg_aload_n (n := 311) dX6_ticks_310 rfl rfl ?_
        refine hg_getR (n := 314) (r := some (55, 0)) dX6_ticks_311 rfl fl_X6_117 rfl rfl (mo_s hM) (mo_r hM 25 (by decide)) ?_
        refine hg_iload_n (n := 315) dX6_ticks_314 rfl rfl ?_
        refine hg_dup2 (n := 316) dX6_ticks_315 rfl rfl rfl ?_
        refine hg_iaload (n := 317) (len := 3) (f) dX6_ticks_316 rfl (by decide) rfl (mo_a hM 25 (by decide)) rfl (by omega) (by decide) ?_
        refine hg_iconst (n := 318) (v := 1) dX6_ticks_317 rfl (by decide) ?_
        refine hg_iadd (n := 319) dX6_ticks_318 rfl ?_
        refine hg_iastore (n := 320) (len := 3) (f) dX6_ticks_319 rfl (by decide) rfl (mo_a hM 25 (by decide)) rfl (by omega) (by decide) ?_
        refine s320 _ T v (by first | exact hr | exact (u_3_k (by decide)).trans hr) ?_
        unfold tk_5 at hq
        rw [if_neg h223, if_neg h307] at hq
        exact hq
    · have hr1 : (u_3 X 55 0 f (X 55 0 f + (if la_ X f (mi 48 0 (8 * f + al) - 100) ≤ 0 then 0 else 1))) 56 0 f = nI r := (u_3_k (by decide)).trans hr
      have s300 : ∀ x, x = (if (u_3 X 55 0 f (X 55 0 f + (if la_ X f (mi 48 0 (8 * f + al) - 100) ≤ 0 then 0 else 1))) 62 0 r = 0 then (if la_ X f (mi 48 0 (8 * f + al) - 100) = 1 then (if lo_ (u_3 X 55 0 f (X 55 0 f + (if la_ X f (mi 48 0 (8 * f + al) - 100) ≤ 0 then 0 else 1))) f 4 ≤ 1 then 0 else 1) else 0) else 1) → (x = 0 ∨ x = 1) → hg_G md_X6_ticks false sh Q 0 0 300 [some (hv_r (some (7, 0))), some (hv_i (nI f)), none, some (hv_i (mi 48 0 (8 * f + al))), some (hv_i (mi 49 0 (8 * f + al))), some (hv_i (mi 47 0 (8 * f + al))), some (hv_i v), some (hv_i (la_ X f (mi 48 0 (8 * f + al) - 100)))] [hv_i x, hv_i (nI r), hv_r (some (62, 0))] (u_3 X 55 0 f (X 55 0 f + (if la_ X f (mi 48 0 (8 * f + al) - 100) ≤ 0 then 0 else 1)), T, mr, sh) := by
        intro x hx hx01
        refine hg_bastore (n := 301) (len := 100) (r) dX6_ticks_300 rfl (by decide) rfl hx01 (mo_a hM 32 (by decide)) rfl (by omega) (by decide) ?_
        refine hg_goto (tgt := 320) dX6_ticks_301 (by decide) ?_
        refine hg_ls (s320 _ T v ((u_3_k (by decide)).trans ((u_3_k (by decide)).trans hr)) ?_) ⟨rfl, rfl, rfl, rfl, rfl, rfl, trivial⟩
        subst hx
        unfold tk_5 at hq
        rw [if_pos h223] at hq
        exact hq
      refine hg_aload_n (n := 227) dX6_ticks_226 rfl rfl ?_
      refine hg_iload_n (n := 228) dX6_ticks_227 rfl rfl ?_
      refine hg_iload_n (n := 229) dX6_ticks_228 rfl rfl ?_
      refine hg_bipush (n := 231) (v := 100) dX6_ticks_229 rfl (by decide) ?_
      refine hg_isub (n := 232) dX6_ticks_231 rfl ?_
      refine hg_callVd (n := 235) (c_X6_liveAt hM np hn12 hpl hsh (f) (by omega) _) dX6_ticks_232 rfl mk_X6_168 yl_X6_liveAt yv_X6_liveAt rfl (mo_s hM) (by decide) (by decide) rfl rfl (Nat.le_of_ble_eq_true rfl) (fun h => by cases h) ?_
      refine hg_istore (n := 237) dX6_ticks_235 rfl (by decide) rfl rfl ?_
      refine hg_aload_n (n := 238) dX6_ticks_237 rfl rfl ?_
      refine hg_getR (n := 241) (r := some (55, 0)) dX6_ticks_238 rfl fl_X6_117 rfl rfl (mo_s hM) (mo_r hM 25 (by decide)) ?_
      refine hg_iload_n (n := 242) dX6_ticks_241 rfl rfl ?_
      refine hg_dup2 (n := 243) dX6_ticks_242 rfl rfl rfl ?_
      refine hg_iaload (n := 244) (len := 3) (f) dX6_ticks_243 rfl (by decide) rfl (mo_a hM 25 (by decide)) rfl (by omega) (by decide) ?_
      refine hg_iload (n := 246) dX6_ticks_244 rfl rfl ?_
      refine hg_if_le (n := 249) (tgt := 253) dX6_ticks_246 rfl (by decide) (fun h246 => ?_) (fun h246 => ?_)
      · refine hg_iconst (n := 254) (v := 0) dX6_ticks_253 rfl (by decide) ?_
        refine hg_topI (z := (if la_ X f (mi 48 0 (8 * f + al) - 100) ≤ 0 then 0 else 1)) (by rw [if_pos h246]) ?_
        refine hg_iadd (n := 255) dX6_ticks_254 rfl ?_
        refine hg_iastore (n := 256) (len := 3) (f) dX6_ticks_255 rfl (by decide) rfl (mo_a hM 25 (by decide)) rfl (by omega) (by decide) ?_
        refine hg_aload_n (n := 257) dX6_ticks_256 rfl rfl ?_
        refine hg_getR (n := 260) (r := some (62, 0)) dX6_ticks_257 rfl fl_X6_135 rfl rfl (mo_s hM) (mo_r hM 32 (by decide)) ?_
        refine hg_aload_n (n := 261) dX6_ticks_260 rfl rfl ?_
        refine hg_getR (n := 264) (r := some (56, 0)) dX6_ticks_261 rfl fl_X6_120 rfl rfl (mo_s hM) (mo_r hM 26 (by decide)) ?_
        refine hg_iload_n (n := 265) dX6_ticks_264 rfl rfl ?_
        refine hg_ialoadN (n := 266) (len := 3) (r) (f) dX6_ticks_265 rfl (by decide) rfl (mo_a hM 26 (by decide)) rfl (by omega) (by decide) hr1 ?_
        refine hg_aload_n (n := 267) dX6_ticks_266 rfl rfl ?_
        refine hg_getR (n := 270) (r := some (62, 0)) dX6_ticks_267 rfl fl_X6_135 rfl rfl (mo_s hM) (mo_r hM 32 (by decide)) ?_
        refine hg_aload_n (n := 271) dX6_ticks_270 rfl rfl ?_
        refine hg_getR (n := 274) (r := some (56, 0)) dX6_ticks_271 rfl fl_X6_120 rfl rfl (mo_s hM) (mo_r hM 26 (by decide)) ?_
        refine hg_iload_n (n := 275) dX6_ticks_274 rfl rfl ?_
        refine hg_ialoadN (n := 276) (len := 3) (r) (f) dX6_ticks_275 rfl (by decide) rfl (mo_a hM 26 (by decide)) rfl (by omega) (by decide) hr1 ?_
        refine hg_baload (n := 277) (len := 100) (r) dX6_ticks_276 rfl (by decide) rfl (mo_a hM 32 (by decide)) rfl (by omega) (by decide) ?_
        refine hg_if_ne (n := 280) (tgt := 295) dX6_ticks_277 rfl (by decide) (fun h277 => ?_) (fun h277 => ?_)
        · refine hg_iconst (n := 296) (v := 1) dX6_ticks_295 rfl (by decide) ?_
          refine hg_goto (tgt := 300) dX6_ticks_296 (by decide) ?_
          exact s300 _ (by rw [if_neg h277]) (by decide)
        · refine hg_iload (n := 282) dX6_ticks_280 rfl rfl ?_
          refine hg_iconst (n := 283) (v := 1) dX6_ticks_282 rfl (by decide) ?_
          refine hg_icmp_ne (n := 286) (tgt := 299) dX6_ticks_283 rfl (by decide) (fun h283 => ?_) (fun h283 => ?_)
          · refine hg_iconst (n := 300) (v := 0) dX6_ticks_299 rfl (by decide) ?_
            exact s300 _ (by rw [if_pos h277, if_neg h283]) (by decide)
          · refine hg_aload_n (n := 287) dX6_ticks_286 rfl rfl ?_
            refine hg_iload_n (n := 288) dX6_ticks_287 rfl rfl ?_
            refine hg_callVd (n := 291) (c_X6_loadOf hM (f) (by omega)) dX6_ticks_288 rfl mk_X6_162 yl_X6_loadOf yv_X6_loadOf rfl (mo_s hM) (by decide) (by decide) rfl rfl (Nat.le_of_ble_eq_true rfl) (fun h => by cases h) ?_
            refine hg_iconst (n := 292) (v := 1) dX6_ticks_291 rfl (by decide) ?_
            refine hg_icmp_le (n := 295) (tgt := 299) dX6_ticks_292 rfl (by decide) (fun h292 => ?_) (fun h292 => ?_)
            · refine hg_iconst (n := 300) (v := 0) dX6_ticks_299 rfl (by decide) ?_
              exact s300 _ (by rw [if_pos h277, if_pos h283, if_pos h292]) (by decide)
            · refine hg_iconst (n := 296) (v := 1) dX6_ticks_295 rfl (by decide) ?_
              refine hg_goto (tgt := 300) dX6_ticks_296 (by decide) ?_
              exact s300 _ (by rw [if_pos h277, if_pos h283, if_neg h292]) (by decide)
      · refine hg_iconst (n := 250) (v := 1) dX6_ticks_249 rfl (by decide) ?_
        refine hg_goto (tgt := 254) dX6_ticks_250 (by decide) ?_
        refine hg_topI (z := (if la_ X f (mi 48 0 (8 * f + al) - 100) ≤ 0 then 0 else 1)) (by rw [if_neg h246]) ?_
        refine hg_iadd (n := 255) dX6_ticks_254 rfl ?_
        refine hg_iastore (n := 256) (len := 3) (f) dX6_ticks_255 rfl (by decide) rfl (mo_a hM 25 (by decide)) rfl (by omega) (by decide) ?_
        refine hg_aload_n (n := 257) dX6_ticks_256 rfl rfl ?_
        refine hg_getR (n := 260) (r := some (62, 0)) dX6_ticks_257 rfl fl_X6_135 rfl rfl (mo_s hM) (mo_r hM 32 (by decide)) ?_
        refine hg_aload_n (n := 261) dX6_ticks_260 rfl rfl ?_
        refine hg_getR (n := 264) (r := some (56, 0)) dX6_ticks_261 rfl fl_X6_120 rfl rfl (mo_s hM) (mo_r hM 26 (by decide)) ?_
        refine hg_iload_n (n := 265) dX6_ticks_264 rfl rfl ?_
        refine hg_ialoadN (n := 266) (len := 3) (r) (f) dX6_ticks_265 rfl (by decide) rfl (mo_a hM 26 (by decide)) rfl (by omega) (by decide) hr1 ?_
        refine hg_aload_n (n := 267) dX6_ticks_266 rfl rfl ?_
        refine hg_getR (n := 270) (r := some (62, 0)) dX6_ticks_267 rfl fl_X6_135 rfl rfl (mo_s hM) (mo_r hM 32 (by decide)) ?_
        refine hg_aload_n (n := 271) dX6_ticks_270 rfl rfl ?_
        refine hg_getR (n := 274) (r := some (56, 0)) dX6_ticks_271 rfl fl_X6_120 rfl rfl (mo_s hM) (mo_r hM 26 (by decide)) ?_
        refine hg_iload_n (n := 275) dX6_ticks_274 rfl rfl ?_
        refine hg_ialoadN (n := 276) (len := 3) (r) (f) dX6_ticks_275 rfl (by decide) rfl (mo_a hM 26 (by decide)) rfl (by omega) (by decide) hr1 ?_
        refine hg_baload (n := 277) (len := 100) (r) dX6_ticks_276 rfl (by decide) rfl (mo_a hM 32 (by decide)) rfl (by omega) (by decide) ?_
        refine hg_if_ne (n := 280) (tgt := 295) dX6_ticks_277 rfl (by decide) (fun h277 => ?_) (fun h277 => ?_)
        · refine hg_iconst (n := 296) (v := 1) dX6_ticks_295 rfl (by decide) ?_
          refine hg_goto (tgt := 300) dX6_ticks_296 (by decide) ?_
          exact s300 _ (by rw [if_neg h277]) (by decide)
        · refine hg_iload (n := 282) dX6_ticks_280 rfl rfl ?_
          refine hg_iconst (n := 283) (v := 1) dX6_ticks_282 rfl (by decide) ?_
          refine hg_icmp_ne (n := 286) (tgt := 299) dX6_ticks_283 rfl (by decide) (fun h283 => ?_) (fun h283 => ?_)
          · refine hg_iconst (n := 300) (v := 0) dX6_ticks_299 rfl (by decide) ?_
            exact s300 _ (by rw [if_pos h277, if_neg h283]) (by decide)
          · refine hg_aload_n (n := 287) dX6_ticks_286 rfl rfl ?_
            refine hg_iload_n (n := 288) dX6_ticks_287 rfl rfl ?_
            refine hg_callVd (n := 291) (c_X6_loadOf hM (f) (by omega)) dX6_ticks_288 rfl mk_X6_162 yl_X6_loadOf yv_X6_loadOf rfl (mo_s hM) (by decide) (by decide) rfl rfl (Nat.le_of_ble_eq_true rfl) (fun h => by cases h) ?_
            refine hg_iconst (n := 292) (v := 1) dX6_ticks_291 rfl (by decide) ?_
            refine hg_icmp_le (n := 295) (tgt := 299) dX6_ticks_292 rfl (by decide) (fun h292 => ?_) (fun h292 => ?_)
            · refine hg_iconst (n := 300) (v := 0) dX6_ticks_299 rfl (by decide) ?_
              exact s300 _ (by rw [if_pos h277, if_pos h283, if_pos h292]) (by decide)
            · refine hg_iconst (n := 296) (v := 1) dX6_ticks_295 rfl (by decide) ?_
              refine hg_goto (tgt := 300) dX6_ticks_296 (by decide) ?_
              exact s300 _ (by rw [if_pos h277, if_pos h283, if_neg h292]) (by decide)
  have s183 : ∀ X T, X 56 0 f = nI r → pl_ X np → sh_ X np → Q none (tk_e (u_3 X 64 0 r (X 64 0 r + 1)) f r (mi 48 0 (8 * f + al)) (mi 49 0 (8 * f + al)) (mi 47 0 (8 * f + al)), T, mr, sh) → hg_G md_X6_ticks false sh Q 0 0 183 [some (hv_r (some (7, 0))), some (hv_i (nI f)), none, some (hv_i (mi 48 0 (8 * f + al))), some (hv_i (mi 49 0 (8 * f + al))), some (hv_i (mi 47 0 (8 * f + al))), none, none] [] (X, T, mr, sh) := by
    intro X T hr hpl hsh hq
    refine hg_aload_n (n := 184) dX6_ticks_183 rfl rfl ?_
    refine hg_getR (n := 187) (r := some (64, 0)) dX6_ticks_184 rfl fl_X6_141 rfl rfl (mo_s hM) (mo_r hM 34 (by decide)) ?_
    refine hg_aload_n (n := 188) dX6_ticks_187 rfl rfl ?_
    refine hg_getR (n := 191) (r := some (56, 0)) dX6_ticks_188 rfl fl_X6_120 rfl rfl (mo_s hM) (mo_r hM 26 (by decide)) ?_
    refine hg_iload_n (n := 192) dX6_ticks_191 rfl rfl ?_
    refine hg_ialoadN (n := 193) (len := 3) (r) (f) dX6_ticks_192 rfl (by decide) rfl (mo_a hM 26 (by decide)) rfl (by omega) (by decide) hr ?_
    refine hg_dup2 (n := 194) dX6_ticks_193 rfl rfl rfl ?_
    refine hg_iaload (n := 195) (len := 100) (r) dX6_ticks_194 rfl (by decide) rfl (mo_a hM 34 (by decide)) rfl (by omega) (by decide) ?_
    refine hg_iconst (n := 196) (v := 1) dX6_ticks_195 rfl (by decide) ?_
    refine hg_iadd (n := 197) dX6_ticks_196 rfl ?_
    refine hg_iastore (n := 198) (len := 100) (r) dX6_ticks_197 rfl (by decide) rfl (mo_a hM 34 (by decide)) rfl (by omega) (by decide) ?_
    refine hg_iload (n := 200) dX6_ticks_198 rfl rfl ?_
    refine hg_if_ne (n := 203) (tgt := 217) dX6_ticks_200 rfl (by decide) (fun h200 => ?_) (fun h200 => ?_)
    · refine hg_iconst (n := 218) (v := 0) dX6_ticks_217 rfl (by decide) ?_
      refine hg_topI (z := tk_o (u_3 X 64 0 r (X 64 0 r + 1)) f (mi 48 0 (8 * f + al)) (mi 47 0 (8 * f + al))) (by unfold tk_o; rw [if_neg h200]) ?_
      refine hg_istore (n := 220) dX6_ticks_218 rfl (by decide) rfl rfl ?_
      exact s220 _ T _ ((u_3_k (by decide)).trans hr) (fun j h1 h2 => by rw [u_3_k (by decide)] at h2 ⊢; exact hpl j h1 h2) (fun q h1 => by rw [u_3_k (by decide)]; exact hsh q h1) hq
    · refine hg_aload_n (n := 204) dX6_ticks_203 rfl rfl ?_
      refine hg_getR (n := 207) (r := some (44, 0)) dX6_ticks_204 rfl fl_X6_83 rfl rfl (mo_s hM) (mo_r hM 14 (by decide)) ?_
      refine hg_iload_n (n := 208) dX6_ticks_207 rfl rfl ?_
      refine hg_iaload (n := 209) (len := 3) (f) dX6_ticks_208 rfl (by decide) rfl (mo_a hM 14 (by decide)) rfl (by omega) (by decide) ?_
      refine hg_iload_n (n := 210) dX6_ticks_209 rfl rfl ?_
      refine hg_icmp_ne (n := 213) (tgt := 217) dX6_ticks_210 rfl (by decide) (fun h210 => ?_) (fun h210 => ?_)
      · refine hg_iconst (n := 218) (v := 0) dX6_ticks_217 rfl (by decide) ?_
        refine hg_topI (z := tk_o (u_3 X 64 0 r (X 64 0 r + 1)) f (mi 48 0 (8 * f + al)) (mi 47 0 (8 * f + al))) (by unfold tk_o; rw [if_pos h200, if_neg h210]) ?_
        refine hg_istore (n := 220) dX6_ticks_218 rfl (by decide) rfl rfl ?_
        exact s220 _ T _ ((u_3_k (by decide)).trans hr) (fun j h1 h2 => by rw [u_3_k (by decide)] at h2 ⊢; exact hpl j h1 h2) (fun q h1 => by rw [u_3_k (by decide)]; exact hsh q h1) hq
      · refine hg_iconst (n := 214) (v := 1) dX6_ticks_213 rfl (by decide) ?_
        refine hg_goto (tgt := 218) dX6_ticks_214 (by decide) ?_
        refine hg_topI (z := tk_o (u_3 X 64 0 r (X 64 0 r + 1)) f (mi 48 0 (8 * f + al)) (mi 47 0 (8 * f + al))) (by unfold tk_o; rw [if_pos h200, if_pos h210]) ?_
        refine hg_istore (n := 220) dX6_ticks_218 rfl (by decide) rfl rfl ?_
        exact s220 _ T _ ((u_3_k (by decide)).trans hr) (fun j h1 h2 => by rw [u_3_k (by decide)] at h2 ⊢; exact hpl j h1 h2) (fun q h1 => by rw [u_3_k (by decide)]; exact hsh q h1) hq
  have l132 : ∀ m c, c + m = 4 → hg_G md_X6_ticks false sh Q 0 0 132 [some (hv_r (some (7, 0))), some (hv_i (nI f)), none, some (hv_i (mi 48 0 (8 * f + al))), some (hv_i (mi 49 0 (8 * f + al))), some (hv_i (mi 47 0 (8 * f + al))), some (hv_i (nI (4 * f + c))), none] [] ((tk_p (tk_g mi f (8 * f + al)) ml f c).1, (tk_p (tk_g mi f (8 * f + al)) ml f c).2, mr, sh) := by
    intro m
    induction m with
    | zero =>
      intro c hc
      refine hg_iload (n := 134) dX6_ticks_132 rfl rfl ?_
      refine hg_iconst (n := 135) (v := 4) dX6_ticks_134 rfl (by decide) ?_
      refine hg_iload_n (n := 136) dX6_ticks_135 rfl rfl ?_
      refine hg_imulN (n := 137) (4) (f) dX6_ticks_136 rfl ?_
      refine hg_iconst (n := 138) (v := 4) dX6_ticks_137 rfl (by decide) ?_
      refine hg_iaddN (n := 139) (4 * f) (4) dX6_ticks_138 rfl ?_
      refine hg_icmp_geN (n := 142) (tgt := 183) (4 * f + c) ((4 * f) + 4) dX6_ticks_139 rfl (by decide) (by omega) (by omega) (fun h139 => ?_) (fun h139 => ?_)
      · have e := show c = 4 by omega
        subst e
        refine hg_ls (s183 _ _ (((tk_p_k (by decide) 4).trans (tk_g_k (by decide))).trans hor) (fun j h1 h2 => ?_) (fun q h1 => ?_) hQ) ⟨rfl, rfl, rfl, rfl, rfl, trivial⟩
        · rw [(tk_p_k (by decide) 4).trans (tk_g_k (by decide))] at h2 ⊢; exact hpl j h1 h2
        · rw [(tk_p_k (by decide) 4).trans (tk_g_k (by decide))]; exact hsh q h1
      · exact absurd h139 (by omega)
    | succ m ih =>
      intro c hc
      refine hg_iload (n := 134) dX6_ticks_132 rfl rfl ?_
      refine hg_iconst (n := 135) (v := 4) dX6_ticks_134 rfl (by decide) ?_
      refine hg_iload_n (n := 136) dX6_ticks_135 rfl rfl ?_
      refine hg_imulN (n := 137) (4) (f) dX6_ticks_136 rfl ?_
      refine hg_iconst (n := 138) (v := 4) dX6_ticks_137 rfl (by decide) ?_
      refine hg_iaddN (n := 139) (4 * f) (4) dX6_ticks_138 rfl ?_
      refine hg_icmp_geN (n := 142) (tgt := 183) (4 * f + c) ((4 * f) + 4) dX6_ticks_139 rfl (by decide) (by omega) (by omega) (fun h139 => ?_) (fun h139 => ?_)
      · exact absurd h139 (by omega)
      · refine hg_aload_n (n := 143) dX6_ticks_142 rfl rfl ?_
        refine hg_getR (n := 146) (r := some (50, 0)) dX6_ticks_143 rfl fl_X6_101 rfl rfl (mo_s hM) (mo_r hM 20 (by decide)) ?_
        refine hg_iload (n := 148) dX6_ticks_146 rfl rfl ?_
        refine hg_iaload (n := 149) (len := 12) (4 * f + c) dX6_ticks_148 rfl (by decide) rfl (mo_a hM 20 (by decide)) rfl (by omega) (by decide) ?_
        refine hg_iconst (n := 150) (v := -1) dX6_ticks_149 rfl (by decide) ?_
        refine hg_icmp_eq (n := 153) (tgt := 177) dX6_ticks_150 rfl (by decide) (fun h150 => ?_) (fun h150 => ?_)
        · refine hg_iincN (n := 180) (4 * f + c) 1 dX6_ticks_177 rfl rfl (by decide) (by decide) rfl rfl ?_
          refine hg_goto (tgt := 132) dX6_ticks_180 (by decide) ?_
          refine hg_memo ?_ (ih (c + 1) (by omega))
          rw [tk_p, if_pos h150]
        · have e50 : (tk_p (tk_g mi f (8 * f + al)) ml f c).1 50 0 (4 * f + c) = mi 50 0 (4 * f + c) := (tk_p_k (by decide) c).trans (tk_g_k (by decide))
          obtain ⟨p, hp, hpj⟩ := hpl (4 * f + c) (by omega) (by rw [← e50]; exact h150)
          obtain ⟨n, hn1, hn6, hnp⟩ := hsh p hp
          have hpj2 := e50.trans hpj
          have hnp2 : (tk_p (tk_g mi f (8 * f + al)) ml f c).1 31 0 p = nI n := ((tk_p_k (by decide) c).trans (tk_g_k (by decide))).trans hnp
          refine hg_aload_n (n := 154) dX6_ticks_153 rfl rfl ?_
          refine hg_aload_n (n := 155) dX6_ticks_154 rfl rfl ?_
          refine hg_getR (n := 158) (r := some (50, 0)) dX6_ticks_155 rfl fl_X6_101 rfl rfl (mo_s hM) (mo_r hM 20 (by decide)) ?_
          refine hg_iload (n := 160) dX6_ticks_158 rfl rfl ?_
          refine hg_ialoadN (n := 161) (len := 12) (p) (4 * f + c) dX6_ticks_160 rfl (by decide) rfl (mo_a hM 20 (by decide)) rfl (by omega) (by decide) hpj2 ?_
          refine hg_aload_n (n := 162) dX6_ticks_161 rfl rfl ?_
          refine hg_getR (n := 165) (r := some (44, 0)) dX6_ticks_162 rfl fl_X6_83 rfl rfl (mo_s hM) (mo_r hM 14 (by decide)) ?_
          refine hg_iload_n (n := 166) dX6_ticks_165 rfl rfl ?_
          refine hg_iaload (n := 167) (len := 3) (f) dX6_ticks_166 rfl (by decide) rfl (mo_a hM 14 (by decide)) rfl (by omega) (by decide) ?_
          refine hg_aload_n (n := 168) dX6_ticks_167 rfl rfl ?_
          refine hg_getR (n := 171) (r := some (45, 0)) dX6_ticks_168 rfl fl_X6_86 rfl rfl (mo_s hM) (mo_r hM 15 (by decide)) ?_
          refine hg_iload_n (n := 172) dX6_ticks_171 rfl rfl ?_
          refine hg_iaload (n := 173) (len := 3) (f) dX6_ticks_172 rfl (by decide) rfl (mo_a hM 15 (by decide)) rfl (by omega) (by decide) ?_
          refine hg_iadd (n := 174) dX6_ticks_173 rfl ?_
          refine hg_callVd (n := 177) (c_X6_steps hM (p) n _ (by omega) hnp2 (by omega) (by omega)) dX6_ticks_174 rfl mk_X6_64 yl_X6_steps yv_X6_steps rfl (mo_s hM) (by decide) (by decide) rfl rfl (Nat.le_of_ble_eq_true rfl) (fun h => by cases h) ?_
          refine hg_iincN (n := 180) (4 * f + c) 1 dX6_ticks_177 rfl rfl (by decide) (by decide) rfl rfl ?_
          refine hg_goto (tgt := 132) dX6_ticks_180 (by decide) ?_
          refine hg_memo ?_ (ih (c + 1) (by omega))
          rw [tk_p, if_neg h150, hpj2, nI_clamp (by omega), hnp2, nI_clamp (by omega)]
  have s127 : ∀ X, X = tk_g mi f (8 * f + al) → hg_G md_X6_ticks false sh Q 0 0 127 [some (hv_r (some (7, 0))), some (hv_i (nI f)), none, some (hv_i (mi 48 0 (8 * f + al))), some (hv_i (mi 49 0 (8 * f + al))), some (hv_i (mi 47 0 (8 * f + al))), none, none] [] (X, ml, mr, sh) := by
    intro X hX
    refine hg_iconst (n := 128) (v := 4) dX6_ticks_127 rfl (by decide) ?_
    refine hg_iload_n (n := 129) dX6_ticks_128 rfl rfl ?_
    refine hg_imulN (n := 130) (4) (f) dX6_ticks_129 rfl ?_
    refine hg_istore (n := 132) dX6_ticks_130 rfl (by decide) rfl rfl ?_
    subst hX
    exact l132 4 0 (by omega)
  have s110 : mi 47 0 (8 * f + al) = 0 → ∀ x, x = (if mi 48 0 (8 * f + al) ≤ mi 44 0 f then (if mi 44 0 f - mi 49 0 (8 * f + al) ≤ mi 48 0 (8 * f + al) then mi 48 0 (8 * f + al) else mi 44 0 f - mi 49 0 (8 * f + al)) else (if mi 48 0 (8 * f + al) ≤ mi 44 0 f + mi 49 0 (8 * f + al) then mi 48 0 (8 * f + al) else mi 44 0 f + mi 49 0 (8 * f + al))) → hg_G md_X6_ticks false sh Q 0 0 110 [some (hv_r (some (7, 0))), some (hv_i (nI f)), none, some (hv_i (mi 48 0 (8 * f + al))), some (hv_i (mi 49 0 (8 * f + al))), some (hv_i (mi 47 0 (8 * f + al))), none, none] [hv_i x, hv_i (nI f), hv_r (some (44, 0))] (mi, ml, mr, sh) := by
    intro h0 x hx
    refine hg_iastore (n := 111) (len := 3) (f) dX6_ticks_110 rfl (by decide) rfl (mo_a hM 14 (by decide)) rfl (by omega) (by decide) ?_
    refine hg_goto (tgt := 127) dX6_ticks_111 (by decide) ?_
    exact s127 _ (by unfold tk_g; rw [if_pos h0, hx])
  refine hg_bipush (n := 2) (v := 8) dX6_ticks_0 rfl (by decide) ?_
  refine hg_iload_n (n := 3) dX6_ticks_2 rfl rfl ?_
  refine hg_imulN (n := 4) (8) (f) dX6_ticks_3 rfl ?_
  refine hg_aload_n (n := 5) dX6_ticks_4 rfl rfl ?_
  refine hg_getR (n := 8) (r := some (54, 0)) dX6_ticks_5 rfl fl_X6_114 rfl rfl (mo_s hM) (mo_r hM 24 (by decide)) ?_
  refine hg_iload_n (n := 9) dX6_ticks_8 rfl rfl ?_
  refine hg_ialoadN (n := 10) (len := 3) (al) (f) dX6_ticks_9 rfl (by decide) rfl (mo_a hM 24 (by decide)) rfl (by omega) (by decide) hal ?_
  refine hg_iaddN (n := 11) (8 * f) (al) dX6_ticks_10 rfl ?_
  refine hg_istore_n (n := 12) dX6_ticks_11 rfl (by decide) rfl rfl ?_
  refine hg_aload_n (n := 13) dX6_ticks_12 rfl rfl ?_
  refine hg_getR (n := 16) (r := some (48, 0)) dX6_ticks_13 rfl fl_X6_95 rfl rfl (mo_s hM) (mo_r hM 18 (by decide)) ?_
  refine hg_iload_n (n := 17) dX6_ticks_16 rfl rfl ?_
  refine hg_iaload (n := 18) (len := 24) ((8 * f) + al) dX6_ticks_17 rfl (by decide) rfl (mo_a hM 18 (by decide)) rfl (by omega) (by decide) ?_
  refine hg_istore_n (n := 19) dX6_ticks_18 rfl (by decide) rfl rfl ?_
  refine hg_aload_n (n := 20) dX6_ticks_19 rfl rfl ?_
  refine hg_getR (n := 23) (r := some (49, 0)) dX6_ticks_20 rfl fl_X6_98 rfl rfl (mo_s hM) (mo_r hM 19 (by decide)) ?_
  refine hg_iload_n (n := 24) dX6_ticks_23 rfl rfl ?_
  refine hg_iaload (n := 25) (len := 24) ((8 * f) + al) dX6_ticks_24 rfl (by decide) rfl (mo_a hM 19 (by decide)) rfl (by omega) (by decide) ?_
  refine hg_istore (n := 27) dX6_ticks_25 rfl (by decide) rfl rfl ?_
  refine hg_aload_n (n := 28) dX6_ticks_27 rfl rfl ?_
  refine hg_getR (n := 31) (r := some (47, 0)) dX6_ticks_28 rfl fl_X6_92 rfl rfl (mo_s hM) (mo_r hM 17 (by decide)) ?_
  refine hg_iload_n (n := 32) dX6_ticks_31 rfl rfl ?_
  refine hg_iaload (n := 33) (len := 24) ((8 * f) + al) dX6_ticks_32 rfl (by decide) rfl (mo_a hM 17 (by decide)) rfl (by omega) (by decide) ?_
  refine hg_istore (n := 35) dX6_ticks_33 rfl (by decide) rfl rfl ?_
  refine hg_iload (n := 37) dX6_ticks_35 rfl rfl ?_
  refine hg_if_ne (n := 40) (tgt := 114) dX6_ticks_37 rfl (by decide) (fun h37 => ?_) (fun h37 => ?_)
  · refine hg_iload (n := 116) dX6_ticks_114 rfl rfl ?_
    refine hg_iconst (n := 117) (v := 3) dX6_ticks_116 rfl (by decide) ?_
    refine hg_icmp_ge (n := 120) (tgt := 127) dX6_ticks_117 rfl (by decide) (fun h117 => ?_) (fun h117 => ?_)
    · exact hg_ls (s127 _ (by unfold tk_g; rw [if_neg h37, if_pos h117])) ⟨rfl, rfl, rfl, rfl, rfl, trivial⟩
    · refine hg_aload_n (n := 121) dX6_ticks_120 rfl rfl ?_
      refine hg_getR (n := 124) (r := some (44, 0)) dX6_ticks_121 rfl fl_X6_83 rfl rfl (mo_s hM) (mo_r hM 14 (by decide)) ?_
      refine hg_iload_n (n := 125) dX6_ticks_124 rfl rfl ?_
      refine hg_iload_n (n := 126) dX6_ticks_125 rfl rfl ?_
      refine hg_iastore (n := 127) (len := 3) (f) dX6_ticks_126 rfl (by decide) rfl (mo_a hM 14 (by decide)) rfl (by omega) (by decide) ?_
      exact hg_ls (s127 _ (by unfold tk_g; rw [if_neg h37, if_neg h117])) ⟨rfl, rfl, rfl, rfl, rfl, trivial⟩
  · refine hg_aload_n (n := 41) dX6_ticks_40 rfl rfl ?_
    refine hg_getR (n := 44) (r := some (44, 0)) dX6_ticks_41 rfl fl_X6_83 rfl rfl (mo_s hM) (mo_r hM 14 (by decide)) ?_
    refine hg_iload_n (n := 45) dX6_ticks_44 rfl rfl ?_
    refine hg_aload_n (n := 46) dX6_ticks_45 rfl rfl ?_
    refine hg_getR (n := 49) (r := some (44, 0)) dX6_ticks_46 rfl fl_X6_83 rfl rfl (mo_s hM) (mo_r hM 14 (by decide)) ?_
    refine hg_iload_n (n := 50) dX6_ticks_49 rfl rfl ?_
    refine hg_iaload (n := 51) (len := 3) (f) dX6_ticks_50 rfl (by decide) rfl (mo_a hM 14 (by decide)) rfl (by omega) (by decide) ?_
    refine hg_iload_n (n := 52) dX6_ticks_51 rfl rfl ?_
    refine hg_icmp_ge (n := 55) (tgt := 84) dX6_ticks_52 rfl (by decide) (fun h52 => ?_) (fun h52 => ?_)
    · refine hg_aload_n (n := 85) dX6_ticks_84 rfl rfl ?_
      refine hg_getR (n := 88) (r := some (44, 0)) dX6_ticks_85 rfl fl_X6_83 rfl rfl (mo_s hM) (mo_r hM 14 (by decide)) ?_
      refine hg_iload_n (n := 89) dX6_ticks_88 rfl rfl ?_
      refine hg_iaload (n := 90) (len := 3) (f) dX6_ticks_89 rfl (by decide) rfl (mo_a hM 14 (by decide)) rfl (by omega) (by decide) ?_
      refine hg_iload (n := 92) dX6_ticks_90 rfl rfl ?_
      refine hg_isub (n := 93) dX6_ticks_92 rfl ?_
      refine hg_iload_n (n := 94) dX6_ticks_93 rfl rfl ?_
      refine hg_icmp_le (n := 97) (tgt := 109) dX6_ticks_94 rfl (by decide) (fun h94 => ?_) (fun h94 => ?_)
      · refine hg_iload_n (n := 110) dX6_ticks_109 rfl rfl ?_
        exact hg_ls (s110 h37 _ (by rw [if_pos h52, if_pos h94])) ⟨rfl, rfl, rfl, rfl, rfl, trivial⟩
      · refine hg_aload_n (n := 98) dX6_ticks_97 rfl rfl ?_
        refine hg_getR (n := 101) (r := some (44, 0)) dX6_ticks_98 rfl fl_X6_83 rfl rfl (mo_s hM) (mo_r hM 14 (by decide)) ?_
        refine hg_iload_n (n := 102) dX6_ticks_101 rfl rfl ?_
        refine hg_iaload (n := 103) (len := 3) (f) dX6_ticks_102 rfl (by decide) rfl (mo_a hM 14 (by decide)) rfl (by omega) (by decide) ?_
        refine hg_iload (n := 105) dX6_ticks_103 rfl rfl ?_
        refine hg_isub (n := 106) dX6_ticks_105 rfl ?_
        refine hg_goto (tgt := 110) dX6_ticks_106 (by decide) ?_
        exact hg_ls (s110 h37 _ (by rw [if_pos h52, if_neg h94])) ⟨rfl, rfl, rfl, rfl, rfl, trivial⟩
    · refine hg_aload_n (n := 56) dX6_ticks_55 rfl rfl ?_
      refine hg_getR (n := 59) (r := some (44, 0)) dX6_ticks_56 rfl fl_X6_83 rfl rfl (mo_s hM) (mo_r hM 14 (by decide)) ?_
      refine hg_iload_n (n := 60) dX6_ticks_59 rfl rfl ?_
      refine hg_iaload (n := 61) (len := 3) (f) dX6_ticks_60 rfl (by decide) rfl (mo_a hM 14 (by decide)) rfl (by omega) (by decide) ?_
      refine hg_iload (n := 63) dX6_ticks_61 rfl rfl ?_
      refine hg_iadd (n := 64) dX6_ticks_63 rfl ?_
      refine hg_iload_n (n := 65) dX6_ticks_64 rfl rfl ?_
      refine hg_icmp_ge (n := 68) (tgt := 80) dX6_ticks_65 rfl (by decide) (fun h65 => ?_) (fun h65 => ?_)
      · refine hg_iload_n (n := 81) dX6_ticks_80 rfl rfl ?_
        refine hg_goto (tgt := 110) dX6_ticks_81 (by decide) ?_
        exact hg_ls (s110 h37 _ (by rw [if_neg h52, if_pos h65])) ⟨rfl, rfl, rfl, rfl, rfl, trivial⟩
      · refine hg_aload_n (n := 69) dX6_ticks_68 rfl rfl ?_
        refine hg_getR (n := 72) (r := some (44, 0)) dX6_ticks_69 rfl fl_X6_83 rfl rfl (mo_s hM) (mo_r hM 14 (by decide)) ?_
        refine hg_iload_n (n := 73) dX6_ticks_72 rfl rfl ?_
        refine hg_iaload (n := 74) (len := 3) (f) dX6_ticks_73 rfl (by decide) rfl (mo_a hM 14 (by decide)) rfl (by omega) (by decide) ?_
        refine hg_iload (n := 76) dX6_ticks_74 rfl rfl ?_
        refine hg_iadd (n := 77) dX6_ticks_76 rfl ?_
        refine hg_goto (tgt := 110) dX6_ticks_77 (by decide) ?_
        exact hg_ls (s110 h37 _ (by rw [if_neg h52, if_neg h65])) ⟨rfl, rfl, rfl, rfl, rfl, trivial⟩

