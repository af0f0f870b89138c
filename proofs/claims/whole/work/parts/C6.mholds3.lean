/-! ===== holds, the sign (printed by program: gen47.py) ===== -/
def cmpI (g q bt x y : Int) : Int := if g = 1 then q else if g = 2 then 1 - q else if bt = 0 then 0 else if g = 3 then (if x ≤ y then 1 else 0) else if g = 4 then (if y ≤ x then 1 else 0) else if g = 5 then (if x < y then 1 else 0) else (if y < x then 1 else 0)
theorem jn_ho_s {β : Bool} {d : Nat} {h : jx_H} {τ : mS} (hl : 49 ≤ h.length) {A B : Int → Prop} (hA : mIx A) (hB : mIx B) {s e nn : Int} {c5 : Option Value} {a b g q bt x y : Int} (hs : 0 ≤ s ∧ s < 144) (e22 : τ 22 s = g) (hg : 1 ≤ g ∧ g ≤ 6) (hq : 0 ≤ q ∧ q ≤ 1) (hbt : 0 ≤ bt ∧ bt ≤ 1) (hx : mr x) (hy : mr y) : ∀ res, jx_r (jz β) jw_M (d + 2) 270 (361, [some (.ref 15), some (.int (Int32.ofInt (s))), some (.int (Int32.ofInt (e))), some (.int (Int32.ofInt (nn))), some (.int (Int32.ofInt (a))), some (.int (Int32.ofInt (cmpI g q bt x y))), some (.int (Int32.ofInt (b))), some (.int (Int32.ofInt (q))), some (.int (Int32.ofInt (bt))), some (.int (Int32.ofInt (x))), some (.int (Int32.ofInt (y))), some (.int (Int32.ofInt (g)))], [], ml_mk h τ) res → jx_r (jz β) jw_M (d + 2) 270 (256, [some (.ref 15), some (.int (Int32.ofInt (s))), some (.int (Int32.ofInt (e))), some (.int (Int32.ofInt (nn))), some (.int (Int32.ofInt (a))), c5, some (.int (Int32.ofInt (b))), some (.int (Int32.ofInt (q))), some (.int (Int32.ofInt (bt))), some (.int (Int32.ofInt (x))), some (.int (Int32.ofInt (y))), none], [], ml_mk h τ) res := by
  intro res kk
  obtain ⟨s0, s1⟩ := hs
  obtain ⟨g0, g1⟩ := hg
  obtain ⟨q0, q1⟩ := hq
  obtain ⟨t0, t1⟩ := hbt
  obtain hg | hg | hg : g = 1 ∨ g = 2 ∨ 3 ≤ g := by omega
  · skip
    have hcm : cmpI g q bt x y = q := by
      unfold cmpI
      repeat' split
      all_goals omega
    rw [hcm] at kk
    refine jr_1 jm_270 (show jw_cd cd_270 256 = some (.aload_n 0) by decide +kernel) rfl ?_
    refine jr_1 jm_270 (show jw_cd cd_270 257 = some (.getfield 62) by decide +kernel) (mg_a hl (a := 33) (show jw_fld 34 62 16 = some 22 by decide +kernel) (by decide) (by decide)) ?_
    refine jr_1 jm_270 (show jw_cd cd_270 260 = some (.iload_n 1) by decide +kernel) rfl ?_
    refine jr_1 jm_270 (show jw_cd cd_270 261 = some (.iaload) by decide +kernel) (ma_i hl (i := s) (e := g) 22 (by omega) (by show _ < ((144 : Nat) : Int); omega) e22 (by decide) (by decide) (by decide)) ?_
    refine jr_1 jm_270 (F2 := (264, [some (.ref 15), some (.int (Int32.ofInt (s))), some (.int (Int32.ofInt (e))), some (.int (Int32.ofInt (nn))), some (.int (Int32.ofInt (a))), c5, some (.int (Int32.ofInt (b))), some (.int (Int32.ofInt (q))), some (.int (Int32.ofInt (bt))), some (.int (Int32.ofInt (x))), some (.int (Int32.ofInt (y))), some (.int (Int32.ofInt (g)))], [], ml_mk h τ)) (show jw_cd cd_270 262 = some (.istore 11) by decide +kernel) rfl ?_
    refine jr_1 jm_270 (show jw_cd cd_270 264 = some (.iload 11) by decide +kernel) rfl ?_
    refine jr_1 jm_270 (show jw_cd cd_270 266 = some (.iconst 1) by decide +kernel) rfl ?_
    refine jr_1 jm_270 (show jw_cd cd_270 267 = some (.if_icmp .ne 8) by decide +kernel) (mb_f (q := .ne) (a := g) (b := 1) (by show ¬ (¬ (g = 1)); omega) ⟨by omega, by omega⟩ ⟨by omega, by omega⟩ (by decide)) ?_
    refine jr_1 jm_270 (show jw_cd cd_270 270 = some (.iload 7) by decide +kernel) rfl ?_
    refine jr_1 jm_270 (show jw_cd cd_270 272 = some (.goto 87) by decide +kernel) (ju_go (t := 359) (by decide)) ?_
    refine jr_1 jm_270 (F2 := (361, [some (.ref 15), some (.int (Int32.ofInt (s))), some (.int (Int32.ofInt (e))), some (.int (Int32.ofInt (nn))), some (.int (Int32.ofInt (a))), some (.int (Int32.ofInt (q))), some (.int (Int32.ofInt (b))), some (.int (Int32.ofInt (q))), some (.int (Int32.ofInt (bt))), some (.int (Int32.ofInt (x))), some (.int (Int32.ofInt (y))), some (.int (Int32.ofInt (g)))], [], ml_mk h τ)) (show jw_cd cd_270 359 = some (.istore 5) by decide +kernel) rfl ?_
    exact kk
  · obtain hq | hq : q = 1 ∨ q = 0 := by omega
    · skip
      have hcm : cmpI g q bt x y = 0 := by
        unfold cmpI
        repeat' split
        all_goals omega
      rw [hcm] at kk
      refine jr_1 jm_270 (show jw_cd cd_270 256 = some (.aload_n 0) by decide +kernel) rfl ?_
      refine jr_1 jm_270 (show jw_cd cd_270 257 = some (.getfield 62) by decide +kernel) (mg_a hl (a := 33) (show jw_fld 34 62 16 = some 22 by decide +kernel) (by decide) (by decide)) ?_
      refine jr_1 jm_270 (show jw_cd cd_270 260 = some (.iload_n 1) by decide +kernel) rfl ?_
      refine jr_1 jm_270 (show jw_cd cd_270 261 = some (.iaload) by decide +kernel) (ma_i hl (i := s) (e := g) 22 (by omega) (by show _ < ((144 : Nat) : Int); omega) e22 (by decide) (by decide) (by decide)) ?_
      refine jr_1 jm_270 (F2 := (264, [some (.ref 15), some (.int (Int32.ofInt (s))), some (.int (Int32.ofInt (e))), some (.int (Int32.ofInt (nn))), some (.int (Int32.ofInt (a))), c5, some (.int (Int32.ofInt (b))), some (.int (Int32.ofInt (q))), some (.int (Int32.ofInt (bt))), some (.int (Int32.ofInt (x))), some (.int (Int32.ofInt (y))), some (.int (Int32.ofInt (g)))], [], ml_mk h τ)) (show jw_cd cd_270 262 = some (.istore 11) by decide +kernel) rfl ?_
      refine jr_1 jm_270 (show jw_cd cd_270 264 = some (.iload 11) by decide +kernel) rfl ?_
      refine jr_1 jm_270 (show jw_cd cd_270 266 = some (.iconst 1) by decide +kernel) rfl ?_
      refine jr_1 jm_270 (show jw_cd cd_270 267 = some (.if_icmp .ne 8) by decide +kernel) (mb_t (q := .ne) (a := g) (b := 1) (t := 275) (by show ¬ (g = 1); omega) ⟨by omega, by omega⟩ ⟨by omega, by omega⟩ (by decide) (by decide)) ?_
      refine jr_1 jm_270 (show jw_cd cd_270 275 = some (.iload 11) by decide +kernel) rfl ?_
      refine jr_1 jm_270 (show jw_cd cd_270 277 = some (.iconst 2) by decide +kernel) rfl ?_
      refine jr_1 jm_270 (show jw_cd cd_270 278 = some (.if_icmp .ne 16) by decide +kernel) (mb_f (q := .ne) (a := g) (b := 2) (by show ¬ (¬ (g = 2)); omega) ⟨by omega, by omega⟩ ⟨by omega, by omega⟩ (by decide)) ?_
      refine jr_1 jm_270 (show jw_cd cd_270 281 = some (.iload 7) by decide +kernel) rfl ?_
      refine jr_1 jm_270 (show jw_cd cd_270 283 = some (.ifCond .ne 7) by decide +kernel) (mz_t (q := .ne) (a := q) (t := 290) (by show ¬ (q = 0); omega) ⟨by omega, by omega⟩ (by decide) (by decide)) ?_
      refine jr_1 jm_270 (show jw_cd cd_270 290 = some (.iconst 0) by decide +kernel) rfl ?_
      refine jr_1 jm_270 (show jw_cd cd_270 291 = some (.goto 68) by decide +kernel) (ju_go (t := 359) (by decide)) ?_
      refine jr_1 jm_270 (F2 := (361, [some (.ref 15), some (.int (Int32.ofInt (s))), some (.int (Int32.ofInt (e))), some (.int (Int32.ofInt (nn))), some (.int (Int32.ofInt (a))), some (.int (Int32.ofInt (0))), some (.int (Int32.ofInt (b))), some (.int (Int32.ofInt (q))), some (.int (Int32.ofInt (bt))), some (.int (Int32.ofInt (x))), some (.int (Int32.ofInt (y))), some (.int (Int32.ofInt (g)))], [], ml_mk h τ)) (show jw_cd cd_270 359 = some (.istore 5) by decide +kernel) rfl ?_
      exact kk
    · skip
      have hcm : cmpI g q bt x y = 1 := by
        unfold cmpI
        repeat' split
        all_goals omega
      rw [hcm] at kk
      refine jr_1 jm_270 (show jw_cd cd_270 256 = some (.aload_n 0) by decide +kernel) rfl ?_
      refine jr_1 jm_270 (show jw_cd cd_270 257 = some (.getfield 62) by decide +kernel) (mg_a hl (a := 33) (show jw_fld 34 62 16 = some 22 by decide +kernel) (by decide) (by decide)) ?_
      refine jr_1 jm_270 (show jw_cd cd_270 260 = some (.iload_n 1) by decide +kernel) rfl ?_
      refine jr_1 jm_270 (show jw_cd cd_270 261 = some (.iaload) by decide +kernel) (ma_i hl (i := s) (e := g) 22 (by omega) (by show _ < ((144 : Nat) : Int); omega) e22 (by decide) (by decide) (by decide)) ?_
      refine jr_1 jm_270 (F2 := (264, [some (.ref 15), some (.int (Int32.ofInt (s))), some (.int (Int32.ofInt (e))), some (.int (Int32.ofInt (nn))), some (.int (Int32.ofInt (a))), c5, some (.int (Int32.ofInt (b))), some (.int (Int32.ofInt (q))), some (.int (Int32.ofInt (bt))), some (.int (Int32.ofInt (x))), some (.int (Int32.ofInt (y))), some (.int (Int32.ofInt (g)))], [], ml_mk h τ)) (show jw_cd cd_270 262 = some (.istore 11) by decide +kernel) rfl ?_
      refine jr_1 jm_270 (show jw_cd cd_270 264 = some (.iload 11) by decide +kernel) rfl ?_
      refine jr_1 jm_270 (show jw_cd cd_270 266 = some (.iconst 1) by decide +kernel) rfl ?_
      refine jr_1 jm_270 (show jw_cd cd_270 267 = some (.if_icmp .ne 8) by decide +kernel) (mb_t (q := .ne) (a := g) (b := 1) (t := 275) (by show ¬ (g = 1); omega) ⟨by omega, by omega⟩ ⟨by omega, by omega⟩ (by decide) (by decide)) ?_
      refine jr_1 jm_270 (show jw_cd cd_270 275 = some (.iload 11) by decide +kernel) rfl ?_
      refine jr_1 jm_270 (show jw_cd cd_270 277 = some (.iconst 2) by decide +kernel) rfl ?_
      refine jr_1 jm_270 (show jw_cd cd_270 278 = some (.if_icmp .ne 16) by decide +kernel) (mb_f (q := .ne) (a := g) (b := 2) (by show ¬ (¬ (g = 2)); omega) ⟨by omega, by omega⟩ ⟨by omega, by omega⟩ (by decide)) ?_
      refine jr_1 jm_270 (show jw_cd cd_270 281 = some (.iload 7) by decide +kernel) rfl ?_
      refine jr_1 jm_270 (show jw_cd cd_270 283 = some (.ifCond .ne 7) by decide +kernel) (mz_f (q := .ne) (a := q) (by show ¬ (¬ (q = 0)); omega) ⟨by omega, by omega⟩ (by decide)) ?_
      refine jr_1 jm_270 (show jw_cd cd_270 286 = some (.iconst 1) by decide +kernel) rfl ?_
      refine jr_1 jm_270 (show jw_cd cd_270 287 = some (.goto 72) by decide +kernel) (ju_go (t := 359) (by decide)) ?_
      refine jr_1 jm_270 (F2 := (361, [some (.ref 15), some (.int (Int32.ofInt (s))), some (.int (Int32.ofInt (e))), some (.int (Int32.ofInt (nn))), some (.int (Int32.ofInt (a))), some (.int (Int32.ofInt (1))), some (.int (Int32.ofInt (b))), some (.int (Int32.ofInt (q))), some (.int (Int32.ofInt (bt))), some (.int (Int32.ofInt (x))), some (.int (Int32.ofInt (y))), some (.int (Int32.ofInt (g)))], [], ml_mk h τ)) (show jw_cd cd_270 359 = some (.istore 5) by decide +kernel) rfl ?_
      exact kk
  obtain hb | hb : bt = 0 ∨ bt = 1 := by omega
  · skip
    have hcm : cmpI g q bt x y = 0 := by
      unfold cmpI
      repeat' split
      all_goals omega
    rw [hcm] at kk
    refine jr_1 jm_270 (show jw_cd cd_270 256 = some (.aload_n 0) by decide +kernel) rfl ?_
    refine jr_1 jm_270 (show jw_cd cd_270 257 = some (.getfield 62) by decide +kernel) (mg_a hl (a := 33) (show jw_fld 34 62 16 = some 22 by decide +kernel) (by decide) (by decide)) ?_
    refine jr_1 jm_270 (show jw_cd cd_270 260 = some (.iload_n 1) by decide +kernel) rfl ?_
    refine jr_1 jm_270 (show jw_cd cd_270 261 = some (.iaload) by decide +kernel) (ma_i hl (i := s) (e := g) 22 (by omega) (by show _ < ((144 : Nat) : Int); omega) e22 (by decide) (by decide) (by decide)) ?_
    refine jr_1 jm_270 (F2 := (264, [some (.ref 15), some (.int (Int32.ofInt (s))), some (.int (Int32.ofInt (e))), some (.int (Int32.ofInt (nn))), some (.int (Int32.ofInt (a))), c5, some (.int (Int32.ofInt (b))), some (.int (Int32.ofInt (q))), some (.int (Int32.ofInt (bt))), some (.int (Int32.ofInt (x))), some (.int (Int32.ofInt (y))), some (.int (Int32.ofInt (g)))], [], ml_mk h τ)) (show jw_cd cd_270 262 = some (.istore 11) by decide +kernel) rfl ?_
    refine jr_1 jm_270 (show jw_cd cd_270 264 = some (.iload 11) by decide +kernel) rfl ?_
    refine jr_1 jm_270 (show jw_cd cd_270 266 = some (.iconst 1) by decide +kernel) rfl ?_
    refine jr_1 jm_270 (show jw_cd cd_270 267 = some (.if_icmp .ne 8) by decide +kernel) (mb_t (q := .ne) (a := g) (b := 1) (t := 275) (by show ¬ (g = 1); omega) ⟨by omega, by omega⟩ ⟨by omega, by omega⟩ (by decide) (by decide)) ?_
    refine jr_1 jm_270 (show jw_cd cd_270 275 = some (.iload 11) by decide +kernel) rfl ?_
    refine jr_1 jm_270 (show jw_cd cd_270 277 = some (.iconst 2) by decide +kernel) rfl ?_
    refine jr_1 jm_270 (show jw_cd cd_270 278 = some (.if_icmp .ne 16) by decide +kernel) (mb_t (q := .ne) (a := g) (b := 2) (t := 294) (by show ¬ (g = 2); omega) ⟨by omega, by omega⟩ ⟨by omega, by omega⟩ (by decide) (by decide)) ?_
    refine jr_1 jm_270 (show jw_cd cd_270 294 = some (.iload 8) by decide +kernel) rfl ?_
    refine jr_1 jm_270 (show jw_cd cd_270 296 = some (.ifCond .eq 62) by decide +kernel) (mz_t (q := .eq) (a := bt) (t := 358) (by show bt = 0; omega) ⟨by omega, by omega⟩ (by decide) (by decide)) ?_
    refine jr_1 jm_270 (show jw_cd cd_270 358 = some (.iconst 0) by decide +kernel) rfl ?_
    refine jr_1 jm_270 (F2 := (361, [some (.ref 15), some (.int (Int32.ofInt (s))), some (.int (Int32.ofInt (e))), some (.int (Int32.ofInt (nn))), some (.int (Int32.ofInt (a))), some (.int (Int32.ofInt (0))), some (.int (Int32.ofInt (b))), some (.int (Int32.ofInt (q))), some (.int (Int32.ofInt (bt))), some (.int (Int32.ofInt (x))), some (.int (Int32.ofInt (y))), some (.int (Int32.ofInt (g)))], [], ml_mk h τ)) (show jw_cd cd_270 359 = some (.istore 5) by decide +kernel) rfl ?_
    exact kk
  obtain hg | hg | hg | hg : g = 3 ∨ g = 4 ∨ g = 5 ∨ g = 6 := by omega
  · obtain hxy | hxy : x ≤ y ∨ y < x := by omega
    · skip
      have hcm : cmpI g q bt x y = 1 := by
        unfold cmpI
        repeat' split
        all_goals omega
      rw [hcm] at kk
      refine jr_1 jm_270 (show jw_cd cd_270 256 = some (.aload_n 0) by decide +kernel) rfl ?_
      refine jr_1 jm_270 (show jw_cd cd_270 257 = some (.getfield 62) by decide +kernel) (mg_a hl (a := 33) (show jw_fld 34 62 16 = some 22 by decide +kernel) (by decide) (by decide)) ?_
      refine jr_1 jm_270 (show jw_cd cd_270 260 = some (.iload_n 1) by decide +kernel) rfl ?_
      refine jr_1 jm_270 (show jw_cd cd_270 261 = some (.iaload) by decide +kernel) (ma_i hl (i := s) (e := g) 22 (by omega) (by show _ < ((144 : Nat) : Int); omega) e22 (by decide) (by decide) (by decide)) ?_
      refine jr_1 jm_270 (F2 := (264, [some (.ref 15), some (.int (Int32.ofInt (s))), some (.int (Int32.ofInt (e))), some (.int (Int32.ofInt (nn))), some (.int (Int32.ofInt (a))), c5, some (.int (Int32.ofInt (b))), some (.int (Int32.ofInt (q))), some (.int (Int32.ofInt (bt))), some (.int (Int32.ofInt (x))), some (.int (Int32.ofInt (y))), some (.int (Int32.ofInt (g)))], [], ml_mk h τ)) (show jw_cd cd_270 262 = some (.istore 11) by decide +kernel) rfl ?_
      refine jr_1 jm_270 (show jw_cd cd_270 264 = some (.iload 11) by decide +kernel) rfl ?_
      refine jr_1 jm_270 (show jw_cd cd_270 266 = some (.iconst 1) by decide +kernel) rfl ?_
      refine jr_1 jm_270 (show jw_cd cd_270 267 = some (.if_icmp .ne 8) by decide +kernel) (mb_t (q := .ne) (a := g) (b := 1) (t := 275) (by show ¬ (g = 1); omega) ⟨by omega, by omega⟩ ⟨by omega, by omega⟩ (by decide) (by decide)) ?_
      refine jr_1 jm_270 (show jw_cd cd_270 275 = some (.iload 11) by decide +kernel) rfl ?_
      refine jr_1 jm_270 (show jw_cd cd_270 277 = some (.iconst 2) by decide +kernel) rfl ?_
      refine jr_1 jm_270 (show jw_cd cd_270 278 = some (.if_icmp .ne 16) by decide +kernel) (mb_t (q := .ne) (a := g) (b := 2) (t := 294) (by show ¬ (g = 2); omega) ⟨by omega, by omega⟩ ⟨by omega, by omega⟩ (by decide) (by decide)) ?_
      refine jr_1 jm_270 (show jw_cd cd_270 294 = some (.iload 8) by decide +kernel) rfl ?_
      refine jr_1 jm_270 (show jw_cd cd_270 296 = some (.ifCond .eq 62) by decide +kernel) (mz_f (q := .eq) (a := bt) (by show ¬ (bt = 0); omega) ⟨by omega, by omega⟩ (by decide)) ?_
      refine jr_1 jm_270 (show jw_cd cd_270 299 = some (.iload 11) by decide +kernel) rfl ?_
      refine jr_1 jm_270 (show jw_cd cd_270 301 = some (.iconst 3) by decide +kernel) rfl ?_
      refine jr_1 jm_270 (show jw_cd cd_270 302 = some (.if_icmp .ne 13) by decide +kernel) (mb_f (q := .ne) (a := g) (b := 3) (by show ¬ (¬ (g = 3)); omega) ⟨by omega, by omega⟩ ⟨by omega, by omega⟩ (by decide)) ?_
      refine jr_1 jm_270 (show jw_cd cd_270 305 = some (.iload 9) by decide +kernel) rfl ?_
      refine jr_1 jm_270 (show jw_cd cd_270 307 = some (.iload 10) by decide +kernel) rfl ?_
      refine jr_1 jm_270 (show jw_cd cd_270 309 = some (.if_icmp .gt 49) by decide +kernel) (mb_f (q := .gt) (a := x) (b := y) (by show ¬ (y < x); omega) hx hy (by decide)) ?_
      refine jr_1 jm_270 (show jw_cd cd_270 312 = some (.goto 42) by decide +kernel) (ju_go (t := 354) (by decide)) ?_
      refine jr_1 jm_270 (show jw_cd cd_270 354 = some (.iconst 1) by decide +kernel) rfl ?_
      refine jr_1 jm_270 (show jw_cd cd_270 355 = some (.goto 4) by decide +kernel) (ju_go (t := 359) (by decide)) ?_
      refine jr_1 jm_270 (F2 := (361, [some (.ref 15), some (.int (Int32.ofInt (s))), some (.int (Int32.ofInt (e))), some (.int (Int32.ofInt (nn))), some (.int (Int32.ofInt (a))), some (.int (Int32.ofInt (1))), some (.int (Int32.ofInt (b))), some (.int (Int32.ofInt (q))), some (.int (Int32.ofInt (bt))), some (.int (Int32.ofInt (x))), some (.int (Int32.ofInt (y))), some (.int (Int32.ofInt (g)))], [], ml_mk h τ)) (show jw_cd cd_270 359 = some (.istore 5) by decide +kernel) rfl ?_
      exact kk
    · skip
      have hcm : cmpI g q bt x y = 0 := by
        unfold cmpI
        repeat' split
        all_goals omega
      rw [hcm] at kk
      refine jr_1 jm_270 (show jw_cd cd_270 256 = some (.aload_n 0) by decide +kernel) rfl ?_
      refine jr_1 jm_270 (show jw_cd cd_270 257 = some (.getfield 62) by decide +kernel) (mg_a hl (a := 33) (show jw_fld 34 62 16 = some 22 by decide +kernel) (by decide) (by decide)) ?_
      refine jr_1 jm_270 (show jw_cd cd_270 260 = some (.iload_n 1) by decide +kernel) rfl ?_
      refine jr_1 jm_270 (show jw_cd cd_270 261 = some (.iaload) by decide +kernel) (ma_i hl (i := s) (e := g) 22 (by omega) (by show _ < ((144 : Nat) : Int); omega) e22 (by decide) (by decide) (by decide)) ?_
      refine jr_1 jm_270 (F2 := (264, [some (.ref 15), some (.int (Int32.ofInt (s))), some (.int (Int32.ofInt (e))), some (.int (Int32.ofInt (nn))), some (.int (Int32.ofInt (a))), c5, some (.int (Int32.ofInt (b))), some (.int (Int32.ofInt (q))), some (.int (Int32.ofInt (bt))), some (.int (Int32.ofInt (x))), some (.int (Int32.ofInt (y))), some (.int (Int32.ofInt (g)))], [], ml_mk h τ)) (show jw_cd cd_270 262 = some (.istore 11) by decide +kernel) rfl ?_
      refine jr_1 jm_270 (show jw_cd cd_270 264 = some (.iload 11) by decide +kernel) rfl ?_
      refine jr_1 jm_270 (show jw_cd cd_270 266 = some (.iconst 1) by decide +kernel) rfl ?_
      refine jr_1 jm_270 (show jw_cd cd_270 267 = some (.if_icmp .ne 8) by decide +kernel) (mb_t (q := .ne) (a := g) (b := 1) (t := 275) (by show ¬ (g = 1); omega) ⟨by omega, by omega⟩ ⟨by omega, by omega⟩ (by decide) (by decide)) ?_
      refine jr_1 jm_270 (show jw_cd cd_270 275 = some (.iload 11) by decide +kernel) rfl ?_
      refine jr_1 jm_270 (show jw_cd cd_270 277 = some (.iconst 2) by decide +kernel) rfl ?_
      refine jr_1 jm_270 (show jw_cd cd_270 278 = some (.if_icmp .ne 16) by decide +kernel) (mb_t (q := .ne) (a := g) (b := 2) (t := 294) (by show ¬ (g = 2); omega) ⟨by omega, by omega⟩ ⟨by omega, by omega⟩ (by decide) (by decide)) ?_
      refine jr_1 jm_270 (show jw_cd cd_270 294 = some (.iload 8) by decide +kernel) rfl ?_
      refine jr_1 jm_270 (show jw_cd cd_270 296 = some (.ifCond .eq 62) by decide +kernel) (mz_f (q := .eq) (a := bt) (by show ¬ (bt = 0); omega) ⟨by omega, by omega⟩ (by decide)) ?_
      refine jr_1 jm_270 (show jw_cd cd_270 299 = some (.iload 11) by decide +kernel) rfl ?_
      refine jr_1 jm_270 (show jw_cd cd_270 301 = some (.iconst 3) by decide +kernel) rfl ?_
      refine jr_1 jm_270 (show jw_cd cd_270 302 = some (.if_icmp .ne 13) by decide +kernel) (mb_f (q := .ne) (a := g) (b := 3) (by show ¬ (¬ (g = 3)); omega) ⟨by omega, by omega⟩ ⟨by omega, by omega⟩ (by decide)) ?_
      refine jr_1 jm_270 (show jw_cd cd_270 305 = some (.iload 9) by decide +kernel) rfl ?_
      refine jr_1 jm_270 (show jw_cd cd_270 307 = some (.iload 10) by decide +kernel) rfl ?_
      refine jr_1 jm_270 (show jw_cd cd_270 309 = some (.if_icmp .gt 49) by decide +kernel) (mb_t (q := .gt) (a := x) (b := y) (t := 358) (by show y < x; omega) hx hy (by decide) (by decide)) ?_
      refine jr_1 jm_270 (show jw_cd cd_270 358 = some (.iconst 0) by decide +kernel) rfl ?_
      refine jr_1 jm_270 (F2 := (361, [some (.ref 15), some (.int (Int32.ofInt (s))), some (.int (Int32.ofInt (e))), some (.int (Int32.ofInt (nn))), some (.int (Int32.ofInt (a))), some (.int (Int32.ofInt (0))), some (.int (Int32.ofInt (b))), some (.int (Int32.ofInt (q))), some (.int (Int32.ofInt (bt))), some (.int (Int32.ofInt (x))), some (.int (Int32.ofInt (y))), some (.int (Int32.ofInt (g)))], [], ml_mk h τ)) (show jw_cd cd_270 359 = some (.istore 5) by decide +kernel) rfl ?_
      exact kk
  · obtain hxy | hxy : y ≤ x ∨ x < y := by omega
    · skip
      have hcm : cmpI g q bt x y = 1 := by
        unfold cmpI
        repeat' split
        all_goals omega
      rw [hcm] at kk
      refine jr_1 jm_270 (show jw_cd cd_270 256 = some (.aload_n 0) by decide +kernel) rfl ?_
      refine jr_1 jm_270 (show jw_cd cd_270 257 = some (.getfield 62) by decide +kernel) (mg_a hl (a := 33) (show jw_fld 34 62 16 = some 22 by decide +kernel) (by decide) (by decide)) ?_
      refine jr_1 jm_270 (show jw_cd cd_270 260 = some (.iload_n 1) by decide +kernel) rfl ?_
      refine jr_1 jm_270 (show jw_cd cd_270 261 = some (.iaload) by decide +kernel) (ma_i hl (i := s) (e := g) 22 (by omega) (by show _ < ((144 : Nat) : Int); omega) e22 (by decide) (by decide) (by decide)) ?_
      refine jr_1 jm_270 (F2 := (264, [some (.ref 15), some (.int (Int32.ofInt (s))), some (.int (Int32.ofInt (e))), some (.int (Int32.ofInt (nn))), some (.int (Int32.ofInt (a))), c5, some (.int (Int32.ofInt (b))), some (.int (Int32.ofInt (q))), some (.int (Int32.ofInt (bt))), some (.int (Int32.ofInt (x))), some (.int (Int32.ofInt (y))), some (.int (Int32.ofInt (g)))], [], ml_mk h τ)) (show jw_cd cd_270 262 = some (.istore 11) by decide +kernel) rfl ?_
      refine jr_1 jm_270 (show jw_cd cd_270 264 = some (.iload 11) by decide +kernel) rfl ?_
      refine jr_1 jm_270 (show jw_cd cd_270 266 = some (.iconst 1) by decide +kernel) rfl ?_
      refine jr_1 jm_270 (show jw_cd cd_270 267 = some (.if_icmp .ne 8) by decide +kernel) (mb_t (q := .ne) (a := g) (b := 1) (t := 275) (by show ¬ (g = 1); omega) ⟨by omega, by omega⟩ ⟨by omega, by omega⟩ (by decide) (by decide)) ?_
      refine jr_1 jm_270 (show jw_cd cd_270 275 = some (.iload 11) by decide +kernel) rfl ?_
      refine jr_1 jm_270 (show jw_cd cd_270 277 = some (.iconst 2) by decide +kernel) rfl ?_
      refine jr_1 jm_270 (show jw_cd cd_270 278 = some (.if_icmp .ne 16) by decide +kernel) (mb_t (q := .ne) (a := g) (b := 2) (t := 294) (by show ¬ (g = 2); omega) ⟨by omega, by omega⟩ ⟨by omega, by omega⟩ (by decide) (by decide)) ?_
      refine jr_1 jm_270 (show jw_cd cd_270 294 = some (.iload 8) by decide +kernel) rfl ?_
      refine jr_1 jm_270 (show jw_cd cd_270 296 = some (.ifCond .eq 62) by decide +kernel) (mz_f (q := .eq) (a := bt) (by show ¬ (bt = 0); omega) ⟨by omega, by omega⟩ (by decide)) ?_
      refine jr_1 jm_270 (show jw_cd cd_270 299 = some (.iload 11) by decide +kernel) rfl ?_
      refine jr_1 jm_270 (show jw_cd cd_270 301 = some (.iconst 3) by decide +kernel) rfl ?_
      refine jr_1 jm_270 (show jw_cd cd_270 302 = some (.if_icmp .ne 13) by decide +kernel) (mb_t (q := .ne) (a := g) (b := 3) (t := 315) (by show ¬ (g = 3); omega) ⟨by omega, by omega⟩ ⟨by omega, by omega⟩ (by decide) (by decide)) ?_
      refine jr_1 jm_270 (show jw_cd cd_270 315 = some (.iload 11) by decide +kernel) rfl ?_
      refine jr_1 jm_270 (show jw_cd cd_270 317 = some (.iconst 4) by decide +kernel) rfl ?_
      refine jr_1 jm_270 (show jw_cd cd_270 318 = some (.if_icmp .ne 13) by decide +kernel) (mb_f (q := .ne) (a := g) (b := 4) (by show ¬ (¬ (g = 4)); omega) ⟨by omega, by omega⟩ ⟨by omega, by omega⟩ (by decide)) ?_
      refine jr_1 jm_270 (show jw_cd cd_270 321 = some (.iload 9) by decide +kernel) rfl ?_
      refine jr_1 jm_270 (show jw_cd cd_270 323 = some (.iload 10) by decide +kernel) rfl ?_
      refine jr_1 jm_270 (show jw_cd cd_270 325 = some (.if_icmp .lt 33) by decide +kernel) (mb_f (q := .lt) (a := x) (b := y) (by show ¬ (x < y); omega) hx hy (by decide)) ?_
      refine jr_1 jm_270 (show jw_cd cd_270 328 = some (.goto 26) by decide +kernel) (ju_go (t := 354) (by decide)) ?_
      refine jr_1 jm_270 (show jw_cd cd_270 354 = some (.iconst 1) by decide +kernel) rfl ?_
      refine jr_1 jm_270 (show jw_cd cd_270 355 = some (.goto 4) by decide +kernel) (ju_go (t := 359) (by decide)) ?_
      refine jr_1 jm_270 (F2 := (361, [some (.ref 15), some (.int (Int32.ofInt (s))), some (.int (Int32.ofInt (e))), some (.int (Int32.ofInt (nn))), some (.int (Int32.ofInt (a))), some (.int (Int32.ofInt (1))), some (.int (Int32.ofInt (b))), some (.int (Int32.ofInt (q))), some (.int (Int32.ofInt (bt))), some (.int (Int32.ofInt (x))), some (.int (Int32.ofInt (y))), some (.int (Int32.ofInt (g)))], [], ml_mk h τ)) (show jw_cd cd_270 359 = some (.istore 5) by decide +kernel) rfl ?_
      exact kk
    · skip
      have hcm : cmpI g q bt x y = 0 := by
        unfold cmpI
        repeat' split
        all_goals omega
      rw [hcm] at kk
      refine jr_1 jm_270 (show jw_cd cd_270 256 = some (.aload_n 0) by decide +kernel) rfl ?_
      refine jr_1 jm_270 (show jw_cd cd_270 257 = some (.getfield 62) by decide +kernel) (mg_a hl (a := 33) (show jw_fld 34 62 16 = some 22 by decide +kernel) (by decide) (by decide)) ?_
      refine jr_1 jm_270 (show jw_cd cd_270 260 = some (.iload_n 1) by decide +kernel) rfl ?_
      refine jr_1 jm_270 (show jw_cd cd_270 261 = some (.iaload) by decide +kernel) (ma_i hl (i := s) (e := g) 22 (by omega) (by show _ < ((144 : Nat) : Int); omega) e22 (by decide) (by decide) (by decide)) ?_
      refine jr_1 jm_270 (F2 := (264, [some (.ref 15), some (.int (Int32.ofInt (s))), some (.int (Int32.ofInt (e))), some (.int (Int32.ofInt (nn))), some (.int (Int32.ofInt (a))), c5, some (.int (Int32.ofInt (b))), some (.int (Int32.ofInt (q))), some (.int (Int32.ofInt (bt))), some (.int (Int32.ofInt (x))), some (.int (Int32.ofInt (y))), some (.int (Int32.ofInt (g)))], [], ml_mk h τ)) (show jw_cd cd_270 262 = some (.istore 11) by decide +kernel) rfl ?_
      refine jr_1 jm_270 (show jw_cd cd_270 264 = some (.iload 11) by decide +kernel) rfl ?_
      refine jr_1 jm_270 (show jw_cd cd_270 266 = some (.iconst 1) by decide +kernel) rfl ?_
      refine jr_1 jm_270 (show jw_cd cd_270 267 = some (.if_icmp .ne 8) by decide +kernel) (mb_t (q := .ne) (a := g) (b := 1) (t := 275) (by show ¬ (g = 1); omega) ⟨by omega, by omega⟩ ⟨by omega, by omega⟩ (by decide) (by decide)) ?_
      refine jr_1 jm_270 (show jw_cd cd_270 275 = some (.iload 11) by decide +kernel) rfl ?_
      refine jr_1 jm_270 (show jw_cd cd_270 277 = some (.iconst 2) by decide +kernel) rfl ?_
      refine jr_1 jm_270 (show jw_cd cd_270 278 = some (.if_icmp .ne 16) by decide +kernel) (mb_t (q := .ne) (a := g) (b := 2) (t := 294) (by show ¬ (g = 2); omega) ⟨by omega, by omega⟩ ⟨by omega, by omega⟩ (by decide) (by decide)) ?_
      refine jr_1 jm_270 (show jw_cd cd_270 294 = some (.iload 8) by decide +kernel) rfl ?_
      refine jr_1 jm_270 (show jw_cd cd_270 296 = some (.ifCond .eq 62) by decide +kernel) (mz_f (q := .eq) (a := bt) (by show ¬ (bt = 0); omega) ⟨by omega, by omega⟩ (by decide)) ?_
      refine jr_1 jm_270 (show jw_cd cd_270 299 = some (.iload 11) by decide +kernel) rfl ?_
      refine jr_1 jm_270 (show jw_cd cd_270 301 = some (.iconst 3) by decide +kernel) rfl ?_
      refine jr_1 jm_270 (show jw_cd cd_270 302 = some (.if_icmp .ne 13) by decide +kernel) (mb_t (q := .ne) (a := g) (b := 3) (t := 315) (by show ¬ (g = 3); omega) ⟨by omega, by omega⟩ ⟨by omega, by omega⟩ (by decide) (by decide)) ?_
      refine jr_1 jm_270 (show jw_cd cd_270 315 = some (.iload 11) by decide +kernel) rfl ?_
      refine jr_1 jm_270 (show jw_cd cd_270 317 = some (.iconst 4) by decide +kernel) rfl ?_
      refine jr_1 jm_270 (show jw_cd cd_270 318 = some (.if_icmp .ne 13) by decide +kernel) (mb_f (q := .ne) (a := g) (b := 4) (by show ¬ (¬ (g = 4)); omega) ⟨by omega, by omega⟩ ⟨by omega, by omega⟩ (by decide)) ?_
      refine jr_1 jm_270 (show jw_cd cd_270 321 = some (.iload 9) by decide +kernel) rfl ?_
      refine jr_1 jm_270 (show jw_cd cd_270 323 = some (.iload 10) by decide +kernel) rfl ?_
      refine jr_1 jm_270 (show jw_cd cd_270 325 = some (.if_icmp .lt 33) by decide +kernel) (mb_t (q := .lt) (a := x) (b := y) (t := 358) (by show x < y; omega) hx hy (by decide) (by decide)) ?_
      refine jr_1 jm_270 (show jw_cd cd_270 358 = some (.iconst 0) by decide +kernel) rfl ?_
      refine jr_1 jm_270 (F2 := (361, [some (.ref 15), some (.int (Int32.ofInt (s))), some (.int (Int32.ofInt (e))), some (.int (Int32.ofInt (nn))), some (.int (Int32.ofInt (a))), some (.int (Int32.ofInt (0))), some (.int (Int32.ofInt (b))), some (.int (Int32.ofInt (q))), some (.int (Int32.ofInt (bt))), some (.int (Int32.ofInt (x))), some (.int (Int32.ofInt (y))), some (.int (Int32.ofInt (g)))], [], ml_mk h τ)) (show jw_cd cd_270 359 = some (.istore 5) by decide +kernel) rfl ?_
      exact kk
  · obtain hxy | hxy : x < y ∨ y ≤ x := by omega
    · skip
      have hcm : cmpI g q bt x y = 1 := by
        unfold cmpI
        repeat' split
        all_goals omega
      rw [hcm] at kk
      refine jr_1 jm_270 (show jw_cd cd_270 256 = some (.aload_n 0) by decide +kernel) rfl ?_
      refine jr_1 jm_270 (show jw_cd cd_270 257 = some (.getfield 62) by decide +kernel) (mg_a hl (a := 33) (show jw_fld 34 62 16 = some 22 by decide +kernel) (by decide) (by decide)) ?_
      refine jr_1 jm_270 (show jw_cd cd_270 260 = some (.iload_n 1) by decide +kernel) rfl ?_
      refine jr_1 jm_270 (show jw_cd cd_270 261 = some (.iaload) by decide +kernel) (ma_i hl (i := s) (e := g) 22 (by omega) (by show _ < ((144 : Nat) : Int); omega) e22 (by decide) (by decide) (by decide)) ?_
      refine jr_1 jm_270 (F2 := (264, [some (.ref 15), some (.int (Int32.ofInt (s))), some (.int (Int32.ofInt (e))), some (.int (Int32.ofInt (nn))), some (.int (Int32.ofInt (a))), c5, some (.int (Int32.ofInt (b))), some (.int (Int32.ofInt (q))), some (.int (Int32.ofInt (bt))), some (.int (Int32.ofInt (x))), some (.int (Int32.ofInt (y))), some (.int (Int32.ofInt (g)))], [], ml_mk h τ)) (show jw_cd cd_270 262 = some (.istore 11) by decide +kernel) rfl ?_
      refine jr_1 jm_270 (show jw_cd cd_270 264 = some (.iload 11) by decide +kernel) rfl ?_
      refine jr_1 jm_270 (show jw_cd cd_270 266 = some (.iconst 1) by decide +kernel) rfl ?_
      refine jr_1 jm_270 (show jw_cd cd_270 267 = some (.if_icmp .ne 8) by decide +kernel) (mb_t (q := .ne) (a := g) (b := 1) (t := 275) (by show ¬ (g = 1); omega) ⟨by omega, by omega⟩ ⟨by omega, by omega⟩ (by decide) (by decide)) ?_
      refine jr_1 jm_270 (show jw_cd cd_270 275 = some (.iload 11) by decide +kernel) rfl ?_
      refine jr_1 jm_270 (show jw_cd cd_270 277 = some (.iconst 2) by decide +kernel) rfl ?_
      refine jr_1 jm_270 (show jw_cd cd_270 278 = some (.if_icmp .ne 16) by decide +kernel) (mb_t (q := .ne) (a := g) (b := 2) (t := 294) (by show ¬ (g = 2); omega) ⟨by omega, by omega⟩ ⟨by omega, by omega⟩ (by decide) (by decide)) ?_
      refine jr_1 jm_270 (show jw_cd cd_270 294 = some (.iload 8) by decide +kernel) rfl ?_
      refine jr_1 jm_270 (show jw_cd cd_270 296 = some (.ifCond .eq 62) by decide +kernel) (mz_f (q := .eq) (a := bt) (by show ¬ (bt = 0); omega) ⟨by omega, by omega⟩ (by decide)) ?_
      refine jr_1 jm_270 (show jw_cd cd_270 299 = some (.iload 11) by decide +kernel) rfl ?_
      refine jr_1 jm_270 (show jw_cd cd_270 301 = some (.iconst 3) by decide +kernel) rfl ?_
      refine jr_1 jm_270 (show jw_cd cd_270 302 = some (.if_icmp .ne 13) by decide +kernel) (mb_t (q := .ne) (a := g) (b := 3) (t := 315) (by show ¬ (g = 3); omega) ⟨by omega, by omega⟩ ⟨by omega, by omega⟩ (by decide) (by decide)) ?_
      refine jr_1 jm_270 (show jw_cd cd_270 315 = some (.iload 11) by decide +kernel) rfl ?_
      refine jr_1 jm_270 (show jw_cd cd_270 317 = some (.iconst 4) by decide +kernel) rfl ?_
      refine jr_1 jm_270 (show jw_cd cd_270 318 = some (.if_icmp .ne 13) by decide +kernel) (mb_t (q := .ne) (a := g) (b := 4) (t := 331) (by show ¬ (g = 4); omega) ⟨by omega, by omega⟩ ⟨by omega, by omega⟩ (by decide) (by decide)) ?_
      refine jr_1 jm_270 (show jw_cd cd_270 331 = some (.iload 11) by decide +kernel) rfl ?_
      refine jr_1 jm_270 (show jw_cd cd_270 333 = some (.iconst 5) by decide +kernel) rfl ?_
      refine jr_1 jm_270 (show jw_cd cd_270 334 = some (.if_icmp .ne 13) by decide +kernel) (mb_f (q := .ne) (a := g) (b := 5) (by show ¬ (¬ (g = 5)); omega) ⟨by omega, by omega⟩ ⟨by omega, by omega⟩ (by decide)) ?_
      refine jr_1 jm_270 (show jw_cd cd_270 337 = some (.iload 9) by decide +kernel) rfl ?_
      refine jr_1 jm_270 (show jw_cd cd_270 339 = some (.iload 10) by decide +kernel) rfl ?_
      refine jr_1 jm_270 (show jw_cd cd_270 341 = some (.if_icmp .ge 17) by decide +kernel) (mb_f (q := .ge) (a := x) (b := y) (by show ¬ (y ≤ x); omega) hx hy (by decide)) ?_
      refine jr_1 jm_270 (show jw_cd cd_270 344 = some (.goto 10) by decide +kernel) (ju_go (t := 354) (by decide)) ?_
      refine jr_1 jm_270 (show jw_cd cd_270 354 = some (.iconst 1) by decide +kernel) rfl ?_
      refine jr_1 jm_270 (show jw_cd cd_270 355 = some (.goto 4) by decide +kernel) (ju_go (t := 359) (by decide)) ?_
      refine jr_1 jm_270 (F2 := (361, [some (.ref 15), some (.int (Int32.ofInt (s))), some (.int (Int32.ofInt (e))), some (.int (Int32.ofInt (nn))), some (.int (Int32.ofInt (a))), some (.int (Int32.ofInt (1))), some (.int (Int32.ofInt (b))), some (.int (Int32.ofInt (q))), some (.int (Int32.ofInt (bt))), some (.int (Int32.ofInt (x))), some (.int (Int32.ofInt (y))), some (.int (Int32.ofInt (g)))], [], ml_mk h τ)) (show jw_cd cd_270 359 = some (.istore 5) by decide +kernel) rfl ?_
      exact kk
    · skip
      have hcm : cmpI g q bt x y = 0 := by
        unfold cmpI
        repeat' split
        all_goals omega
      rw [hcm] at kk
      refine jr_1 jm_270 (show jw_cd cd_270 256 = some (.aload_n 0) by decide +kernel) rfl ?_
      refine jr_1 jm_270 (show jw_cd cd_270 257 = some (.getfield 62) by decide +kernel) (mg_a hl (a := 33) (show jw_fld 34 62 16 = some 22 by decide +kernel) (by decide) (by decide)) ?_
      refine jr_1 jm_270 (show jw_cd cd_270 260 = some (.iload_n 1) by decide +kernel) rfl ?_
      refine jr_1 jm_270 (show jw_cd cd_270 261 = some (.iaload) by decide +kernel) (ma_i hl (i := s) (e := g) 22 (by omega) (by show _ < ((144 : Nat) : Int); omega) e22 (by decide) (by decide) (by decide)) ?_
      refine jr_1 jm_270 (F2 := (264, [some (.ref 15), some (.int (Int32.ofInt (s))), some (.int (Int32.ofInt (e))), some (.int (Int32.ofInt (nn))), some (.int (Int32.ofInt (a))), c5, some (.int (Int32.ofInt (b))), some (.int (Int32.ofInt (q))), some (.int (Int32.ofInt (bt))), some (.int (Int32.ofInt (x))), some (.int (Int32.ofInt (y))), some (.int (Int32.ofInt (g)))], [], ml_mk h τ)) (show jw_cd cd_270 262 = some (.istore 11) by decide +kernel) rfl ?_
      refine jr_1 jm_270 (show jw_cd cd_270 264 = some (.iload 11) by decide +kernel) rfl ?_
      refine jr_1 jm_270 (show jw_cd cd_270 266 = some (.iconst 1) by decide +kernel) rfl ?_
      refine jr_1 jm_270 (show jw_cd cd_270 267 = some (.if_icmp .ne 8) by decide +kernel) (mb_t (q := .ne) (a := g) (b := 1) (t := 275) (by show ¬ (g = 1); omega) ⟨by omega, by omega⟩ ⟨by omega, by omega⟩ (by decide) (by decide)) ?_
      refine jr_1 jm_270 (show jw_cd cd_270 275 = some (.iload 11) by decide +kernel) rfl ?_
      refine jr_1 jm_270 (show jw_cd cd_270 277 = some (.iconst 2) by decide +kernel) rfl ?_
      refine jr_1 jm_270 (show jw_cd cd_270 278 = some (.if_icmp .ne 16) by decide +kernel) (mb_t (q := .ne) (a := g) (b := 2) (t := 294) (by show ¬ (g = 2); omega) ⟨by omega, by omega⟩ ⟨by omega, by omega⟩ (by decide) (by decide)) ?_
      refine jr_1 jm_270 (show jw_cd cd_270 294 = some (.iload 8) by decide +kernel) rfl ?_
      refine jr_1 jm_270 (show jw_cd cd_270 296 = some (.ifCond .eq 62) by decide +kernel) (mz_f (q := .eq) (a := bt) (by show ¬ (bt = 0); omega) ⟨by omega, by omega⟩ (by decide)) ?_
      refine jr_1 jm_270 (show jw_cd cd_270 299 = some (.iload 11) by decide +kernel) rfl ?_
      refine jr_1 jm_270 (show jw_cd cd_270 301 = some (.iconst 3) by decide +kernel) rfl ?_
      refine jr_1 jm_270 (show jw_cd cd_270 302 = some (.if_icmp .ne 13) by decide +kernel) (mb_t (q := .ne) (a := g) (b := 3) (t := 315) (by show ¬ (g = 3); omega) ⟨by omega, by omega⟩ ⟨by omega, by omega⟩ (by decide) (by decide)) ?_
      refine jr_1 jm_270 (show jw_cd cd_270 315 = some (.iload 11) by decide +kernel) rfl ?_
      refine jr_1 jm_270 (show jw_cd cd_270 317 = some (.iconst 4) by decide +kernel) rfl ?_
      refine jr_1 jm_270 (show jw_cd cd_270 318 = some (.if_icmp .ne 13) by decide +kernel) (mb_t (q := .ne) (a := g) (b := 4) (t := 331) (by show ¬ (g = 4); omega) ⟨by omega, by omega⟩ ⟨by omega, by omega⟩ (by decide) (by decide)) ?_
      refine jr_1 jm_270 (show jw_cd cd_270 331 = some (.iload 11) by decide +kernel) rfl ?_
      refine jr_1 jm_270 (show jw_cd cd_270 333 = some (.iconst 5) by decide +kernel) rfl ?_
      refine jr_1 jm_270 (show jw_cd cd_270 334 = some (.if_icmp .ne 13) by decide +kernel) (mb_f (q := .ne) (a := g) (b := 5) (by show ¬ (¬ (g = 5)); omega) ⟨by omega, by omega⟩ ⟨by omega, by omega⟩ (by decide)) ?_
      refine jr_1 jm_270 (show jw_cd cd_270 337 = some (.iload 9) by decide +kernel) rfl ?_
      refine jr_1 jm_270 (show jw_cd cd_270 339 = some (.iload 10) by decide +kernel) rfl ?_
      refine jr_1 jm_270 (show jw_cd cd_270 341 = some (.if_icmp .ge 17) by decide +kernel) (mb_t (q := .ge) (a := x) (b := y) (t := 358) (by show y ≤ x; omega) hx hy (by decide) (by decide)) ?_
      refine jr_1 jm_270 (show jw_cd cd_270 358 = some (.iconst 0) by decide +kernel) rfl ?_
      refine jr_1 jm_270 (F2 := (361, [some (.ref 15), some (.int (Int32.ofInt (s))), some (.int (Int32.ofInt (e))), some (.int (Int32.ofInt (nn))), some (.int (Int32.ofInt (a))), some (.int (Int32.ofInt (0))), some (.int (Int32.ofInt (b))), some (.int (Int32.ofInt (q))), some (.int (Int32.ofInt (bt))), some (.int (Int32.ofInt (x))), some (.int (Int32.ofInt (y))), some (.int (Int32.ofInt (g)))], [], ml_mk h τ)) (show jw_cd cd_270 359 = some (.istore 5) by decide +kernel) rfl ?_
      exact kk
  · obtain hxy | hxy : y < x ∨ x ≤ y := by omega
    · skip
      have hcm : cmpI g q bt x y = 1 := by
        unfold cmpI
        repeat' split
        all_goals omega
      rw [hcm] at kk
      refine jr_1 jm_270 (show jw_cd cd_270 256 = some (.aload_n 0) by decide +kernel) rfl ?_
      refine jr_1 jm_270 (show jw_cd cd_270 257 = some (.getfield 62) by decide +kernel) (mg_a hl (a := 33) (show jw_fld 34 62 16 = some 22 by decide +kernel) (by decide) (by decide)) ?_
      refine jr_1 jm_270 (show jw_cd cd_270 260 = some (.iload_n 1) by decide +kernel) rfl ?_
      refine jr_1 jm_270 (show jw_cd cd_270 261 = some (.iaload) by decide +kernel) (ma_i hl (i := s) (e := g) 22 (by omega) (by show _ < ((144 : Nat) : Int); omega) e22 (by decide) (by decide) (by decide)) ?_
      refine jr_1 jm_270 (F2 := (264, [some (.ref 15), some (.int (Int32.ofInt (s))), some (.int (Int32.ofInt (e))), some (.int (Int32.ofInt (nn))), some (.int (Int32.ofInt (a))), c5, some (.int (Int32.ofInt (b))), some (.int (Int32.ofInt (q))), some (.int (Int32.ofInt (bt))), some (.int (Int32.ofInt (x))), some (.int (Int32.ofInt (y))), some (.int (Int32.ofInt (g)))], [], ml_mk h τ)) (show jw_cd cd_270 262 = some (.istore 11) by decide +kernel) rfl ?_
      refine jr_1 jm_270 (show jw_cd cd_270 264 = some (.iload 11) by decide +kernel) rfl ?_
      refine jr_1 jm_270 (show jw_cd cd_270 266 = some (.iconst 1) by decide +kernel) rfl ?_
      refine jr_1 jm_270 (show jw_cd cd_270 267 = some (.if_icmp .ne 8) by decide +kernel) (mb_t (q := .ne) (a := g) (b := 1) (t := 275) (by show ¬ (g = 1); omega) ⟨by omega, by omega⟩ ⟨by omega, by omega⟩ (by decide) (by decide)) ?_
      refine jr_1 jm_270 (show jw_cd cd_270 275 = some (.iload 11) by decide +kernel) rfl ?_
      refine jr_1 jm_270 (show jw_cd cd_270 277 = some (.iconst 2) by decide +kernel) rfl ?_
      refine jr_1 jm_270 (show jw_cd cd_270 278 = some (.if_icmp .ne 16) by decide +kernel) (mb_t (q := .ne) (a := g) (b := 2) (t := 294) (by show ¬ (g = 2); omega) ⟨by omega, by omega⟩ ⟨by omega, by omega⟩ (by decide) (by decide)) ?_
      refine jr_1 jm_270 (show jw_cd cd_270 294 = some (.iload 8) by decide +kernel) rfl ?_
      refine jr_1 jm_270 (show jw_cd cd_270 296 = some (.ifCond .eq 62) by decide +kernel) (mz_f (q := .eq) (a := bt) (by show ¬ (bt = 0); omega) ⟨by omega, by omega⟩ (by decide)) ?_
      refine jr_1 jm_270 (show jw_cd cd_270 299 = some (.iload 11) by decide +kernel) rfl ?_
      refine jr_1 jm_270 (show jw_cd cd_270 301 = some (.iconst 3) by decide +kernel) rfl ?_
      refine jr_1 jm_270 (show jw_cd cd_270 302 = some (.if_icmp .ne 13) by decide +kernel) (mb_t (q := .ne) (a := g) (b := 3) (t := 315) (by show ¬ (g = 3); omega) ⟨by omega, by omega⟩ ⟨by omega, by omega⟩ (by decide) (by decide)) ?_
      refine jr_1 jm_270 (show jw_cd cd_270 315 = some (.iload 11) by decide +kernel) rfl ?_
      refine jr_1 jm_270 (show jw_cd cd_270 317 = some (.iconst 4) by decide +kernel) rfl ?_
      refine jr_1 jm_270 (show jw_cd cd_270 318 = some (.if_icmp .ne 13) by decide +kernel) (mb_t (q := .ne) (a := g) (b := 4) (t := 331) (by show ¬ (g = 4); omega) ⟨by omega, by omega⟩ ⟨by omega, by omega⟩ (by decide) (by decide)) ?_
      refine jr_1 jm_270 (show jw_cd cd_270 331 = some (.iload 11) by decide +kernel) rfl ?_
      refine jr_1 jm_270 (show jw_cd cd_270 333 = some (.iconst 5) by decide +kernel) rfl ?_
      refine jr_1 jm_270 (show jw_cd cd_270 334 = some (.if_icmp .ne 13) by decide +kernel) (mb_t (q := .ne) (a := g) (b := 5) (t := 347) (by show ¬ (g = 5); omega) ⟨by omega, by omega⟩ ⟨by omega, by omega⟩ (by decide) (by decide)) ?_
      refine jr_1 jm_270 (show jw_cd cd_270 347 = some (.iload 9) by decide +kernel) rfl ?_
      refine jr_1 jm_270 (show jw_cd cd_270 349 = some (.iload 10) by decide +kernel) rfl ?_
      refine jr_1 jm_270 (show jw_cd cd_270 351 = some (.if_icmp .le 7) by decide +kernel) (mb_f (q := .le) (a := x) (b := y) (by show ¬ (x ≤ y); omega) hx hy (by decide)) ?_
      refine jr_1 jm_270 (show jw_cd cd_270 354 = some (.iconst 1) by decide +kernel) rfl ?_
      refine jr_1 jm_270 (show jw_cd cd_270 355 = some (.goto 4) by decide +kernel) (ju_go (t := 359) (by decide)) ?_
      refine jr_1 jm_270 (F2 := (361, [some (.ref 15), some (.int (Int32.ofInt (s))), some (.int (Int32.ofInt (e))), some (.int (Int32.ofInt (nn))), some (.int (Int32.ofInt (a))), some (.int (Int32.ofInt (1))), some (.int (Int32.ofInt (b))), some (.int (Int32.ofInt (q))), some (.int (Int32.ofInt (bt))), some (.int (Int32.ofInt (x))), some (.int (Int32.ofInt (y))), some (.int (Int32.ofInt (g)))], [], ml_mk h τ)) (show jw_cd cd_270 359 = some (.istore 5) by decide +kernel) rfl ?_
      exact kk
    · skip
      have hcm : cmpI g q bt x y = 0 := by
        unfold cmpI
        repeat' split
        all_goals omega
      rw [hcm] at kk
      refine jr_1 jm_270 (show jw_cd cd_270 256 = some (.aload_n 0) by decide +kernel) rfl ?_
      refine jr_1 jm_270 (show jw_cd cd_270 257 = some (.getfield 62) by decide +kernel) (mg_a hl (a := 33) (show jw_fld 34 62 16 = some 22 by decide +kernel) (by decide) (by decide)) ?_
      refine jr_1 jm_270 (show jw_cd cd_270 260 = some (.iload_n 1) by decide +kernel) rfl ?_
      refine jr_1 jm_270 (show jw_cd cd_270 261 = some (.iaload) by decide +kernel) (ma_i hl (i := s) (e := g) 22 (by omega) (by show _ < ((144 : Nat) : Int); omega) e22 (by decide) (by decide) (by decide)) ?_
      refine jr_1 jm_270 (F2 := (264, [some (.ref 15), some (.int (Int32.ofInt (s))), some (.int (Int32.ofInt (e))), some (.int (Int32.ofInt (nn))), some (.int (Int32.ofInt (a))), c5, some (.int (Int32.ofInt (b))), some (.int (Int32.ofInt (q))), some (.int (Int32.ofInt (bt))), some (.int (Int32.ofInt (x))), some (.int (Int32.ofInt (y))), some (.int (Int32.ofInt (g)))], [], ml_mk h τ)) (show jw_cd cd_270 262 = some (.istore 11) by decide +kernel) rfl ?_
      refine jr_1 jm_270 (show jw_cd cd_270 264 = some (.iload 11) by decide +kernel) rfl ?_
      refine jr_1 jm_270 (show jw_cd cd_270 266 = some (.iconst 1) by decide +kernel) rfl ?_
      refine jr_1 jm_270 (show jw_cd cd_270 267 = some (.if_icmp .ne 8) by decide +kernel) (mb_t (q := .ne) (a := g) (b := 1) (t := 275) (by show ¬ (g = 1); omega) ⟨by omega, by omega⟩ ⟨by omega, by omega⟩ (by decide) (by decide)) ?_
      refine jr_1 jm_270 (show jw_cd cd_270 275 = some (.iload 11) by decide +kernel) rfl ?_
      refine jr_1 jm_270 (show jw_cd cd_270 277 = some (.iconst 2) by decide +kernel) rfl ?_
      refine jr_1 jm_270 (show jw_cd cd_270 278 = some (.if_icmp .ne 16) by decide +kernel) (mb_t (q := .ne) (a := g) (b := 2) (t := 294) (by show ¬ (g = 2); omega) ⟨by omega, by omega⟩ ⟨by omega, by omega⟩ (by decide) (by decide)) ?_
      refine jr_1 jm_270 (show jw_cd cd_270 294 = some (.iload 8) by decide +kernel) rfl ?_
      refine jr_1 jm_270 (show jw_cd cd_270 296 = some (.ifCond .eq 62) by decide +kernel) (mz_f (q := .eq) (a := bt) (by show ¬ (bt = 0); omega) ⟨by omega, by omega⟩ (by decide)) ?_
      refine jr_1 jm_270 (show jw_cd cd_270 299 = some (.iload 11) by decide +kernel) rfl ?_
      refine jr_1 jm_270 (show jw_cd cd_270 301 = some (.iconst 3) by decide +kernel) rfl ?_
      refine jr_1 jm_270 (show jw_cd cd_270 302 = some (.if_icmp .ne 13) by decide +kernel) (mb_t (q := .ne) (a := g) (b := 3) (t := 315) (by show ¬ (g = 3); omega) ⟨by omega, by omega⟩ ⟨by omega, by omega⟩ (by decide) (by decide)) ?_
      refine jr_1 jm_270 (show jw_cd cd_270 315 = some (.iload 11) by decide +kernel) rfl ?_
      refine jr_1 jm_270 (show jw_cd cd_270 317 = some (.iconst 4) by decide +kernel) rfl ?_
      refine jr_1 jm_270 (show jw_cd cd_270 318 = some (.if_icmp .ne 13) by decide +kernel) (mb_t (q := .ne) (a := g) (b := 4) (t := 331) (by show ¬ (g = 4); omega) ⟨by omega, by omega⟩ ⟨by omega, by omega⟩ (by decide) (by decide)) ?_
      refine jr_1 jm_270 (show jw_cd cd_270 331 = some (.iload 11) by decide +kernel) rfl ?_
      refine jr_1 jm_270 (show jw_cd cd_270 333 = some (.iconst 5) by decide +kernel) rfl ?_
      refine jr_1 jm_270 (show jw_cd cd_270 334 = some (.if_icmp .ne 13) by decide +kernel) (mb_t (q := .ne) (a := g) (b := 5) (t := 347) (by show ¬ (g = 5); omega) ⟨by omega, by omega⟩ ⟨by omega, by omega⟩ (by decide) (by decide)) ?_
      refine jr_1 jm_270 (show jw_cd cd_270 347 = some (.iload 9) by decide +kernel) rfl ?_
      refine jr_1 jm_270 (show jw_cd cd_270 349 = some (.iload 10) by decide +kernel) rfl ?_
      refine jr_1 jm_270 (show jw_cd cd_270 351 = some (.if_icmp .le 7) by decide +kernel) (mb_t (q := .le) (a := x) (b := y) (t := 358) (by show x ≤ y; omega) hx hy (by decide) (by decide)) ?_
      refine jr_1 jm_270 (show jw_cd cd_270 358 = some (.iconst 0) by decide +kernel) rfl ?_
      refine jr_1 jm_270 (F2 := (361, [some (.ref 15), some (.int (Int32.ofInt (s))), some (.int (Int32.ofInt (e))), some (.int (Int32.ofInt (nn))), some (.int (Int32.ofInt (a))), some (.int (Int32.ofInt (0))), some (.int (Int32.ofInt (b))), some (.int (Int32.ofInt (q))), some (.int (Int32.ofInt (bt))), some (.int (Int32.ofInt (x))), some (.int (Int32.ofInt (y))), some (.int (Int32.ofInt (g)))], [], ml_mk h τ)) (show jw_cd cd_270 359 = some (.istore 5) by decide +kernel) rfl ?_
      exact kk
