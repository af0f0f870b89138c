/-! ===== slice at its entry (printed by program: gen50.py) ===== -/
theorem jn_sl_1 {β : Bool} {d : Nat} {h : jx_H} {σ : mS} (hl : 49 ≤ h.length) {s v w n q : Int} (hs : 0 ≤ s ∧ s < 144) (e20 : σ 20 s = q) (hq : 0 ≤ q ∧ q ≤ 7) {n0 n1 n2 : Int} (e2 : 4 ≤ q → σ 21 (3 * s + 2) = n2) : ∀ res, jx_r (jz β) jw_M (d + 1) 269 (35, [some (.ref 15), some (.int (Int32.ofInt (s))), some (.int (Int32.ofInt (v))), some (.int (Int32.ofInt (w))), some (.int (Int32.ofInt (n))), some (.int (Int32.ofInt (slC (q, n0, n1, n2)))), none, none, none, none, none], [], ml_mk h σ) res → jx_r (jz β) jw_M (d + 1) 269 (8, [some (.ref 15), some (.int (Int32.ofInt (s))), some (.int (Int32.ofInt (v))), some (.int (Int32.ofInt (w))), some (.int (Int32.ofInt (n))), none, none, none, none, none, none], [], ml_mk h σ) res := by
  obtain ⟨s0, s1⟩ := hs
  intro res kk
  by_cases h4 : 4 ≤ q
  · rw [show slC (q, n0, n1, n2) = n2 from if_pos h4] at kk
    refine jr_1 jm_269 (show jw_cd cd_269 8 = some (.aload_n 0) by decide +kernel) rfl ?_
    refine jr_1 jm_269 (show jw_cd cd_269 9 = some (.getfield 56) by decide +kernel) (mg_a hl (a := 31) (show jw_fld 34 56 16 = some 20 by decide +kernel) (by decide) (by decide)) ?_
    refine jr_1 jm_269 (show jw_cd cd_269 12 = some (.iload_n 1) by decide +kernel) rfl ?_
    refine jr_1 jm_269 (show jw_cd cd_269 13 = some (.iaload) by decide +kernel) (ma_i hl (i := s) (e := q) 20 (by omega) (by show _ < ((144 : Nat) : Int); omega) e20 (by decide) (by decide) (by decide)) ?_
    refine jr_1 jm_269 (show jw_cd cd_269 14 = some (.iconst 4) by decide +kernel) rfl ?_
    refine jr_1 jm_269 (show jw_cd cd_269 15 = some (.iand) by decide +kernel) (mt_iand (c := 4) (an4_t hq h4)) ?_
    refine jr_1 jm_269 (show jw_cd cd_269 16 = some (.ifCond .le 16) by decide +kernel) (mz_f (q := .le) (a := 4) (by show ¬ (4 ≤ 0); omega) ⟨by omega, by omega⟩ (by decide)) ?_
    refine jr_1 jm_269 (show jw_cd cd_269 19 = some (.aload_n 0) by decide +kernel) rfl ?_
    refine jr_1 jm_269 (show jw_cd cd_269 20 = some (.getfield 59) by decide +kernel) (mg_a hl (a := 32) (show jw_fld 34 59 16 = some 21 by decide +kernel) (by decide) (by decide)) ?_
    refine jr_1 jm_269 (show jw_cd cd_269 23 = some (.iconst 3) by decide +kernel) rfl ?_
    refine jr_1 jm_269 (show jw_cd cd_269 24 = some (.iload_n 1) by decide +kernel) rfl ?_
    refine jr_1 jm_269 (show jw_cd cd_269 25 = some (.imul) by decide +kernel) (mt_mul (c := 3 * s) rfl) ?_
    refine jr_1 jm_269 (show jw_cd cd_269 26 = some (.iconst 2) by decide +kernel) rfl ?_
    refine jr_1 jm_269 (show jw_cd cd_269 27 = some (.iadd) by decide +kernel) (mt_add (c := 3 * s + 2) rfl) ?_
    refine jr_1 jm_269 (show jw_cd cd_269 28 = some (.iaload) by decide +kernel) (ma_i hl (i := 3 * s + 2) (e := n2) 21 (by omega) (by show _ < ((432 : Nat) : Int); omega) (e2 h4) (by decide) (by decide) (by decide)) ?_
    refine jr_1 jm_269 (show jw_cd cd_269 29 = some (.goto 4) by decide +kernel) (ju_go (t := 33) (by decide)) ?_
    refine jr_1 jm_269 (F2 := (35, [some (.ref 15), some (.int (Int32.ofInt (s))), some (.int (Int32.ofInt (v))), some (.int (Int32.ofInt (w))), some (.int (Int32.ofInt (n))), some (.int (Int32.ofInt (n2))), none, none, none, none, none], [], ml_mk h σ)) (show jw_cd cd_269 33 = some (.istore 5) by decide +kernel) rfl ?_
    exact kk
  · rw [show slC (q, n0, n1, n2) = 1 from if_neg h4] at kk
    refine jr_1 jm_269 (show jw_cd cd_269 8 = some (.aload_n 0) by decide +kernel) rfl ?_
    refine jr_1 jm_269 (show jw_cd cd_269 9 = some (.getfield 56) by decide +kernel) (mg_a hl (a := 31) (show jw_fld 34 56 16 = some 20 by decide +kernel) (by decide) (by decide)) ?_
    refine jr_1 jm_269 (show jw_cd cd_269 12 = some (.iload_n 1) by decide +kernel) rfl ?_
    refine jr_1 jm_269 (show jw_cd cd_269 13 = some (.iaload) by decide +kernel) (ma_i hl (i := s) (e := q) 20 (by omega) (by show _ < ((144 : Nat) : Int); omega) e20 (by decide) (by decide) (by decide)) ?_
    refine jr_1 jm_269 (show jw_cd cd_269 14 = some (.iconst 4) by decide +kernel) rfl ?_
    refine jr_1 jm_269 (show jw_cd cd_269 15 = some (.iand) by decide +kernel) (mt_iand (c := 0) (an4_f hq h4)) ?_
    refine jr_1 jm_269 (show jw_cd cd_269 16 = some (.ifCond .le 16) by decide +kernel) (mz_t (q := .le) (a := 0) (t := 32) (by show 0 ≤ 0; omega) ⟨by omega, by omega⟩ (by decide) (by decide)) ?_
    refine jr_1 jm_269 (show jw_cd cd_269 32 = some (.iconst 1) by decide +kernel) rfl ?_
    refine jr_1 jm_269 (F2 := (35, [some (.ref 15), some (.int (Int32.ofInt (s))), some (.int (Int32.ofInt (v))), some (.int (Int32.ofInt (w))), some (.int (Int32.ofInt (n))), some (.int (Int32.ofInt (1))), none, none, none, none, none], [], ml_mk h σ)) (show jw_cd cd_269 33 = some (.istore 5) by decide +kernel) rfl ?_
    exact kk
theorem jn_sl_2 {β : Bool} {d : Nat} {h : jx_H} {σ : mS} (hl : 49 ≤ h.length) {s v w n q : Int} (hs : 0 ≤ s ∧ s < 144) (e20 : σ 20 s = q) (hq : 0 ≤ q ∧ q ≤ 7) {c : Int} (hc : mr c) : ∀ res, jx_r (jz β) jw_M (d + 1) 269 (63, [some (.ref 15), some (.int (Int32.ofInt (s))), some (.int (Int32.ofInt (v))), some (.int (Int32.ofInt (w))), some (.int (Int32.ofInt (n))), some (.int (Int32.ofInt (c))), some (.int (Int32.ofInt (slLo c))), some (.int (Int32.ofInt (slHi c n))), none, none, none], [], ml_mk h σ) res → jx_r (jz β) jw_M (d + 1) 269 (35, [some (.ref 15), some (.int (Int32.ofInt (s))), some (.int (Int32.ofInt (v))), some (.int (Int32.ofInt (w))), some (.int (Int32.ofInt (n))), some (.int (Int32.ofInt (c))), none, none, none, none, none], [], ml_mk h σ) res := by
  obtain ⟨s0, s1⟩ := hs
  intro res kk
  obtain ⟨c1, c2⟩ := hc
  by_cases hc : 0 < c
  · rw [show slLo c = 0 from if_pos hc, show slHi c n = n from if_pos hc] at kk
    refine jr_1 jm_269 (show jw_cd cd_269 35 = some (.iload 5) by decide +kernel) rfl ?_
    refine jr_1 jm_269 (show jw_cd cd_269 37 = some (.ifCond .le 7) by decide +kernel) (mz_f (q := .le) (a := c) (by show ¬ (c ≤ 0); omega) ⟨by omega, by omega⟩ (by decide)) ?_
    refine jr_1 jm_269 (show jw_cd cd_269 40 = some (.iconst 0) by decide +kernel) rfl ?_
    refine jr_1 jm_269 (show jw_cd cd_269 41 = some (.goto 4) by decide +kernel) (ju_go (t := 45) (by decide)) ?_
    refine jr_1 jm_269 (F2 := (47, [some (.ref 15), some (.int (Int32.ofInt (s))), some (.int (Int32.ofInt (v))), some (.int (Int32.ofInt (w))), some (.int (Int32.ofInt (n))), some (.int (Int32.ofInt (c))), some (.int (Int32.ofInt (0))), none, none, none, none], [], ml_mk h σ)) (show jw_cd cd_269 45 = some (.istore 6) by decide +kernel) rfl ?_
    refine jr_1 jm_269 (show jw_cd cd_269 47 = some (.iload 5) by decide +kernel) rfl ?_
    refine jr_1 jm_269 (show jw_cd cd_269 49 = some (.ifCond .le 8) by decide +kernel) (mz_f (q := .le) (a := c) (by show ¬ (c ≤ 0); omega) ⟨by omega, by omega⟩ (by decide)) ?_
    refine jr_1 jm_269 (show jw_cd cd_269 52 = some (.iload 4) by decide +kernel) rfl ?_
    refine jr_1 jm_269 (show jw_cd cd_269 54 = some (.goto 7) by decide +kernel) (ju_go (t := 61) (by decide)) ?_
    refine jr_1 jm_269 (F2 := (63, [some (.ref 15), some (.int (Int32.ofInt (s))), some (.int (Int32.ofInt (v))), some (.int (Int32.ofInt (w))), some (.int (Int32.ofInt (n))), some (.int (Int32.ofInt (c))), some (.int (Int32.ofInt (0))), some (.int (Int32.ofInt (n))), none, none, none], [], ml_mk h σ)) (show jw_cd cd_269 61 = some (.istore 7) by decide +kernel) rfl ?_
    exact kk
  · rw [show slLo c = -1 from if_neg hc, show slHi c n = n - 1 from if_neg hc] at kk
    refine jr_1 jm_269 (show jw_cd cd_269 35 = some (.iload 5) by decide +kernel) rfl ?_
    refine jr_1 jm_269 (show jw_cd cd_269 37 = some (.ifCond .le 7) by decide +kernel) (mz_t (q := .le) (a := c) (t := 44) (by show c ≤ 0; omega) ⟨by omega, by omega⟩ (by decide) (by decide)) ?_
    refine jr_1 jm_269 (show jw_cd cd_269 44 = some (.iconst (-1)) by decide +kernel) rfl ?_
    refine jr_1 jm_269 (F2 := (47, [some (.ref 15), some (.int (Int32.ofInt (s))), some (.int (Int32.ofInt (v))), some (.int (Int32.ofInt (w))), some (.int (Int32.ofInt (n))), some (.int (Int32.ofInt (c))), some (.int (Int32.ofInt (-1))), none, none, none, none], [], ml_mk h σ)) (show jw_cd cd_269 45 = some (.istore 6) by decide +kernel) rfl ?_
    refine jr_1 jm_269 (show jw_cd cd_269 47 = some (.iload 5) by decide +kernel) rfl ?_
    refine jr_1 jm_269 (show jw_cd cd_269 49 = some (.ifCond .le 8) by decide +kernel) (mz_t (q := .le) (a := c) (t := 57) (by show c ≤ 0; omega) ⟨by omega, by omega⟩ (by decide) (by decide)) ?_
    refine jr_1 jm_269 (show jw_cd cd_269 57 = some (.iload 4) by decide +kernel) rfl ?_
    refine jr_1 jm_269 (show jw_cd cd_269 59 = some (.iconst 1) by decide +kernel) rfl ?_
    refine jr_1 jm_269 (show jw_cd cd_269 60 = some (.isub) by decide +kernel) (mt_sub (c := n - 1) rfl) ?_
    refine jr_1 jm_269 (F2 := (63, [some (.ref 15), some (.int (Int32.ofInt (s))), some (.int (Int32.ofInt (v))), some (.int (Int32.ofInt (w))), some (.int (Int32.ofInt (n))), some (.int (Int32.ofInt (c))), some (.int (Int32.ofInt (-1))), some (.int (Int32.ofInt (n - 1))), none, none, none], [], ml_mk h σ)) (show jw_cd cd_269 61 = some (.istore 7) by decide +kernel) rfl ?_
    exact kk
theorem jn_sl_3 {β : Bool} {d : Nat} {h : jx_H} {σ : mS} (hl : 49 ≤ h.length) {s v w n q : Int} (hs : 0 ≤ s ∧ s < 144) (e20 : σ 20 s = q) (hq : 0 ≤ q ∧ q ≤ 7) {c low high n0 : Int} (hc : mr c) (e0 : q % 2 = 1 → σ 21 (3 * s) = n0) : ∀ res, jx_r (jz β) jw_M (d + 1) 269 (99, [some (.ref 15), some (.int (Int32.ofInt (s))), some (.int (Int32.ofInt (v))), some (.int (Int32.ofInt (w))), some (.int (Int32.ofInt (n))), some (.int (Int32.ofInt (c))), some (.int (Int32.ofInt (low))), some (.int (Int32.ofInt (high))), some (.int (Int32.ofInt (if q % 2 = 1 then n0 else if 0 < c then low else high))), none, none], [], ml_mk h σ) res → jx_r (jz β) jw_M (d + 1) 269 (63, [some (.ref 15), some (.int (Int32.ofInt (s))), some (.int (Int32.ofInt (v))), some (.int (Int32.ofInt (w))), some (.int (Int32.ofInt (n))), some (.int (Int32.ofInt (c))), some (.int (Int32.ofInt (low))), some (.int (Int32.ofInt (high))), none, none, none], [], ml_mk h σ) res := by
  obtain ⟨s0, s1⟩ := hs
  intro res kk
  obtain ⟨c1, c2⟩ := hc
  by_cases h1 : q % 2 = 1
  · rw [if_pos h1] at kk
    refine jr_1 jm_269 (show jw_cd cd_269 63 = some (.aload_n 0) by decide +kernel) rfl ?_
    refine jr_1 jm_269 (show jw_cd cd_269 64 = some (.getfield 56) by decide +kernel) (mg_a hl (a := 31) (show jw_fld 34 56 16 = some 20 by decide +kernel) (by decide) (by decide)) ?_
    refine jr_1 jm_269 (show jw_cd cd_269 67 = some (.iload_n 1) by decide +kernel) rfl ?_
    refine jr_1 jm_269 (show jw_cd cd_269 68 = some (.iaload) by decide +kernel) (ma_i hl (i := s) (e := q) 20 (by omega) (by show _ < ((144 : Nat) : Int); omega) e20 (by decide) (by decide) (by decide)) ?_
    refine jr_1 jm_269 (show jw_cd cd_269 69 = some (.iconst 1) by decide +kernel) rfl ?_
    refine jr_1 jm_269 (show jw_cd cd_269 70 = some (.iand) by decide +kernel) (mt_iand (c := 1) (an1_t hq h1)) ?_
    refine jr_1 jm_269 (show jw_cd cd_269 71 = some (.ifCond .le 14) by decide +kernel) (mz_f (q := .le) (a := 1) (by show ¬ (1 ≤ 0); omega) ⟨by omega, by omega⟩ (by decide)) ?_
    refine jr_1 jm_269 (show jw_cd cd_269 74 = some (.aload_n 0) by decide +kernel) rfl ?_
    refine jr_1 jm_269 (show jw_cd cd_269 75 = some (.getfield 59) by decide +kernel) (mg_a hl (a := 32) (show jw_fld 34 59 16 = some 21 by decide +kernel) (by decide) (by decide)) ?_
    refine jr_1 jm_269 (show jw_cd cd_269 78 = some (.iconst 3) by decide +kernel) rfl ?_
    refine jr_1 jm_269 (show jw_cd cd_269 79 = some (.iload_n 1) by decide +kernel) rfl ?_
    refine jr_1 jm_269 (show jw_cd cd_269 80 = some (.imul) by decide +kernel) (mt_mul (c := 3 * s) rfl) ?_
    refine jr_1 jm_269 (show jw_cd cd_269 81 = some (.iaload) by decide +kernel) (ma_i hl (i := 3 * s) (e := n0) 21 (by omega) (by show _ < ((432 : Nat) : Int); omega) (e0 h1) (by decide) (by decide) (by decide)) ?_
    refine jr_1 jm_269 (show jw_cd cd_269 82 = some (.goto 15) by decide +kernel) (ju_go (t := 97) (by decide)) ?_
    refine jr_1 jm_269 (F2 := (99, [some (.ref 15), some (.int (Int32.ofInt (s))), some (.int (Int32.ofInt (v))), some (.int (Int32.ofInt (w))), some (.int (Int32.ofInt (n))), some (.int (Int32.ofInt (c))), some (.int (Int32.ofInt (low))), some (.int (Int32.ofInt (high))), some (.int (Int32.ofInt (n0))), none, none], [], ml_mk h σ)) (show jw_cd cd_269 97 = some (.istore 8) by decide +kernel) rfl ?_
    exact kk
  · rw [if_neg h1] at kk
    by_cases hc : 0 < c
    · rw [if_pos hc] at kk
      refine jr_1 jm_269 (show jw_cd cd_269 63 = some (.aload_n 0) by decide +kernel) rfl ?_
      refine jr_1 jm_269 (show jw_cd cd_269 64 = some (.getfield 56) by decide +kernel) (mg_a hl (a := 31) (show jw_fld 34 56 16 = some 20 by decide +kernel) (by decide) (by decide)) ?_
      refine jr_1 jm_269 (show jw_cd cd_269 67 = some (.iload_n 1) by decide +kernel) rfl ?_
      refine jr_1 jm_269 (show jw_cd cd_269 68 = some (.iaload) by decide +kernel) (ma_i hl (i := s) (e := q) 20 (by omega) (by show _ < ((144 : Nat) : Int); omega) e20 (by decide) (by decide) (by decide)) ?_
      refine jr_1 jm_269 (show jw_cd cd_269 69 = some (.iconst 1) by decide +kernel) rfl ?_
      refine jr_1 jm_269 (show jw_cd cd_269 70 = some (.iand) by decide +kernel) (mt_iand (c := 0) (an1_f hq h1)) ?_
      refine jr_1 jm_269 (show jw_cd cd_269 71 = some (.ifCond .le 14) by decide +kernel) (mz_t (q := .le) (a := 0) (t := 85) (by show 0 ≤ 0; omega) ⟨by omega, by omega⟩ (by decide) (by decide)) ?_
      refine jr_1 jm_269 (show jw_cd cd_269 85 = some (.iload 5) by decide +kernel) rfl ?_
      refine jr_1 jm_269 (show jw_cd cd_269 87 = some (.ifCond .le 8) by decide +kernel) (mz_f (q := .le) (a := c) (by show ¬ (c ≤ 0); omega) ⟨by omega, by omega⟩ (by decide)) ?_
      refine jr_1 jm_269 (show jw_cd cd_269 90 = some (.iload 6) by decide +kernel) rfl ?_
      refine jr_1 jm_269 (show jw_cd cd_269 92 = some (.goto 5) by decide +kernel) (ju_go (t := 97) (by decide)) ?_
      refine jr_1 jm_269 (F2 := (99, [some (.ref 15), some (.int (Int32.ofInt (s))), some (.int (Int32.ofInt (v))), some (.int (Int32.ofInt (w))), some (.int (Int32.ofInt (n))), some (.int (Int32.ofInt (c))), some (.int (Int32.ofInt (low))), some (.int (Int32.ofInt (high))), some (.int (Int32.ofInt (low))), none, none], [], ml_mk h σ)) (show jw_cd cd_269 97 = some (.istore 8) by decide +kernel) rfl ?_
      exact kk
    · rw [if_neg hc] at kk
      refine jr_1 jm_269 (show jw_cd cd_269 63 = some (.aload_n 0) by decide +kernel) rfl ?_
      refine jr_1 jm_269 (show jw_cd cd_269 64 = some (.getfield 56) by decide +kernel) (mg_a hl (a := 31) (show jw_fld 34 56 16 = some 20 by decide +kernel) (by decide) (by decide)) ?_
      refine jr_1 jm_269 (show jw_cd cd_269 67 = some (.iload_n 1) by decide +kernel) rfl ?_
      refine jr_1 jm_269 (show jw_cd cd_269 68 = some (.iaload) by decide +kernel) (ma_i hl (i := s) (e := q) 20 (by omega) (by show _ < ((144 : Nat) : Int); omega) e20 (by decide) (by decide) (by decide)) ?_
      refine jr_1 jm_269 (show jw_cd cd_269 69 = some (.iconst 1) by decide +kernel) rfl ?_
      refine jr_1 jm_269 (show jw_cd cd_269 70 = some (.iand) by decide +kernel) (mt_iand (c := 0) (an1_f hq h1)) ?_
      refine jr_1 jm_269 (show jw_cd cd_269 71 = some (.ifCond .le 14) by decide +kernel) (mz_t (q := .le) (a := 0) (t := 85) (by show 0 ≤ 0; omega) ⟨by omega, by omega⟩ (by decide) (by decide)) ?_
      refine jr_1 jm_269 (show jw_cd cd_269 85 = some (.iload 5) by decide +kernel) rfl ?_
      refine jr_1 jm_269 (show jw_cd cd_269 87 = some (.ifCond .le 8) by decide +kernel) (mz_t (q := .le) (a := c) (t := 95) (by show c ≤ 0; omega) ⟨by omega, by omega⟩ (by decide) (by decide)) ?_
      refine jr_1 jm_269 (show jw_cd cd_269 95 = some (.iload 7) by decide +kernel) rfl ?_
      refine jr_1 jm_269 (F2 := (99, [some (.ref 15), some (.int (Int32.ofInt (s))), some (.int (Int32.ofInt (v))), some (.int (Int32.ofInt (w))), some (.int (Int32.ofInt (n))), some (.int (Int32.ofInt (c))), some (.int (Int32.ofInt (low))), some (.int (Int32.ofInt (high))), some (.int (Int32.ofInt (high))), none, none], [], ml_mk h σ)) (show jw_cd cd_269 97 = some (.istore 8) by decide +kernel) rfl ?_
      exact kk
theorem jn_sl_4 {β : Bool} {d : Nat} {h : jx_H} {σ : mS} (hl : 49 ≤ h.length) {s v w n q : Int} (hs : 0 ≤ s ∧ s < 144) (e20 : σ 20 s = q) (hq : 0 ≤ q ∧ q ≤ 7) {c low high n1 a : Int} (hc : mr c) (e1 : q / 2 % 2 = 1 → σ 21 (3 * s + 1) = n1) : ∀ res, jx_r (jz β) jw_M (d + 1) 269 (137, [some (.ref 15), some (.int (Int32.ofInt (s))), some (.int (Int32.ofInt (v))), some (.int (Int32.ofInt (w))), some (.int (Int32.ofInt (n))), some (.int (Int32.ofInt (c))), some (.int (Int32.ofInt (low))), some (.int (Int32.ofInt (high))), some (.int (Int32.ofInt (a))), some (.int (Int32.ofInt (if q / 2 % 2 = 1 then n1 else if 0 < c then high else low))), none], [], ml_mk h σ) res → jx_r (jz β) jw_M (d + 1) 269 (99, [some (.ref 15), some (.int (Int32.ofInt (s))), some (.int (Int32.ofInt (v))), some (.int (Int32.ofInt (w))), some (.int (Int32.ofInt (n))), some (.int (Int32.ofInt (c))), some (.int (Int32.ofInt (low))), some (.int (Int32.ofInt (high))), some (.int (Int32.ofInt (a))), none, none], [], ml_mk h σ) res := by
  obtain ⟨s0, s1⟩ := hs
  intro res kk
  obtain ⟨c1, c2⟩ := hc
  by_cases h2 : q / 2 % 2 = 1
  · rw [if_pos h2] at kk
    refine jr_1 jm_269 (show jw_cd cd_269 99 = some (.aload_n 0) by decide +kernel) rfl ?_
    refine jr_1 jm_269 (show jw_cd cd_269 100 = some (.getfield 56) by decide +kernel) (mg_a hl (a := 31) (show jw_fld 34 56 16 = some 20 by decide +kernel) (by decide) (by decide)) ?_
    refine jr_1 jm_269 (show jw_cd cd_269 103 = some (.iload_n 1) by decide +kernel) rfl ?_
    refine jr_1 jm_269 (show jw_cd cd_269 104 = some (.iaload) by decide +kernel) (ma_i hl (i := s) (e := q) 20 (by omega) (by show _ < ((144 : Nat) : Int); omega) e20 (by decide) (by decide) (by decide)) ?_
    refine jr_1 jm_269 (show jw_cd cd_269 105 = some (.iconst 2) by decide +kernel) rfl ?_
    refine jr_1 jm_269 (show jw_cd cd_269 106 = some (.iand) by decide +kernel) (mt_iand (c := 2) (an2_t hq h2)) ?_
    refine jr_1 jm_269 (show jw_cd cd_269 107 = some (.ifCond .le 16) by decide +kernel) (mz_f (q := .le) (a := 2) (by show ¬ (2 ≤ 0); omega) ⟨by omega, by omega⟩ (by decide)) ?_
    refine jr_1 jm_269 (show jw_cd cd_269 110 = some (.aload_n 0) by decide +kernel) rfl ?_
    refine jr_1 jm_269 (show jw_cd cd_269 111 = some (.getfield 59) by decide +kernel) (mg_a hl (a := 32) (show jw_fld 34 59 16 = some 21 by decide +kernel) (by decide) (by decide)) ?_
    refine jr_1 jm_269 (show jw_cd cd_269 114 = some (.iconst 3) by decide +kernel) rfl ?_
    refine jr_1 jm_269 (show jw_cd cd_269 115 = some (.iload_n 1) by decide +kernel) rfl ?_
    refine jr_1 jm_269 (show jw_cd cd_269 116 = some (.imul) by decide +kernel) (mt_mul (c := 3 * s) rfl) ?_
    refine jr_1 jm_269 (show jw_cd cd_269 117 = some (.iconst 1) by decide +kernel) rfl ?_
    refine jr_1 jm_269 (show jw_cd cd_269 118 = some (.iadd) by decide +kernel) (mt_add (c := 3 * s + 1) rfl) ?_
    refine jr_1 jm_269 (show jw_cd cd_269 119 = some (.iaload) by decide +kernel) (ma_i hl (i := 3 * s + 1) (e := n1) 21 (by omega) (by show _ < ((432 : Nat) : Int); omega) (e1 h2) (by decide) (by decide) (by decide)) ?_
    refine jr_1 jm_269 (show jw_cd cd_269 120 = some (.goto 15) by decide +kernel) (ju_go (t := 135) (by decide)) ?_
    refine jr_1 jm_269 (F2 := (137, [some (.ref 15), some (.int (Int32.ofInt (s))), some (.int (Int32.ofInt (v))), some (.int (Int32.ofInt (w))), some (.int (Int32.ofInt (n))), some (.int (Int32.ofInt (c))), some (.int (Int32.ofInt (low))), some (.int (Int32.ofInt (high))), some (.int (Int32.ofInt (a))), some (.int (Int32.ofInt (n1))), none], [], ml_mk h σ)) (show jw_cd cd_269 135 = some (.istore 9) by decide +kernel) rfl ?_
    exact kk
  · rw [if_neg h2] at kk
    by_cases hc : 0 < c
    · rw [if_pos hc] at kk
      refine jr_1 jm_269 (show jw_cd cd_269 99 = some (.aload_n 0) by decide +kernel) rfl ?_
      refine jr_1 jm_269 (show jw_cd cd_269 100 = some (.getfield 56) by decide +kernel) (mg_a hl (a := 31) (show jw_fld 34 56 16 = some 20 by decide +kernel) (by decide) (by decide)) ?_
      refine jr_1 jm_269 (show jw_cd cd_269 103 = some (.iload_n 1) by decide +kernel) rfl ?_
      refine jr_1 jm_269 (show jw_cd cd_269 104 = some (.iaload) by decide +kernel) (ma_i hl (i := s) (e := q) 20 (by omega) (by show _ < ((144 : Nat) : Int); omega) e20 (by decide) (by decide) (by decide)) ?_
      refine jr_1 jm_269 (show jw_cd cd_269 105 = some (.iconst 2) by decide +kernel) rfl ?_
      refine jr_1 jm_269 (show jw_cd cd_269 106 = some (.iand) by decide +kernel) (mt_iand (c := 0) (an2_f hq h2)) ?_
      refine jr_1 jm_269 (show jw_cd cd_269 107 = some (.ifCond .le 16) by decide +kernel) (mz_t (q := .le) (a := 0) (t := 123) (by show 0 ≤ 0; omega) ⟨by omega, by omega⟩ (by decide) (by decide)) ?_
      refine jr_1 jm_269 (show jw_cd cd_269 123 = some (.iload 5) by decide +kernel) rfl ?_
      refine jr_1 jm_269 (show jw_cd cd_269 125 = some (.ifCond .le 8) by decide +kernel) (mz_f (q := .le) (a := c) (by show ¬ (c ≤ 0); omega) ⟨by omega, by omega⟩ (by decide)) ?_
      refine jr_1 jm_269 (show jw_cd cd_269 128 = some (.iload 7) by decide +kernel) rfl ?_
      refine jr_1 jm_269 (show jw_cd cd_269 130 = some (.goto 5) by decide +kernel) (ju_go (t := 135) (by decide)) ?_
      refine jr_1 jm_269 (F2 := (137, [some (.ref 15), some (.int (Int32.ofInt (s))), some (.int (Int32.ofInt (v))), some (.int (Int32.ofInt (w))), some (.int (Int32.ofInt (n))), some (.int (Int32.ofInt (c))), some (.int (Int32.ofInt (low))), some (.int (Int32.ofInt (high))), some (.int (Int32.ofInt (a))), some (.int (Int32.ofInt (high))), none], [], ml_mk h σ)) (show jw_cd cd_269 135 = some (.istore 9) by decide +kernel) rfl ?_
      exact kk
    · rw [if_neg hc] at kk
      refine jr_1 jm_269 (show jw_cd cd_269 99 = some (.aload_n 0) by decide +kernel) rfl ?_
      refine jr_1 jm_269 (show jw_cd cd_269 100 = some (.getfield 56) by decide +kernel) (mg_a hl (a := 31) (show jw_fld 34 56 16 = some 20 by decide +kernel) (by decide) (by decide)) ?_
      refine jr_1 jm_269 (show jw_cd cd_269 103 = some (.iload_n 1) by decide +kernel) rfl ?_
      refine jr_1 jm_269 (show jw_cd cd_269 104 = some (.iaload) by decide +kernel) (ma_i hl (i := s) (e := q) 20 (by omega) (by show _ < ((144 : Nat) : Int); omega) e20 (by decide) (by decide) (by decide)) ?_
      refine jr_1 jm_269 (show jw_cd cd_269 105 = some (.iconst 2) by decide +kernel) rfl ?_
      refine jr_1 jm_269 (show jw_cd cd_269 106 = some (.iand) by decide +kernel) (mt_iand (c := 0) (an2_f hq h2)) ?_
      refine jr_1 jm_269 (show jw_cd cd_269 107 = some (.ifCond .le 16) by decide +kernel) (mz_t (q := .le) (a := 0) (t := 123) (by show 0 ≤ 0; omega) ⟨by omega, by omega⟩ (by decide) (by decide)) ?_
      refine jr_1 jm_269 (show jw_cd cd_269 123 = some (.iload 5) by decide +kernel) rfl ?_
      refine jr_1 jm_269 (show jw_cd cd_269 125 = some (.ifCond .le 8) by decide +kernel) (mz_t (q := .le) (a := c) (t := 133) (by show c ≤ 0; omega) ⟨by omega, by omega⟩ (by decide) (by decide)) ?_
      refine jr_1 jm_269 (show jw_cd cd_269 133 = some (.iload 6) by decide +kernel) rfl ?_
      refine jr_1 jm_269 (F2 := (137, [some (.ref 15), some (.int (Int32.ofInt (s))), some (.int (Int32.ofInt (v))), some (.int (Int32.ofInt (w))), some (.int (Int32.ofInt (n))), some (.int (Int32.ofInt (c))), some (.int (Int32.ofInt (low))), some (.int (Int32.ofInt (high))), some (.int (Int32.ofInt (a))), some (.int (Int32.ofInt (low))), none], [], ml_mk h σ)) (show jw_cd cd_269 135 = some (.istore 9) by decide +kernel) rfl ?_
      exact kk
theorem jn_sl_5 {β : Bool} {d : Nat} {h : jx_H} {σ : mS} (hl : 49 ≤ h.length) {s v w n q : Int} (hs : 0 ≤ s ∧ s < 144) (e20 : σ 20 s = q) (hq : 0 ≤ q ∧ q ≤ 7) {c low high a b : Int} (ha : mr a) : ∀ res, jx_r (jz β) jw_M (d + 1) 269 (165, [some (.ref 15), some (.int (Int32.ofInt (s))), some (.int (Int32.ofInt (v))), some (.int (Int32.ofInt (w))), some (.int (Int32.ofInt (n))), some (.int (Int32.ofInt (c))), some (.int (Int32.ofInt (low))), some (.int (Int32.ofInt (high))), some (.int (Int32.ofInt (if q % 2 = 1 then (if a < 0 then a + n else a) else a))), some (.int (Int32.ofInt (b))), none], [], ml_mk h σ) res → jx_r (jz β) jw_M (d + 1) 269 (137, [some (.ref 15), some (.int (Int32.ofInt (s))), some (.int (Int32.ofInt (v))), some (.int (Int32.ofInt (w))), some (.int (Int32.ofInt (n))), some (.int (Int32.ofInt (c))), some (.int (Int32.ofInt (low))), some (.int (Int32.ofInt (high))), some (.int (Int32.ofInt (a))), some (.int (Int32.ofInt (b))), none], [], ml_mk h σ) res := by
  obtain ⟨s0, s1⟩ := hs
  intro res kk
  obtain ⟨a1, a2⟩ := ha
  by_cases h1 : q % 2 = 1
  · rw [if_pos h1] at kk
    by_cases hn : a < 0
    · rw [if_pos hn] at kk
      refine jr_1 jm_269 (show jw_cd cd_269 137 = some (.aload_n 0) by decide +kernel) rfl ?_
      refine jr_1 jm_269 (show jw_cd cd_269 138 = some (.getfield 56) by decide +kernel) (mg_a hl (a := 31) (show jw_fld 34 56 16 = some 20 by decide +kernel) (by decide) (by decide)) ?_
      refine jr_1 jm_269 (show jw_cd cd_269 141 = some (.iload_n 1) by decide +kernel) rfl ?_
      refine jr_1 jm_269 (show jw_cd cd_269 142 = some (.iaload) by decide +kernel) (ma_i hl (i := s) (e := q) 20 (by omega) (by show _ < ((144 : Nat) : Int); omega) e20 (by decide) (by decide) (by decide)) ?_
      refine jr_1 jm_269 (show jw_cd cd_269 143 = some (.iconst 1) by decide +kernel) rfl ?_
      refine jr_1 jm_269 (show jw_cd cd_269 144 = some (.iand) by decide +kernel) (mt_iand (c := 1) (an1_t hq h1)) ?_
      refine jr_1 jm_269 (show jw_cd cd_269 145 = some (.ifCond .le 16) by decide +kernel) (mz_f (q := .le) (a := 1) (by show ¬ (1 ≤ 0); omega) ⟨by omega, by omega⟩ (by decide)) ?_
      refine jr_1 jm_269 (show jw_cd cd_269 148 = some (.iload 8) by decide +kernel) rfl ?_
      refine jr_1 jm_269 (show jw_cd cd_269 150 = some (.ifCond .ge 11) by decide +kernel) (mz_f (q := .ge) (a := a) (by show ¬ (0 ≤ a); omega) ⟨by omega, by omega⟩ (by decide)) ?_
      refine jr_1 jm_269 (show jw_cd cd_269 153 = some (.iload 8) by decide +kernel) rfl ?_
      refine jr_1 jm_269 (show jw_cd cd_269 155 = some (.iload 4) by decide +kernel) rfl ?_
      refine jr_1 jm_269 (show jw_cd cd_269 157 = some (.iadd) by decide +kernel) (mt_add (c := a + n) rfl) ?_
      refine jr_1 jm_269 (show jw_cd cd_269 158 = some (.goto 5) by decide +kernel) (ju_go (t := 163) (by decide)) ?_
      refine jr_1 jm_269 (F2 := (165, [some (.ref 15), some (.int (Int32.ofInt (s))), some (.int (Int32.ofInt (v))), some (.int (Int32.ofInt (w))), some (.int (Int32.ofInt (n))), some (.int (Int32.ofInt (c))), some (.int (Int32.ofInt (low))), some (.int (Int32.ofInt (high))), some (.int (Int32.ofInt (a + n))), some (.int (Int32.ofInt (b))), none], [], ml_mk h σ)) (show jw_cd cd_269 163 = some (.istore 8) by decide +kernel) rfl ?_
      exact kk
    · rw [if_neg hn] at kk
      refine jr_1 jm_269 (show jw_cd cd_269 137 = some (.aload_n 0) by decide +kernel) rfl ?_
      refine jr_1 jm_269 (show jw_cd cd_269 138 = some (.getfield 56) by decide +kernel) (mg_a hl (a := 31) (show jw_fld 34 56 16 = some 20 by decide +kernel) (by decide) (by decide)) ?_
      refine jr_1 jm_269 (show jw_cd cd_269 141 = some (.iload_n 1) by decide +kernel) rfl ?_
      refine jr_1 jm_269 (show jw_cd cd_269 142 = some (.iaload) by decide +kernel) (ma_i hl (i := s) (e := q) 20 (by omega) (by show _ < ((144 : Nat) : Int); omega) e20 (by decide) (by decide) (by decide)) ?_
      refine jr_1 jm_269 (show jw_cd cd_269 143 = some (.iconst 1) by decide +kernel) rfl ?_
      refine jr_1 jm_269 (show jw_cd cd_269 144 = some (.iand) by decide +kernel) (mt_iand (c := 1) (an1_t hq h1)) ?_
      refine jr_1 jm_269 (show jw_cd cd_269 145 = some (.ifCond .le 16) by decide +kernel) (mz_f (q := .le) (a := 1) (by show ¬ (1 ≤ 0); omega) ⟨by omega, by omega⟩ (by decide)) ?_
      refine jr_1 jm_269 (show jw_cd cd_269 148 = some (.iload 8) by decide +kernel) rfl ?_
      refine jr_1 jm_269 (show jw_cd cd_269 150 = some (.ifCond .ge 11) by decide +kernel) (mz_t (q := .ge) (a := a) (t := 161) (by show 0 ≤ a; omega) ⟨by omega, by omega⟩ (by decide) (by decide)) ?_
      refine jr_1 jm_269 (show jw_cd cd_269 161 = some (.iload 8) by decide +kernel) rfl ?_
      refine jr_1 jm_269 (F2 := (165, [some (.ref 15), some (.int (Int32.ofInt (s))), some (.int (Int32.ofInt (v))), some (.int (Int32.ofInt (w))), some (.int (Int32.ofInt (n))), some (.int (Int32.ofInt (c))), some (.int (Int32.ofInt (low))), some (.int (Int32.ofInt (high))), some (.int (Int32.ofInt (a))), some (.int (Int32.ofInt (b))), none], [], ml_mk h σ)) (show jw_cd cd_269 163 = some (.istore 8) by decide +kernel) rfl ?_
      exact kk
  · rw [if_neg h1] at kk
    refine jr_1 jm_269 (show jw_cd cd_269 137 = some (.aload_n 0) by decide +kernel) rfl ?_
    refine jr_1 jm_269 (show jw_cd cd_269 138 = some (.getfield 56) by decide +kernel) (mg_a hl (a := 31) (show jw_fld 34 56 16 = some 20 by decide +kernel) (by decide) (by decide)) ?_
    refine jr_1 jm_269 (show jw_cd cd_269 141 = some (.iload_n 1) by decide +kernel) rfl ?_
    refine jr_1 jm_269 (show jw_cd cd_269 142 = some (.iaload) by decide +kernel) (ma_i hl (i := s) (e := q) 20 (by omega) (by show _ < ((144 : Nat) : Int); omega) e20 (by decide) (by decide) (by decide)) ?_
    refine jr_1 jm_269 (show jw_cd cd_269 143 = some (.iconst 1) by decide +kernel) rfl ?_
    refine jr_1 jm_269 (show jw_cd cd_269 144 = some (.iand) by decide +kernel) (mt_iand (c := 0) (an1_f hq h1)) ?_
    refine jr_1 jm_269 (show jw_cd cd_269 145 = some (.ifCond .le 16) by decide +kernel) (mz_t (q := .le) (a := 0) (t := 161) (by show 0 ≤ 0; omega) ⟨by omega, by omega⟩ (by decide) (by decide)) ?_
    refine jr_1 jm_269 (show jw_cd cd_269 161 = some (.iload 8) by decide +kernel) rfl ?_
    refine jr_1 jm_269 (F2 := (165, [some (.ref 15), some (.int (Int32.ofInt (s))), some (.int (Int32.ofInt (v))), some (.int (Int32.ofInt (w))), some (.int (Int32.ofInt (n))), some (.int (Int32.ofInt (c))), some (.int (Int32.ofInt (low))), some (.int (Int32.ofInt (high))), some (.int (Int32.ofInt (a))), some (.int (Int32.ofInt (b))), none], [], ml_mk h σ)) (show jw_cd cd_269 163 = some (.istore 8) by decide +kernel) rfl ?_
    exact kk
theorem jn_sl_6 {β : Bool} {d : Nat} {h : jx_H} {σ : mS} (hl : 49 ≤ h.length) {s v w n q : Int} (hs : 0 ≤ s ∧ s < 144) (e20 : σ 20 s = q) (hq : 0 ≤ q ∧ q ≤ 7) {c low high a b : Int} (ha : mr b) : ∀ res, jx_r (jz β) jw_M (d + 1) 269 (193, [some (.ref 15), some (.int (Int32.ofInt (s))), some (.int (Int32.ofInt (v))), some (.int (Int32.ofInt (w))), some (.int (Int32.ofInt (n))), some (.int (Int32.ofInt (c))), some (.int (Int32.ofInt (low))), some (.int (Int32.ofInt (high))), some (.int (Int32.ofInt (a))), some (.int (Int32.ofInt (if q / 2 % 2 = 1 then (if b < 0 then b + n else b) else b))), none], [], ml_mk h σ) res → jx_r (jz β) jw_M (d + 1) 269 (165, [some (.ref 15), some (.int (Int32.ofInt (s))), some (.int (Int32.ofInt (v))), some (.int (Int32.ofInt (w))), some (.int (Int32.ofInt (n))), some (.int (Int32.ofInt (c))), some (.int (Int32.ofInt (low))), some (.int (Int32.ofInt (high))), some (.int (Int32.ofInt (a))), some (.int (Int32.ofInt (b))), none], [], ml_mk h σ) res := by
  obtain ⟨s0, s1⟩ := hs
  intro res kk
  obtain ⟨a1, a2⟩ := ha
  by_cases h2 : q / 2 % 2 = 1
  · rw [if_pos h2] at kk
    by_cases hn : b < 0
    · rw [if_pos hn] at kk
      refine jr_1 jm_269 (show jw_cd cd_269 165 = some (.aload_n 0) by decide +kernel) rfl ?_
      refine jr_1 jm_269 (show jw_cd cd_269 166 = some (.getfield 56) by decide +kernel) (mg_a hl (a := 31) (show jw_fld 34 56 16 = some 20 by decide +kernel) (by decide) (by decide)) ?_
      refine jr_1 jm_269 (show jw_cd cd_269 169 = some (.iload_n 1) by decide +kernel) rfl ?_
      refine jr_1 jm_269 (show jw_cd cd_269 170 = some (.iaload) by decide +kernel) (ma_i hl (i := s) (e := q) 20 (by omega) (by show _ < ((144 : Nat) : Int); omega) e20 (by decide) (by decide) (by decide)) ?_
      refine jr_1 jm_269 (show jw_cd cd_269 171 = some (.iconst 2) by decide +kernel) rfl ?_
      refine jr_1 jm_269 (show jw_cd cd_269 172 = some (.iand) by decide +kernel) (mt_iand (c := 2) (an2_t hq h2)) ?_
      refine jr_1 jm_269 (show jw_cd cd_269 173 = some (.ifCond .le 16) by decide +kernel) (mz_f (q := .le) (a := 2) (by show ¬ (2 ≤ 0); omega) ⟨by omega, by omega⟩ (by decide)) ?_
      refine jr_1 jm_269 (show jw_cd cd_269 176 = some (.iload 9) by decide +kernel) rfl ?_
      refine jr_1 jm_269 (show jw_cd cd_269 178 = some (.ifCond .ge 11) by decide +kernel) (mz_f (q := .ge) (a := b) (by show ¬ (0 ≤ b); omega) ⟨by omega, by omega⟩ (by decide)) ?_
      refine jr_1 jm_269 (show jw_cd cd_269 181 = some (.iload 9) by decide +kernel) rfl ?_
      refine jr_1 jm_269 (show jw_cd cd_269 183 = some (.iload 4) by decide +kernel) rfl ?_
      refine jr_1 jm_269 (show jw_cd cd_269 185 = some (.iadd) by decide +kernel) (mt_add (c := b + n) rfl) ?_
      refine jr_1 jm_269 (show jw_cd cd_269 186 = some (.goto 5) by decide +kernel) (ju_go (t := 191) (by decide)) ?_
      refine jr_1 jm_269 (F2 := (193, [some (.ref 15), some (.int (Int32.ofInt (s))), some (.int (Int32.ofInt (v))), some (.int (Int32.ofInt (w))), some (.int (Int32.ofInt (n))), some (.int (Int32.ofInt (c))), some (.int (Int32.ofInt (low))), some (.int (Int32.ofInt (high))), some (.int (Int32.ofInt (a))), some (.int (Int32.ofInt (b + n))), none], [], ml_mk h σ)) (show jw_cd cd_269 191 = some (.istore 9) by decide +kernel) rfl ?_
      exact kk
    · rw [if_neg hn] at kk
      refine jr_1 jm_269 (show jw_cd cd_269 165 = some (.aload_n 0) by decide +kernel) rfl ?_
      refine jr_1 jm_269 (show jw_cd cd_269 166 = some (.getfield 56) by decide +kernel) (mg_a hl (a := 31) (show jw_fld 34 56 16 = some 20 by decide +kernel) (by decide) (by decide)) ?_
      refine jr_1 jm_269 (show jw_cd cd_269 169 = some (.iload_n 1) by decide +kernel) rfl ?_
      refine jr_1 jm_269 (show jw_cd cd_269 170 = some (.iaload) by decide +kernel) (ma_i hl (i := s) (e := q) 20 (by omega) (by show _ < ((144 : Nat) : Int); omega) e20 (by decide) (by decide) (by decide)) ?_
      refine jr_1 jm_269 (show jw_cd cd_269 171 = some (.iconst 2) by decide +kernel) rfl ?_
      refine jr_1 jm_269 (show jw_cd cd_269 172 = some (.iand) by decide +kernel) (mt_iand (c := 2) (an2_t hq h2)) ?_
      refine jr_1 jm_269 (show jw_cd cd_269 173 = some (.ifCond .le 16) by decide +kernel) (mz_f (q := .le) (a := 2) (by show ¬ (2 ≤ 0); omega) ⟨by omega, by omega⟩ (by decide)) ?_
      refine jr_1 jm_269 (show jw_cd cd_269 176 = some (.iload 9) by decide +kernel) rfl ?_
      refine jr_1 jm_269 (show jw_cd cd_269 178 = some (.ifCond .ge 11) by decide +kernel) (mz_t (q := .ge) (a := b) (t := 189) (by show 0 ≤ b; omega) ⟨by omega, by omega⟩ (by decide) (by decide)) ?_
      refine jr_1 jm_269 (show jw_cd cd_269 189 = some (.iload 9) by decide +kernel) rfl ?_
      refine jr_1 jm_269 (F2 := (193, [some (.ref 15), some (.int (Int32.ofInt (s))), some (.int (Int32.ofInt (v))), some (.int (Int32.ofInt (w))), some (.int (Int32.ofInt (n))), some (.int (Int32.ofInt (c))), some (.int (Int32.ofInt (low))), some (.int (Int32.ofInt (high))), some (.int (Int32.ofInt (a))), some (.int (Int32.ofInt (b))), none], [], ml_mk h σ)) (show jw_cd cd_269 191 = some (.istore 9) by decide +kernel) rfl ?_
      exact kk
  · rw [if_neg h2] at kk
    refine jr_1 jm_269 (show jw_cd cd_269 165 = some (.aload_n 0) by decide +kernel) rfl ?_
    refine jr_1 jm_269 (show jw_cd cd_269 166 = some (.getfield 56) by decide +kernel) (mg_a hl (a := 31) (show jw_fld 34 56 16 = some 20 by decide +kernel) (by decide) (by decide)) ?_
    refine jr_1 jm_269 (show jw_cd cd_269 169 = some (.iload_n 1) by decide +kernel) rfl ?_
    refine jr_1 jm_269 (show jw_cd cd_269 170 = some (.iaload) by decide +kernel) (ma_i hl (i := s) (e := q) 20 (by omega) (by show _ < ((144 : Nat) : Int); omega) e20 (by decide) (by decide) (by decide)) ?_
    refine jr_1 jm_269 (show jw_cd cd_269 171 = some (.iconst 2) by decide +kernel) rfl ?_
    refine jr_1 jm_269 (show jw_cd cd_269 172 = some (.iand) by decide +kernel) (mt_iand (c := 0) (an2_f hq h2)) ?_
    refine jr_1 jm_269 (show jw_cd cd_269 173 = some (.ifCond .le 16) by decide +kernel) (mz_t (q := .le) (a := 0) (t := 189) (by show 0 ≤ 0; omega) ⟨by omega, by omega⟩ (by decide) (by decide)) ?_
    refine jr_1 jm_269 (show jw_cd cd_269 189 = some (.iload 9) by decide +kernel) rfl ?_
    refine jr_1 jm_269 (F2 := (193, [some (.ref 15), some (.int (Int32.ofInt (s))), some (.int (Int32.ofInt (v))), some (.int (Int32.ofInt (w))), some (.int (Int32.ofInt (n))), some (.int (Int32.ofInt (c))), some (.int (Int32.ofInt (low))), some (.int (Int32.ofInt (high))), some (.int (Int32.ofInt (a))), some (.int (Int32.ofInt (b))), none], [], ml_mk h σ)) (show jw_cd cd_269 191 = some (.istore 9) by decide +kernel) rfl ?_
    exact kk
theorem jn_sl_7 {β : Bool} {d : Nat} {h : jx_H} {σ : mS} (hl : 49 ≤ h.length) {s v w n q : Int} (hs : 0 ≤ s ∧ s < 144) (e20 : σ 20 s = q) (hq : 0 ≤ q ∧ q ≤ 7) {c low high a b : Int} (ha : mr a) (h1 : mr low) (h2 : mr high) : ∀ res, jx_r (jz β) jw_M (d + 1) 269 (221, [some (.ref 15), some (.int (Int32.ofInt (s))), some (.int (Int32.ofInt (v))), some (.int (Int32.ofInt (w))), some (.int (Int32.ofInt (n))), some (.int (Int32.ofInt (c))), some (.int (Int32.ofInt (low))), some (.int (Int32.ofInt (high))), some (.int (Int32.ofInt (clp low high a))), some (.int (Int32.ofInt (b))), none], [], ml_mk h σ) res → jx_r (jz β) jw_M (d + 1) 269 (193, [some (.ref 15), some (.int (Int32.ofInt (s))), some (.int (Int32.ofInt (v))), some (.int (Int32.ofInt (w))), some (.int (Int32.ofInt (n))), some (.int (Int32.ofInt (c))), some (.int (Int32.ofInt (low))), some (.int (Int32.ofInt (high))), some (.int (Int32.ofInt (a))), some (.int (Int32.ofInt (b))), none], [], ml_mk h σ) res := by
  obtain ⟨s0, s1⟩ := hs
  intro res kk
  obtain ⟨a1, a2⟩ := ha
  obtain ⟨l1, l2⟩ := h1
  obtain ⟨m1, m2⟩ := h2
  by_cases ha : a < low
  · rw [show clp low high a = low from if_pos ha] at kk
    refine jr_1 jm_269 (show jw_cd cd_269 193 = some (.iload 8) by decide +kernel) rfl ?_
    refine jr_1 jm_269 (show jw_cd cd_269 195 = some (.iload 6) by decide +kernel) rfl ?_
    refine jr_1 jm_269 (show jw_cd cd_269 197 = some (.if_icmp .ge 8) by decide +kernel) (mb_f (q := .ge) (a := a) (b := low) (by show ¬ (low ≤ a); omega) ⟨by omega, by omega⟩ ⟨by omega, by omega⟩ (by decide)) ?_
    refine jr_1 jm_269 (show jw_cd cd_269 200 = some (.iload 6) by decide +kernel) rfl ?_
    refine jr_1 jm_269 (show jw_cd cd_269 202 = some (.goto 17) by decide +kernel) (ju_go (t := 219) (by decide)) ?_
    refine jr_1 jm_269 (F2 := (221, [some (.ref 15), some (.int (Int32.ofInt (s))), some (.int (Int32.ofInt (v))), some (.int (Int32.ofInt (w))), some (.int (Int32.ofInt (n))), some (.int (Int32.ofInt (c))), some (.int (Int32.ofInt (low))), some (.int (Int32.ofInt (high))), some (.int (Int32.ofInt (low))), some (.int (Int32.ofInt (b))), none], [], ml_mk h σ)) (show jw_cd cd_269 219 = some (.istore 8) by decide +kernel) rfl ?_
    exact kk
  · rw [show clp low high a = if high < a then high else a from if_neg ha] at kk
    by_cases hb : high < a
    · rw [if_pos hb] at kk
      refine jr_1 jm_269 (show jw_cd cd_269 193 = some (.iload 8) by decide +kernel) rfl ?_
      refine jr_1 jm_269 (show jw_cd cd_269 195 = some (.iload 6) by decide +kernel) rfl ?_
      refine jr_1 jm_269 (show jw_cd cd_269 197 = some (.if_icmp .ge 8) by decide +kernel) (mb_t (q := .ge) (a := a) (b := low) (t := 205) (by show low ≤ a; omega) ⟨by omega, by omega⟩ ⟨by omega, by omega⟩ (by decide) (by decide)) ?_
      refine jr_1 jm_269 (show jw_cd cd_269 205 = some (.iload 8) by decide +kernel) rfl ?_
      refine jr_1 jm_269 (show jw_cd cd_269 207 = some (.iload 7) by decide +kernel) rfl ?_
      refine jr_1 jm_269 (show jw_cd cd_269 209 = some (.if_icmp .le 8) by decide +kernel) (mb_f (q := .le) (a := a) (b := high) (by show ¬ (a ≤ high); omega) ⟨by omega, by omega⟩ ⟨by omega, by omega⟩ (by decide)) ?_
      refine jr_1 jm_269 (show jw_cd cd_269 212 = some (.iload 7) by decide +kernel) rfl ?_
      refine jr_1 jm_269 (show jw_cd cd_269 214 = some (.goto 5) by decide +kernel) (ju_go (t := 219) (by decide)) ?_
      refine jr_1 jm_269 (F2 := (221, [some (.ref 15), some (.int (Int32.ofInt (s))), some (.int (Int32.ofInt (v))), some (.int (Int32.ofInt (w))), some (.int (Int32.ofInt (n))), some (.int (Int32.ofInt (c))), some (.int (Int32.ofInt (low))), some (.int (Int32.ofInt (high))), some (.int (Int32.ofInt (high))), some (.int (Int32.ofInt (b))), none], [], ml_mk h σ)) (show jw_cd cd_269 219 = some (.istore 8) by decide +kernel) rfl ?_
      exact kk
    · rw [if_neg hb] at kk
      refine jr_1 jm_269 (show jw_cd cd_269 193 = some (.iload 8) by decide +kernel) rfl ?_
      refine jr_1 jm_269 (show jw_cd cd_269 195 = some (.iload 6) by decide +kernel) rfl ?_
      refine jr_1 jm_269 (show jw_cd cd_269 197 = some (.if_icmp .ge 8) by decide +kernel) (mb_t (q := .ge) (a := a) (b := low) (t := 205) (by show low ≤ a; omega) ⟨by omega, by omega⟩ ⟨by omega, by omega⟩ (by decide) (by decide)) ?_
      refine jr_1 jm_269 (show jw_cd cd_269 205 = some (.iload 8) by decide +kernel) rfl ?_
      refine jr_1 jm_269 (show jw_cd cd_269 207 = some (.iload 7) by decide +kernel) rfl ?_
      refine jr_1 jm_269 (show jw_cd cd_269 209 = some (.if_icmp .le 8) by decide +kernel) (mb_t (q := .le) (a := a) (b := high) (t := 217) (by show a ≤ high; omega) ⟨by omega, by omega⟩ ⟨by omega, by omega⟩ (by decide) (by decide)) ?_
      refine jr_1 jm_269 (show jw_cd cd_269 217 = some (.iload 8) by decide +kernel) rfl ?_
      refine jr_1 jm_269 (F2 := (221, [some (.ref 15), some (.int (Int32.ofInt (s))), some (.int (Int32.ofInt (v))), some (.int (Int32.ofInt (w))), some (.int (Int32.ofInt (n))), some (.int (Int32.ofInt (c))), some (.int (Int32.ofInt (low))), some (.int (Int32.ofInt (high))), some (.int (Int32.ofInt (a))), some (.int (Int32.ofInt (b))), none], [], ml_mk h σ)) (show jw_cd cd_269 219 = some (.istore 8) by decide +kernel) rfl ?_
      exact kk
theorem jn_sl_8 {β : Bool} {d : Nat} {h : jx_H} {σ : mS} (hl : 49 ≤ h.length) {s v w n q : Int} (hs : 0 ≤ s ∧ s < 144) (e20 : σ 20 s = q) (hq : 0 ≤ q ∧ q ≤ 7) {c low high a b : Int} (ha : mr b) (h1 : mr low) (h2 : mr high) : ∀ res, jx_r (jz β) jw_M (d + 1) 269 (249, [some (.ref 15), some (.int (Int32.ofInt (s))), some (.int (Int32.ofInt (v))), some (.int (Int32.ofInt (w))), some (.int (Int32.ofInt (n))), some (.int (Int32.ofInt (c))), some (.int (Int32.ofInt (low))), some (.int (Int32.ofInt (high))), some (.int (Int32.ofInt (a))), some (.int (Int32.ofInt (clp low high b))), none], [], ml_mk h σ) res → jx_r (jz β) jw_M (d + 1) 269 (221, [some (.ref 15), some (.int (Int32.ofInt (s))), some (.int (Int32.ofInt (v))), some (.int (Int32.ofInt (w))), some (.int (Int32.ofInt (n))), some (.int (Int32.ofInt (c))), some (.int (Int32.ofInt (low))), some (.int (Int32.ofInt (high))), some (.int (Int32.ofInt (a))), some (.int (Int32.ofInt (b))), none], [], ml_mk h σ) res := by
  obtain ⟨s0, s1⟩ := hs
  intro res kk
  obtain ⟨a1, a2⟩ := ha
  obtain ⟨l1, l2⟩ := h1
  obtain ⟨m1, m2⟩ := h2
  by_cases ha : b < low
  · rw [show clp low high b = low from if_pos ha] at kk
    refine jr_1 jm_269 (show jw_cd cd_269 221 = some (.iload 9) by decide +kernel) rfl ?_
    refine jr_1 jm_269 (show jw_cd cd_269 223 = some (.iload 6) by decide +kernel) rfl ?_
    refine jr_1 jm_269 (show jw_cd cd_269 225 = some (.if_icmp .ge 8) by decide +kernel) (mb_f (q := .ge) (a := b) (b := low) (by show ¬ (low ≤ b); omega) ⟨by omega, by omega⟩ ⟨by omega, by omega⟩ (by decide)) ?_
    refine jr_1 jm_269 (show jw_cd cd_269 228 = some (.iload 6) by decide +kernel) rfl ?_
    refine jr_1 jm_269 (show jw_cd cd_269 230 = some (.goto 17) by decide +kernel) (ju_go (t := 247) (by decide)) ?_
    refine jr_1 jm_269 (F2 := (249, [some (.ref 15), some (.int (Int32.ofInt (s))), some (.int (Int32.ofInt (v))), some (.int (Int32.ofInt (w))), some (.int (Int32.ofInt (n))), some (.int (Int32.ofInt (c))), some (.int (Int32.ofInt (low))), some (.int (Int32.ofInt (high))), some (.int (Int32.ofInt (a))), some (.int (Int32.ofInt (low))), none], [], ml_mk h σ)) (show jw_cd cd_269 247 = some (.istore 9) by decide +kernel) rfl ?_
    exact kk
  · rw [show clp low high b = if high < b then high else b from if_neg ha] at kk
    by_cases hb : high < b
    · rw [if_pos hb] at kk
      refine jr_1 jm_269 (show jw_cd cd_269 221 = some (.iload 9) by decide +kernel) rfl ?_
      refine jr_1 jm_269 (show jw_cd cd_269 223 = some (.iload 6) by decide +kernel) rfl ?_
      refine jr_1 jm_269 (show jw_cd cd_269 225 = some (.if_icmp .ge 8) by decide +kernel) (mb_t (q := .ge) (a := b) (b := low) (t := 233) (by show low ≤ b; omega) ⟨by omega, by omega⟩ ⟨by omega, by omega⟩ (by decide) (by decide)) ?_
      refine jr_1 jm_269 (show jw_cd cd_269 233 = some (.iload 9) by decide +kernel) rfl ?_
      refine jr_1 jm_269 (show jw_cd cd_269 235 = some (.iload 7) by decide +kernel) rfl ?_
      refine jr_1 jm_269 (show jw_cd cd_269 237 = some (.if_icmp .le 8) by decide +kernel) (mb_f (q := .le) (a := b) (b := high) (by show ¬ (b ≤ high); omega) ⟨by omega, by omega⟩ ⟨by omega, by omega⟩ (by decide)) ?_
      refine jr_1 jm_269 (show jw_cd cd_269 240 = some (.iload 7) by decide +kernel) rfl ?_
      refine jr_1 jm_269 (show jw_cd cd_269 242 = some (.goto 5) by decide +kernel) (ju_go (t := 247) (by decide)) ?_
      refine jr_1 jm_269 (F2 := (249, [some (.ref 15), some (.int (Int32.ofInt (s))), some (.int (Int32.ofInt (v))), some (.int (Int32.ofInt (w))), some (.int (Int32.ofInt (n))), some (.int (Int32.ofInt (c))), some (.int (Int32.ofInt (low))), some (.int (Int32.ofInt (high))), some (.int (Int32.ofInt (a))), some (.int (Int32.ofInt (high))), none], [], ml_mk h σ)) (show jw_cd cd_269 247 = some (.istore 9) by decide +kernel) rfl ?_
      exact kk
    · rw [if_neg hb] at kk
      refine jr_1 jm_269 (show jw_cd cd_269 221 = some (.iload 9) by decide +kernel) rfl ?_
      refine jr_1 jm_269 (show jw_cd cd_269 223 = some (.iload 6) by decide +kernel) rfl ?_
      refine jr_1 jm_269 (show jw_cd cd_269 225 = some (.if_icmp .ge 8) by decide +kernel) (mb_t (q := .ge) (a := b) (b := low) (t := 233) (by show low ≤ b; omega) ⟨by omega, by omega⟩ ⟨by omega, by omega⟩ (by decide) (by decide)) ?_
      refine jr_1 jm_269 (show jw_cd cd_269 233 = some (.iload 9) by decide +kernel) rfl ?_
      refine jr_1 jm_269 (show jw_cd cd_269 235 = some (.iload 7) by decide +kernel) rfl ?_
      refine jr_1 jm_269 (show jw_cd cd_269 237 = some (.if_icmp .le 8) by decide +kernel) (mb_t (q := .le) (a := b) (b := high) (t := 245) (by show b ≤ high; omega) ⟨by omega, by omega⟩ ⟨by omega, by omega⟩ (by decide) (by decide)) ?_
      refine jr_1 jm_269 (show jw_cd cd_269 245 = some (.iload 9) by decide +kernel) rfl ?_
      refine jr_1 jm_269 (F2 := (249, [some (.ref 15), some (.int (Int32.ofInt (s))), some (.int (Int32.ofInt (v))), some (.int (Int32.ofInt (w))), some (.int (Int32.ofInt (n))), some (.int (Int32.ofInt (c))), some (.int (Int32.ofInt (low))), some (.int (Int32.ofInt (high))), some (.int (Int32.ofInt (a))), some (.int (Int32.ofInt (b))), none], [], ml_mk h σ)) (show jw_cd cd_269 247 = some (.istore 9) by decide +kernel) rfl ?_
      exact kk
theorem sl_A {q n0 n1 n2 n c low high x0 : Int} (hc : c = slC (q, n0, n1, n2)) (hlo : low = slLo c) (hhi : high = slHi c n) (hx : x0 = if q % 2 = 1 then n0 else if 0 < c then low else high) : clp low high (if q % 2 = 1 then (if x0 < 0 then x0 + n else x0) else x0) = slA (q, n0, n1, n2) n := by
  unfold slA
  rw [← hc, ← hlo, ← hhi]
  congr 1
  by_cases h1 : q % 2 = 1
  · rw [if_pos h1] at hx
    rw [hx, if_pos h1, if_pos h1]
  · rw [if_neg h1] at hx
    rw [if_neg h1, if_neg h1, hx]
theorem sl_B {q n0 n1 n2 n c low high y0 : Int} (hc : c = slC (q, n0, n1, n2)) (hlo : low = slLo c) (hhi : high = slHi c n) (hx : y0 = if q / 2 % 2 = 1 then n1 else if 0 < c then high else low) : clp low high (if q / 2 % 2 = 1 then (if y0 < 0 then y0 + n else y0) else y0) = slB (q, n0, n1, n2) n := by
  unfold slB
  rw [← hc, ← hlo, ← hhi]
  congr 1
  by_cases h1 : q / 2 % 2 = 1
  · rw [if_pos h1] at hx
    rw [hx, if_pos h1, if_pos h1]
  · rw [if_neg h1] at hx
    rw [if_neg h1, if_neg h1, hx]
/-- the numbers of a step, as far as they are said -/
def nuR (σ : mS) (s : Int) (p : Int × Int × Int × Int) : Prop := σ 20 s = p.1 ∧ (0 ≤ p.1 ∧ p.1 ≤ 7) ∧ (p.1 % 2 = 1 → σ 21 (3 * s) = p.2.1 ∧ -1000000 ≤ p.2.1 ∧ p.2.1 ≤ 1000000) ∧ (p.1 / 2 % 2 = 1 → σ 21 (3 * s + 1) = p.2.2.1 ∧ -1000000 ≤ p.2.2.1 ∧ p.2.2.1 ≤ 1000000) ∧ (4 ≤ p.1 → σ 21 (3 * s + 2) = p.2.2.2 ∧ -1000000 ≤ p.2.2.2 ∧ p.2.2.2 ≤ 1000000)
theorem if_mr {p : Prop} [Decidable p] {a b lo hi : Int} (ha : lo ≤ a ∧ a ≤ hi) (hb : lo ≤ b ∧ b ≤ hi) : lo ≤ (if p then a else b) ∧ (if p then a else b) ≤ hi := by
  by_cases h : p
  · rw [if_pos h]
    exact ha
  · rw [if_neg h]
    exact hb
theorem if_mr2 {p : Prop} [Decidable p] {a b lo hi : Int} (ha : p → lo ≤ a ∧ a ≤ hi) (hb : lo ≤ b ∧ b ≤ hi) : lo ≤ (if p then a else b) ∧ (if p then a else b) ≤ hi := by
  by_cases h : p
  · rw [if_pos h]
    exact ha h
  · rw [if_neg h]
    exact hb
theorem jn_slice {β : Bool} {d : Nat} {h : jx_H} {σ : mS} (hl : 49 ≤ h.length) {A B : Int → Prop} (hA : mIx A) (hB : mIx B) {s v w p : Int} {pp : Int × Int × Int × Int} {i : tI} {F : FT} (hs : 0 ≤ s ∧ s < 144) (hn : nuR σ s pp) (h0 : ¬ slC pp = 0) (hV : mV σ A B v i F) (hz : fsz F ≤ 400) (e36 : σ 36 0 = p) (hp : 0 ≤ p) (hr : p + (slS pp F).length ≤ 400) : ∃ τ : mS, jx_r (jz β) jw_M (d + 1) 269 (0, [some (.ref 15), some (.int (Int32.ofInt (s))), some (.int (Int32.ofInt (v))), some (.int (Int32.ofInt (w))), none, none, none, none, none, none, none], [], ml_mk h σ) (ml_mk h (τ), .inl none) ∧ enF σ τ p ∧ τ 36 0 = p + (slS pp F).length ∧ tpR τ A B p ((slS pp F).map fun u => (w, some u)) := by
  obtain ⟨q, n0, n1, n2⟩ := pp
  obtain ⟨e20, hq, f0, f1, f2⟩ := hn
  have e20 : σ 20 s = q := e20
  have hq : 0 ≤ q ∧ q ≤ 7 := hq
  have f0 : q % 2 = 1 → σ 21 (3 * s) = n0 ∧ -1000000 ≤ n0 ∧ n0 ≤ 1000000 := f0
  have f1 : q / 2 % 2 = 1 → σ 21 (3 * s + 1) = n1 ∧ -1000000 ≤ n1 ∧ n1 ≤ 1000000 := f1
  have f2 : 4 ≤ q → σ 21 (3 * s + 2) = n2 ∧ -1000000 ≤ n2 ∧ n2 ≤ 1000000 := f2
  obtain ⟨n, hnn⟩ : ∃ n : Int, n = fsz F := ⟨_, rfl⟩
  have e7 : σ 7 v = n := by rw [hnn]; exact hV.2.1.2.2.2
  obtain ⟨c, hc⟩ : ∃ c, c = slC (q, n0, n1, n2) := ⟨_, rfl⟩
  obtain ⟨low, hlo⟩ : ∃ low, low = slLo c := ⟨_, rfl⟩
  obtain ⟨high, hhi⟩ : ∃ high, high = slHi c n := ⟨_, rfl⟩
  obtain ⟨x0, hx0⟩ : ∃ x0, x0 = if q % 2 = 1 then n0 else if 0 < c then low else high := ⟨_, rfl⟩
  obtain ⟨y0, hy0⟩ : ∃ y0, y0 = if q / 2 % 2 = 1 then n1 else if 0 < c then high else low := ⟨_, rfl⟩
  obtain ⟨a, ha⟩ : ∃ a, a = slA (q, n0, n1, n2) n := ⟨_, rfl⟩
  obtain ⟨b, hb⟩ : ∃ b, b = slB (q, n0, n1, n2) n := ⟨_, rfl⟩
  have hA' := (sl_A (n := n) hc hlo hhi hx0).trans ha.symm
  have hB' := (sl_B (n := n) hc hlo hhi hy0).trans hb.symm
  have rc : -1000000 ≤ c ∧ c ≤ 1000000 := by
    rw [hc]
    exact if_mr2 (fun h => (f2 h).2) ⟨by decide, by decide⟩
  have rlo : -1 ≤ low ∧ low ≤ 0 := by
    rw [hlo]
    exact if_mr ⟨by decide, by decide⟩ ⟨by decide, by decide⟩
  have rhi : -1 ≤ high ∧ high ≤ 400 := by
    rw [hhi]
    exact if_mr ⟨by omega, by omega⟩ ⟨by omega, by omega⟩
  have rx : -1000000 ≤ x0 ∧ x0 ≤ 1000000 := by
    rw [hx0]
    exact if_mr2 (fun h => (f0 h).2) (if_mr ⟨by omega, by omega⟩ ⟨by omega, by omega⟩)
  have ry : -1000000 ≤ y0 ∧ y0 ≤ 1000000 := by
    rw [hy0]
    exact if_mr2 (fun h => (f1 h).2) (if_mr ⟨by omega, by omega⟩ ⟨by omega, by omega⟩)
  have ra := slA_r (q, n0, n1, n2) (n := n) (by omega)
  have rb := slB_r (q, n0, n1, n2) (n := n) (by omega)
  rw [← hc, ← hlo, ← hhi, ← ha] at ra
  rw [← hc, ← hlo, ← hhi, ← hb] at rb
  have h0 : ¬ c = 0 := by rw [hc]; exact h0
  have rlh : (0 < c → low = 0 ∧ high = n) ∧ (c < 0 → low = -1 ∧ high = n - 1) := by
    refine ⟨fun h => ⟨by rw [hlo]; exact if_pos h, by rw [hhi]; exact if_pos h⟩, fun h => ⟨by rw [hlo]; exact if_neg (by omega), by rw [hhi]; exact if_neg (by omega)⟩⟩
  obtain ⟨m1, m2⟩ := rlh
  obtain ⟨τ, z1, z2, z3, z4⟩ := jn_sl_loop (β := β) (d := d) (h := h) hl hA hB (s := s) (v := v) (w := w) (low := low) (high := high) (a := a) (b := b) (c := c) (n := n) (i := i) (F := F) hnn (by omega) h0 rc ⟨by
    rcases Int.lt_or_gt_of_ne h0 with h | h
    · have := m2 h
      omega
    · have := m1 h
      omega, by
    rcases Int.lt_or_gt_of_ne h0 with h | h
    · have := m2 h
      omega
    · have := m1 h
      omega⟩ (fsz F + 1) a p σ (slS (q, n0, n1, n2) F) (by rw [hb, ha, hc, hnn]; rfl) hV e36 hp hr (fun h => by
      have := m1 h
      omega) (fun h => by
      have := m2 h
      omega)
  refine ⟨τ, ?_, z2, z3, z4⟩
  obtain ⟨s0, s1⟩ := id hs
  have v0 := hA _ hV.1
  refine jr_1 jm_269 (show jw_cd cd_269 0 = some (.aload_n 0) by decide +kernel) rfl ?_
  refine jr_1 jm_269 (show jw_cd cd_269 1 = some (.getfield 26) by decide +kernel) (mg_a hl (a := 21) (show jw_fld 34 26 16 = some 7 by decide +kernel) (by decide) (by decide)) ?_
  refine jr_1 jm_269 (show jw_cd cd_269 4 = some (.iload_n 2) by decide +kernel) rfl ?_
  refine jr_1 jm_269 (show jw_cd cd_269 5 = some (.iaload) by decide +kernel) (ma_i hl (i := v) (e := n) 7 (by omega) (by show _ < ((1740 : Nat) : Int); omega) e7 (by decide) (by decide) (by decide)) ?_
  refine jr_1 jm_269 (F2 := (8, [some (.ref 15), some (.int (Int32.ofInt (s))), some (.int (Int32.ofInt (v))), some (.int (Int32.ofInt (w))), some (.int (Int32.ofInt (n))), none, none, none, none, none, none], [], ml_mk h σ)) (show jw_cd cd_269 6 = some (.istore 4) by decide +kernel) rfl ?_
  refine jn_sl_1 hl hs e20 hq (n0 := n0) (n1 := n1) (fun h => (f2 h).1) _ ?_
  rw [← hc]
  refine jn_sl_2 hl hs e20 hq ⟨by omega, by omega⟩ _ ?_
  rw [← hlo, ← hhi]
  refine jn_sl_3 hl hs e20 hq ⟨by omega, by omega⟩ (fun h => (f0 h).1) _ ?_
  rw [← hx0]
  refine jn_sl_4 hl hs e20 hq ⟨by omega, by omega⟩ (fun h => (f1 h).1) _ ?_
  rw [← hy0]
  refine jn_sl_5 hl hs e20 hq ⟨by omega, by omega⟩ _ ?_
  have rx1 : -2000000 ≤ (if q % 2 = 1 then (if x0 < 0 then x0 + n else x0) else x0) ∧ (if q % 2 = 1 then (if x0 < 0 then x0 + n else x0) else x0) ≤ 2000000 := if_mr (if_mr ⟨by omega, by omega⟩ ⟨by omega, by omega⟩) ⟨by omega, by omega⟩
  have ry1 : -2000000 ≤ (if q / 2 % 2 = 1 then (if y0 < 0 then y0 + n else y0) else y0) ∧ (if q / 2 % 2 = 1 then (if y0 < 0 then y0 + n else y0) else y0) ≤ 2000000 := if_mr (if_mr ⟨by omega, by omega⟩ ⟨by omega, by omega⟩) ⟨by omega, by omega⟩
  obtain ⟨x1, hx1⟩ : ∃ x1, x1 = if q % 2 = 1 then (if x0 < 0 then x0 + n else x0) else x0 := ⟨_, rfl⟩
  obtain ⟨y1, hy1⟩ : ∃ y1, y1 = if q / 2 % 2 = 1 then (if y0 < 0 then y0 + n else y0) else y0 := ⟨_, rfl⟩
  rw [← hx1] at rx1 hA' ⊢
  rw [← hy1] at ry1 hB'
  refine jn_sl_6 hl hs e20 hq ⟨by omega, by omega⟩ _ ?_
  rw [← hy1]
  refine jn_sl_7 hl hs e20 hq ⟨by omega, by omega⟩ ⟨by omega, by omega⟩ ⟨by omega, by omega⟩ _ ?_
  rw [hA']
  refine jn_sl_8 hl hs e20 hq ⟨by omega, by omega⟩ ⟨by omega, by omega⟩ ⟨by omega, by omega⟩ _ ?_
  rw [hB']
  refine jr_1 jm_269 (show jw_cd cd_269 249 = some (.iload 8) by decide +kernel) rfl ?_
  refine jr_1 jm_269 (F2 := (253, [some (.ref 15), some (.int (Int32.ofInt (s))), some (.int (Int32.ofInt (v))), some (.int (Int32.ofInt (w))), some (.int (Int32.ofInt (n))), some (.int (Int32.ofInt (c))), some (.int (Int32.ofInt (low))), some (.int (Int32.ofInt (high))), some (.int (Int32.ofInt (a))), some (.int (Int32.ofInt (b))), some (.int (Int32.ofInt (a)))], [], ml_mk h σ)) (show jw_cd cd_269 251 = some (.istore 10) by decide +kernel) rfl ?_
  exact z1
