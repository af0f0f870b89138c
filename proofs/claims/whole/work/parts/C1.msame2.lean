/-! ===== the model's same: the whole (printed by program: gen44.py) ===== -/
theorem hdS_iff (X Y : tI × FT) : hdS X Y = true ↔ X.1.1 = Y.1.1 ∧ fsz X.2 = fsz Y.2 ∧ (X.1.1 = 3 → X.1.2.1 = Y.1.2.1) ∧ (X.1.1 = 4 → X.1.2.2.1 = Y.1.2.2.1) := by
  unfold hdS
  simp only [Bool.and_eq_true, Bool.or_eq_true, decide_eq_true_eq]
  constructor
  · rintro ⟨h1, h2, h3, h4⟩
    exact ⟨h1, h2, fun z => h3.resolve_left (fun w => w z), fun z => h4.resolve_left (fun w => w z)⟩
  · rintro ⟨h1, h2, h3, h4⟩
    refine ⟨h1, h2, ?_, ?_⟩
    · by_cases h : X.1.1 = 3
      · exact Or.inr (h3 h)
      · exact Or.inl h
    · by_cases h : X.1.1 = 4
      · exact Or.inr (h4 h)
      · exact Or.inl h
theorem jn_sm_t {β : Bool} {d : Nat} {h : jx_H} {σ : mS} (hl : 49 ≤ h.length) {a b m k x y : Int} {X Y : tI × FT} {τ : mS} {c5 c6 c7 c8 c9 : Option Value} (hkm : 0 ≤ k ∧ k < m) (hm : m ≤ 400) (hx : 0 ≤ x ∧ x < 1740) (hy : 0 ≤ y ∧ y < 1740) (hiX : iok X.1) (hiY : iok Y.1) (hcX : fsz X.2 ≤ 1740) (hcY : fsz Y.2 ≤ 1740) (q43 : τ 43 k = x) (q44 : τ 44 k = y) (x3 : τ 3 x = X.1.1) (y3 : τ 3 y = Y.1.1) (x7 : τ 7 x = (fsz X.2 : Int)) (y7 : τ 7 y = (fsz Y.2 : Int)) (x4 : τ 4 x = X.1.2.1) (y4 : τ 4 y = Y.1.2.1) (x5 : τ 5 x = pk X.1.2.2.1) (y5 : τ 5 y = pk Y.1.2.2.1) (x6 : τ 6 x = σ 6 x) (y6 : τ 6 y = σ 6 y) (hh : hdS X Y = true) : ∀ res, jx_r (jz β) jw_M (d + 1) 272 (154, [some (.ref 15), some (.int (Int32.ofInt (a))), some (.int (Int32.ofInt (b))), some (.int (Int32.ofInt (m))), some (.int (Int32.ofInt (k))), some (.int (Int32.ofInt (x))), some (.int (Int32.ofInt (y))), some (.int (Int32.ofInt (σ 6 y))), some (.int (Int32.ofInt (σ 6 x))), c9], [], ml_mk h τ) res → jx_r (jz β) jw_M (d + 1) 272 (19, [some (.ref 15), some (.int (Int32.ofInt (a))), some (.int (Int32.ofInt (b))), some (.int (Int32.ofInt (m))), some (.int (Int32.ofInt (k))), c5, c6, c7, c8, c9], [], ml_mk h τ) res := by
  obtain ⟨k0, k1⟩ := hkm
  obtain ⟨x0, x1⟩ := hx
  obtain ⟨y0, y1⟩ := hy
  obtain ⟨a1, a2, ⟨a3, a3'⟩, tX, -⟩ := hiX
  obtain ⟨b1, b2, ⟨b3, b3'⟩, tY, -⟩ := hiY
  obtain ⟨hk, hc, h3i, h4i⟩ := (hdS_iff X Y).mp hh
  intro res kk
  by_cases h3 : X.1.1 = 3
  · have hn := h3i h3
    refine jr_1 jm_272 (show jw_cd cd_272 19 = some (.iload 4) by decide +kernel) rfl ?_
    refine jr_1 jm_272 (show jw_cd cd_272 21 = some (.iload_n 3) by decide +kernel) rfl ?_
    refine jr_1 jm_272 (show jw_cd cd_272 22 = some (.if_icmp .ge 234) by decide +kernel) (mb_f (q := .ge) (a := k) (b := m) (by show ¬ (m ≤ k); omega) ⟨by omega, by omega⟩ ⟨by omega, by omega⟩ (by decide)) ?_
    refine jr_1 jm_272 (show jw_cd cd_272 25 = some (.aload_n 0) by decide +kernel) rfl ?_
    refine jr_1 jm_272 (show jw_cd cd_272 26 = some (.getfield 101) by decide +kernel) (mg_a hl (a := 46) (show jw_fld 34 101 16 = some 43 by decide +kernel) (by decide) (by decide)) ?_
    refine jr_1 jm_272 (show jw_cd cd_272 29 = some (.iload 4) by decide +kernel) rfl ?_
    refine jr_1 jm_272 (show jw_cd cd_272 31 = some (.iaload) by decide +kernel) (ma_i hl (i := k) (e := x) 43 (by omega) (by show _ < ((400 : Nat) : Int); omega) q43 (by decide) (by decide) (by decide)) ?_
    refine jr_1 jm_272 (F2 := (34, [some (.ref 15), some (.int (Int32.ofInt (a))), some (.int (Int32.ofInt (b))), some (.int (Int32.ofInt (m))), some (.int (Int32.ofInt (k))), some (.int (Int32.ofInt (x))), c6, c7, c8, c9], [], ml_mk h τ)) (show jw_cd cd_272 32 = some (.istore 5) by decide +kernel) rfl ?_
    refine jr_1 jm_272 (show jw_cd cd_272 34 = some (.aload_n 0) by decide +kernel) rfl ?_
    refine jr_1 jm_272 (show jw_cd cd_272 35 = some (.getfield 104) by decide +kernel) (mg_a hl (a := 47) (show jw_fld 34 104 16 = some 44 by decide +kernel) (by decide) (by decide)) ?_
    refine jr_1 jm_272 (show jw_cd cd_272 38 = some (.iload 4) by decide +kernel) rfl ?_
    refine jr_1 jm_272 (show jw_cd cd_272 40 = some (.iaload) by decide +kernel) (ma_i hl (i := k) (e := y) 44 (by omega) (by show _ < ((400 : Nat) : Int); omega) q44 (by decide) (by decide) (by decide)) ?_
    refine jr_1 jm_272 (F2 := (43, [some (.ref 15), some (.int (Int32.ofInt (a))), some (.int (Int32.ofInt (b))), some (.int (Int32.ofInt (m))), some (.int (Int32.ofInt (k))), some (.int (Int32.ofInt (x))), some (.int (Int32.ofInt (y))), c7, c8, c9], [], ml_mk h τ)) (show jw_cd cd_272 41 = some (.istore 6) by decide +kernel) rfl ?_
    refine jr_1 jm_272 (show jw_cd cd_272 43 = some (.aload_n 0) by decide +kernel) rfl ?_
    refine jr_1 jm_272 (show jw_cd cd_272 44 = some (.getfield 13) by decide +kernel) (mg_a hl (a := 17) (show jw_fld 34 13 16 = some 3 by decide +kernel) (by decide) (by decide)) ?_
    refine jr_1 jm_272 (show jw_cd cd_272 47 = some (.iload 5) by decide +kernel) rfl ?_
    refine jr_1 jm_272 (show jw_cd cd_272 49 = some (.iaload) by decide +kernel) (ma_i hl (i := x) (e := X.1.1) 3 (by omega) (by show _ < ((1740 : Nat) : Int); omega) x3 (by decide) (by decide) (by decide)) ?_
    refine jr_1 jm_272 (show jw_cd cd_272 50 = some (.aload_n 0) by decide +kernel) rfl ?_
    refine jr_1 jm_272 (show jw_cd cd_272 51 = some (.getfield 13) by decide +kernel) (mg_a hl (a := 17) (show jw_fld 34 13 16 = some 3 by decide +kernel) (by decide) (by decide)) ?_
    refine jr_1 jm_272 (show jw_cd cd_272 54 = some (.iload 6) by decide +kernel) rfl ?_
    refine jr_1 jm_272 (show jw_cd cd_272 56 = some (.iaload) by decide +kernel) (ma_i hl (i := y) (e := Y.1.1) 3 (by omega) (by show _ < ((1740 : Nat) : Int); omega) y3 (by decide) (by decide) (by decide)) ?_
    refine jr_1 jm_272 (show jw_cd cd_272 57 = some (.if_icmp .ne 77) by decide +kernel) (mb_f (q := .ne) (a := X.1.1) (b := Y.1.1) (fun z => z hk) ⟨by omega, by omega⟩ ⟨by omega, by omega⟩ (by decide)) ?_
    refine jr_1 jm_272 (show jw_cd cd_272 60 = some (.aload_n 0) by decide +kernel) rfl ?_
    refine jr_1 jm_272 (show jw_cd cd_272 61 = some (.getfield 26) by decide +kernel) (mg_a hl (a := 21) (show jw_fld 34 26 16 = some 7 by decide +kernel) (by decide) (by decide)) ?_
    refine jr_1 jm_272 (show jw_cd cd_272 64 = some (.iload 5) by decide +kernel) rfl ?_
    refine jr_1 jm_272 (show jw_cd cd_272 66 = some (.iaload) by decide +kernel) (ma_i hl (i := x) (e := (fsz X.2 : Int)) 7 (by omega) (by show _ < ((1740 : Nat) : Int); omega) x7 (by decide) (by decide) (by decide)) ?_
    refine jr_1 jm_272 (show jw_cd cd_272 67 = some (.aload_n 0) by decide +kernel) rfl ?_
    refine jr_1 jm_272 (show jw_cd cd_272 68 = some (.getfield 26) by decide +kernel) (mg_a hl (a := 21) (show jw_fld 34 26 16 = some 7 by decide +kernel) (by decide) (by decide)) ?_
    refine jr_1 jm_272 (show jw_cd cd_272 71 = some (.iload 6) by decide +kernel) rfl ?_
    refine jr_1 jm_272 (show jw_cd cd_272 73 = some (.iaload) by decide +kernel) (ma_i hl (i := y) (e := (fsz Y.2 : Int)) 7 (by omega) (by show _ < ((1740 : Nat) : Int); omega) y7 (by decide) (by decide) (by decide)) ?_
    refine jr_1 jm_272 (show jw_cd cd_272 74 = some (.if_icmp .ne 60) by decide +kernel) (mb_f (q := .ne) (a := (fsz X.2 : Int)) (b := (fsz Y.2 : Int)) (fun z => z (by rw [hc])) ⟨by omega, by omega⟩ ⟨by omega, by omega⟩ (by decide)) ?_
    refine jr_1 jm_272 (show jw_cd cd_272 77 = some (.aload_n 0) by decide +kernel) rfl ?_
    refine jr_1 jm_272 (show jw_cd cd_272 78 = some (.getfield 13) by decide +kernel) (mg_a hl (a := 17) (show jw_fld 34 13 16 = some 3 by decide +kernel) (by decide) (by decide)) ?_
    refine jr_1 jm_272 (show jw_cd cd_272 81 = some (.iload 5) by decide +kernel) rfl ?_
    refine jr_1 jm_272 (show jw_cd cd_272 83 = some (.iaload) by decide +kernel) (ma_i hl (i := x) (e := X.1.1) 3 (by omega) (by show _ < ((1740 : Nat) : Int); omega) x3 (by decide) (by decide) (by decide)) ?_
    refine jr_1 jm_272 (show jw_cd cd_272 84 = some (.iconst 3) by decide +kernel) rfl ?_
    refine jr_1 jm_272 (show jw_cd cd_272 85 = some (.if_icmp .ne 20) by decide +kernel) (mb_f (q := .ne) (a := X.1.1) (b := 3) (fun z => z h3) ⟨by omega, by omega⟩ ⟨by omega, by omega⟩ (by decide)) ?_
    refine jr_1 jm_272 (show jw_cd cd_272 88 = some (.aload_n 0) by decide +kernel) rfl ?_
    refine jr_1 jm_272 (show jw_cd cd_272 89 = some (.getfield 16) by decide +kernel) (mg_a hl (a := 18) (show jw_fld 34 16 16 = some 4 by decide +kernel) (by decide) (by decide)) ?_
    refine jr_1 jm_272 (show jw_cd cd_272 92 = some (.iload 5) by decide +kernel) rfl ?_
    refine jr_1 jm_272 (show jw_cd cd_272 94 = some (.iaload) by decide +kernel) (ma_i hl (i := x) (e := X.1.2.1) 4 (by omega) (by show _ < ((1740 : Nat) : Int); omega) x4 (by decide) (by decide) (by decide)) ?_
    refine jr_1 jm_272 (show jw_cd cd_272 95 = some (.aload_n 0) by decide +kernel) rfl ?_
    refine jr_1 jm_272 (show jw_cd cd_272 96 = some (.getfield 16) by decide +kernel) (mg_a hl (a := 18) (show jw_fld 34 16 16 = some 4 by decide +kernel) (by decide) (by decide)) ?_
    refine jr_1 jm_272 (show jw_cd cd_272 99 = some (.iload 6) by decide +kernel) rfl ?_
    refine jr_1 jm_272 (show jw_cd cd_272 101 = some (.iaload) by decide +kernel) (ma_i hl (i := y) (e := Y.1.2.1) 4 (by omega) (by show _ < ((1740 : Nat) : Int); omega) y4 (by decide) (by decide) (by decide)) ?_
    refine jr_1 jm_272 (show jw_cd cd_272 102 = some (.if_icmp .ne 32) by decide +kernel) (mb_f (q := .ne) (a := X.1.2.1) (b := Y.1.2.1) (fun z => z hn) ⟨by omega, by omega⟩ ⟨by omega, by omega⟩ (by decide)) ?_
    refine jr_1 jm_272 (show jw_cd cd_272 105 = some (.aload_n 0) by decide +kernel) rfl ?_
    refine jr_1 jm_272 (show jw_cd cd_272 106 = some (.getfield 13) by decide +kernel) (mg_a hl (a := 17) (show jw_fld 34 13 16 = some 3 by decide +kernel) (by decide) (by decide)) ?_
    refine jr_1 jm_272 (show jw_cd cd_272 109 = some (.iload 5) by decide +kernel) rfl ?_
    refine jr_1 jm_272 (show jw_cd cd_272 111 = some (.iaload) by decide +kernel) (ma_i hl (i := x) (e := X.1.1) 3 (by omega) (by show _ < ((1740 : Nat) : Int); omega) x3 (by decide) (by decide) (by decide)) ?_
    refine jr_1 jm_272 (show jw_cd cd_272 112 = some (.iconst 4) by decide +kernel) rfl ?_
    refine jr_1 jm_272 (show jw_cd cd_272 113 = some (.if_icmp .ne 23) by decide +kernel) (mb_t (q := .ne) (a := X.1.1) (b := 4) (t := 136) (by show ¬ (X.1.1 = 4); omega) ⟨by omega, by omega⟩ ⟨by omega, by omega⟩ (by decide) (by decide)) ?_
    refine jr_1 jm_272 (show jw_cd cd_272 136 = some (.aload_n 0) by decide +kernel) rfl ?_
    refine jr_1 jm_272 (show jw_cd cd_272 137 = some (.getfield 23) by decide +kernel) (mg_a hl (a := 20) (show jw_fld 34 23 16 = some 6 by decide +kernel) (by decide) (by decide)) ?_
    refine jr_1 jm_272 (show jw_cd cd_272 140 = some (.iload 6) by decide +kernel) rfl ?_
    refine jr_1 jm_272 (show jw_cd cd_272 142 = some (.iaload) by decide +kernel) (ma_i hl (i := y) (e := σ 6 y) 6 (by omega) (by show _ < ((1740 : Nat) : Int); omega) y6 (by decide) (by decide) (by decide)) ?_
    refine jr_1 jm_272 (F2 := (145, [some (.ref 15), some (.int (Int32.ofInt (a))), some (.int (Int32.ofInt (b))), some (.int (Int32.ofInt (m))), some (.int (Int32.ofInt (k))), some (.int (Int32.ofInt (x))), some (.int (Int32.ofInt (y))), some (.int (Int32.ofInt (σ 6 y))), c8, c9], [], ml_mk h τ)) (show jw_cd cd_272 143 = some (.istore 7) by decide +kernel) rfl ?_
    refine jr_1 jm_272 (show jw_cd cd_272 145 = some (.aload_n 0) by decide +kernel) rfl ?_
    refine jr_1 jm_272 (show jw_cd cd_272 146 = some (.getfield 23) by decide +kernel) (mg_a hl (a := 20) (show jw_fld 34 23 16 = some 6 by decide +kernel) (by decide) (by decide)) ?_
    refine jr_1 jm_272 (show jw_cd cd_272 149 = some (.iload 5) by decide +kernel) rfl ?_
    refine jr_1 jm_272 (show jw_cd cd_272 151 = some (.iaload) by decide +kernel) (ma_i hl (i := x) (e := σ 6 x) 6 (by omega) (by show _ < ((1740 : Nat) : Int); omega) x6 (by decide) (by decide) (by decide)) ?_
    refine jr_1 jm_272 (F2 := (154, [some (.ref 15), some (.int (Int32.ofInt (a))), some (.int (Int32.ofInt (b))), some (.int (Int32.ofInt (m))), some (.int (Int32.ofInt (k))), some (.int (Int32.ofInt (x))), some (.int (Int32.ofInt (y))), some (.int (Int32.ofInt (σ 6 y))), some (.int (Int32.ofInt (σ 6 x))), c9], [], ml_mk h τ)) (show jw_cd cd_272 152 = some (.istore 8) by decide +kernel) rfl ?_
    exact kk
  by_cases h4 : X.1.1 = 4
  · have htx := h4i h4
    refine jr_1 jm_272 (show jw_cd cd_272 19 = some (.iload 4) by decide +kernel) rfl ?_
    refine jr_1 jm_272 (show jw_cd cd_272 21 = some (.iload_n 3) by decide +kernel) rfl ?_
    refine jr_1 jm_272 (show jw_cd cd_272 22 = some (.if_icmp .ge 234) by decide +kernel) (mb_f (q := .ge) (a := k) (b := m) (by show ¬ (m ≤ k); omega) ⟨by omega, by omega⟩ ⟨by omega, by omega⟩ (by decide)) ?_
    refine jr_1 jm_272 (show jw_cd cd_272 25 = some (.aload_n 0) by decide +kernel) rfl ?_
    refine jr_1 jm_272 (show jw_cd cd_272 26 = some (.getfield 101) by decide +kernel) (mg_a hl (a := 46) (show jw_fld 34 101 16 = some 43 by decide +kernel) (by decide) (by decide)) ?_
    refine jr_1 jm_272 (show jw_cd cd_272 29 = some (.iload 4) by decide +kernel) rfl ?_
    refine jr_1 jm_272 (show jw_cd cd_272 31 = some (.iaload) by decide +kernel) (ma_i hl (i := k) (e := x) 43 (by omega) (by show _ < ((400 : Nat) : Int); omega) q43 (by decide) (by decide) (by decide)) ?_
    refine jr_1 jm_272 (F2 := (34, [some (.ref 15), some (.int (Int32.ofInt (a))), some (.int (Int32.ofInt (b))), some (.int (Int32.ofInt (m))), some (.int (Int32.ofInt (k))), some (.int (Int32.ofInt (x))), c6, c7, c8, c9], [], ml_mk h τ)) (show jw_cd cd_272 32 = some (.istore 5) by decide +kernel) rfl ?_
    refine jr_1 jm_272 (show jw_cd cd_272 34 = some (.aload_n 0) by decide +kernel) rfl ?_
    refine jr_1 jm_272 (show jw_cd cd_272 35 = some (.getfield 104) by decide +kernel) (mg_a hl (a := 47) (show jw_fld 34 104 16 = some 44 by decide +kernel) (by decide) (by decide)) ?_
    refine jr_1 jm_272 (show jw_cd cd_272 38 = some (.iload 4) by decide +kernel) rfl ?_
    refine jr_1 jm_272 (show jw_cd cd_272 40 = some (.iaload) by decide +kernel) (ma_i hl (i := k) (e := y) 44 (by omega) (by show _ < ((400 : Nat) : Int); omega) q44 (by decide) (by decide) (by decide)) ?_
    refine jr_1 jm_272 (F2 := (43, [some (.ref 15), some (.int (Int32.ofInt (a))), some (.int (Int32.ofInt (b))), some (.int (Int32.ofInt (m))), some (.int (Int32.ofInt (k))), some (.int (Int32.ofInt (x))), some (.int (Int32.ofInt (y))), c7, c8, c9], [], ml_mk h τ)) (show jw_cd cd_272 41 = some (.istore 6) by decide +kernel) rfl ?_
    refine jr_1 jm_272 (show jw_cd cd_272 43 = some (.aload_n 0) by decide +kernel) rfl ?_
    refine jr_1 jm_272 (show jw_cd cd_272 44 = some (.getfield 13) by decide +kernel) (mg_a hl (a := 17) (show jw_fld 34 13 16 = some 3 by decide +kernel) (by decide) (by decide)) ?_
    refine jr_1 jm_272 (show jw_cd cd_272 47 = some (.iload 5) by decide +kernel) rfl ?_
    refine jr_1 jm_272 (show jw_cd cd_272 49 = some (.iaload) by decide +kernel) (ma_i hl (i := x) (e := X.1.1) 3 (by omega) (by show _ < ((1740 : Nat) : Int); omega) x3 (by decide) (by decide) (by decide)) ?_
    refine jr_1 jm_272 (show jw_cd cd_272 50 = some (.aload_n 0) by decide +kernel) rfl ?_
    refine jr_1 jm_272 (show jw_cd cd_272 51 = some (.getfield 13) by decide +kernel) (mg_a hl (a := 17) (show jw_fld 34 13 16 = some 3 by decide +kernel) (by decide) (by decide)) ?_
    refine jr_1 jm_272 (show jw_cd cd_272 54 = some (.iload 6) by decide +kernel) rfl ?_
    refine jr_1 jm_272 (show jw_cd cd_272 56 = some (.iaload) by decide +kernel) (ma_i hl (i := y) (e := Y.1.1) 3 (by omega) (by show _ < ((1740 : Nat) : Int); omega) y3 (by decide) (by decide) (by decide)) ?_
    refine jr_1 jm_272 (show jw_cd cd_272 57 = some (.if_icmp .ne 77) by decide +kernel) (mb_f (q := .ne) (a := X.1.1) (b := Y.1.1) (fun z => z hk) ⟨by omega, by omega⟩ ⟨by omega, by omega⟩ (by decide)) ?_
    refine jr_1 jm_272 (show jw_cd cd_272 60 = some (.aload_n 0) by decide +kernel) rfl ?_
    refine jr_1 jm_272 (show jw_cd cd_272 61 = some (.getfield 26) by decide +kernel) (mg_a hl (a := 21) (show jw_fld 34 26 16 = some 7 by decide +kernel) (by decide) (by decide)) ?_
    refine jr_1 jm_272 (show jw_cd cd_272 64 = some (.iload 5) by decide +kernel) rfl ?_
    refine jr_1 jm_272 (show jw_cd cd_272 66 = some (.iaload) by decide +kernel) (ma_i hl (i := x) (e := (fsz X.2 : Int)) 7 (by omega) (by show _ < ((1740 : Nat) : Int); omega) x7 (by decide) (by decide) (by decide)) ?_
    refine jr_1 jm_272 (show jw_cd cd_272 67 = some (.aload_n 0) by decide +kernel) rfl ?_
    refine jr_1 jm_272 (show jw_cd cd_272 68 = some (.getfield 26) by decide +kernel) (mg_a hl (a := 21) (show jw_fld 34 26 16 = some 7 by decide +kernel) (by decide) (by decide)) ?_
    refine jr_1 jm_272 (show jw_cd cd_272 71 = some (.iload 6) by decide +kernel) rfl ?_
    refine jr_1 jm_272 (show jw_cd cd_272 73 = some (.iaload) by decide +kernel) (ma_i hl (i := y) (e := (fsz Y.2 : Int)) 7 (by omega) (by show _ < ((1740 : Nat) : Int); omega) y7 (by decide) (by decide) (by decide)) ?_
    refine jr_1 jm_272 (show jw_cd cd_272 74 = some (.if_icmp .ne 60) by decide +kernel) (mb_f (q := .ne) (a := (fsz X.2 : Int)) (b := (fsz Y.2 : Int)) (fun z => z (by rw [hc])) ⟨by omega, by omega⟩ ⟨by omega, by omega⟩ (by decide)) ?_
    refine jr_1 jm_272 (show jw_cd cd_272 77 = some (.aload_n 0) by decide +kernel) rfl ?_
    refine jr_1 jm_272 (show jw_cd cd_272 78 = some (.getfield 13) by decide +kernel) (mg_a hl (a := 17) (show jw_fld 34 13 16 = some 3 by decide +kernel) (by decide) (by decide)) ?_
    refine jr_1 jm_272 (show jw_cd cd_272 81 = some (.iload 5) by decide +kernel) rfl ?_
    refine jr_1 jm_272 (show jw_cd cd_272 83 = some (.iaload) by decide +kernel) (ma_i hl (i := x) (e := X.1.1) 3 (by omega) (by show _ < ((1740 : Nat) : Int); omega) x3 (by decide) (by decide) (by decide)) ?_
    refine jr_1 jm_272 (show jw_cd cd_272 84 = some (.iconst 3) by decide +kernel) rfl ?_
    refine jr_1 jm_272 (show jw_cd cd_272 85 = some (.if_icmp .ne 20) by decide +kernel) (mb_t (q := .ne) (a := X.1.1) (b := 3) (t := 105) (by show ¬ (X.1.1 = 3); omega) ⟨by omega, by omega⟩ ⟨by omega, by omega⟩ (by decide) (by decide)) ?_
    refine jr_1 jm_272 (show jw_cd cd_272 105 = some (.aload_n 0) by decide +kernel) rfl ?_
    refine jr_1 jm_272 (show jw_cd cd_272 106 = some (.getfield 13) by decide +kernel) (mg_a hl (a := 17) (show jw_fld 34 13 16 = some 3 by decide +kernel) (by decide) (by decide)) ?_
    refine jr_1 jm_272 (show jw_cd cd_272 109 = some (.iload 5) by decide +kernel) rfl ?_
    refine jr_1 jm_272 (show jw_cd cd_272 111 = some (.iaload) by decide +kernel) (ma_i hl (i := x) (e := X.1.1) 3 (by omega) (by show _ < ((1740 : Nat) : Int); omega) x3 (by decide) (by decide) (by decide)) ?_
    refine jr_1 jm_272 (show jw_cd cd_272 112 = some (.iconst 4) by decide +kernel) rfl ?_
    refine jr_1 jm_272 (show jw_cd cd_272 113 = some (.if_icmp .ne 23) by decide +kernel) (mb_f (q := .ne) (a := X.1.1) (b := 4) (fun z => z h4) ⟨by omega, by omega⟩ ⟨by omega, by omega⟩ (by decide)) ?_
    refine jr_1 jm_272 (show jw_cd cd_272 116 = some (.aload_n 0) by decide +kernel) rfl ?_
    refine jr_1 jm_272 (show jw_cd cd_272 117 = some (.getfield 19) by decide +kernel) (mg_a hl (a := 19) (show jw_fld 34 19 16 = some 5 by decide +kernel) (by decide) (by decide)) ?_
    refine jr_1 jm_272 (show jw_cd cd_272 120 = some (.iload 5) by decide +kernel) rfl ?_
    refine jr_1 jm_272 (show jw_cd cd_272 122 = some (.laload) by decide +kernel) (ma_j hl (i := x) (e := pk X.1.2.2.1) 5 (by omega) (by show _ < ((1740 : Nat) : Int); omega) x5 (by decide) (by decide) (by decide)) ?_
    refine jr_1 jm_272 (show jw_cd cd_272 123 = some (.aload_n 0) by decide +kernel) rfl ?_
    refine jr_1 jm_272 (show jw_cd cd_272 124 = some (.getfield 19) by decide +kernel) (mg_a hl (a := 19) (show jw_fld 34 19 16 = some 5 by decide +kernel) (by decide) (by decide)) ?_
    refine jr_1 jm_272 (show jw_cd cd_272 127 = some (.iload 6) by decide +kernel) rfl ?_
    refine jr_1 jm_272 (show jw_cd cd_272 129 = some (.laload) by decide +kernel) (ma_j hl (i := y) (e := pk Y.1.2.2.1) 5 (by omega) (by show _ < ((1740 : Nat) : Int); omega) y5 (by decide) (by decide) (by decide)) ?_
    refine jr_1 jm_272 (show jw_cd cd_272 130 = some (.lcmp) by decide +kernel) (mt_cmp (r := 0) ⟨by have := (pk_b tX).1; omega, by have := (pk_b tX).2; omega⟩ ⟨by have := (pk_b tY).1; omega, by have := (pk_b tY).2; omega⟩ (by rw [if_neg (by rw [htx]; omega), if_pos (by rw [htx])])) ?_
    refine jr_1 jm_272 (show jw_cd cd_272 131 = some (.ifCond .eq 5) by decide +kernel) (mz_t (q := .eq) (a := 0) (t := 136) (by show 0 = 0; omega) ⟨by omega, by omega⟩ (by decide) (by decide)) ?_
    refine jr_1 jm_272 (show jw_cd cd_272 136 = some (.aload_n 0) by decide +kernel) rfl ?_
    refine jr_1 jm_272 (show jw_cd cd_272 137 = some (.getfield 23) by decide +kernel) (mg_a hl (a := 20) (show jw_fld 34 23 16 = some 6 by decide +kernel) (by decide) (by decide)) ?_
    refine jr_1 jm_272 (show jw_cd cd_272 140 = some (.iload 6) by decide +kernel) rfl ?_
    refine jr_1 jm_272 (show jw_cd cd_272 142 = some (.iaload) by decide +kernel) (ma_i hl (i := y) (e := σ 6 y) 6 (by omega) (by show _ < ((1740 : Nat) : Int); omega) y6 (by decide) (by decide) (by decide)) ?_
    refine jr_1 jm_272 (F2 := (145, [some (.ref 15), some (.int (Int32.ofInt (a))), some (.int (Int32.ofInt (b))), some (.int (Int32.ofInt (m))), some (.int (Int32.ofInt (k))), some (.int (Int32.ofInt (x))), some (.int (Int32.ofInt (y))), some (.int (Int32.ofInt (σ 6 y))), c8, c9], [], ml_mk h τ)) (show jw_cd cd_272 143 = some (.istore 7) by decide +kernel) rfl ?_
    refine jr_1 jm_272 (show jw_cd cd_272 145 = some (.aload_n 0) by decide +kernel) rfl ?_
    refine jr_1 jm_272 (show jw_cd cd_272 146 = some (.getfield 23) by decide +kernel) (mg_a hl (a := 20) (show jw_fld 34 23 16 = some 6 by decide +kernel) (by decide) (by decide)) ?_
    refine jr_1 jm_272 (show jw_cd cd_272 149 = some (.iload 5) by decide +kernel) rfl ?_
    refine jr_1 jm_272 (show jw_cd cd_272 151 = some (.iaload) by decide +kernel) (ma_i hl (i := x) (e := σ 6 x) 6 (by omega) (by show _ < ((1740 : Nat) : Int); omega) x6 (by decide) (by decide) (by decide)) ?_
    refine jr_1 jm_272 (F2 := (154, [some (.ref 15), some (.int (Int32.ofInt (a))), some (.int (Int32.ofInt (b))), some (.int (Int32.ofInt (m))), some (.int (Int32.ofInt (k))), some (.int (Int32.ofInt (x))), some (.int (Int32.ofInt (y))), some (.int (Int32.ofInt (σ 6 y))), some (.int (Int32.ofInt (σ 6 x))), c9], [], ml_mk h τ)) (show jw_cd cd_272 152 = some (.istore 8) by decide +kernel) rfl ?_
    exact kk
  · skip
    refine jr_1 jm_272 (show jw_cd cd_272 19 = some (.iload 4) by decide +kernel) rfl ?_
    refine jr_1 jm_272 (show jw_cd cd_272 21 = some (.iload_n 3) by decide +kernel) rfl ?_
    refine jr_1 jm_272 (show jw_cd cd_272 22 = some (.if_icmp .ge 234) by decide +kernel) (mb_f (q := .ge) (a := k) (b := m) (by show ¬ (m ≤ k); omega) ⟨by omega, by omega⟩ ⟨by omega, by omega⟩ (by decide)) ?_
    refine jr_1 jm_272 (show jw_cd cd_272 25 = some (.aload_n 0) by decide +kernel) rfl ?_
    refine jr_1 jm_272 (show jw_cd cd_272 26 = some (.getfield 101) by decide +kernel) (mg_a hl (a := 46) (show jw_fld 34 101 16 = some 43 by decide +kernel) (by decide) (by decide)) ?_
    refine jr_1 jm_272 (show jw_cd cd_272 29 = some (.iload 4) by decide +kernel) rfl ?_
    refine jr_1 jm_272 (show jw_cd cd_272 31 = some (.iaload) by decide +kernel) (ma_i hl (i := k) (e := x) 43 (by omega) (by show _ < ((400 : Nat) : Int); omega) q43 (by decide) (by decide) (by decide)) ?_
    refine jr_1 jm_272 (F2 := (34, [some (.ref 15), some (.int (Int32.ofInt (a))), some (.int (Int32.ofInt (b))), some (.int (Int32.ofInt (m))), some (.int (Int32.ofInt (k))), some (.int (Int32.ofInt (x))), c6, c7, c8, c9], [], ml_mk h τ)) (show jw_cd cd_272 32 = some (.istore 5) by decide +kernel) rfl ?_
    refine jr_1 jm_272 (show jw_cd cd_272 34 = some (.aload_n 0) by decide +kernel) rfl ?_
    refine jr_1 jm_272 (show jw_cd cd_272 35 = some (.getfield 104) by decide +kernel) (mg_a hl (a := 47) (show jw_fld 34 104 16 = some 44 by decide +kernel) (by decide) (by decide)) ?_
    refine jr_1 jm_272 (show jw_cd cd_272 38 = some (.iload 4) by decide +kernel) rfl ?_
    refine jr_1 jm_272 (show jw_cd cd_272 40 = some (.iaload) by decide +kernel) (ma_i hl (i := k) (e := y) 44 (by omega) (by show _ < ((400 : Nat) : Int); omega) q44 (by decide) (by decide) (by decide)) ?_
    refine jr_1 jm_272 (F2 := (43, [some (.ref 15), some (.int (Int32.ofInt (a))), some (.int (Int32.ofInt (b))), some (.int (Int32.ofInt (m))), some (.int (Int32.ofInt (k))), some (.int (Int32.ofInt (x))), some (.int (Int32.ofInt (y))), c7, c8, c9], [], ml_mk h τ)) (show jw_cd cd_272 41 = some (.istore 6) by decide +kernel) rfl ?_
    refine jr_1 jm_272 (show jw_cd cd_272 43 = some (.aload_n 0) by decide +kernel) rfl ?_
    refine jr_1 jm_272 (show jw_cd cd_272 44 = some (.getfield 13) by decide +kernel) (mg_a hl (a := 17) (show jw_fld 34 13 16 = some 3 by decide +kernel) (by decide) (by decide)) ?_
    refine jr_1 jm_272 (show jw_cd cd_272 47 = some (.iload 5) by decide +kernel) rfl ?_
    refine jr_1 jm_272 (show jw_cd cd_272 49 = some (.iaload) by decide +kernel) (ma_i hl (i := x) (e := X.1.1) 3 (by omega) (by show _ < ((1740 : Nat) : Int); omega) x3 (by decide) (by decide) (by decide)) ?_
    refine jr_1 jm_272 (show jw_cd cd_272 50 = some (.aload_n 0) by decide +kernel) rfl ?_
    refine jr_1 jm_272 (show jw_cd cd_272 51 = some (.getfield 13) by decide +kernel) (mg_a hl (a := 17) (show jw_fld 34 13 16 = some 3 by decide +kernel) (by decide) (by decide)) ?_
    refine jr_1 jm_272 (show jw_cd cd_272 54 = some (.iload 6) by decide +kernel) rfl ?_
    refine jr_1 jm_272 (show jw_cd cd_272 56 = some (.iaload) by decide +kernel) (ma_i hl (i := y) (e := Y.1.1) 3 (by omega) (by show _ < ((1740 : Nat) : Int); omega) y3 (by decide) (by decide) (by decide)) ?_
    refine jr_1 jm_272 (show jw_cd cd_272 57 = some (.if_icmp .ne 77) by decide +kernel) (mb_f (q := .ne) (a := X.1.1) (b := Y.1.1) (fun z => z hk) ⟨by omega, by omega⟩ ⟨by omega, by omega⟩ (by decide)) ?_
    refine jr_1 jm_272 (show jw_cd cd_272 60 = some (.aload_n 0) by decide +kernel) rfl ?_
    refine jr_1 jm_272 (show jw_cd cd_272 61 = some (.getfield 26) by decide +kernel) (mg_a hl (a := 21) (show jw_fld 34 26 16 = some 7 by decide +kernel) (by decide) (by decide)) ?_
    refine jr_1 jm_272 (show jw_cd cd_272 64 = some (.iload 5) by decide +kernel) rfl ?_
    refine jr_1 jm_272 (show jw_cd cd_272 66 = some (.iaload) by decide +kernel) (ma_i hl (i := x) (e := (fsz X.2 : Int)) 7 (by omega) (by show _ < ((1740 : Nat) : Int); omega) x7 (by decide) (by decide) (by decide)) ?_
    refine jr_1 jm_272 (show jw_cd cd_272 67 = some (.aload_n 0) by decide +kernel) rfl ?_
    refine jr_1 jm_272 (show jw_cd cd_272 68 = some (.getfield 26) by decide +kernel) (mg_a hl (a := 21) (show jw_fld 34 26 16 = some 7 by decide +kernel) (by decide) (by decide)) ?_
    refine jr_1 jm_272 (show jw_cd cd_272 71 = some (.iload 6) by decide +kernel) rfl ?_
    refine jr_1 jm_272 (show jw_cd cd_272 73 = some (.iaload) by decide +kernel) (ma_i hl (i := y) (e := (fsz Y.2 : Int)) 7 (by omega) (by show _ < ((1740 : Nat) : Int); omega) y7 (by decide) (by decide) (by decide)) ?_
    refine jr_1 jm_272 (show jw_cd cd_272 74 = some (.if_icmp .ne 60) by decide +kernel) (mb_f (q := .ne) (a := (fsz X.2 : Int)) (b := (fsz Y.2 : Int)) (fun z => z (by rw [hc])) ⟨by omega, by omega⟩ ⟨by omega, by omega⟩ (by decide)) ?_
    refine jr_1 jm_272 (show jw_cd cd_272 77 = some (.aload_n 0) by decide +kernel) rfl ?_
    refine jr_1 jm_272 (show jw_cd cd_272 78 = some (.getfield 13) by decide +kernel) (mg_a hl (a := 17) (show jw_fld 34 13 16 = some 3 by decide +kernel) (by decide) (by decide)) ?_
    refine jr_1 jm_272 (show jw_cd cd_272 81 = some (.iload 5) by decide +kernel) rfl ?_
    refine jr_1 jm_272 (show jw_cd cd_272 83 = some (.iaload) by decide +kernel) (ma_i hl (i := x) (e := X.1.1) 3 (by omega) (by show _ < ((1740 : Nat) : Int); omega) x3 (by decide) (by decide) (by decide)) ?_
    refine jr_1 jm_272 (show jw_cd cd_272 84 = some (.iconst 3) by decide +kernel) rfl ?_
    refine jr_1 jm_272 (show jw_cd cd_272 85 = some (.if_icmp .ne 20) by decide +kernel) (mb_t (q := .ne) (a := X.1.1) (b := 3) (t := 105) h3 ⟨by omega, by omega⟩ ⟨by omega, by omega⟩ (by decide) (by decide)) ?_
    refine jr_1 jm_272 (show jw_cd cd_272 105 = some (.aload_n 0) by decide +kernel) rfl ?_
    refine jr_1 jm_272 (show jw_cd cd_272 106 = some (.getfield 13) by decide +kernel) (mg_a hl (a := 17) (show jw_fld 34 13 16 = some 3 by decide +kernel) (by decide) (by decide)) ?_
    refine jr_1 jm_272 (show jw_cd cd_272 109 = some (.iload 5) by decide +kernel) rfl ?_
    refine jr_1 jm_272 (show jw_cd cd_272 111 = some (.iaload) by decide +kernel) (ma_i hl (i := x) (e := X.1.1) 3 (by omega) (by show _ < ((1740 : Nat) : Int); omega) x3 (by decide) (by decide) (by decide)) ?_
    refine jr_1 jm_272 (show jw_cd cd_272 112 = some (.iconst 4) by decide +kernel) rfl ?_
    refine jr_1 jm_272 (show jw_cd cd_272 113 = some (.if_icmp .ne 23) by decide +kernel) (mb_t (q := .ne) (a := X.1.1) (b := 4) (t := 136) h4 ⟨by omega, by omega⟩ ⟨by omega, by omega⟩ (by decide) (by decide)) ?_
    refine jr_1 jm_272 (show jw_cd cd_272 136 = some (.aload_n 0) by decide +kernel) rfl ?_
    refine jr_1 jm_272 (show jw_cd cd_272 137 = some (.getfield 23) by decide +kernel) (mg_a hl (a := 20) (show jw_fld 34 23 16 = some 6 by decide +kernel) (by decide) (by decide)) ?_
    refine jr_1 jm_272 (show jw_cd cd_272 140 = some (.iload 6) by decide +kernel) rfl ?_
    refine jr_1 jm_272 (show jw_cd cd_272 142 = some (.iaload) by decide +kernel) (ma_i hl (i := y) (e := σ 6 y) 6 (by omega) (by show _ < ((1740 : Nat) : Int); omega) y6 (by decide) (by decide) (by decide)) ?_
    refine jr_1 jm_272 (F2 := (145, [some (.ref 15), some (.int (Int32.ofInt (a))), some (.int (Int32.ofInt (b))), some (.int (Int32.ofInt (m))), some (.int (Int32.ofInt (k))), some (.int (Int32.ofInt (x))), some (.int (Int32.ofInt (y))), some (.int (Int32.ofInt (σ 6 y))), c8, c9], [], ml_mk h τ)) (show jw_cd cd_272 143 = some (.istore 7) by decide +kernel) rfl ?_
    refine jr_1 jm_272 (show jw_cd cd_272 145 = some (.aload_n 0) by decide +kernel) rfl ?_
    refine jr_1 jm_272 (show jw_cd cd_272 146 = some (.getfield 23) by decide +kernel) (mg_a hl (a := 20) (show jw_fld 34 23 16 = some 6 by decide +kernel) (by decide) (by decide)) ?_
    refine jr_1 jm_272 (show jw_cd cd_272 149 = some (.iload 5) by decide +kernel) rfl ?_
    refine jr_1 jm_272 (show jw_cd cd_272 151 = some (.iaload) by decide +kernel) (ma_i hl (i := x) (e := σ 6 x) 6 (by omega) (by show _ < ((1740 : Nat) : Int); omega) x6 (by decide) (by decide) (by decide)) ?_
    refine jr_1 jm_272 (F2 := (154, [some (.ref 15), some (.int (Int32.ofInt (a))), some (.int (Int32.ofInt (b))), some (.int (Int32.ofInt (m))), some (.int (Int32.ofInt (k))), some (.int (Int32.ofInt (x))), some (.int (Int32.ofInt (y))), some (.int (Int32.ofInt (σ 6 y))), some (.int (Int32.ofInt (σ 6 x))), c9], [], ml_mk h τ)) (show jw_cd cd_272 152 = some (.istore 8) by decide +kernel) rfl ?_
    exact kk
theorem jn_sm_f {β : Bool} {d : Nat} {h : jx_H} {σ : mS} (hl : 49 ≤ h.length) {a b m k x y : Int} {X Y : tI × FT} {τ : mS} {c5 c6 c7 c8 c9 : Option Value} (hkm : 0 ≤ k ∧ k < m) (hm : m ≤ 400) (hx : 0 ≤ x ∧ x < 1740) (hy : 0 ≤ y ∧ y < 1740) (hiX : iok X.1) (hiY : iok Y.1) (hcX : fsz X.2 ≤ 1740) (hcY : fsz Y.2 ≤ 1740) (q43 : τ 43 k = x) (q44 : τ 44 k = y) (x3 : τ 3 x = X.1.1) (y3 : τ 3 y = Y.1.1) (x7 : τ 7 x = (fsz X.2 : Int)) (y7 : τ 7 y = (fsz Y.2 : Int)) (x4 : τ 4 x = X.1.2.1) (y4 : τ 4 y = Y.1.2.1) (x5 : τ 5 x = pk X.1.2.2.1) (y5 : τ 5 y = pk Y.1.2.2.1) (hh : hdS X Y = false) : jx_r (jz β) jw_M (d + 1) 272 (19, [some (.ref 15), some (.int (Int32.ofInt (a))), some (.int (Int32.ofInt (b))), some (.int (Int32.ofInt (m))), some (.int (Int32.ofInt (k))), c5, c6, c7, c8, c9], [], ml_mk h τ) (ml_mk h (τ), .inl (some (.int (Int32.ofInt (0))))) := by
  obtain ⟨k0, k1⟩ := hkm
  obtain ⟨x0, x1⟩ := hx
  obtain ⟨y0, y1⟩ := hy
  obtain ⟨a1, a2, ⟨a3, a3'⟩, tX, -⟩ := hiX
  obtain ⟨b1, b2, ⟨b3, b3'⟩, tY, -⟩ := hiY
  have hh : ¬ (X.1.1 = Y.1.1 ∧ fsz X.2 = fsz Y.2 ∧ (X.1.1 = 3 → X.1.2.1 = Y.1.2.1) ∧ (X.1.1 = 4 → X.1.2.2.1 = Y.1.2.2.1)) := fun z => by rw [(hdS_iff X Y).mpr z] at hh; cases hh
  by_cases hk : X.1.1 = Y.1.1
  · by_cases hc : fsz X.2 = fsz Y.2
    · by_cases h3 : X.1.1 = 3
      · have hn : ¬ X.1.2.1 = Y.1.2.1 := fun z => hh ⟨hk, hc, fun _ => z, fun w => by omega⟩
        refine jr_1 jm_272 (show jw_cd cd_272 19 = some (.iload 4) by decide +kernel) rfl ?_
        refine jr_1 jm_272 (show jw_cd cd_272 21 = some (.iload_n 3) by decide +kernel) rfl ?_
        refine jr_1 jm_272 (show jw_cd cd_272 22 = some (.if_icmp .ge 234) by decide +kernel) (mb_f (q := .ge) (a := k) (b := m) (by show ¬ (m ≤ k); omega) ⟨by omega, by omega⟩ ⟨by omega, by omega⟩ (by decide)) ?_
        refine jr_1 jm_272 (show jw_cd cd_272 25 = some (.aload_n 0) by decide +kernel) rfl ?_
        refine jr_1 jm_272 (show jw_cd cd_272 26 = some (.getfield 101) by decide +kernel) (mg_a hl (a := 46) (show jw_fld 34 101 16 = some 43 by decide +kernel) (by decide) (by decide)) ?_
        refine jr_1 jm_272 (show jw_cd cd_272 29 = some (.iload 4) by decide +kernel) rfl ?_
        refine jr_1 jm_272 (show jw_cd cd_272 31 = some (.iaload) by decide +kernel) (ma_i hl (i := k) (e := x) 43 (by omega) (by show _ < ((400 : Nat) : Int); omega) q43 (by decide) (by decide) (by decide)) ?_
        refine jr_1 jm_272 (F2 := (34, [some (.ref 15), some (.int (Int32.ofInt (a))), some (.int (Int32.ofInt (b))), some (.int (Int32.ofInt (m))), some (.int (Int32.ofInt (k))), some (.int (Int32.ofInt (x))), c6, c7, c8, c9], [], ml_mk h τ)) (show jw_cd cd_272 32 = some (.istore 5) by decide +kernel) rfl ?_
        refine jr_1 jm_272 (show jw_cd cd_272 34 = some (.aload_n 0) by decide +kernel) rfl ?_
        refine jr_1 jm_272 (show jw_cd cd_272 35 = some (.getfield 104) by decide +kernel) (mg_a hl (a := 47) (show jw_fld 34 104 16 = some 44 by decide +kernel) (by decide) (by decide)) ?_
        refine jr_1 jm_272 (show jw_cd cd_272 38 = some (.iload 4) by decide +kernel) rfl ?_
        refine jr_1 jm_272 (show jw_cd cd_272 40 = some (.iaload) by decide +kernel) (ma_i hl (i := k) (e := y) 44 (by omega) (by show _ < ((400 : Nat) : Int); omega) q44 (by decide) (by decide) (by decide)) ?_
        refine jr_1 jm_272 (F2 := (43, [some (.ref 15), some (.int (Int32.ofInt (a))), some (.int (Int32.ofInt (b))), some (.int (Int32.ofInt (m))), some (.int (Int32.ofInt (k))), some (.int (Int32.ofInt (x))), some (.int (Int32.ofInt (y))), c7, c8, c9], [], ml_mk h τ)) (show jw_cd cd_272 41 = some (.istore 6) by decide +kernel) rfl ?_
        refine jr_1 jm_272 (show jw_cd cd_272 43 = some (.aload_n 0) by decide +kernel) rfl ?_
        refine jr_1 jm_272 (show jw_cd cd_272 44 = some (.getfield 13) by decide +kernel) (mg_a hl (a := 17) (show jw_fld 34 13 16 = some 3 by decide +kernel) (by decide) (by decide)) ?_
        refine jr_1 jm_272 (show jw_cd cd_272 47 = some (.iload 5) by decide +kernel) rfl ?_
        refine jr_1 jm_272 (show jw_cd cd_272 49 = some (.iaload) by decide +kernel) (ma_i hl (i := x) (e := X.1.1) 3 (by omega) (by show _ < ((1740 : Nat) : Int); omega) x3 (by decide) (by decide) (by decide)) ?_
        refine jr_1 jm_272 (show jw_cd cd_272 50 = some (.aload_n 0) by decide +kernel) rfl ?_
        refine jr_1 jm_272 (show jw_cd cd_272 51 = some (.getfield 13) by decide +kernel) (mg_a hl (a := 17) (show jw_fld 34 13 16 = some 3 by decide +kernel) (by decide) (by decide)) ?_
        refine jr_1 jm_272 (show jw_cd cd_272 54 = some (.iload 6) by decide +kernel) rfl ?_
        refine jr_1 jm_272 (show jw_cd cd_272 56 = some (.iaload) by decide +kernel) (ma_i hl (i := y) (e := Y.1.1) 3 (by omega) (by show _ < ((1740 : Nat) : Int); omega) y3 (by decide) (by decide) (by decide)) ?_
        refine jr_1 jm_272 (show jw_cd cd_272 57 = some (.if_icmp .ne 77) by decide +kernel) (mb_f (q := .ne) (a := X.1.1) (b := Y.1.1) (fun z => z hk) ⟨by omega, by omega⟩ ⟨by omega, by omega⟩ (by decide)) ?_
        refine jr_1 jm_272 (show jw_cd cd_272 60 = some (.aload_n 0) by decide +kernel) rfl ?_
        refine jr_1 jm_272 (show jw_cd cd_272 61 = some (.getfield 26) by decide +kernel) (mg_a hl (a := 21) (show jw_fld 34 26 16 = some 7 by decide +kernel) (by decide) (by decide)) ?_
        refine jr_1 jm_272 (show jw_cd cd_272 64 = some (.iload 5) by decide +kernel) rfl ?_
        refine jr_1 jm_272 (show jw_cd cd_272 66 = some (.iaload) by decide +kernel) (ma_i hl (i := x) (e := (fsz X.2 : Int)) 7 (by omega) (by show _ < ((1740 : Nat) : Int); omega) x7 (by decide) (by decide) (by decide)) ?_
        refine jr_1 jm_272 (show jw_cd cd_272 67 = some (.aload_n 0) by decide +kernel) rfl ?_
        refine jr_1 jm_272 (show jw_cd cd_272 68 = some (.getfield 26) by decide +kernel) (mg_a hl (a := 21) (show jw_fld 34 26 16 = some 7 by decide +kernel) (by decide) (by decide)) ?_
        refine jr_1 jm_272 (show jw_cd cd_272 71 = some (.iload 6) by decide +kernel) rfl ?_
        refine jr_1 jm_272 (show jw_cd cd_272 73 = some (.iaload) by decide +kernel) (ma_i hl (i := y) (e := (fsz Y.2 : Int)) 7 (by omega) (by show _ < ((1740 : Nat) : Int); omega) y7 (by decide) (by decide) (by decide)) ?_
        refine jr_1 jm_272 (show jw_cd cd_272 74 = some (.if_icmp .ne 60) by decide +kernel) (mb_f (q := .ne) (a := (fsz X.2 : Int)) (b := (fsz Y.2 : Int)) (fun z => z (by rw [hc])) ⟨by omega, by omega⟩ ⟨by omega, by omega⟩ (by decide)) ?_
        refine jr_1 jm_272 (show jw_cd cd_272 77 = some (.aload_n 0) by decide +kernel) rfl ?_
        refine jr_1 jm_272 (show jw_cd cd_272 78 = some (.getfield 13) by decide +kernel) (mg_a hl (a := 17) (show jw_fld 34 13 16 = some 3 by decide +kernel) (by decide) (by decide)) ?_
        refine jr_1 jm_272 (show jw_cd cd_272 81 = some (.iload 5) by decide +kernel) rfl ?_
        refine jr_1 jm_272 (show jw_cd cd_272 83 = some (.iaload) by decide +kernel) (ma_i hl (i := x) (e := X.1.1) 3 (by omega) (by show _ < ((1740 : Nat) : Int); omega) x3 (by decide) (by decide) (by decide)) ?_
        refine jr_1 jm_272 (show jw_cd cd_272 84 = some (.iconst 3) by decide +kernel) rfl ?_
        refine jr_1 jm_272 (show jw_cd cd_272 85 = some (.if_icmp .ne 20) by decide +kernel) (mb_f (q := .ne) (a := X.1.1) (b := 3) (fun z => z h3) ⟨by omega, by omega⟩ ⟨by omega, by omega⟩ (by decide)) ?_
        refine jr_1 jm_272 (show jw_cd cd_272 88 = some (.aload_n 0) by decide +kernel) rfl ?_
        refine jr_1 jm_272 (show jw_cd cd_272 89 = some (.getfield 16) by decide +kernel) (mg_a hl (a := 18) (show jw_fld 34 16 16 = some 4 by decide +kernel) (by decide) (by decide)) ?_
        refine jr_1 jm_272 (show jw_cd cd_272 92 = some (.iload 5) by decide +kernel) rfl ?_
        refine jr_1 jm_272 (show jw_cd cd_272 94 = some (.iaload) by decide +kernel) (ma_i hl (i := x) (e := X.1.2.1) 4 (by omega) (by show _ < ((1740 : Nat) : Int); omega) x4 (by decide) (by decide) (by decide)) ?_
        refine jr_1 jm_272 (show jw_cd cd_272 95 = some (.aload_n 0) by decide +kernel) rfl ?_
        refine jr_1 jm_272 (show jw_cd cd_272 96 = some (.getfield 16) by decide +kernel) (mg_a hl (a := 18) (show jw_fld 34 16 16 = some 4 by decide +kernel) (by decide) (by decide)) ?_
        refine jr_1 jm_272 (show jw_cd cd_272 99 = some (.iload 6) by decide +kernel) rfl ?_
        refine jr_1 jm_272 (show jw_cd cd_272 101 = some (.iaload) by decide +kernel) (ma_i hl (i := y) (e := Y.1.2.1) 4 (by omega) (by show _ < ((1740 : Nat) : Int); omega) y4 (by decide) (by decide) (by decide)) ?_
        refine jr_1 jm_272 (show jw_cd cd_272 102 = some (.if_icmp .ne 32) by decide +kernel) (mb_t (q := .ne) (a := X.1.2.1) (b := Y.1.2.1) (t := 134) hn ⟨by omega, by omega⟩ ⟨by omega, by omega⟩ (by decide) (by decide)) ?_
        refine jr_1 jm_272 (show jw_cd cd_272 134 = some (.iconst 0) by decide +kernel) rfl ?_
        exact jr_v jm_272 (show jw_cd cd_272 135 = some (.ireturn) by decide +kernel) rfl
      · have h4 : X.1.1 = 4 := Decidable.byContradiction fun z => hh ⟨hk, hc, fun w => absurd w h3, fun w => absurd w z⟩
        have htx : ¬ X.1.2.2.1 = Y.1.2.2.1 := fun z => hh ⟨hk, hc, fun w => absurd w h3, fun _ => z⟩
        have hpk : ¬ pk X.1.2.2.1 = pk Y.1.2.2.1 := fun z => htx ((pk_inj tX tY).mp z)
        have hmr : mr (if pk X.1.2.2.1 < pk Y.1.2.2.1 then (-1 : Int) else if pk X.1.2.2.1 = pk Y.1.2.2.1 then 0 else 1) := by
          rw [if_neg hpk]
          split <;> exact ⟨by decide, by decide⟩
        have hcc : ¬ mq .eq (if pk X.1.2.2.1 < pk Y.1.2.2.1 then (-1 : Int) else if pk X.1.2.2.1 = pk Y.1.2.2.1 then 0 else 1) 0 := by
          show ¬ (if pk X.1.2.2.1 < pk Y.1.2.2.1 then (-1 : Int) else if pk X.1.2.2.1 = pk Y.1.2.2.1 then 0 else 1) = 0
          by_cases h1 : pk X.1.2.2.1 < pk Y.1.2.2.1
          · rw [if_pos h1]
            decide
          · rw [if_neg h1, if_neg hpk]
            decide
        refine jr_1 jm_272 (show jw_cd cd_272 19 = some (.iload 4) by decide +kernel) rfl ?_
        refine jr_1 jm_272 (show jw_cd cd_272 21 = some (.iload_n 3) by decide +kernel) rfl ?_
        refine jr_1 jm_272 (show jw_cd cd_272 22 = some (.if_icmp .ge 234) by decide +kernel) (mb_f (q := .ge) (a := k) (b := m) (by show ¬ (m ≤ k); omega) ⟨by omega, by omega⟩ ⟨by omega, by omega⟩ (by decide)) ?_
        refine jr_1 jm_272 (show jw_cd cd_272 25 = some (.aload_n 0) by decide +kernel) rfl ?_
        refine jr_1 jm_272 (show jw_cd cd_272 26 = some (.getfield 101) by decide +kernel) (mg_a hl (a := 46) (show jw_fld 34 101 16 = some 43 by decide +kernel) (by decide) (by decide)) ?_
        refine jr_1 jm_272 (show jw_cd cd_272 29 = some (.iload 4) by decide +kernel) rfl ?_
        refine jr_1 jm_272 (show jw_cd cd_272 31 = some (.iaload) by decide +kernel) (ma_i hl (i := k) (e := x) 43 (by omega) (by show _ < ((400 : Nat) : Int); omega) q43 (by decide) (by decide) (by decide)) ?_
        refine jr_1 jm_272 (F2 := (34, [some (.ref 15), some (.int (Int32.ofInt (a))), some (.int (Int32.ofInt (b))), some (.int (Int32.ofInt (m))), some (.int (Int32.ofInt (k))), some (.int (Int32.ofInt (x))), c6, c7, c8, c9], [], ml_mk h τ)) (show jw_cd cd_272 32 = some (.istore 5) by decide +kernel) rfl ?_
        refine jr_1 jm_272 (show jw_cd cd_272 34 = some (.aload_n 0) by decide +kernel) rfl ?_
        refine jr_1 jm_272 (show jw_cd cd_272 35 = some (.getfield 104) by decide +kernel) (mg_a hl (a := 47) (show jw_fld 34 104 16 = some 44 by decide +kernel) (by decide) (by decide)) ?_
        refine jr_1 jm_272 (show jw_cd cd_272 38 = some (.iload 4) by decide +kernel) rfl ?_
        refine jr_1 jm_272 (show jw_cd cd_272 40 = some (.iaload) by decide +kernel) (ma_i hl (i := k) (e := y) 44 (by omega) (by show _ < ((400 : Nat) : Int); omega) q44 (by decide) (by decide) (by decide)) ?_
        refine jr_1 jm_272 (F2 := (43, [some (.ref 15), some (.int (Int32.ofInt (a))), some (.int (Int32.ofInt (b))), some (.int (Int32.ofInt (m))), some (.int (Int32.ofInt (k))), some (.int (Int32.ofInt (x))), some (.int (Int32.ofInt (y))), c7, c8, c9], [], ml_mk h τ)) (show jw_cd cd_272 41 = some (.istore 6) by decide +kernel) rfl ?_
        refine jr_1 jm_272 (show jw_cd cd_272 43 = some (.aload_n 0) by decide +kernel) rfl ?_
        refine jr_1 jm_272 (show jw_cd cd_272 44 = some (.getfield 13) by decide +kernel) (mg_a hl (a := 17) (show jw_fld 34 13 16 = some 3 by decide +kernel) (by decide) (by decide)) ?_
        refine jr_1 jm_272 (show jw_cd cd_272 47 = some (.iload 5) by decide +kernel) rfl ?_
        refine jr_1 jm_272 (show jw_cd cd_272 49 = some (.iaload) by decide +kernel) (ma_i hl (i := x) (e := X.1.1) 3 (by omega) (by show _ < ((1740 : Nat) : Int); omega) x3 (by decide) (by decide) (by decide)) ?_
        refine jr_1 jm_272 (show jw_cd cd_272 50 = some (.aload_n 0) by decide +kernel) rfl ?_
        refine jr_1 jm_272 (show jw_cd cd_272 51 = some (.getfield 13) by decide +kernel) (mg_a hl (a := 17) (show jw_fld 34 13 16 = some 3 by decide +kernel) (by decide) (by decide)) ?_
        refine jr_1 jm_272 (show jw_cd cd_272 54 = some (.iload 6) by decide +kernel) rfl ?_
        refine jr_1 jm_272 (show jw_cd cd_272 56 = some (.iaload) by decide +kernel) (ma_i hl (i := y) (e := Y.1.1) 3 (by omega) (by show _ < ((1740 : Nat) : Int); omega) y3 (by decide) (by decide) (by decide)) ?_
        refine jr_1 jm_272 (show jw_cd cd_272 57 = some (.if_icmp .ne 77) by decide +kernel) (mb_f (q := .ne) (a := X.1.1) (b := Y.1.1) (fun z => z hk) ⟨by omega, by omega⟩ ⟨by omega, by omega⟩ (by decide)) ?_
        refine jr_1 jm_272 (show jw_cd cd_272 60 = some (.aload_n 0) by decide +kernel) rfl ?_
        refine jr_1 jm_272 (show jw_cd cd_272 61 = some (.getfield 26) by decide +kernel) (mg_a hl (a := 21) (show jw_fld 34 26 16 = some 7 by decide +kernel) (by decide) (by decide)) ?_
        refine jr_1 jm_272 (show jw_cd cd_272 64 = some (.iload 5) by decide +kernel) rfl ?_
        refine jr_1 jm_272 (show jw_cd cd_272 66 = some (.iaload) by decide +kernel) (ma_i hl (i := x) (e := (fsz X.2 : Int)) 7 (by omega) (by show _ < ((1740 : Nat) : Int); omega) x7 (by decide) (by decide) (by decide)) ?_
        refine jr_1 jm_272 (show jw_cd cd_272 67 = some (.aload_n 0) by decide +kernel) rfl ?_
        refine jr_1 jm_272 (show jw_cd cd_272 68 = some (.getfield 26) by decide +kernel) (mg_a hl (a := 21) (show jw_fld 34 26 16 = some 7 by decide +kernel) (by decide) (by decide)) ?_
        refine jr_1 jm_272 (show jw_cd cd_272 71 = some (.iload 6) by decide +kernel) rfl ?_
        refine jr_1 jm_272 (show jw_cd cd_272 73 = some (.iaload) by decide +kernel) (ma_i hl (i := y) (e := (fsz Y.2 : Int)) 7 (by omega) (by show _ < ((1740 : Nat) : Int); omega) y7 (by decide) (by decide) (by decide)) ?_
        refine jr_1 jm_272 (show jw_cd cd_272 74 = some (.if_icmp .ne 60) by decide +kernel) (mb_f (q := .ne) (a := (fsz X.2 : Int)) (b := (fsz Y.2 : Int)) (fun z => z (by rw [hc])) ⟨by omega, by omega⟩ ⟨by omega, by omega⟩ (by decide)) ?_
        refine jr_1 jm_272 (show jw_cd cd_272 77 = some (.aload_n 0) by decide +kernel) rfl ?_
        refine jr_1 jm_272 (show jw_cd cd_272 78 = some (.getfield 13) by decide +kernel) (mg_a hl (a := 17) (show jw_fld 34 13 16 = some 3 by decide +kernel) (by decide) (by decide)) ?_
        refine jr_1 jm_272 (show jw_cd cd_272 81 = some (.iload 5) by decide +kernel) rfl ?_
        refine jr_1 jm_272 (show jw_cd cd_272 83 = some (.iaload) by decide +kernel) (ma_i hl (i := x) (e := X.1.1) 3 (by omega) (by show _ < ((1740 : Nat) : Int); omega) x3 (by decide) (by decide) (by decide)) ?_
        refine jr_1 jm_272 (show jw_cd cd_272 84 = some (.iconst 3) by decide +kernel) rfl ?_
        refine jr_1 jm_272 (show jw_cd cd_272 85 = some (.if_icmp .ne 20) by decide +kernel) (mb_t (q := .ne) (a := X.1.1) (b := 3) (t := 105) (by show ¬ (X.1.1 = 3); omega) ⟨by omega, by omega⟩ ⟨by omega, by omega⟩ (by decide) (by decide)) ?_
        refine jr_1 jm_272 (show jw_cd cd_272 105 = some (.aload_n 0) by decide +kernel) rfl ?_
        refine jr_1 jm_272 (show jw_cd cd_272 106 = some (.getfield 13) by decide +kernel) (mg_a hl (a := 17) (show jw_fld 34 13 16 = some 3 by decide +kernel) (by decide) (by decide)) ?_
        refine jr_1 jm_272 (show jw_cd cd_272 109 = some (.iload 5) by decide +kernel) rfl ?_
        refine jr_1 jm_272 (show jw_cd cd_272 111 = some (.iaload) by decide +kernel) (ma_i hl (i := x) (e := X.1.1) 3 (by omega) (by show _ < ((1740 : Nat) : Int); omega) x3 (by decide) (by decide) (by decide)) ?_
        refine jr_1 jm_272 (show jw_cd cd_272 112 = some (.iconst 4) by decide +kernel) rfl ?_
        refine jr_1 jm_272 (show jw_cd cd_272 113 = some (.if_icmp .ne 23) by decide +kernel) (mb_f (q := .ne) (a := X.1.1) (b := 4) (fun z => z h4) ⟨by omega, by omega⟩ ⟨by omega, by omega⟩ (by decide)) ?_
        refine jr_1 jm_272 (show jw_cd cd_272 116 = some (.aload_n 0) by decide +kernel) rfl ?_
        refine jr_1 jm_272 (show jw_cd cd_272 117 = some (.getfield 19) by decide +kernel) (mg_a hl (a := 19) (show jw_fld 34 19 16 = some 5 by decide +kernel) (by decide) (by decide)) ?_
        refine jr_1 jm_272 (show jw_cd cd_272 120 = some (.iload 5) by decide +kernel) rfl ?_
        refine jr_1 jm_272 (show jw_cd cd_272 122 = some (.laload) by decide +kernel) (ma_j hl (i := x) (e := pk X.1.2.2.1) 5 (by omega) (by show _ < ((1740 : Nat) : Int); omega) x5 (by decide) (by decide) (by decide)) ?_
        refine jr_1 jm_272 (show jw_cd cd_272 123 = some (.aload_n 0) by decide +kernel) rfl ?_
        refine jr_1 jm_272 (show jw_cd cd_272 124 = some (.getfield 19) by decide +kernel) (mg_a hl (a := 19) (show jw_fld 34 19 16 = some 5 by decide +kernel) (by decide) (by decide)) ?_
        refine jr_1 jm_272 (show jw_cd cd_272 127 = some (.iload 6) by decide +kernel) rfl ?_
        refine jr_1 jm_272 (show jw_cd cd_272 129 = some (.laload) by decide +kernel) (ma_j hl (i := y) (e := pk Y.1.2.2.1) 5 (by omega) (by show _ < ((1740 : Nat) : Int); omega) y5 (by decide) (by decide) (by decide)) ?_
        refine jr_1 jm_272 (show jw_cd cd_272 130 = some (.lcmp) by decide +kernel) (mt_cmp (r := (if pk X.1.2.2.1 < pk Y.1.2.2.1 then (-1 : Int) else if pk X.1.2.2.1 = pk Y.1.2.2.1 then 0 else 1)) ⟨by have := (pk_b tX).1; omega, by have := (pk_b tX).2; omega⟩ ⟨by have := (pk_b tY).1; omega, by have := (pk_b tY).2; omega⟩ rfl) ?_
        refine jr_1 jm_272 (show jw_cd cd_272 131 = some (.ifCond .eq 5) by decide +kernel) (mz_f (q := .eq) (a := (if pk X.1.2.2.1 < pk Y.1.2.2.1 then (-1 : Int) else if pk X.1.2.2.1 = pk Y.1.2.2.1 then 0 else 1)) hcc hmr (by decide)) ?_
        refine jr_1 jm_272 (show jw_cd cd_272 134 = some (.iconst 0) by decide +kernel) rfl ?_
        exact jr_v jm_272 (show jw_cd cd_272 135 = some (.ireturn) by decide +kernel) rfl
    · skip
      refine jr_1 jm_272 (show jw_cd cd_272 19 = some (.iload 4) by decide +kernel) rfl ?_
      refine jr_1 jm_272 (show jw_cd cd_272 21 = some (.iload_n 3) by decide +kernel) rfl ?_
      refine jr_1 jm_272 (show jw_cd cd_272 22 = some (.if_icmp .ge 234) by decide +kernel) (mb_f (q := .ge) (a := k) (b := m) (by show ¬ (m ≤ k); omega) ⟨by omega, by omega⟩ ⟨by omega, by omega⟩ (by decide)) ?_
      refine jr_1 jm_272 (show jw_cd cd_272 25 = some (.aload_n 0) by decide +kernel) rfl ?_
      refine jr_1 jm_272 (show jw_cd cd_272 26 = some (.getfield 101) by decide +kernel) (mg_a hl (a := 46) (show jw_fld 34 101 16 = some 43 by decide +kernel) (by decide) (by decide)) ?_
      refine jr_1 jm_272 (show jw_cd cd_272 29 = some (.iload 4) by decide +kernel) rfl ?_
      refine jr_1 jm_272 (show jw_cd cd_272 31 = some (.iaload) by decide +kernel) (ma_i hl (i := k) (e := x) 43 (by omega) (by show _ < ((400 : Nat) : Int); omega) q43 (by decide) (by decide) (by decide)) ?_
      refine jr_1 jm_272 (F2 := (34, [some (.ref 15), some (.int (Int32.ofInt (a))), some (.int (Int32.ofInt (b))), some (.int (Int32.ofInt (m))), some (.int (Int32.ofInt (k))), some (.int (Int32.ofInt (x))), c6, c7, c8, c9], [], ml_mk h τ)) (show jw_cd cd_272 32 = some (.istore 5) by decide +kernel) rfl ?_
      refine jr_1 jm_272 (show jw_cd cd_272 34 = some (.aload_n 0) by decide +kernel) rfl ?_
      refine jr_1 jm_272 (show jw_cd cd_272 35 = some (.getfield 104) by decide +kernel) (mg_a hl (a := 47) (show jw_fld 34 104 16 = some 44 by decide +kernel) (by decide) (by decide)) ?_
      refine jr_1 jm_272 (show jw_cd cd_272 38 = some (.iload 4) by decide +kernel) rfl ?_
      refine jr_1 jm_272 (show jw_cd cd_272 40 = some (.iaload) by decide +kernel) (ma_i hl (i := k) (e := y) 44 (by omega) (by show _ < ((400 : Nat) : Int); omega) q44 (by decide) (by decide) (by decide)) ?_
      refine jr_1 jm_272 (F2 := (43, [some (.ref 15), some (.int (Int32.ofInt (a))), some (.int (Int32.ofInt (b))), some (.int (Int32.ofInt (m))), some (.int (Int32.ofInt (k))), some (.int (Int32.ofInt (x))), some (.int (Int32.ofInt (y))), c7, c8, c9], [], ml_mk h τ)) (show jw_cd cd_272 41 = some (.istore 6) by decide +kernel) rfl ?_
      refine jr_1 jm_272 (show jw_cd cd_272 43 = some (.aload_n 0) by decide +kernel) rfl ?_
      refine jr_1 jm_272 (show jw_cd cd_272 44 = some (.getfield 13) by decide +kernel) (mg_a hl (a := 17) (show jw_fld 34 13 16 = some 3 by decide +kernel) (by decide) (by decide)) ?_
      refine jr_1 jm_272 (show jw_cd cd_272 47 = some (.iload 5) by decide +kernel) rfl ?_
      refine jr_1 jm_272 (show jw_cd cd_272 49 = some (.iaload) by decide +kernel) (ma_i hl (i := x) (e := X.1.1) 3 (by omega) (by show _ < ((1740 : Nat) : Int); omega) x3 (by decide) (by decide) (by decide)) ?_
      refine jr_1 jm_272 (show jw_cd cd_272 50 = some (.aload_n 0) by decide +kernel) rfl ?_
      refine jr_1 jm_272 (show jw_cd cd_272 51 = some (.getfield 13) by decide +kernel) (mg_a hl (a := 17) (show jw_fld 34 13 16 = some 3 by decide +kernel) (by decide) (by decide)) ?_
      refine jr_1 jm_272 (show jw_cd cd_272 54 = some (.iload 6) by decide +kernel) rfl ?_
      refine jr_1 jm_272 (show jw_cd cd_272 56 = some (.iaload) by decide +kernel) (ma_i hl (i := y) (e := Y.1.1) 3 (by omega) (by show _ < ((1740 : Nat) : Int); omega) y3 (by decide) (by decide) (by decide)) ?_
      refine jr_1 jm_272 (show jw_cd cd_272 57 = some (.if_icmp .ne 77) by decide +kernel) (mb_f (q := .ne) (a := X.1.1) (b := Y.1.1) (fun z => z hk) ⟨by omega, by omega⟩ ⟨by omega, by omega⟩ (by decide)) ?_
      refine jr_1 jm_272 (show jw_cd cd_272 60 = some (.aload_n 0) by decide +kernel) rfl ?_
      refine jr_1 jm_272 (show jw_cd cd_272 61 = some (.getfield 26) by decide +kernel) (mg_a hl (a := 21) (show jw_fld 34 26 16 = some 7 by decide +kernel) (by decide) (by decide)) ?_
      refine jr_1 jm_272 (show jw_cd cd_272 64 = some (.iload 5) by decide +kernel) rfl ?_
      refine jr_1 jm_272 (show jw_cd cd_272 66 = some (.iaload) by decide +kernel) (ma_i hl (i := x) (e := (fsz X.2 : Int)) 7 (by omega) (by show _ < ((1740 : Nat) : Int); omega) x7 (by decide) (by decide) (by decide)) ?_
      refine jr_1 jm_272 (show jw_cd cd_272 67 = some (.aload_n 0) by decide +kernel) rfl ?_
      refine jr_1 jm_272 (show jw_cd cd_272 68 = some (.getfield 26) by decide +kernel) (mg_a hl (a := 21) (show jw_fld 34 26 16 = some 7 by decide +kernel) (by decide) (by decide)) ?_
      refine jr_1 jm_272 (show jw_cd cd_272 71 = some (.iload 6) by decide +kernel) rfl ?_
      refine jr_1 jm_272 (show jw_cd cd_272 73 = some (.iaload) by decide +kernel) (ma_i hl (i := y) (e := (fsz Y.2 : Int)) 7 (by omega) (by show _ < ((1740 : Nat) : Int); omega) y7 (by decide) (by decide) (by decide)) ?_
      refine jr_1 jm_272 (show jw_cd cd_272 74 = some (.if_icmp .ne 60) by decide +kernel) (mb_t (q := .ne) (a := (fsz X.2 : Int)) (b := (fsz Y.2 : Int)) (t := 134) (fun z => hc (by omega)) ⟨by omega, by omega⟩ ⟨by omega, by omega⟩ (by decide) (by decide)) ?_
      refine jr_1 jm_272 (show jw_cd cd_272 134 = some (.iconst 0) by decide +kernel) rfl ?_
      exact jr_v jm_272 (show jw_cd cd_272 135 = some (.ireturn) by decide +kernel) rfl
  · skip
    refine jr_1 jm_272 (show jw_cd cd_272 19 = some (.iload 4) by decide +kernel) rfl ?_
    refine jr_1 jm_272 (show jw_cd cd_272 21 = some (.iload_n 3) by decide +kernel) rfl ?_
    refine jr_1 jm_272 (show jw_cd cd_272 22 = some (.if_icmp .ge 234) by decide +kernel) (mb_f (q := .ge) (a := k) (b := m) (by show ¬ (m ≤ k); omega) ⟨by omega, by omega⟩ ⟨by omega, by omega⟩ (by decide)) ?_
    refine jr_1 jm_272 (show jw_cd cd_272 25 = some (.aload_n 0) by decide +kernel) rfl ?_
    refine jr_1 jm_272 (show jw_cd cd_272 26 = some (.getfield 101) by decide +kernel) (mg_a hl (a := 46) (show jw_fld 34 101 16 = some 43 by decide +kernel) (by decide) (by decide)) ?_
    refine jr_1 jm_272 (show jw_cd cd_272 29 = some (.iload 4) by decide +kernel) rfl ?_
    refine jr_1 jm_272 (show jw_cd cd_272 31 = some (.iaload) by decide +kernel) (ma_i hl (i := k) (e := x) 43 (by omega) (by show _ < ((400 : Nat) : Int); omega) q43 (by decide) (by decide) (by decide)) ?_
    refine jr_1 jm_272 (F2 := (34, [some (.ref 15), some (.int (Int32.ofInt (a))), some (.int (Int32.ofInt (b))), some (.int (Int32.ofInt (m))), some (.int (Int32.ofInt (k))), some (.int (Int32.ofInt (x))), c6, c7, c8, c9], [], ml_mk h τ)) (show jw_cd cd_272 32 = some (.istore 5) by decide +kernel) rfl ?_
    refine jr_1 jm_272 (show jw_cd cd_272 34 = some (.aload_n 0) by decide +kernel) rfl ?_
    refine jr_1 jm_272 (show jw_cd cd_272 35 = some (.getfield 104) by decide +kernel) (mg_a hl (a := 47) (show jw_fld 34 104 16 = some 44 by decide +kernel) (by decide) (by decide)) ?_
    refine jr_1 jm_272 (show jw_cd cd_272 38 = some (.iload 4) by decide +kernel) rfl ?_
    refine jr_1 jm_272 (show jw_cd cd_272 40 = some (.iaload) by decide +kernel) (ma_i hl (i := k) (e := y) 44 (by omega) (by show _ < ((400 : Nat) : Int); omega) q44 (by decide) (by decide) (by decide)) ?_
    refine jr_1 jm_272 (F2 := (43, [some (.ref 15), some (.int (Int32.ofInt (a))), some (.int (Int32.ofInt (b))), some (.int (Int32.ofInt (m))), some (.int (Int32.ofInt (k))), some (.int (Int32.ofInt (x))), some (.int (Int32.ofInt (y))), c7, c8, c9], [], ml_mk h τ)) (show jw_cd cd_272 41 = some (.istore 6) by decide +kernel) rfl ?_
    refine jr_1 jm_272 (show jw_cd cd_272 43 = some (.aload_n 0) by decide +kernel) rfl ?_
    refine jr_1 jm_272 (show jw_cd cd_272 44 = some (.getfield 13) by decide +kernel) (mg_a hl (a := 17) (show jw_fld 34 13 16 = some 3 by decide +kernel) (by decide) (by decide)) ?_
    refine jr_1 jm_272 (show jw_cd cd_272 47 = some (.iload 5) by decide +kernel) rfl ?_
    refine jr_1 jm_272 (show jw_cd cd_272 49 = some (.iaload) by decide +kernel) (ma_i hl (i := x) (e := X.1.1) 3 (by omega) (by show _ < ((1740 : Nat) : Int); omega) x3 (by decide) (by decide) (by decide)) ?_
    refine jr_1 jm_272 (show jw_cd cd_272 50 = some (.aload_n 0) by decide +kernel) rfl ?_
    refine jr_1 jm_272 (show jw_cd cd_272 51 = some (.getfield 13) by decide +kernel) (mg_a hl (a := 17) (show jw_fld 34 13 16 = some 3 by decide +kernel) (by decide) (by decide)) ?_
    refine jr_1 jm_272 (show jw_cd cd_272 54 = some (.iload 6) by decide +kernel) rfl ?_
    refine jr_1 jm_272 (show jw_cd cd_272 56 = some (.iaload) by decide +kernel) (ma_i hl (i := y) (e := Y.1.1) 3 (by omega) (by show _ < ((1740 : Nat) : Int); omega) y3 (by decide) (by decide) (by decide)) ?_
    refine jr_1 jm_272 (show jw_cd cd_272 57 = some (.if_icmp .ne 77) by decide +kernel) (mb_t (q := .ne) (a := X.1.1) (b := Y.1.1) (t := 134) hk ⟨by omega, by omega⟩ ⟨by omega, by omega⟩ (by decide) (by decide)) ?_
    refine jr_1 jm_272 (show jw_cd cd_272 134 = some (.iconst 0) by decide +kernel) rfl ?_
    exact jr_v jm_272 (show jw_cd cd_272 135 = some (.ireturn) by decide +kernel) rfl
def fctP (l : List pT) : Nat := (l.map fun p => fct p.1.2).sum
theorem fctP_app (l l' : List pT) : fctP (l ++ l') = fctP l + fctP l' := by
  unfold fctP
  rw [List.map_append, List.sum_append]
def pok (p : pT) : Prop := iok p.1.1 ∧ fwf p.1.2 ∧ iok p.2.1 ∧ fwf p.2.2
theorem prs_ok (ob : Bool) : ∀ (F G D : FT) (l : List pT), fwf F → fwf G → fwf D → prs ob F G D = some l → ∀ p ∈ l, pok p
  | .leaf, _, _, l, _, _, _, h => by
    cases h
    exact fun p hp => absurd hp List.not_mem_nil
  | .inner s0 i u0 c n, G, D, l, hF, hG, hD, h => by
    unfold prs at h
    cases hy : lk2 ob i.2.2.2 G D with
    | none => rw [hy] at h; cases h
    | some y =>
      rw [hy] at h
      dsimp only at h
      have hyok : iok y.1 ∧ fwf y.2 := by
        cases ob with
        | true => exact fget_ok G y.1 y.2 hG hy
        | false =>
          cases D with
          | leaf => cases hy
          | inner s1 j u1 e m =>
            cases hy
            exact ⟨hD.1, hD.2.1⟩
      have hD2 : fwf (ftl D) := by
        cases D with
        | leaf => trivial
        | inner s1 j u1 e m => exact hD.2.2
      cases hl : prs ob n G (ftl D) with
      | none => rw [hl] at h; cases h
      | some l2 =>
        rw [hl] at h
        cases h
        intro p hp
        rcases List.mem_cons.mp hp with rfl | hp
        · exact ⟨hF.1, hF.2.1, hyok.1, hyok.2⟩
        · exact prs_ok ob n G (ftl D) l2 hF.2.2 hG hD2 hl p hp
theorem fget_fct (s : List Int) : ∀ (G : FT) (y : tI × FT), fget s G = some y → fct y.2 ≤ fct G
  | .leaf, _, h => by cases h
  | .inner s0 i u0 c n, y, h => by
    have h : (if i.2.2.2 = s then some (i, c) else fget s n) = some y := h
    show fct y.2 ≤ 1 + fct c + fct n
    split at h
    · cases h
      show fct c ≤ _
      omega
    · have := fget_fct s n y h
      omega
theorem prs_fct (ob : Bool) {K : Nat} : ∀ (F G D : FT) (l : List pT), fct G ≤ K → fct D ≤ K → prs ob F G D = some l → ∀ p ∈ l, fct p.2.2 ≤ K
  | .leaf, _, _, l, _, _, h => by
    cases h
    exact fun p hp => absurd hp List.not_mem_nil
  | .inner s0 i u0 c n, G, D, l, hG, hD, h => by
    unfold prs at h
    cases hy : lk2 ob i.2.2.2 G D with
    | none => rw [hy] at h; cases h
    | some y =>
      rw [hy] at h
      dsimp only at h
      have hyb : fct y.2 ≤ K := by
        cases ob with
        | true =>
          have := fget_fct _ G y hy
          omega
        | false =>
          cases D with
          | leaf => cases hy
          | inner s1 j u1 e m =>
            cases hy
            have hD : 1 + fct e + fct m ≤ K := hD
            show fct e ≤ K
            omega
      have hDb : fct (ftl D) ≤ fct D := by
        cases D with
        | leaf => exact Nat.le_refl _
        | inner s1 j u1 e m =>
          show fct m ≤ 1 + fct e + fct m
          omega
      cases hl : prs ob n G (ftl D) with
      | none => rw [hl] at h; cases h
      | some l2 =>
        rw [hl] at h
        cases h
        intro p hp
        rcases List.mem_cons.mp hp with rfl | hp
        · exact hyb
        · exact prs_fct ob n G (ftl D) l2 hG (by omega) hl p hp
theorem mF_szle {σ : mS} {A B : Int → Prop} {v : Int} {i : tI} {F : FT} (h : mV σ A B v i F) : σ 7 v = (fsz F : Int) := h.2.1.2.2.2
theorem jn_sm_out {β : Bool} {d : Nat} {h : jx_H} {σ : mS} (hl : 49 ≤ h.length) {A B : Int → Prop} (hA : mIx A) (hB : mIx B) {a b : Int} : ∀ (s : Nat) (l : List pT) (k m : Int) (τ : mS) (c5 c6 c7 c8 c9 : Option Value), l.length + fctP l = s → (∀ p ∈ l, pok p ∧ fct p.2.2 ≤ 1740) → mEq [43, 44] σ τ → qS σ A B τ k l → m = k + l.length → 0 ≤ k → m + fctP l ≤ 400 → ∃ τ', jx_r (jz β) jw_M (d + 1) 272 (19, [some (.ref 15), some (.int (Int32.ofInt (a))), some (.int (Int32.ofInt (b))), some (.int (Int32.ofInt (m))), some (.int (Int32.ofInt (k))), c5, c6, c7, c8, c9], [], ml_mk h τ) (ml_mk h (τ'), .inl (some (.int (Int32.ofInt (if l.all pS = true then 1 else 0))))) ∧ mEq [43, 44] σ τ'
  | s, [], k, m, τ, c5, c6, c7, c8, c9, hs, hok, hq, hl', hm, hk, hb => by
    refine ⟨τ, ?_, hq⟩
    rw [show (if ([] : List pT).all pS = true then (1 : Int) else 0) = 1 from rfl]
    have hm : m = k := by simp at hm; exact hm
    have hb : m ≤ 400 := by
      have : (0 : Int) ≤ ((fctP [] : Nat) : Int) := Int.natCast_nonneg _
      omega
    refine jr_1 jm_272 (show jw_cd cd_272 19 = some (.iload 4) by decide +kernel) rfl ?_
    refine jr_1 jm_272 (show jw_cd cd_272 21 = some (.iload_n 3) by decide +kernel) rfl ?_
    refine jr_1 jm_272 (show jw_cd cd_272 22 = some (.if_icmp .ge 234) by decide +kernel) (mb_t (q := .ge) (a := k) (b := m) (t := 256) (by show m ≤ k; omega) ⟨by omega, by omega⟩ ⟨by omega, by omega⟩ (by decide) (by decide)) ?_
    refine jr_1 jm_272 (show jw_cd cd_272 256 = some (.iconst 1) by decide +kernel) rfl ?_
    exact jr_v jm_272 (show jw_cd cd_272 257 = some (.ireturn) by decide +kernel) rfl
  | 0, p :: l, k, m, τ, c5, c6, c7, c8, c9, hs, hok, hq, hl', hm, hk, hb => by
    simp at hs
  | s + 1, p :: l, k, m, τ, c5, c6, c7, c8, c9, hs, hok, hq, hl', hm, hk, hb => by
    obtain ⟨⟨hX, hY⟩, hl2⟩ := hl'
    obtain ⟨⟨p1, p2, p3, p4⟩, p6'⟩ := hok p List.mem_cons_self
    have ax := hA _ hX.1
    have ay := hA _ hY.1
    have hf : fctP (p :: l) = fct p.1.2 + fctP l := rfl
    have p5 : fsz p.1.2 ≤ 1740 := by have := fsz_le p.1.2; omega
    have p6 : fsz p.2.2 ≤ 1740 := by have := fsz_le p.2.2; omega
    have hgl : ((p :: l).length : Int) = l.length + 1 := by simp
    have hfr : ∀ f, f ∉ [43, 44] → ∀ v, τ f v = σ f v := fun f hf v => congrFun (hq f hf) v
    obtain ⟨x3, x4, x5, x7⟩ := hX.2.1
    obtain ⟨y3, y4, y5, y7⟩ := hY.2.1
    cases hh : hdS p.1 p.2 with
    | false =>
      refine ⟨τ, ?_, hq⟩
      rw [if_neg (show ¬ (p :: l).all pS = true from by
        rw [List.all_cons]
        unfold pS
        rw [hh]
        simp)]
      exact jn_sm_f (σ := σ) hl (X := p.1) (Y := p.2) ⟨hk, by omega⟩ (by omega) ax ay p1 p3 p5 p6 rfl rfl ((hfr 3 (by decide) _).trans x3) ((hfr 3 (by decide) _).trans y3) ((hfr 7 (by decide) _).trans x7) ((hfr 7 (by decide) _).trans y7) ((hfr 4 (by decide) _).trans x4) ((hfr 4 (by decide) _).trans y4) ((hfr 5 (by decide) _).trans x5) ((hfr 5 (by decide) _).trans y5) hh
    | true =>
      obtain ⟨hk1, hc1, -, -⟩ := (hdS_iff p.1 p.2).mp hh
      have hsz := fsz_le p.1.2
      have hto := jn_sm_t (β := β) (d := d) (σ := σ) (a := a) (b := b) (c5 := c5) (c6 := c6) (c7 := c7) (c8 := c8) (c9 := c9) hl (X := p.1) (Y := p.2) (τ := τ) (k := k) (m := m) ⟨hk, by omega⟩ (by omega) ax ay p1 p3 p5 p6 rfl rfl ((hfr 3 (by decide) _).trans x3) ((hfr 3 (by decide) _).trans y3) ((hfr 7 (by decide) _).trans x7) ((hfr 7 (by decide) _).trans y7) ((hfr 4 (by decide) _).trans x4) ((hfr 4 (by decide) _).trans y4) ((hfr 5 (by decide) _).trans x5) ((hfr 5 (by decide) _).trans y5) (hfr 6 (by decide) _) (hfr 6 (by decide) _) hh
      obtain ⟨v1, v2⟩ := jn_sm_in (β := β) (d := d) (a := a) (b := b) (k := k) (x := τ 43 k) (y := τ 44 k) (kd := p.1.1.1) hl hA hB hk ax x3 ⟨p1.1, p1.2.1⟩ hk1.symm (fwf_ok _ p4) hY p.1.2 (σ 6 (τ 43 k)) (σ 6 (τ 44 k)) m p.2.2 τ l c9 (fwf_ok _ p2) hq hX.2.2 hY.2.2 (by omega) hl2 (by omega) (by omega)
      have hpS : pS p = sameF (decide (p.1.1.1 = 6)) p.1.2 p.2.2 p.2.2 := by
        unfold pS
        rw [hh, Bool.true_and]
      cases hp : prs (decide (p.1.1.1 = 6)) p.1.2 p.2.2 p.2.2 with
      | none =>
        obtain ⟨τ', w1, w2⟩ := v1 hp
        refine ⟨τ', ?_, w2⟩
        rw [if_neg (show ¬ (p :: l).all pS = true from by
          rw [List.all_cons, hpS, prs_none _ _ _ _ hp]
          simp)]
        exact hto _ w1
      | some lp =>
        obtain ⟨τ1, dd', c9', w1, w2, w3⟩ := v2 lp hp
        obtain ⟨n1, n2⟩ := prs_ct _ _ _ _ lp hp
        have n2 : fctP lp + fsz p.1.2 = fct p.1.2 := n2
        have hall : (p :: l).all pS = (l ++ lp).all pS := by
          have e := sameF_prs (decide (p.1.1.1 = 6)) p.1.2 p.2.2 p.2.2
          rw [hp] at e
          dsimp only at e
          rw [List.all_cons, hpS, e, List.all_append, Bool.and_comm]
        obtain ⟨τ2, z1, z2⟩ := jn_sm_out (β := β) (d := d) (a := a) (b := b) hl hA hB s (l ++ lp) (k + 1) (m + (fsz p.1.2 : Int)) τ1 (some (.int (Int32.ofInt (τ 43 k)))) (some (.int (Int32.ofInt (τ 44 k)))) (some (.int (Int32.ofInt dd'))) (some (.int (Int32.ofInt (-1)))) c9' (by rw [List.length_append, fctP_app, n1]; simp at hs; omega) (fun q hq2 => by
          rcases List.mem_append.mp hq2 with hq2 | hq2
          · exact hok q (List.mem_cons_of_mem _ hq2)
          · exact ⟨prs_ok _ _ _ _ lp p2 p4 p4 hp q hq2, prs_fct _ _ _ _ lp p6' p6' hp q hq2⟩) w2 w3 (by rw [List.length_append, n1]; simp; omega) (by omega) (by rw [fctP_app]; omega)
        refine ⟨τ2, ?_, z2⟩
        rw [hall]
        refine hto _ (w1 _ ?_)
        refine jr_1 jm_272 (F2 := (253, [some (.ref 15), some (.int (Int32.ofInt (a))), some (.int (Int32.ofInt (b))), some (.int (Int32.ofInt (m + (fsz p.1.2 : Int)))), some (.int (Int32.ofInt (k + 1))), some (.int (Int32.ofInt (τ 43 k))), some (.int (Int32.ofInt (τ 44 k))), some (.int (Int32.ofInt (dd'))), some (.int (Int32.ofInt (-1))), c9'], [], ml_mk h τ1)) (show jw_cd cd_272 250 = some (.iinc 4 1) by decide +kernel) (mt_inc (a := k) (c := k + 1) rfl (by omega) rfl) ?_
        refine jr_1 jm_272 (show jw_cd cd_272 253 = some (.goto (-234)) by decide +kernel) (ju_go (t := 19) (by decide)) ?_
        exact z1
