/-! ===== the model's above, best, total, members (printed by program: gen36.py) ===== -/
/-- is the first one above the second? -/
def abv (i j : tI) : Bool := if i.1 = 3 then decide (j.2.1 < i.2.1) else decide (pk j.2.2.1 < pk i.2.2.1)
theorem jn_above {β : Bool} {d : Nat} {h : jx_H} {σ : mS} (hl : 49 ≤ h.length) {A B : Int → Prop} (hA : mIx A) {v w : Int} {i j : tI} {F E : FT} (hV : mV σ A B v i F) (hW : mV σ A B w j E) (hi1 : mr i.1) (hin : mr i.2.1) (hjn : mr j.2.1) (hi : tx i.2.2.1) (hj : tx j.2.2.1) : jx_r (jz β) jw_M (d) 258 (0, [some (.ref 15), some (.int (Int32.ofInt (v))), some (.int (Int32.ofInt (w)))], [], ml_mk h σ) (ml_mk h (σ), .inl (some (.int (Int32.ofInt (if abv i j = true then 1 else 0))))) := by
  obtain ⟨a1, ⟨p3, p4, p5, p7⟩, hF⟩ := hV
  obtain ⟨a2, ⟨r3, r4, r5, r7⟩, hE⟩ := hW
  have av := hA _ a1
  have aw := hA _ a2
  obtain ⟨x1, x2⟩ := hi1
  obtain ⟨y1, y2⟩ := hin
  obtain ⟨z1, z2⟩ := hjn
  refine jr_1 jm_258 (show jw_cd cd_258 0 = some (.aload_n 0) by decide +kernel) rfl ?_
  refine jr_1 jm_258 (show jw_cd cd_258 1 = some (.getfield 13) by decide +kernel) (mg_a hl (a := 17) (show jw_fld 34 13 16 = some 3 by decide +kernel) (by decide) (by decide)) ?_
  refine jr_1 jm_258 (show jw_cd cd_258 4 = some (.iload_n 1) by decide +kernel) rfl ?_
  refine jr_1 jm_258 (show jw_cd cd_258 5 = some (.iaload) by decide +kernel) (ma_i hl (i := v) (e := i.1) 3 (by omega) (by show _ < ((1740 : Nat) : Int); omega) p3 (by decide) (by decide) (by decide)) ?_
  refine jr_1 jm_258 (show jw_cd cd_258 6 = some (.iconst 3) by decide +kernel) rfl ?_
  by_cases hk : i.1 = 3
  · skip
    refine jr_1 jm_258 (show jw_cd cd_258 7 = some (.if_icmp .ne 26) by decide +kernel) (mb_f (q := .ne) (a := i.1) (b := 3) (fun z => z hk) ⟨by omega, by omega⟩ ⟨by omega, by omega⟩ (by decide)) ?_
    refine jr_1 jm_258 (show jw_cd cd_258 10 = some (.aload_n 0) by decide +kernel) rfl ?_
    refine jr_1 jm_258 (show jw_cd cd_258 11 = some (.getfield 16) by decide +kernel) (mg_a hl (a := 18) (show jw_fld 34 16 16 = some 4 by decide +kernel) (by decide) (by decide)) ?_
    refine jr_1 jm_258 (show jw_cd cd_258 14 = some (.iload_n 1) by decide +kernel) rfl ?_
    refine jr_1 jm_258 (show jw_cd cd_258 15 = some (.iaload) by decide +kernel) (ma_i hl (i := v) (e := i.2.1) 4 (by omega) (by show _ < ((1740 : Nat) : Int); omega) p4 (by decide) (by decide) (by decide)) ?_
    refine jr_1 jm_258 (show jw_cd cd_258 16 = some (.aload_n 0) by decide +kernel) rfl ?_
    refine jr_1 jm_258 (show jw_cd cd_258 17 = some (.getfield 16) by decide +kernel) (mg_a hl (a := 18) (show jw_fld 34 16 16 = some 4 by decide +kernel) (by decide) (by decide)) ?_
    refine jr_1 jm_258 (show jw_cd cd_258 20 = some (.iload_n 2) by decide +kernel) rfl ?_
    refine jr_1 jm_258 (show jw_cd cd_258 21 = some (.iaload) by decide +kernel) (ma_i hl (i := w) (e := j.2.1) 4 (by omega) (by show _ < ((1740 : Nat) : Int); omega) r4 (by decide) (by decide) (by decide)) ?_
    by_cases hc : j.2.1 < i.2.1
    · rw [if_pos (show abv i j = true from by unfold abv; rw [if_pos hk, decide_eq_true hc])]
      refine jr_1 jm_258 (show jw_cd cd_258 22 = some (.if_icmp .le 7) by decide +kernel) (mb_f (q := .le) (a := i.2.1) (b := j.2.1) (by show ¬ (i.2.1 ≤ j.2.1); omega) ⟨by omega, by omega⟩ ⟨by omega, by omega⟩ (by decide)) ?_
      refine jr_1 jm_258 (show jw_cd cd_258 25 = some (.iconst 1) by decide +kernel) rfl ?_
      refine jr_1 jm_258 (show jw_cd cd_258 26 = some (.goto 28) by decide +kernel) (ju_go (t := 54) (by decide)) ?_
      exact jr_v jm_258 (show jw_cd cd_258 54 = some (.ireturn) by decide +kernel) rfl
    · rw [if_neg (show ¬ abv i j = true from by unfold abv; rw [if_pos hk, decide_eq_false hc]; decide)]
      refine jr_1 jm_258 (show jw_cd cd_258 22 = some (.if_icmp .le 7) by decide +kernel) (mb_t (q := .le) (a := i.2.1) (b := j.2.1) (t := 29) (by show i.2.1 ≤ j.2.1; omega) ⟨by omega, by omega⟩ ⟨by omega, by omega⟩ (by decide) (by decide)) ?_
      refine jr_1 jm_258 (show jw_cd cd_258 29 = some (.iconst 0) by decide +kernel) rfl ?_
      refine jr_1 jm_258 (show jw_cd cd_258 30 = some (.goto 24) by decide +kernel) (ju_go (t := 54) (by decide)) ?_
      exact jr_v jm_258 (show jw_cd cd_258 54 = some (.ireturn) by decide +kernel) rfl
  · have hmr : mr (if pk i.2.2.1 < pk j.2.2.1 then (-1 : Int) else if pk i.2.2.1 = pk j.2.2.1 then 0 else 1) := by
      split
      · exact ⟨by decide, by decide⟩
      · split <;> exact ⟨by decide, by decide⟩
    refine jr_1 jm_258 (show jw_cd cd_258 7 = some (.if_icmp .ne 26) by decide +kernel) (mb_t (q := .ne) (a := i.1) (b := 3) (t := 33) hk ⟨by omega, by omega⟩ ⟨by omega, by omega⟩ (by decide) (by decide)) ?_
    refine jr_1 jm_258 (show jw_cd cd_258 33 = some (.aload_n 0) by decide +kernel) rfl ?_
    refine jr_1 jm_258 (show jw_cd cd_258 34 = some (.getfield 19) by decide +kernel) (mg_a hl (a := 19) (show jw_fld 34 19 16 = some 5 by decide +kernel) (by decide) (by decide)) ?_
    refine jr_1 jm_258 (show jw_cd cd_258 37 = some (.iload_n 1) by decide +kernel) rfl ?_
    refine jr_1 jm_258 (show jw_cd cd_258 38 = some (.laload) by decide +kernel) (ma_j hl (i := v) (e := pk i.2.2.1) 5 (by omega) (by show _ < ((1740 : Nat) : Int); omega) p5 (by decide) (by decide) (by decide)) ?_
    refine jr_1 jm_258 (show jw_cd cd_258 39 = some (.aload_n 0) by decide +kernel) rfl ?_
    refine jr_1 jm_258 (show jw_cd cd_258 40 = some (.getfield 19) by decide +kernel) (mg_a hl (a := 19) (show jw_fld 34 19 16 = some 5 by decide +kernel) (by decide) (by decide)) ?_
    refine jr_1 jm_258 (show jw_cd cd_258 43 = some (.iload_n 2) by decide +kernel) rfl ?_
    refine jr_1 jm_258 (show jw_cd cd_258 44 = some (.laload) by decide +kernel) (ma_j hl (i := w) (e := pk j.2.2.1) 5 (by omega) (by show _ < ((1740 : Nat) : Int); omega) r5 (by decide) (by decide) (by decide)) ?_
    refine jr_1 jm_258 (show jw_cd cd_258 45 = some (.lcmp) by decide +kernel) (mt_cmp (r := (if pk i.2.2.1 < pk j.2.2.1 then (-1 : Int) else if pk i.2.2.1 = pk j.2.2.1 then 0 else 1)) ⟨by have := (pk_b hi).1; omega, by have := (pk_b hi).2; omega⟩ ⟨by have := (pk_b hj).1; omega, by have := (pk_b hj).2; omega⟩ rfl) ?_
    by_cases hc : pk j.2.2.1 < pk i.2.2.1
    · have hc1 : ¬ mq .le (if pk i.2.2.1 < pk j.2.2.1 then (-1 : Int) else if pk i.2.2.1 = pk j.2.2.1 then 0 else 1) 0 := by
        rw [if_neg (by omega), if_neg (by omega)]
        exact fun (z : (1 : Int) ≤ 0) => absurd z (by decide)
      rw [if_pos (show abv i j = true from by unfold abv; rw [if_neg hk, decide_eq_true hc])]
      refine jr_1 jm_258 (show jw_cd cd_258 46 = some (.ifCond .le 7) by decide +kernel) (mz_f (q := .le) (a := (if pk i.2.2.1 < pk j.2.2.1 then (-1 : Int) else if pk i.2.2.1 = pk j.2.2.1 then 0 else 1)) hc1 hmr (by decide)) ?_
      refine jr_1 jm_258 (show jw_cd cd_258 49 = some (.iconst 1) by decide +kernel) rfl ?_
      refine jr_1 jm_258 (show jw_cd cd_258 50 = some (.goto 4) by decide +kernel) (ju_go (t := 54) (by decide)) ?_
      exact jr_v jm_258 (show jw_cd cd_258 54 = some (.ireturn) by decide +kernel) rfl
    · have hc2 : mq .le (if pk i.2.2.1 < pk j.2.2.1 then (-1 : Int) else if pk i.2.2.1 = pk j.2.2.1 then 0 else 1) 0 := by
        show (if pk i.2.2.1 < pk j.2.2.1 then (-1 : Int) else if pk i.2.2.1 = pk j.2.2.1 then 0 else 1) ≤ 0
        by_cases h1 : pk i.2.2.1 < pk j.2.2.1
        · rw [if_pos h1]
          decide
        · rw [if_neg h1, if_pos (by omega)]
          decide
      rw [if_neg (show ¬ abv i j = true from by unfold abv; rw [if_neg hk, decide_eq_false hc]; decide)]
      refine jr_1 jm_258 (show jw_cd cd_258 46 = some (.ifCond .le 7) by decide +kernel) (mz_t (q := .le) (a := (if pk i.2.2.1 < pk j.2.2.1 then (-1 : Int) else if pk i.2.2.1 = pk j.2.2.1 then 0 else 1)) (t := 53) hc2 hmr (by decide) (by decide)) ?_
      refine jr_1 jm_258 (show jw_cd cd_258 53 = some (.iconst 0) by decide +kernel) rfl ?_
      exact jr_v jm_258 (show jw_cd cd_258 54 = some (.ireturn) by decide +kernel) rfl
/-- the greatest, or the least, of what has been found and of these -/
def fbest (most : Bool) : tI × FT → FT → tI × FT
  | x, .leaf => x
  | x, .inner _ i _ c n => fbest most (if (bif most then abv i x.1 else abv x.1 i) = true then (i, c) else x) n
def fbest0 (most : Bool) : FT → Option (tI × FT)
  | .leaf => none
  | .inner _ i _ c n => some (fbest most (i, c) n)
theorem jn_best_1 {β : Bool} {d : Nat} {h : jx_H} {σ : mS} (hl : 49 ≤ h.length) {A B : Int → Prop} (hA : mIx A) (hB : mIx B) {l : Int} : ∀ (F : FT) (x fo : Int) (x0 : tI × FT) (c5 : Option Value), fok F → mF σ A B F x → mV σ A B fo x0.1 x0.2 → mr x0.1.1 → mr x0.1.2.1 → tx x0.1.2.2.1 → ∃ w, jx_r (jz β) jw_M (d + 1) 259 (10, [some (.ref 15), some (.int (Int32.ofInt (l))), some (.int (Int32.ofInt (1))), some (.int (Int32.ofInt (fo))), some (.int (Int32.ofInt (x))), c5], [], ml_mk h σ) (ml_mk h (σ), .inl (some (.int (Int32.ofInt (w))))) ∧ mV σ A B w (fbest true x0 F).1 (fbest true x0 F).2
  | .leaf, x, fo, x0, c5, _, hx, hf, _, _, _ => by
    have hx : x = -1 := hx
    subst hx
    refine ⟨fo, ?_, hf⟩
    refine jr_1 jm_259 (show jw_cd cd_259 10 = some (.iload 4) by decide +kernel) rfl ?_
    refine jr_1 jm_259 (show jw_cd cd_259 12 = some (.iconst (-1)) by decide +kernel) rfl ?_
    refine jr_1 jm_259 (show jw_cd cd_259 13 = some (.if_icmp .eq 63) by decide +kernel) (mb_t (q := .eq) (a := -1) (b := -1) (t := 76) (by show -1 = -1; omega) ⟨by omega, by omega⟩ ⟨by omega, by omega⟩ (by decide) (by decide)) ?_
    refine jr_1 jm_259 (show jw_cd cd_259 76 = some (.iload_n 3) by decide +kernel) rfl ?_
    exact jr_v jm_259 (show jw_cd cd_259 77 = some (.ireturn) by decide +kernel) rfl
  | .inner s0 i u0 c n, x, fo, x0, c5, ho, hx, hVf, m1f, m2f, t1f => by
    obtain ⟨b1, a1, hkey, hN, hc, hn⟩ := hx
    obtain ⟨t1x, t2x, m1x, m2x, o1, o2⟩ := ho
    have hVx : mV σ A B (σ 8 x) i c := ⟨a1, hN, hc⟩
    have bx := hB x b1
    have av := hA _ a1
    have af := hA _ hVf.1
    by_cases hab : abv i x0.1 = true
    · obtain ⟨w, r1, r2⟩ := jn_best_1 (β := β) (d := d) (l := l) hl hA hB n (σ 10 x) (σ 8 x) (i, c) (some (.int (Int32.ofInt (σ 8 (x))))) o2 hn hVx m1x m2x t1x
      refine ⟨w, ?_, ?_⟩
      · skip
        refine jr_1 jm_259 (show jw_cd cd_259 10 = some (.iload 4) by decide +kernel) rfl ?_
        refine jr_1 jm_259 (show jw_cd cd_259 12 = some (.iconst (-1)) by decide +kernel) rfl ?_
        refine jr_1 jm_259 (show jw_cd cd_259 13 = some (.if_icmp .eq 63) by decide +kernel) (mb_f (q := .eq) (a := x) (b := -1) (by show ¬ (x = -1); omega) ⟨by omega, by omega⟩ ⟨by omega, by omega⟩ (by decide)) ?_
        refine jr_1 jm_259 (show jw_cd cd_259 16 = some (.aload_n 0) by decide +kernel) rfl ?_
        refine jr_1 jm_259 (show jw_cd cd_259 17 = some (.getfield 29) by decide +kernel) (mg_a hl (a := 22) (show jw_fld 34 29 16 = some 8 by decide +kernel) (by decide) (by decide)) ?_
        refine jr_1 jm_259 (show jw_cd cd_259 20 = some (.iload 4) by decide +kernel) rfl ?_
        refine jr_1 jm_259 (show jw_cd cd_259 22 = some (.iaload) by decide +kernel) (ma_i hl (i := x) (e := σ 8 (x)) 8 (by omega) (by show _ < ((1740 : Nat) : Int); omega) rfl (by decide) (by decide) (by decide)) ?_
        refine jr_1 jm_259 (F2 := (25, [some (.ref 15), some (.int (Int32.ofInt (l))), some (.int (Int32.ofInt (1))), some (.int (Int32.ofInt (fo))), some (.int (Int32.ofInt (x))), some (.int (Int32.ofInt (σ 8 (x))))], [], ml_mk h σ)) (show jw_cd cd_259 23 = some (.istore 5) by decide +kernel) rfl ?_
        refine jr_1 jm_259 (show jw_cd cd_259 25 = some (.iload_n 3) by decide +kernel) rfl ?_
        refine jr_1 jm_259 (show jw_cd cd_259 26 = some (.iconst (-1)) by decide +kernel) rfl ?_
        refine jr_1 jm_259 (show jw_cd cd_259 27 = some (.if_icmp .eq 30) by decide +kernel) (mb_f (q := .eq) (a := fo) (b := -1) (by show ¬ (fo = -1); omega) ⟨by omega, by omega⟩ ⟨by omega, by omega⟩ (by decide)) ?_
        refine jr_1 jm_259 (show jw_cd cd_259 30 = some (.iload_n 2) by decide +kernel) rfl ?_
        refine jr_1 jm_259 (show jw_cd cd_259 31 = some (.ifCond .eq 16) by decide +kernel) (mz_f (q := .eq) (a := 1) (by show ¬ (1 = 0); omega) ⟨by omega, by omega⟩ (by decide)) ?_
        refine jr_1 jm_259 (show jw_cd cd_259 34 = some (.aload_n 0) by decide +kernel) rfl ?_
        refine jr_1 jm_259 (show jw_cd cd_259 35 = some (.iload 5) by decide +kernel) rfl ?_
        refine jr_1 jm_259 (show jw_cd cd_259 37 = some (.iload_n 3) by decide +kernel) rfl ?_
        refine jr_c jm_259 (show jw_cd cd_259 38 = some (.invokevirtual 308) by decide +kernel) (mc_v hl (n := 2) (m2 := 258) (bs := [.int (Int32.ofInt (σ 8 (x))), .int (Int32.ofInt (fo))]) (r := []) (show jw_find jw_cvT 34 308 = some (2, [(16, 258)]) by decide +kernel) (by decide) rfl rfl rfl) jm_258 ⟨Nat.le_of_ble_eq_true rfl, by decide⟩ (by have e := jn_above (β := β) (d := d) hl hA hVx hVf m1x m2x m2f t1x t1f; rw [if_pos hab] at e; exact e) ?_
        refine jr_1 jm_259 (show jw_cd cd_259 41 = some (.ifCond .eq 21) by decide +kernel) (mz_f (q := .eq) (a := 1) (by show ¬ (1 = 0); omega) ⟨by omega, by omega⟩ (by decide)) ?_
        refine jr_1 jm_259 (show jw_cd cd_259 44 = some (.goto 13) by decide +kernel) (ju_go (t := 57) (by decide)) ?_
        refine jr_1 jm_259 (show jw_cd cd_259 57 = some (.iload 5) by decide +kernel) rfl ?_
        refine jr_1 jm_259 (show jw_cd cd_259 59 = some (.goto 4) by decide +kernel) (ju_go (t := 63) (by decide)) ?_
        refine jr_1 jm_259 (F2 := (64, [some (.ref 15), some (.int (Int32.ofInt (l))), some (.int (Int32.ofInt (1))), some (.int (Int32.ofInt (σ 8 (x)))), some (.int (Int32.ofInt (x))), some (.int (Int32.ofInt (σ 8 (x))))], [], ml_mk h σ)) (show jw_cd cd_259 63 = some (.istore_n 3) by decide +kernel) rfl ?_
        refine jr_1 jm_259 (show jw_cd cd_259 64 = some (.aload_n 0) by decide +kernel) rfl ?_
        refine jr_1 jm_259 (show jw_cd cd_259 65 = some (.getfield 35) by decide +kernel) (mg_a hl (a := 24) (show jw_fld 34 35 16 = some 10 by decide +kernel) (by decide) (by decide)) ?_
        refine jr_1 jm_259 (show jw_cd cd_259 68 = some (.iload 4) by decide +kernel) rfl ?_
        refine jr_1 jm_259 (show jw_cd cd_259 70 = some (.iaload) by decide +kernel) (ma_i hl (i := x) (e := σ 10 (x)) 10 (by omega) (by show _ < ((1740 : Nat) : Int); omega) rfl (by decide) (by decide) (by decide)) ?_
        refine jr_1 jm_259 (F2 := (73, [some (.ref 15), some (.int (Int32.ofInt (l))), some (.int (Int32.ofInt (1))), some (.int (Int32.ofInt (σ 8 (x)))), some (.int (Int32.ofInt (σ 10 (x)))), some (.int (Int32.ofInt (σ 8 (x))))], [], ml_mk h σ)) (show jw_cd cd_259 71 = some (.istore 4) by decide +kernel) rfl ?_
        refine jr_1 jm_259 (show jw_cd cd_259 73 = some (.goto (-63)) by decide +kernel) (ju_go (t := 10) (by decide)) ?_
        exact r1
      · have e : fbest true x0 (.inner s0 i u0 c n) = fbest true (i, c) n := by
          show fbest true (if (bif true then abv i x0.1 else abv x0.1 i) = true then (i, c) else x0) n = _
          rw [if_pos (show (bif true then abv i x0.1 else abv x0.1 i) = true from hab)]
        rw [e]
        exact r2
    · obtain ⟨w, r1, r2⟩ := jn_best_1 (β := β) (d := d) (l := l) hl hA hB n (σ 10 x) fo x0 (some (.int (Int32.ofInt (σ 8 (x))))) o2 hn hVf m1f m2f t1f
      refine ⟨w, ?_, ?_⟩
      · skip
        refine jr_1 jm_259 (show jw_cd cd_259 10 = some (.iload 4) by decide +kernel) rfl ?_
        refine jr_1 jm_259 (show jw_cd cd_259 12 = some (.iconst (-1)) by decide +kernel) rfl ?_
        refine jr_1 jm_259 (show jw_cd cd_259 13 = some (.if_icmp .eq 63) by decide +kernel) (mb_f (q := .eq) (a := x) (b := -1) (by show ¬ (x = -1); omega) ⟨by omega, by omega⟩ ⟨by omega, by omega⟩ (by decide)) ?_
        refine jr_1 jm_259 (show jw_cd cd_259 16 = some (.aload_n 0) by decide +kernel) rfl ?_
        refine jr_1 jm_259 (show jw_cd cd_259 17 = some (.getfield 29) by decide +kernel) (mg_a hl (a := 22) (show jw_fld 34 29 16 = some 8 by decide +kernel) (by decide) (by decide)) ?_
        refine jr_1 jm_259 (show jw_cd cd_259 20 = some (.iload 4) by decide +kernel) rfl ?_
        refine jr_1 jm_259 (show jw_cd cd_259 22 = some (.iaload) by decide +kernel) (ma_i hl (i := x) (e := σ 8 (x)) 8 (by omega) (by show _ < ((1740 : Nat) : Int); omega) rfl (by decide) (by decide) (by decide)) ?_
        refine jr_1 jm_259 (F2 := (25, [some (.ref 15), some (.int (Int32.ofInt (l))), some (.int (Int32.ofInt (1))), some (.int (Int32.ofInt (fo))), some (.int (Int32.ofInt (x))), some (.int (Int32.ofInt (σ 8 (x))))], [], ml_mk h σ)) (show jw_cd cd_259 23 = some (.istore 5) by decide +kernel) rfl ?_
        refine jr_1 jm_259 (show jw_cd cd_259 25 = some (.iload_n 3) by decide +kernel) rfl ?_
        refine jr_1 jm_259 (show jw_cd cd_259 26 = some (.iconst (-1)) by decide +kernel) rfl ?_
        refine jr_1 jm_259 (show jw_cd cd_259 27 = some (.if_icmp .eq 30) by decide +kernel) (mb_f (q := .eq) (a := fo) (b := -1) (by show ¬ (fo = -1); omega) ⟨by omega, by omega⟩ ⟨by omega, by omega⟩ (by decide)) ?_
        refine jr_1 jm_259 (show jw_cd cd_259 30 = some (.iload_n 2) by decide +kernel) rfl ?_
        refine jr_1 jm_259 (show jw_cd cd_259 31 = some (.ifCond .eq 16) by decide +kernel) (mz_f (q := .eq) (a := 1) (by show ¬ (1 = 0); omega) ⟨by omega, by omega⟩ (by decide)) ?_
        refine jr_1 jm_259 (show jw_cd cd_259 34 = some (.aload_n 0) by decide +kernel) rfl ?_
        refine jr_1 jm_259 (show jw_cd cd_259 35 = some (.iload 5) by decide +kernel) rfl ?_
        refine jr_1 jm_259 (show jw_cd cd_259 37 = some (.iload_n 3) by decide +kernel) rfl ?_
        refine jr_c jm_259 (show jw_cd cd_259 38 = some (.invokevirtual 308) by decide +kernel) (mc_v hl (n := 2) (m2 := 258) (bs := [.int (Int32.ofInt (σ 8 (x))), .int (Int32.ofInt (fo))]) (r := []) (show jw_find jw_cvT 34 308 = some (2, [(16, 258)]) by decide +kernel) (by decide) rfl rfl rfl) jm_258 ⟨Nat.le_of_ble_eq_true rfl, by decide⟩ (by have e := jn_above (β := β) (d := d) hl hA hVx hVf m1x m2x m2f t1x t1f; rw [if_neg hab] at e; exact e) ?_
        refine jr_1 jm_259 (show jw_cd cd_259 41 = some (.ifCond .eq 21) by decide +kernel) (mz_t (q := .eq) (a := 0) (t := 62) (by show 0 = 0; omega) ⟨by omega, by omega⟩ (by decide) (by decide)) ?_
        refine jr_1 jm_259 (show jw_cd cd_259 62 = some (.iload_n 3) by decide +kernel) rfl ?_
        refine jr_1 jm_259 (F2 := (64, [some (.ref 15), some (.int (Int32.ofInt (l))), some (.int (Int32.ofInt (1))), some (.int (Int32.ofInt (fo))), some (.int (Int32.ofInt (x))), some (.int (Int32.ofInt (σ 8 (x))))], [], ml_mk h σ)) (show jw_cd cd_259 63 = some (.istore_n 3) by decide +kernel) rfl ?_
        refine jr_1 jm_259 (show jw_cd cd_259 64 = some (.aload_n 0) by decide +kernel) rfl ?_
        refine jr_1 jm_259 (show jw_cd cd_259 65 = some (.getfield 35) by decide +kernel) (mg_a hl (a := 24) (show jw_fld 34 35 16 = some 10 by decide +kernel) (by decide) (by decide)) ?_
        refine jr_1 jm_259 (show jw_cd cd_259 68 = some (.iload 4) by decide +kernel) rfl ?_
        refine jr_1 jm_259 (show jw_cd cd_259 70 = some (.iaload) by decide +kernel) (ma_i hl (i := x) (e := σ 10 (x)) 10 (by omega) (by show _ < ((1740 : Nat) : Int); omega) rfl (by decide) (by decide) (by decide)) ?_
        refine jr_1 jm_259 (F2 := (73, [some (.ref 15), some (.int (Int32.ofInt (l))), some (.int (Int32.ofInt (1))), some (.int (Int32.ofInt (fo))), some (.int (Int32.ofInt (σ 10 (x)))), some (.int (Int32.ofInt (σ 8 (x))))], [], ml_mk h σ)) (show jw_cd cd_259 71 = some (.istore 4) by decide +kernel) rfl ?_
        refine jr_1 jm_259 (show jw_cd cd_259 73 = some (.goto (-63)) by decide +kernel) (ju_go (t := 10) (by decide)) ?_
        exact r1
      · have e : fbest true x0 (.inner s0 i u0 c n) = fbest true x0 n := by
          show fbest true (if (bif true then abv i x0.1 else abv x0.1 i) = true then (i, c) else x0) n = _
          rw [if_neg (show ¬ (bif true then abv i x0.1 else abv x0.1 i) = true from hab)]
        rw [e]
        exact r2
theorem jn_best_0 {β : Bool} {d : Nat} {h : jx_H} {σ : mS} (hl : 49 ≤ h.length) {A B : Int → Prop} (hA : mIx A) (hB : mIx B) {l : Int} : ∀ (F : FT) (x fo : Int) (x0 : tI × FT) (c5 : Option Value), fok F → mF σ A B F x → mV σ A B fo x0.1 x0.2 → mr x0.1.1 → mr x0.1.2.1 → tx x0.1.2.2.1 → ∃ w, jx_r (jz β) jw_M (d + 1) 259 (10, [some (.ref 15), some (.int (Int32.ofInt (l))), some (.int (Int32.ofInt (0))), some (.int (Int32.ofInt (fo))), some (.int (Int32.ofInt (x))), c5], [], ml_mk h σ) (ml_mk h (σ), .inl (some (.int (Int32.ofInt (w))))) ∧ mV σ A B w (fbest false x0 F).1 (fbest false x0 F).2
  | .leaf, x, fo, x0, c5, _, hx, hf, _, _, _ => by
    have hx : x = -1 := hx
    subst hx
    refine ⟨fo, ?_, hf⟩
    refine jr_1 jm_259 (show jw_cd cd_259 10 = some (.iload 4) by decide +kernel) rfl ?_
    refine jr_1 jm_259 (show jw_cd cd_259 12 = some (.iconst (-1)) by decide +kernel) rfl ?_
    refine jr_1 jm_259 (show jw_cd cd_259 13 = some (.if_icmp .eq 63) by decide +kernel) (mb_t (q := .eq) (a := -1) (b := -1) (t := 76) (by show -1 = -1; omega) ⟨by omega, by omega⟩ ⟨by omega, by omega⟩ (by decide) (by decide)) ?_
    refine jr_1 jm_259 (show jw_cd cd_259 76 = some (.iload_n 3) by decide +kernel) rfl ?_
    exact jr_v jm_259 (show jw_cd cd_259 77 = some (.ireturn) by decide +kernel) rfl
  | .inner s0 i u0 c n, x, fo, x0, c5, ho, hx, hVf, m1f, m2f, t1f => by
    obtain ⟨b1, a1, hkey, hN, hc, hn⟩ := hx
    obtain ⟨t1x, t2x, m1x, m2x, o1, o2⟩ := ho
    have hVx : mV σ A B (σ 8 x) i c := ⟨a1, hN, hc⟩
    have bx := hB x b1
    have av := hA _ a1
    have af := hA _ hVf.1
    by_cases hab : abv x0.1 i = true
    · obtain ⟨w, r1, r2⟩ := jn_best_0 (β := β) (d := d) (l := l) hl hA hB n (σ 10 x) (σ 8 x) (i, c) (some (.int (Int32.ofInt (σ 8 (x))))) o2 hn hVx m1x m2x t1x
      refine ⟨w, ?_, ?_⟩
      · skip
        refine jr_1 jm_259 (show jw_cd cd_259 10 = some (.iload 4) by decide +kernel) rfl ?_
        refine jr_1 jm_259 (show jw_cd cd_259 12 = some (.iconst (-1)) by decide +kernel) rfl ?_
        refine jr_1 jm_259 (show jw_cd cd_259 13 = some (.if_icmp .eq 63) by decide +kernel) (mb_f (q := .eq) (a := x) (b := -1) (by show ¬ (x = -1); omega) ⟨by omega, by omega⟩ ⟨by omega, by omega⟩ (by decide)) ?_
        refine jr_1 jm_259 (show jw_cd cd_259 16 = some (.aload_n 0) by decide +kernel) rfl ?_
        refine jr_1 jm_259 (show jw_cd cd_259 17 = some (.getfield 29) by decide +kernel) (mg_a hl (a := 22) (show jw_fld 34 29 16 = some 8 by decide +kernel) (by decide) (by decide)) ?_
        refine jr_1 jm_259 (show jw_cd cd_259 20 = some (.iload 4) by decide +kernel) rfl ?_
        refine jr_1 jm_259 (show jw_cd cd_259 22 = some (.iaload) by decide +kernel) (ma_i hl (i := x) (e := σ 8 (x)) 8 (by omega) (by show _ < ((1740 : Nat) : Int); omega) rfl (by decide) (by decide) (by decide)) ?_
        refine jr_1 jm_259 (F2 := (25, [some (.ref 15), some (.int (Int32.ofInt (l))), some (.int (Int32.ofInt (0))), some (.int (Int32.ofInt (fo))), some (.int (Int32.ofInt (x))), some (.int (Int32.ofInt (σ 8 (x))))], [], ml_mk h σ)) (show jw_cd cd_259 23 = some (.istore 5) by decide +kernel) rfl ?_
        refine jr_1 jm_259 (show jw_cd cd_259 25 = some (.iload_n 3) by decide +kernel) rfl ?_
        refine jr_1 jm_259 (show jw_cd cd_259 26 = some (.iconst (-1)) by decide +kernel) rfl ?_
        refine jr_1 jm_259 (show jw_cd cd_259 27 = some (.if_icmp .eq 30) by decide +kernel) (mb_f (q := .eq) (a := fo) (b := -1) (by show ¬ (fo = -1); omega) ⟨by omega, by omega⟩ ⟨by omega, by omega⟩ (by decide)) ?_
        refine jr_1 jm_259 (show jw_cd cd_259 30 = some (.iload_n 2) by decide +kernel) rfl ?_
        refine jr_1 jm_259 (show jw_cd cd_259 31 = some (.ifCond .eq 16) by decide +kernel) (mz_t (q := .eq) (a := 0) (t := 47) (by show 0 = 0; omega) ⟨by omega, by omega⟩ (by decide) (by decide)) ?_
        refine jr_1 jm_259 (show jw_cd cd_259 47 = some (.aload_n 0) by decide +kernel) rfl ?_
        refine jr_1 jm_259 (show jw_cd cd_259 48 = some (.iload_n 3) by decide +kernel) rfl ?_
        refine jr_1 jm_259 (show jw_cd cd_259 49 = some (.iload 5) by decide +kernel) rfl ?_
        refine jr_c jm_259 (show jw_cd cd_259 51 = some (.invokevirtual 308) by decide +kernel) (mc_v hl (n := 2) (m2 := 258) (bs := [.int (Int32.ofInt (fo)), .int (Int32.ofInt (σ 8 (x)))]) (r := []) (show jw_find jw_cvT 34 308 = some (2, [(16, 258)]) by decide +kernel) (by decide) rfl rfl rfl) jm_258 ⟨Nat.le_of_ble_eq_true rfl, by decide⟩ (by have e := jn_above (β := β) (d := d) hl hA hVf hVx m1f m2f m2x t1f t1x; rw [if_pos hab] at e; exact e) ?_
        refine jr_1 jm_259 (show jw_cd cd_259 54 = some (.ifCond .eq 8) by decide +kernel) (mz_f (q := .eq) (a := 1) (by show ¬ (1 = 0); omega) ⟨by omega, by omega⟩ (by decide)) ?_
        refine jr_1 jm_259 (show jw_cd cd_259 57 = some (.iload 5) by decide +kernel) rfl ?_
        refine jr_1 jm_259 (show jw_cd cd_259 59 = some (.goto 4) by decide +kernel) (ju_go (t := 63) (by decide)) ?_
        refine jr_1 jm_259 (F2 := (64, [some (.ref 15), some (.int (Int32.ofInt (l))), some (.int (Int32.ofInt (0))), some (.int (Int32.ofInt (σ 8 (x)))), some (.int (Int32.ofInt (x))), some (.int (Int32.ofInt (σ 8 (x))))], [], ml_mk h σ)) (show jw_cd cd_259 63 = some (.istore_n 3) by decide +kernel) rfl ?_
        refine jr_1 jm_259 (show jw_cd cd_259 64 = some (.aload_n 0) by decide +kernel) rfl ?_
        refine jr_1 jm_259 (show jw_cd cd_259 65 = some (.getfield 35) by decide +kernel) (mg_a hl (a := 24) (show jw_fld 34 35 16 = some 10 by decide +kernel) (by decide) (by decide)) ?_
        refine jr_1 jm_259 (show jw_cd cd_259 68 = some (.iload 4) by decide +kernel) rfl ?_
        refine jr_1 jm_259 (show jw_cd cd_259 70 = some (.iaload) by decide +kernel) (ma_i hl (i := x) (e := σ 10 (x)) 10 (by omega) (by show _ < ((1740 : Nat) : Int); omega) rfl (by decide) (by decide) (by decide)) ?_
        refine jr_1 jm_259 (F2 := (73, [some (.ref 15), some (.int (Int32.ofInt (l))), some (.int (Int32.ofInt (0))), some (.int (Int32.ofInt (σ 8 (x)))), some (.int (Int32.ofInt (σ 10 (x)))), some (.int (Int32.ofInt (σ 8 (x))))], [], ml_mk h σ)) (show jw_cd cd_259 71 = some (.istore 4) by decide +kernel) rfl ?_
        refine jr_1 jm_259 (show jw_cd cd_259 73 = some (.goto (-63)) by decide +kernel) (ju_go (t := 10) (by decide)) ?_
        exact r1
      · have e : fbest false x0 (.inner s0 i u0 c n) = fbest false (i, c) n := by
          show fbest false (if (bif false then abv i x0.1 else abv x0.1 i) = true then (i, c) else x0) n = _
          rw [if_pos (show (bif false then abv i x0.1 else abv x0.1 i) = true from hab)]
        rw [e]
        exact r2
    · obtain ⟨w, r1, r2⟩ := jn_best_0 (β := β) (d := d) (l := l) hl hA hB n (σ 10 x) fo x0 (some (.int (Int32.ofInt (σ 8 (x))))) o2 hn hVf m1f m2f t1f
      refine ⟨w, ?_, ?_⟩
      · skip
        refine jr_1 jm_259 (show jw_cd cd_259 10 = some (.iload 4) by decide +kernel) rfl ?_
        refine jr_1 jm_259 (show jw_cd cd_259 12 = some (.iconst (-1)) by decide +kernel) rfl ?_
        refine jr_1 jm_259 (show jw_cd cd_259 13 = some (.if_icmp .eq 63) by decide +kernel) (mb_f (q := .eq) (a := x) (b := -1) (by show ¬ (x = -1); omega) ⟨by omega, by omega⟩ ⟨by omega, by omega⟩ (by decide)) ?_
        refine jr_1 jm_259 (show jw_cd cd_259 16 = some (.aload_n 0) by decide +kernel) rfl ?_
        refine jr_1 jm_259 (show jw_cd cd_259 17 = some (.getfield 29) by decide +kernel) (mg_a hl (a := 22) (show jw_fld 34 29 16 = some 8 by decide +kernel) (by decide) (by decide)) ?_
        refine jr_1 jm_259 (show jw_cd cd_259 20 = some (.iload 4) by decide +kernel) rfl ?_
        refine jr_1 jm_259 (show jw_cd cd_259 22 = some (.iaload) by decide +kernel) (ma_i hl (i := x) (e := σ 8 (x)) 8 (by omega) (by show _ < ((1740 : Nat) : Int); omega) rfl (by decide) (by decide) (by decide)) ?_
        refine jr_1 jm_259 (F2 := (25, [some (.ref 15), some (.int (Int32.ofInt (l))), some (.int (Int32.ofInt (0))), some (.int (Int32.ofInt (fo))), some (.int (Int32.ofInt (x))), some (.int (Int32.ofInt (σ 8 (x))))], [], ml_mk h σ)) (show jw_cd cd_259 23 = some (.istore 5) by decide +kernel) rfl ?_
        refine jr_1 jm_259 (show jw_cd cd_259 25 = some (.iload_n 3) by decide +kernel) rfl ?_
        refine jr_1 jm_259 (show jw_cd cd_259 26 = some (.iconst (-1)) by decide +kernel) rfl ?_
        refine jr_1 jm_259 (show jw_cd cd_259 27 = some (.if_icmp .eq 30) by decide +kernel) (mb_f (q := .eq) (a := fo) (b := -1) (by show ¬ (fo = -1); omega) ⟨by omega, by omega⟩ ⟨by omega, by omega⟩ (by decide)) ?_
        refine jr_1 jm_259 (show jw_cd cd_259 30 = some (.iload_n 2) by decide +kernel) rfl ?_
        refine jr_1 jm_259 (show jw_cd cd_259 31 = some (.ifCond .eq 16) by decide +kernel) (mz_t (q := .eq) (a := 0) (t := 47) (by show 0 = 0; omega) ⟨by omega, by omega⟩ (by decide) (by decide)) ?_
        refine jr_1 jm_259 (show jw_cd cd_259 47 = some (.aload_n 0) by decide +kernel) rfl ?_
        refine jr_1 jm_259 (show jw_cd cd_259 48 = some (.iload_n 3) by decide +kernel) rfl ?_
        refine jr_1 jm_259 (show jw_cd cd_259 49 = some (.iload 5) by decide +kernel) rfl ?_
        refine jr_c jm_259 (show jw_cd cd_259 51 = some (.invokevirtual 308) by decide +kernel) (mc_v hl (n := 2) (m2 := 258) (bs := [.int (Int32.ofInt (fo)), .int (Int32.ofInt (σ 8 (x)))]) (r := []) (show jw_find jw_cvT 34 308 = some (2, [(16, 258)]) by decide +kernel) (by decide) rfl rfl rfl) jm_258 ⟨Nat.le_of_ble_eq_true rfl, by decide⟩ (by have e := jn_above (β := β) (d := d) hl hA hVf hVx m1f m2f m2x t1f t1x; rw [if_neg hab] at e; exact e) ?_
        refine jr_1 jm_259 (show jw_cd cd_259 54 = some (.ifCond .eq 8) by decide +kernel) (mz_t (q := .eq) (a := 0) (t := 62) (by show 0 = 0; omega) ⟨by omega, by omega⟩ (by decide) (by decide)) ?_
        refine jr_1 jm_259 (show jw_cd cd_259 62 = some (.iload_n 3) by decide +kernel) rfl ?_
        refine jr_1 jm_259 (F2 := (64, [some (.ref 15), some (.int (Int32.ofInt (l))), some (.int (Int32.ofInt (0))), some (.int (Int32.ofInt (fo))), some (.int (Int32.ofInt (x))), some (.int (Int32.ofInt (σ 8 (x))))], [], ml_mk h σ)) (show jw_cd cd_259 63 = some (.istore_n 3) by decide +kernel) rfl ?_
        refine jr_1 jm_259 (show jw_cd cd_259 64 = some (.aload_n 0) by decide +kernel) rfl ?_
        refine jr_1 jm_259 (show jw_cd cd_259 65 = some (.getfield 35) by decide +kernel) (mg_a hl (a := 24) (show jw_fld 34 35 16 = some 10 by decide +kernel) (by decide) (by decide)) ?_
        refine jr_1 jm_259 (show jw_cd cd_259 68 = some (.iload 4) by decide +kernel) rfl ?_
        refine jr_1 jm_259 (show jw_cd cd_259 70 = some (.iaload) by decide +kernel) (ma_i hl (i := x) (e := σ 10 (x)) 10 (by omega) (by show _ < ((1740 : Nat) : Int); omega) rfl (by decide) (by decide) (by decide)) ?_
        refine jr_1 jm_259 (F2 := (73, [some (.ref 15), some (.int (Int32.ofInt (l))), some (.int (Int32.ofInt (0))), some (.int (Int32.ofInt (fo))), some (.int (Int32.ofInt (σ 10 (x)))), some (.int (Int32.ofInt (σ 8 (x))))], [], ml_mk h σ)) (show jw_cd cd_259 71 = some (.istore 4) by decide +kernel) rfl ?_
        refine jr_1 jm_259 (show jw_cd cd_259 73 = some (.goto (-63)) by decide +kernel) (ju_go (t := 10) (by decide)) ?_
        exact r1
      · have e : fbest false x0 (.inner s0 i u0 c n) = fbest false x0 n := by
          show fbest false (if (bif false then abv i x0.1 else abv x0.1 i) = true then (i, c) else x0) n = _
          rw [if_neg (show ¬ (bif false then abv i x0.1 else abv x0.1 i) = true from hab)]
        rw [e]
        exact r2
theorem jn_bestV_1 {β : Bool} {d : Nat} {h : jx_H} {σ : mS} (hl : 49 ≤ h.length) {A B : Int → Prop} (hA : mIx A) (hB : mIx B) {v : Int} {i0 : tI} {F : FT} (ho : fok F) (hV : mV σ A B v i0 F) : ∃ w, jx_r (jz β) jw_M (d + 1) 259 (0, [some (.ref 15), some (.int (Int32.ofInt (v))), some (.int (Int32.ofInt (1))), none, none, none], [], ml_mk h σ) (ml_mk h (σ), .inl (some (.int (Int32.ofInt (w))))) ∧ mO σ A B w (fbest0 true F) := by
  obtain ⟨a0, hN0, hF⟩ := hV
  have av0 := hA _ a0
  cases F with
  | leaf =>
    have hF : σ 6 v = -1 := hF
    refine ⟨-1, ?_, rfl⟩
    refine jr_1 jm_259 (show jw_cd cd_259 0 = some (.iconst (-1)) by decide +kernel) rfl ?_
    refine jr_1 jm_259 (F2 := (2, [some (.ref 15), some (.int (Int32.ofInt (v))), some (.int (Int32.ofInt (1))), some (.int (Int32.ofInt (-1))), none, none], [], ml_mk h σ)) (show jw_cd cd_259 1 = some (.istore_n 3) by decide +kernel) rfl ?_
    refine jr_1 jm_259 (show jw_cd cd_259 2 = some (.aload_n 0) by decide +kernel) rfl ?_
    refine jr_1 jm_259 (show jw_cd cd_259 3 = some (.getfield 23) by decide +kernel) (mg_a hl (a := 20) (show jw_fld 34 23 16 = some 6 by decide +kernel) (by decide) (by decide)) ?_
    refine jr_1 jm_259 (show jw_cd cd_259 6 = some (.iload_n 1) by decide +kernel) rfl ?_
    refine jr_1 jm_259 (show jw_cd cd_259 7 = some (.iaload) by decide +kernel) (ma_i hl (i := v) (e := σ 6 (v)) 6 (by omega) (by show _ < ((1740 : Nat) : Int); omega) rfl (by decide) (by decide) (by decide)) ?_
    refine jr_1 jm_259 (F2 := (10, [some (.ref 15), some (.int (Int32.ofInt (v))), some (.int (Int32.ofInt (1))), some (.int (Int32.ofInt (-1))), some (.int (Int32.ofInt (σ 6 (v)))), none], [], ml_mk h σ)) (show jw_cd cd_259 8 = some (.istore 4) by decide +kernel) rfl ?_
    rw [hF]
    refine jr_1 jm_259 (show jw_cd cd_259 10 = some (.iload 4) by decide +kernel) rfl ?_
    refine jr_1 jm_259 (show jw_cd cd_259 12 = some (.iconst (-1)) by decide +kernel) rfl ?_
    refine jr_1 jm_259 (show jw_cd cd_259 13 = some (.if_icmp .eq 63) by decide +kernel) (mb_t (q := .eq) (a := -1) (b := -1) (t := 76) (by show -1 = -1; omega) ⟨by omega, by omega⟩ ⟨by omega, by omega⟩ (by decide) (by decide)) ?_
    refine jr_1 jm_259 (show jw_cd cd_259 76 = some (.iload_n 3) by decide +kernel) rfl ?_
    exact jr_v jm_259 (show jw_cd cd_259 77 = some (.ireturn) by decide +kernel) rfl
  | inner s0 i u0 c n =>
    obtain ⟨b1, a1, hkey, hN, hc, hn⟩ := hF
    obtain ⟨t1x, t2x, m1x, m2x, o1, o2⟩ := ho
    have bx := hB _ b1
    have av := hA _ a1
    obtain ⟨w, r1, r2⟩ := jn_best_1 (β := β) (d := d) (l := v) hl hA hB n (σ 10 (σ 6 v)) (σ 8 (σ 6 v)) (i, c) (some (.int (Int32.ofInt (σ 8 (σ 6 (v)))))) o2 hn ⟨a1, hN, hc⟩ m1x m2x t1x
    refine ⟨w, ?_, r2⟩
    refine jr_1 jm_259 (show jw_cd cd_259 0 = some (.iconst (-1)) by decide +kernel) rfl ?_
    refine jr_1 jm_259 (F2 := (2, [some (.ref 15), some (.int (Int32.ofInt (v))), some (.int (Int32.ofInt (1))), some (.int (Int32.ofInt (-1))), none, none], [], ml_mk h σ)) (show jw_cd cd_259 1 = some (.istore_n 3) by decide +kernel) rfl ?_
    refine jr_1 jm_259 (show jw_cd cd_259 2 = some (.aload_n 0) by decide +kernel) rfl ?_
    refine jr_1 jm_259 (show jw_cd cd_259 3 = some (.getfield 23) by decide +kernel) (mg_a hl (a := 20) (show jw_fld 34 23 16 = some 6 by decide +kernel) (by decide) (by decide)) ?_
    refine jr_1 jm_259 (show jw_cd cd_259 6 = some (.iload_n 1) by decide +kernel) rfl ?_
    refine jr_1 jm_259 (show jw_cd cd_259 7 = some (.iaload) by decide +kernel) (ma_i hl (i := v) (e := σ 6 (v)) 6 (by omega) (by show _ < ((1740 : Nat) : Int); omega) rfl (by decide) (by decide) (by decide)) ?_
    refine jr_1 jm_259 (F2 := (10, [some (.ref 15), some (.int (Int32.ofInt (v))), some (.int (Int32.ofInt (1))), some (.int (Int32.ofInt (-1))), some (.int (Int32.ofInt (σ 6 (v)))), none], [], ml_mk h σ)) (show jw_cd cd_259 8 = some (.istore 4) by decide +kernel) rfl ?_
    refine jr_1 jm_259 (show jw_cd cd_259 10 = some (.iload 4) by decide +kernel) rfl ?_
    refine jr_1 jm_259 (show jw_cd cd_259 12 = some (.iconst (-1)) by decide +kernel) rfl ?_
    refine jr_1 jm_259 (show jw_cd cd_259 13 = some (.if_icmp .eq 63) by decide +kernel) (mb_f (q := .eq) (a := σ 6 (v)) (b := -1) (by show ¬ (σ 6 (v) = -1); omega) ⟨by omega, by omega⟩ ⟨by omega, by omega⟩ (by decide)) ?_
    refine jr_1 jm_259 (show jw_cd cd_259 16 = some (.aload_n 0) by decide +kernel) rfl ?_
    refine jr_1 jm_259 (show jw_cd cd_259 17 = some (.getfield 29) by decide +kernel) (mg_a hl (a := 22) (show jw_fld 34 29 16 = some 8 by decide +kernel) (by decide) (by decide)) ?_
    refine jr_1 jm_259 (show jw_cd cd_259 20 = some (.iload 4) by decide +kernel) rfl ?_
    refine jr_1 jm_259 (show jw_cd cd_259 22 = some (.iaload) by decide +kernel) (ma_i hl (i := σ 6 (v)) (e := σ 8 (σ 6 (v))) 8 (by omega) (by show _ < ((1740 : Nat) : Int); omega) rfl (by decide) (by decide) (by decide)) ?_
    refine jr_1 jm_259 (F2 := (25, [some (.ref 15), some (.int (Int32.ofInt (v))), some (.int (Int32.ofInt (1))), some (.int (Int32.ofInt (-1))), some (.int (Int32.ofInt (σ 6 (v)))), some (.int (Int32.ofInt (σ 8 (σ 6 (v)))))], [], ml_mk h σ)) (show jw_cd cd_259 23 = some (.istore 5) by decide +kernel) rfl ?_
    refine jr_1 jm_259 (show jw_cd cd_259 25 = some (.iload_n 3) by decide +kernel) rfl ?_
    refine jr_1 jm_259 (show jw_cd cd_259 26 = some (.iconst (-1)) by decide +kernel) rfl ?_
    refine jr_1 jm_259 (show jw_cd cd_259 27 = some (.if_icmp .eq 30) by decide +kernel) (mb_t (q := .eq) (a := -1) (b := -1) (t := 57) (by show -1 = -1; omega) ⟨by omega, by omega⟩ ⟨by omega, by omega⟩ (by decide) (by decide)) ?_
    refine jr_1 jm_259 (show jw_cd cd_259 57 = some (.iload 5) by decide +kernel) rfl ?_
    refine jr_1 jm_259 (show jw_cd cd_259 59 = some (.goto 4) by decide +kernel) (ju_go (t := 63) (by decide)) ?_
    refine jr_1 jm_259 (F2 := (64, [some (.ref 15), some (.int (Int32.ofInt (v))), some (.int (Int32.ofInt (1))), some (.int (Int32.ofInt (σ 8 (σ 6 (v))))), some (.int (Int32.ofInt (σ 6 (v)))), some (.int (Int32.ofInt (σ 8 (σ 6 (v)))))], [], ml_mk h σ)) (show jw_cd cd_259 63 = some (.istore_n 3) by decide +kernel) rfl ?_
    refine jr_1 jm_259 (show jw_cd cd_259 64 = some (.aload_n 0) by decide +kernel) rfl ?_
    refine jr_1 jm_259 (show jw_cd cd_259 65 = some (.getfield 35) by decide +kernel) (mg_a hl (a := 24) (show jw_fld 34 35 16 = some 10 by decide +kernel) (by decide) (by decide)) ?_
    refine jr_1 jm_259 (show jw_cd cd_259 68 = some (.iload 4) by decide +kernel) rfl ?_
    refine jr_1 jm_259 (show jw_cd cd_259 70 = some (.iaload) by decide +kernel) (ma_i hl (i := σ 6 (v)) (e := σ 10 (σ 6 (v))) 10 (by omega) (by show _ < ((1740 : Nat) : Int); omega) rfl (by decide) (by decide) (by decide)) ?_
    refine jr_1 jm_259 (F2 := (73, [some (.ref 15), some (.int (Int32.ofInt (v))), some (.int (Int32.ofInt (1))), some (.int (Int32.ofInt (σ 8 (σ 6 (v))))), some (.int (Int32.ofInt (σ 10 (σ 6 (v))))), some (.int (Int32.ofInt (σ 8 (σ 6 (v)))))], [], ml_mk h σ)) (show jw_cd cd_259 71 = some (.istore 4) by decide +kernel) rfl ?_
    refine jr_1 jm_259 (show jw_cd cd_259 73 = some (.goto (-63)) by decide +kernel) (ju_go (t := 10) (by decide)) ?_
    exact r1
theorem jn_bestV_0 {β : Bool} {d : Nat} {h : jx_H} {σ : mS} (hl : 49 ≤ h.length) {A B : Int → Prop} (hA : mIx A) (hB : mIx B) {v : Int} {i0 : tI} {F : FT} (ho : fok F) (hV : mV σ A B v i0 F) : ∃ w, jx_r (jz β) jw_M (d + 1) 259 (0, [some (.ref 15), some (.int (Int32.ofInt (v))), some (.int (Int32.ofInt (0))), none, none, none], [], ml_mk h σ) (ml_mk h (σ), .inl (some (.int (Int32.ofInt (w))))) ∧ mO σ A B w (fbest0 false F) := by
  obtain ⟨a0, hN0, hF⟩ := hV
  have av0 := hA _ a0
  cases F with
  | leaf =>
    have hF : σ 6 v = -1 := hF
    refine ⟨-1, ?_, rfl⟩
    refine jr_1 jm_259 (show jw_cd cd_259 0 = some (.iconst (-1)) by decide +kernel) rfl ?_
    refine jr_1 jm_259 (F2 := (2, [some (.ref 15), some (.int (Int32.ofInt (v))), some (.int (Int32.ofInt (0))), some (.int (Int32.ofInt (-1))), none, none], [], ml_mk h σ)) (show jw_cd cd_259 1 = some (.istore_n 3) by decide +kernel) rfl ?_
    refine jr_1 jm_259 (show jw_cd cd_259 2 = some (.aload_n 0) by decide +kernel) rfl ?_
    refine jr_1 jm_259 (show jw_cd cd_259 3 = some (.getfield 23) by decide +kernel) (mg_a hl (a := 20) (show jw_fld 34 23 16 = some 6 by decide +kernel) (by decide) (by decide)) ?_
    refine jr_1 jm_259 (show jw_cd cd_259 6 = some (.iload_n 1) by decide +kernel) rfl ?_
    refine jr_1 jm_259 (show jw_cd cd_259 7 = some (.iaload) by decide +kernel) (ma_i hl (i := v) (e := σ 6 (v)) 6 (by omega) (by show _ < ((1740 : Nat) : Int); omega) rfl (by decide) (by decide) (by decide)) ?_
    refine jr_1 jm_259 (F2 := (10, [some (.ref 15), some (.int (Int32.ofInt (v))), some (.int (Int32.ofInt (0))), some (.int (Int32.ofInt (-1))), some (.int (Int32.ofInt (σ 6 (v)))), none], [], ml_mk h σ)) (show jw_cd cd_259 8 = some (.istore 4) by decide +kernel) rfl ?_
    rw [hF]
    refine jr_1 jm_259 (show jw_cd cd_259 10 = some (.iload 4) by decide +kernel) rfl ?_
    refine jr_1 jm_259 (show jw_cd cd_259 12 = some (.iconst (-1)) by decide +kernel) rfl ?_
    refine jr_1 jm_259 (show jw_cd cd_259 13 = some (.if_icmp .eq 63) by decide +kernel) (mb_t (q := .eq) (a := -1) (b := -1) (t := 76) (by show -1 = -1; omega) ⟨by omega, by omega⟩ ⟨by omega, by omega⟩ (by decide) (by decide)) ?_
    refine jr_1 jm_259 (show jw_cd cd_259 76 = some (.iload_n 3) by decide +kernel) rfl ?_
    exact jr_v jm_259 (show jw_cd cd_259 77 = some (.ireturn) by decide +kernel) rfl
  | inner s0 i u0 c n =>
    obtain ⟨b1, a1, hkey, hN, hc, hn⟩ := hF
    obtain ⟨t1x, t2x, m1x, m2x, o1, o2⟩ := ho
    have bx := hB _ b1
    have av := hA _ a1
    obtain ⟨w, r1, r2⟩ := jn_best_0 (β := β) (d := d) (l := v) hl hA hB n (σ 10 (σ 6 v)) (σ 8 (σ 6 v)) (i, c) (some (.int (Int32.ofInt (σ 8 (σ 6 (v)))))) o2 hn ⟨a1, hN, hc⟩ m1x m2x t1x
    refine ⟨w, ?_, r2⟩
    refine jr_1 jm_259 (show jw_cd cd_259 0 = some (.iconst (-1)) by decide +kernel) rfl ?_
    refine jr_1 jm_259 (F2 := (2, [some (.ref 15), some (.int (Int32.ofInt (v))), some (.int (Int32.ofInt (0))), some (.int (Int32.ofInt (-1))), none, none], [], ml_mk h σ)) (show jw_cd cd_259 1 = some (.istore_n 3) by decide +kernel) rfl ?_
    refine jr_1 jm_259 (show jw_cd cd_259 2 = some (.aload_n 0) by decide +kernel) rfl ?_
    refine jr_1 jm_259 (show jw_cd cd_259 3 = some (.getfield 23) by decide +kernel) (mg_a hl (a := 20) (show jw_fld 34 23 16 = some 6 by decide +kernel) (by decide) (by decide)) ?_
    refine jr_1 jm_259 (show jw_cd cd_259 6 = some (.iload_n 1) by decide +kernel) rfl ?_
    refine jr_1 jm_259 (show jw_cd cd_259 7 = some (.iaload) by decide +kernel) (ma_i hl (i := v) (e := σ 6 (v)) 6 (by omega) (by show _ < ((1740 : Nat) : Int); omega) rfl (by decide) (by decide) (by decide)) ?_
    refine jr_1 jm_259 (F2 := (10, [some (.ref 15), some (.int (Int32.ofInt (v))), some (.int (Int32.ofInt (0))), some (.int (Int32.ofInt (-1))), some (.int (Int32.ofInt (σ 6 (v)))), none], [], ml_mk h σ)) (show jw_cd cd_259 8 = some (.istore 4) by decide +kernel) rfl ?_
    refine jr_1 jm_259 (show jw_cd cd_259 10 = some (.iload 4) by decide +kernel) rfl ?_
    refine jr_1 jm_259 (show jw_cd cd_259 12 = some (.iconst (-1)) by decide +kernel) rfl ?_
    refine jr_1 jm_259 (show jw_cd cd_259 13 = some (.if_icmp .eq 63) by decide +kernel) (mb_f (q := .eq) (a := σ 6 (v)) (b := -1) (by show ¬ (σ 6 (v) = -1); omega) ⟨by omega, by omega⟩ ⟨by omega, by omega⟩ (by decide)) ?_
    refine jr_1 jm_259 (show jw_cd cd_259 16 = some (.aload_n 0) by decide +kernel) rfl ?_
    refine jr_1 jm_259 (show jw_cd cd_259 17 = some (.getfield 29) by decide +kernel) (mg_a hl (a := 22) (show jw_fld 34 29 16 = some 8 by decide +kernel) (by decide) (by decide)) ?_
    refine jr_1 jm_259 (show jw_cd cd_259 20 = some (.iload 4) by decide +kernel) rfl ?_
    refine jr_1 jm_259 (show jw_cd cd_259 22 = some (.iaload) by decide +kernel) (ma_i hl (i := σ 6 (v)) (e := σ 8 (σ 6 (v))) 8 (by omega) (by show _ < ((1740 : Nat) : Int); omega) rfl (by decide) (by decide) (by decide)) ?_
    refine jr_1 jm_259 (F2 := (25, [some (.ref 15), some (.int (Int32.ofInt (v))), some (.int (Int32.ofInt (0))), some (.int (Int32.ofInt (-1))), some (.int (Int32.ofInt (σ 6 (v)))), some (.int (Int32.ofInt (σ 8 (σ 6 (v)))))], [], ml_mk h σ)) (show jw_cd cd_259 23 = some (.istore 5) by decide +kernel) rfl ?_
    refine jr_1 jm_259 (show jw_cd cd_259 25 = some (.iload_n 3) by decide +kernel) rfl ?_
    refine jr_1 jm_259 (show jw_cd cd_259 26 = some (.iconst (-1)) by decide +kernel) rfl ?_
    refine jr_1 jm_259 (show jw_cd cd_259 27 = some (.if_icmp .eq 30) by decide +kernel) (mb_t (q := .eq) (a := -1) (b := -1) (t := 57) (by show -1 = -1; omega) ⟨by omega, by omega⟩ ⟨by omega, by omega⟩ (by decide) (by decide)) ?_
    refine jr_1 jm_259 (show jw_cd cd_259 57 = some (.iload 5) by decide +kernel) rfl ?_
    refine jr_1 jm_259 (show jw_cd cd_259 59 = some (.goto 4) by decide +kernel) (ju_go (t := 63) (by decide)) ?_
    refine jr_1 jm_259 (F2 := (64, [some (.ref 15), some (.int (Int32.ofInt (v))), some (.int (Int32.ofInt (0))), some (.int (Int32.ofInt (σ 8 (σ 6 (v))))), some (.int (Int32.ofInt (σ 6 (v)))), some (.int (Int32.ofInt (σ 8 (σ 6 (v)))))], [], ml_mk h σ)) (show jw_cd cd_259 63 = some (.istore_n 3) by decide +kernel) rfl ?_
    refine jr_1 jm_259 (show jw_cd cd_259 64 = some (.aload_n 0) by decide +kernel) rfl ?_
    refine jr_1 jm_259 (show jw_cd cd_259 65 = some (.getfield 35) by decide +kernel) (mg_a hl (a := 24) (show jw_fld 34 35 16 = some 10 by decide +kernel) (by decide) (by decide)) ?_
    refine jr_1 jm_259 (show jw_cd cd_259 68 = some (.iload 4) by decide +kernel) rfl ?_
    refine jr_1 jm_259 (show jw_cd cd_259 70 = some (.iaload) by decide +kernel) (ma_i hl (i := σ 6 (v)) (e := σ 10 (σ 6 (v))) 10 (by omega) (by show _ < ((1740 : Nat) : Int); omega) rfl (by decide) (by decide) (by decide)) ?_
    refine jr_1 jm_259 (F2 := (73, [some (.ref 15), some (.int (Int32.ofInt (v))), some (.int (Int32.ofInt (0))), some (.int (Int32.ofInt (σ 8 (σ 6 (v))))), some (.int (Int32.ofInt (σ 10 (σ 6 (v))))), some (.int (Int32.ofInt (σ 8 (σ 6 (v)))))], [], ml_mk h σ)) (show jw_cd cd_259 71 = some (.istore 4) by decide +kernel) rfl ?_
    refine jr_1 jm_259 (show jw_cd cd_259 73 = some (.goto (-63)) by decide +kernel) (ju_go (t := 10) (by decide)) ?_
    exact r1
def ftot : Int → FT → Int
  | s, .leaf => s
  | s, .inner _ i _ _ n => ftot (s + i.2.1) n
def fnum : FT → Bool
  | .leaf => true
  | .inner _ i _ _ n => decide (i.1 = 3) && fnum n
theorem jn_tot_loop {β : Bool} {d : Nat} {h : jx_H} {σ : mS} (hl : 49 ≤ h.length) {A B : Int → Prop} (hA : mIx A) (hB : mIx B) {l : Int} : ∀ (F : FT) (x s : Int) (τ : mS), fok F → mF σ A B F x → mEq [42] σ τ → ∃ τ', (∀ res, jx_r (jz β) jw_M (d) 254 (58, [some (.ref 15), some (.int (Int32.ofInt (l))), some (.int (Int32.ofInt (ftot s F))), some (.int (Int32.ofInt (-1)))], [], ml_mk h τ') res → jx_r (jz β) jw_M (d) 254 (9, [some (.ref 15), some (.int (Int32.ofInt (l))), some (.int (Int32.ofInt (s))), some (.int (Int32.ofInt (x)))], [], ml_mk h τ) res) ∧ mEq [42] σ τ' ∧ τ' 42 0 = (if fnum F = true then τ 42 0 else 2)
  | .leaf, x, s, τ, _, hx, hq => by
    have hx : x = -1 := hx
    subst hx
    refine ⟨τ, fun res kk => ?_, hq, (if_pos rfl).symm⟩
    refine jr_1 jm_254 (show jw_cd cd_254 9 = some (.iload_n 3) by decide +kernel) rfl ?_
    refine jr_1 jm_254 (show jw_cd cd_254 10 = some (.iconst (-1)) by decide +kernel) rfl ?_
    refine jr_1 jm_254 (show jw_cd cd_254 11 = some (.if_icmp .eq 47) by decide +kernel) (mb_t (q := .eq) (a := -1) (b := -1) (t := 58) (by show -1 = -1; omega) ⟨by omega, by omega⟩ ⟨by omega, by omega⟩ (by decide) (by decide)) ?_
    exact kk
  | .inner s0 i u0 c n, x, s, τ, ho, hx, hq => by
    obtain ⟨b1, a1, hkey, ⟨n3, n4, n5, n7⟩, hc, hn⟩ := hx
    obtain ⟨t1x, t2x, m1x, m2x, o1, o2⟩ := ho
    obtain ⟨bx0, bx1⟩ := hB x b1
    obtain ⟨av0, av1⟩ := hA _ a1
    obtain ⟨m1, m2⟩ := m1x
    have p8 : τ 8 x = σ 8 x := congrFun (hq 8 (by decide)) x
    have p10 : τ 10 x = σ 10 x := congrFun (hq 10 (by decide)) x
    have p3 : τ 3 (σ 8 x) = i.1 := (congrFun (hq 3 (by decide)) _).trans n3
    have p4 : τ 4 (σ 8 x) = i.2.1 := (congrFun (hq 4 (by decide)) _).trans n4
    by_cases hk : i.1 = 3
    · obtain ⟨τ', r1, r2, r3⟩ := jn_tot_loop (β := β) (d := d) (l := l) hl hA hB n (σ 10 x) (s + i.2.1) τ o2 hn hq
      refine ⟨τ', fun res kk => ?_, r2, ?_⟩
      · skip
        refine jr_1 jm_254 (show jw_cd cd_254 9 = some (.iload_n 3) by decide +kernel) rfl ?_
        refine jr_1 jm_254 (show jw_cd cd_254 10 = some (.iconst (-1)) by decide +kernel) rfl ?_
        refine jr_1 jm_254 (show jw_cd cd_254 11 = some (.if_icmp .eq 47) by decide +kernel) (mb_f (q := .eq) (a := x) (b := -1) (by show ¬ (x = -1); omega) ⟨by omega, by omega⟩ ⟨by omega, by omega⟩ (by decide)) ?_
        refine jr_1 jm_254 (show jw_cd cd_254 14 = some (.aload_n 0) by decide +kernel) rfl ?_
        refine jr_1 jm_254 (show jw_cd cd_254 15 = some (.getfield 13) by decide +kernel) (mg_a hl (a := 17) (show jw_fld 34 13 16 = some 3 by decide +kernel) (by decide) (by decide)) ?_
        refine jr_1 jm_254 (show jw_cd cd_254 18 = some (.aload_n 0) by decide +kernel) rfl ?_
        refine jr_1 jm_254 (show jw_cd cd_254 19 = some (.getfield 29) by decide +kernel) (mg_a hl (a := 22) (show jw_fld 34 29 16 = some 8 by decide +kernel) (by decide) (by decide)) ?_
        refine jr_1 jm_254 (show jw_cd cd_254 22 = some (.iload_n 3) by decide +kernel) rfl ?_
        refine jr_1 jm_254 (show jw_cd cd_254 23 = some (.iaload) by decide +kernel) (ma_i hl (i := x) (e := σ 8 (x)) 8 (by omega) (by show _ < ((1740 : Nat) : Int); omega) p8 (by decide) (by decide) (by decide)) ?_
        refine jr_1 jm_254 (show jw_cd cd_254 24 = some (.iaload) by decide +kernel) (ma_i hl (i := σ 8 (x)) (e := i.1) 3 (by omega) (by show _ < ((1740 : Nat) : Int); omega) p3 (by decide) (by decide) (by decide)) ?_
        refine jr_1 jm_254 (show jw_cd cd_254 25 = some (.iconst 3) by decide +kernel) rfl ?_
        refine jr_1 jm_254 (show jw_cd cd_254 26 = some (.if_icmp .eq 8) by decide +kernel) (mb_t (q := .eq) (a := i.1) (b := 3) (t := 34) hk ⟨by omega, by omega⟩ ⟨by omega, by omega⟩ (by decide) (by decide)) ?_
        refine jr_1 jm_254 (show jw_cd cd_254 34 = some (.iload_n 2) by decide +kernel) rfl ?_
        refine jr_1 jm_254 (show jw_cd cd_254 35 = some (.aload_n 0) by decide +kernel) rfl ?_
        refine jr_1 jm_254 (show jw_cd cd_254 36 = some (.getfield 16) by decide +kernel) (mg_a hl (a := 18) (show jw_fld 34 16 16 = some 4 by decide +kernel) (by decide) (by decide)) ?_
        refine jr_1 jm_254 (show jw_cd cd_254 39 = some (.aload_n 0) by decide +kernel) rfl ?_
        refine jr_1 jm_254 (show jw_cd cd_254 40 = some (.getfield 29) by decide +kernel) (mg_a hl (a := 22) (show jw_fld 34 29 16 = some 8 by decide +kernel) (by decide) (by decide)) ?_
        refine jr_1 jm_254 (show jw_cd cd_254 43 = some (.iload_n 3) by decide +kernel) rfl ?_
        refine jr_1 jm_254 (show jw_cd cd_254 44 = some (.iaload) by decide +kernel) (ma_i hl (i := x) (e := σ 8 (x)) 8 (by omega) (by show _ < ((1740 : Nat) : Int); omega) p8 (by decide) (by decide) (by decide)) ?_
        refine jr_1 jm_254 (show jw_cd cd_254 45 = some (.iaload) by decide +kernel) (ma_i hl (i := σ 8 (x)) (e := i.2.1) 4 (by omega) (by show _ < ((1740 : Nat) : Int); omega) p4 (by decide) (by decide) (by decide)) ?_
        refine jr_1 jm_254 (show jw_cd cd_254 46 = some (.iadd) by decide +kernel) (mt_add (c := s + (i.2.1)) rfl) ?_
        refine jr_1 jm_254 (F2 := (48, [some (.ref 15), some (.int (Int32.ofInt (l))), some (.int (Int32.ofInt (s + (i.2.1)))), some (.int (Int32.ofInt (x)))], [], ml_mk h τ)) (show jw_cd cd_254 47 = some (.istore_n 2) by decide +kernel) rfl ?_
        refine jr_1 jm_254 (show jw_cd cd_254 48 = some (.aload_n 0) by decide +kernel) rfl ?_
        refine jr_1 jm_254 (show jw_cd cd_254 49 = some (.getfield 35) by decide +kernel) (mg_a hl (a := 24) (show jw_fld 34 35 16 = some 10 by decide +kernel) (by decide) (by decide)) ?_
        refine jr_1 jm_254 (show jw_cd cd_254 52 = some (.iload_n 3) by decide +kernel) rfl ?_
        refine jr_1 jm_254 (show jw_cd cd_254 53 = some (.iaload) by decide +kernel) (ma_i hl (i := x) (e := σ 10 x) 10 (by omega) (by show _ < ((1740 : Nat) : Int); omega) p10 (by decide) (by decide) (by decide)) ?_
        refine jr_1 jm_254 (F2 := (55, [some (.ref 15), some (.int (Int32.ofInt (l))), some (.int (Int32.ofInt (s + (i.2.1)))), some (.int (Int32.ofInt (σ 10 x)))], [], ml_mk h τ)) (show jw_cd cd_254 54 = some (.istore_n 3) by decide +kernel) rfl ?_
        refine jr_1 jm_254 (show jw_cd cd_254 55 = some (.goto (-46)) by decide +kernel) (ju_go (t := 9) (by decide)) ?_
        exact r1 res kk
      · rw [r3]
        show _ = if (decide (i.1 = 3) && fnum n) = true then _ else _
        rw [decide_eq_true hk]
        rfl
    · obtain ⟨τ', r1, r2, r3⟩ := jn_tot_loop (β := β) (d := d) (l := l) hl hA hB n (σ 10 x) (s + i.2.1) (su τ 42 (0) (2)) o2 hn (mEq_su hq (by decide))
      refine ⟨τ', fun res kk => ?_, r2, ?_⟩
      · skip
        refine jr_1 jm_254 (show jw_cd cd_254 9 = some (.iload_n 3) by decide +kernel) rfl ?_
        refine jr_1 jm_254 (show jw_cd cd_254 10 = some (.iconst (-1)) by decide +kernel) rfl ?_
        refine jr_1 jm_254 (show jw_cd cd_254 11 = some (.if_icmp .eq 47) by decide +kernel) (mb_f (q := .eq) (a := x) (b := -1) (by show ¬ (x = -1); omega) ⟨by omega, by omega⟩ ⟨by omega, by omega⟩ (by decide)) ?_
        refine jr_1 jm_254 (show jw_cd cd_254 14 = some (.aload_n 0) by decide +kernel) rfl ?_
        refine jr_1 jm_254 (show jw_cd cd_254 15 = some (.getfield 13) by decide +kernel) (mg_a hl (a := 17) (show jw_fld 34 13 16 = some 3 by decide +kernel) (by decide) (by decide)) ?_
        refine jr_1 jm_254 (show jw_cd cd_254 18 = some (.aload_n 0) by decide +kernel) rfl ?_
        refine jr_1 jm_254 (show jw_cd cd_254 19 = some (.getfield 29) by decide +kernel) (mg_a hl (a := 22) (show jw_fld 34 29 16 = some 8 by decide +kernel) (by decide) (by decide)) ?_
        refine jr_1 jm_254 (show jw_cd cd_254 22 = some (.iload_n 3) by decide +kernel) rfl ?_
        refine jr_1 jm_254 (show jw_cd cd_254 23 = some (.iaload) by decide +kernel) (ma_i hl (i := x) (e := σ 8 (x)) 8 (by omega) (by show _ < ((1740 : Nat) : Int); omega) p8 (by decide) (by decide) (by decide)) ?_
        refine jr_1 jm_254 (show jw_cd cd_254 24 = some (.iaload) by decide +kernel) (ma_i hl (i := σ 8 (x)) (e := i.1) 3 (by omega) (by show _ < ((1740 : Nat) : Int); omega) p3 (by decide) (by decide) (by decide)) ?_
        refine jr_1 jm_254 (show jw_cd cd_254 25 = some (.iconst 3) by decide +kernel) rfl ?_
        refine jr_1 jm_254 (show jw_cd cd_254 26 = some (.if_icmp .eq 8) by decide +kernel) (mb_f (q := .eq) (a := i.1) (b := 3) hk ⟨by omega, by omega⟩ ⟨by omega, by omega⟩ (by decide)) ?_
        refine jr_1 jm_254 (show jw_cd cd_254 29 = some (.aload_n 0) by decide +kernel) rfl ?_
        refine jr_1 jm_254 (show jw_cd cd_254 30 = some (.iconst 2) by decide +kernel) rfl ?_
        refine jr_1 jm_254 (show jw_cd cd_254 31 = some (.putfield 317) by decide +kernel) (mp_i hl (x := 2) (show jw_fld 34 317 16 = some 42 by decide +kernel) (by decide) (by decide) (show jw_ft 16 42 = some .int by decide +kernel) (show jw_fm 34 16 42 = some false by decide +kernel)) ?_
        refine jr_1 jm_254 (show jw_cd cd_254 34 = some (.iload_n 2) by decide +kernel) rfl ?_
        refine jr_1 jm_254 (show jw_cd cd_254 35 = some (.aload_n 0) by decide +kernel) rfl ?_
        refine jr_1 jm_254 (show jw_cd cd_254 36 = some (.getfield 16) by decide +kernel) (mg_a hl (a := 18) (show jw_fld 34 16 16 = some 4 by decide +kernel) (by decide) (by decide)) ?_
        refine jr_1 jm_254 (show jw_cd cd_254 39 = some (.aload_n 0) by decide +kernel) rfl ?_
        refine jr_1 jm_254 (show jw_cd cd_254 40 = some (.getfield 29) by decide +kernel) (mg_a hl (a := 22) (show jw_fld 34 29 16 = some 8 by decide +kernel) (by decide) (by decide)) ?_
        refine jr_1 jm_254 (show jw_cd cd_254 43 = some (.iload_n 3) by decide +kernel) rfl ?_
        refine jr_1 jm_254 (show jw_cd cd_254 44 = some (.iaload) by decide +kernel) (ma_i hl (i := x) (e := σ 8 (x)) 8 (by omega) (by show _ < ((1740 : Nat) : Int); omega) ((su_nf (by decide)).trans p8) (by decide) (by decide) (by decide)) ?_
        refine jr_1 jm_254 (show jw_cd cd_254 45 = some (.iaload) by decide +kernel) (ma_i hl (i := σ 8 (x)) (e := i.2.1) 4 (by omega) (by show _ < ((1740 : Nat) : Int); omega) ((su_nf (by decide)).trans p4) (by decide) (by decide) (by decide)) ?_
        refine jr_1 jm_254 (show jw_cd cd_254 46 = some (.iadd) by decide +kernel) (mt_add (c := s + (i.2.1)) rfl) ?_
        refine jr_1 jm_254 (F2 := (48, [some (.ref 15), some (.int (Int32.ofInt (l))), some (.int (Int32.ofInt (s + (i.2.1)))), some (.int (Int32.ofInt (x)))], [], ml_mk h (su τ 42 (0) (2)))) (show jw_cd cd_254 47 = some (.istore_n 2) by decide +kernel) rfl ?_
        refine jr_1 jm_254 (show jw_cd cd_254 48 = some (.aload_n 0) by decide +kernel) rfl ?_
        refine jr_1 jm_254 (show jw_cd cd_254 49 = some (.getfield 35) by decide +kernel) (mg_a hl (a := 24) (show jw_fld 34 35 16 = some 10 by decide +kernel) (by decide) (by decide)) ?_
        refine jr_1 jm_254 (show jw_cd cd_254 52 = some (.iload_n 3) by decide +kernel) rfl ?_
        refine jr_1 jm_254 (show jw_cd cd_254 53 = some (.iaload) by decide +kernel) (ma_i hl (i := x) (e := σ 10 x) 10 (by omega) (by show _ < ((1740 : Nat) : Int); omega) ((su_nf (by decide)).trans p10) (by decide) (by decide) (by decide)) ?_
        refine jr_1 jm_254 (F2 := (55, [some (.ref 15), some (.int (Int32.ofInt (l))), some (.int (Int32.ofInt (s + (i.2.1)))), some (.int (Int32.ofInt (σ 10 x)))], [], ml_mk h (su τ 42 (0) (2)))) (show jw_cd cd_254 54 = some (.istore_n 3) by decide +kernel) rfl ?_
        refine jr_1 jm_254 (show jw_cd cd_254 55 = some (.goto (-46)) by decide +kernel) (ju_go (t := 9) (by decide)) ?_
        exact r1 res kk
      · rw [r3, su_eq]
        show _ = if (decide (i.1 = 3) && fnum n) = true then _ else _
        rw [decide_eq_false hk]
        split <;> rfl
theorem jn_total {β : Bool} {d : Nat} {h : jx_H} {σ : mS} (hl : 49 ≤ h.length) {A B : Int → Prop} (hA : mIx A) (hB : mIx B) {v nn : Int} {i0 : tI} {F : FT} (ho : fok F) (hV : mV σ A B v i0 F) (e11 : σ 11 4 = nn) (hn0 : 0 ≤ nn) (hn1 : 170 * 4 + nn < 1740) : ∃ τ', jx_r (jz β) jw_M (d + 1) 254 (0, [some (.ref 15), some (.int (Int32.ofInt (v))), none, none], [], ml_mk h σ) (ml_mk h (mNode τ' 4 3 (ftot 0 F) 0), .inl (some (.int (Int32.ofInt (170 * 4 + nn))))) ∧ mEq [42] σ τ' ∧ τ' 42 0 = (if fnum F = true then σ 42 0 else 2) := by
  obtain ⟨a0, hN0, hF⟩ := hV
  obtain ⟨av0, av1⟩ := hA _ a0
  obtain ⟨τ', r1, r2, r3⟩ := jn_tot_loop (β := β) (d := d + 1) (l := v) hl hA hB F (σ 6 v) 0 σ ho hF (mEq_refl _ _)
  refine ⟨τ', ?_, r2, r3⟩
  refine jr_1 jm_254 (show jw_cd cd_254 0 = some (.iconst 0) by decide +kernel) rfl ?_
  refine jr_1 jm_254 (F2 := (2, [some (.ref 15), some (.int (Int32.ofInt (v))), some (.int (Int32.ofInt (0))), none], [], ml_mk h σ)) (show jw_cd cd_254 1 = some (.istore_n 2) by decide +kernel) rfl ?_
  refine jr_1 jm_254 (show jw_cd cd_254 2 = some (.aload_n 0) by decide +kernel) rfl ?_
  refine jr_1 jm_254 (show jw_cd cd_254 3 = some (.getfield 23) by decide +kernel) (mg_a hl (a := 20) (show jw_fld 34 23 16 = some 6 by decide +kernel) (by decide) (by decide)) ?_
  refine jr_1 jm_254 (show jw_cd cd_254 6 = some (.iload_n 1) by decide +kernel) rfl ?_
  refine jr_1 jm_254 (show jw_cd cd_254 7 = some (.iaload) by decide +kernel) (ma_i hl (i := v) (e := σ 6 (v)) 6 (by omega) (by show _ < ((1740 : Nat) : Int); omega) rfl (by decide) (by decide) (by decide)) ?_
  refine jr_1 jm_254 (F2 := (9, [some (.ref 15), some (.int (Int32.ofInt (v))), some (.int (Int32.ofInt (0))), some (.int (Int32.ofInt (σ 6 (v))))], [], ml_mk h σ)) (show jw_cd cd_254 8 = some (.istore_n 3) by decide +kernel) rfl ?_
  refine r1 _ ?_
  refine jr_1 jm_254 (show jw_cd cd_254 58 = some (.aload_n 0) by decide +kernel) rfl ?_
  refine jr_1 jm_254 (show jw_cd cd_254 59 = some (.iconst 4) by decide +kernel) rfl ?_
  refine jr_1 jm_254 (show jw_cd cd_254 60 = some (.iconst 3) by decide +kernel) rfl ?_
  refine jr_1 jm_254 (show jw_cd cd_254 61 = some (.iload_n 2) by decide +kernel) rfl ?_
  refine jr_1 jm_254 (F2 := (63, [some (.ref 15), some (.int (Int32.ofInt (v))), some (.int (Int32.ofInt (ftot 0 F))), some (.int (Int32.ofInt (-1)))], [.long (Int64.ofInt (0)), .int (Int32.ofInt (ftot 0 F)), .int (Int32.ofInt (3)), .int (Int32.ofInt (4)), .ref 15], ml_mk h τ')) (show jw_cd cd_254 62 = some (.lconst 0) by decide +kernel) rfl ?_
  refine jr_c jm_254 (show jw_cd cd_254 63 = some (.invokevirtual 110) by decide +kernel) (mc_v hl (n := 4) (m2 := 208) (bs := [.int (Int32.ofInt (4)), .int (Int32.ofInt (3)), .int (Int32.ofInt (ftot 0 F)), .long (Int64.ofInt (0))]) (r := []) (show jw_find jw_cvT 34 110 = some (4, [(16, 208)]) by decide +kernel) (by decide) rfl rfl rfl) jm_208 ⟨Nat.le_of_ble_eq_true rfl, by decide⟩ (jn_nodeM hl ⟨by decide, by decide⟩ (m := nn) ((congrFun (r2 11 (by decide)) 4).trans e11) hn0 hn1) ?_
  exact jr_v jm_254 (show jw_cd cd_254 66 = some (.ireturn) by decide +kernel) rfl
