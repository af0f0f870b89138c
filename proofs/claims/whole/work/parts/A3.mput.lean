/-! ===== the model's put (printed by program: gen29.py) ===== -/
theorem jn_put_f {β : Bool} {d : Nat} {h : jx_H} {σ : mS} (hl : 49 ≤ h.length) {A B D : Int → Prop} (hD : mIx D) {dp wh w : Int} {s : List Int} (hs : tx s) (hd : 0 ≤ dp ∧ dp < 5) (e35 : σ 35 dp = pk s) : ∀ (F : FT) (x : Int), fok F → mFo σ A B D F x → (fget s F).isSome = true → ∃ y, jx_r (jz β) jw_M (d + 1) 228 (26, [some (.ref 15), some (.int (Int32.ofInt (dp))), some (.int (Int32.ofInt (wh))), some (.int (Int32.ofInt (w))), some (.int (Int32.ofInt (x)))], [], ml_mk h σ) (ml_mk h (su σ 8 y wh), .inl none) ∧ atk σ s F x y
  | .leaf, _, _, _, h => by cases h
  | .inner s0 i u0 c n, x, ho, hx, hg => by
    obtain ⟨b1, a1, hkey, hN, hc, hn⟩ := hx
    obtain ⟨t1, t2, -, -, o1, o2⟩ := ho
    obtain ⟨bx0, bx1⟩ := hD x b1
    by_cases hp : pk i.2.2.2 = pk s
    · have hq := (pk_inj t2 hs).mp hp
      refine ⟨x, ?_, Or.inl ⟨hq, rfl⟩⟩
      refine jr_1 jm_228 (show jw_cd cd_228 26 = some (.iload 4) by decide +kernel) rfl ?_
      refine jr_1 jm_228 (show jw_cd cd_228 28 = some (.iconst (-1)) by decide +kernel) rfl ?_
      refine jr_1 jm_228 (show jw_cd cd_228 29 = some (.if_icmp .eq 41) by decide +kernel) (mb_f (q := .eq) (a := x) (b := -1) (by show ¬ (x = -1); omega) ⟨by omega, by omega⟩ ⟨by omega, by omega⟩ (by decide)) ?_
      refine jr_1 jm_228 (show jw_cd cd_228 32 = some (.aload_n 0) by decide +kernel) rfl ?_
      refine jr_1 jm_228 (show jw_cd cd_228 33 = some (.getfield 32) by decide +kernel) (mg_a hl (a := 23) (show jw_fld 34 32 16 = some 9 by decide +kernel) (by decide) (by decide)) ?_
      refine jr_1 jm_228 (show jw_cd cd_228 36 = some (.iload 4) by decide +kernel) rfl ?_
      refine jr_1 jm_228 (show jw_cd cd_228 38 = some (.laload) by decide +kernel) (ma_j hl (i := x) (e := pk i.2.2.2) 9 (by omega) (by show _ < ((1740 : Nat) : Int); omega) hkey (by decide) (by decide) (by decide)) ?_
      refine jr_1 jm_228 (show jw_cd cd_228 39 = some (.aload_n 0) by decide +kernel) rfl ?_
      refine jr_1 jm_228 (show jw_cd cd_228 40 = some (.getfield 86) by decide +kernel) (mg_a hl (a := 41) (show jw_fld 34 86 16 = some 35 by decide +kernel) (by decide) (by decide)) ?_
      refine jr_1 jm_228 (show jw_cd cd_228 43 = some (.iload_n 1) by decide +kernel) rfl ?_
      refine jr_1 jm_228 (show jw_cd cd_228 44 = some (.laload) by decide +kernel) (ma_j hl (i := dp) (e := pk s) 35 (by omega) (by show _ < ((5 : Nat) : Int); omega) e35 (by decide) (by decide) (by decide)) ?_
      refine jr_1 jm_228 (show jw_cd cd_228 45 = some (.lcmp) by decide +kernel) (mt_cmp (r := 0) ⟨by have := (pk_b t2).1; omega, by have := (pk_b t2).2; omega⟩ ⟨by have := (pk_b hs).1; omega, by have := (pk_b hs).2; omega⟩ (by rw [if_neg (by omega), if_pos hp])) ?_
      refine jr_1 jm_228 (show jw_cd cd_228 46 = some (.ifCond .ne 12) by decide +kernel) (mz_f (q := .ne) (a := 0) (by show ¬ (¬ (0 = 0)); omega) ⟨by omega, by omega⟩ (by decide)) ?_
      refine jr_1 jm_228 (show jw_cd cd_228 49 = some (.aload_n 0) by decide +kernel) rfl ?_
      refine jr_1 jm_228 (show jw_cd cd_228 50 = some (.getfield 29) by decide +kernel) (mg_a hl (a := 22) (show jw_fld 34 29 16 = some 8 by decide +kernel) (by decide) (by decide)) ?_
      refine jr_1 jm_228 (show jw_cd cd_228 53 = some (.iload 4) by decide +kernel) rfl ?_
      refine jr_1 jm_228 (show jw_cd cd_228 55 = some (.iload_n 2) by decide +kernel) rfl ?_
      refine jr_1 jm_228 (show jw_cd cd_228 56 = some (.iastore) by decide +kernel) (ms_i hl (i := x) (x := wh) 8 (by omega) (by show _ < ((1740 : Nat) : Int); omega) (by decide) (by decide) (by decide)) ?_
      exact jr_v jm_228 (show jw_cd cd_228 57 = some (.return_) by decide +kernel) rfl
    have hq : ¬ i.2.2.2 = s := fun e => hp (by rw [e])
    obtain ⟨y, r1, r2⟩ := jn_put_f (β := β) (d := d) (wh := wh) (w := w) hl hD hs hd e35 n (σ 10 x) o2 hn (by
      have hg : (if i.2.2.2 = s then some (i, c) else fget s n).isSome = true := hg
      rw [if_neg hq] at hg
      exact hg)
    refine ⟨y, ?_, Or.inr ⟨hq, r2⟩⟩
    have hne0 : ¬ (if pk i.2.2.2 < pk s then (-1 : Int) else if pk i.2.2.2 = pk s then 0 else 1) = 0 ∧ (if pk i.2.2.2 < pk s then (-1 : Int) else if pk i.2.2.2 = pk s then 0 else 1) ≤ 1 ∧ -1 ≤ (if pk i.2.2.2 < pk s then (-1 : Int) else if pk i.2.2.2 = pk s then 0 else 1) := by
      rw [if_neg hp]
      split <;> omega
    refine jr_1 jm_228 (show jw_cd cd_228 26 = some (.iload 4) by decide +kernel) rfl ?_
    refine jr_1 jm_228 (show jw_cd cd_228 28 = some (.iconst (-1)) by decide +kernel) rfl ?_
    refine jr_1 jm_228 (show jw_cd cd_228 29 = some (.if_icmp .eq 41) by decide +kernel) (mb_f (q := .eq) (a := x) (b := -1) (by show ¬ (x = -1); omega) ⟨by omega, by omega⟩ ⟨by omega, by omega⟩ (by decide)) ?_
    refine jr_1 jm_228 (show jw_cd cd_228 32 = some (.aload_n 0) by decide +kernel) rfl ?_
    refine jr_1 jm_228 (show jw_cd cd_228 33 = some (.getfield 32) by decide +kernel) (mg_a hl (a := 23) (show jw_fld 34 32 16 = some 9 by decide +kernel) (by decide) (by decide)) ?_
    refine jr_1 jm_228 (show jw_cd cd_228 36 = some (.iload 4) by decide +kernel) rfl ?_
    refine jr_1 jm_228 (show jw_cd cd_228 38 = some (.laload) by decide +kernel) (ma_j hl (i := x) (e := pk i.2.2.2) 9 (by omega) (by show _ < ((1740 : Nat) : Int); omega) hkey (by decide) (by decide) (by decide)) ?_
    refine jr_1 jm_228 (show jw_cd cd_228 39 = some (.aload_n 0) by decide +kernel) rfl ?_
    refine jr_1 jm_228 (show jw_cd cd_228 40 = some (.getfield 86) by decide +kernel) (mg_a hl (a := 41) (show jw_fld 34 86 16 = some 35 by decide +kernel) (by decide) (by decide)) ?_
    refine jr_1 jm_228 (show jw_cd cd_228 43 = some (.iload_n 1) by decide +kernel) rfl ?_
    refine jr_1 jm_228 (show jw_cd cd_228 44 = some (.laload) by decide +kernel) (ma_j hl (i := dp) (e := pk s) 35 (by omega) (by show _ < ((5 : Nat) : Int); omega) e35 (by decide) (by decide) (by decide)) ?_
    refine jr_1 jm_228 (show jw_cd cd_228 45 = some (.lcmp) by decide +kernel) (mt_cmp (r := (if pk i.2.2.2 < pk s then -1 else if pk i.2.2.2 = pk s then 0 else 1)) ⟨by have := (pk_b t2).1; omega, by have := (pk_b t2).2; omega⟩ ⟨by have := (pk_b hs).1; omega, by have := (pk_b hs).2; omega⟩ rfl) ?_
    refine jr_1 jm_228 (show jw_cd cd_228 46 = some (.ifCond .ne 12) by decide +kernel) (mz_t (q := .ne) (a := (if pk i.2.2.2 < pk s then -1 else if pk i.2.2.2 = pk s then 0 else 1)) (t := 58) hne0.1 ⟨by have := hne0.2.2; omega, by have := hne0.2.1; omega⟩ (by decide) (by decide)) ?_
    refine jr_1 jm_228 (show jw_cd cd_228 58 = some (.aload_n 0) by decide +kernel) rfl ?_
    refine jr_1 jm_228 (show jw_cd cd_228 59 = some (.getfield 35) by decide +kernel) (mg_a hl (a := 24) (show jw_fld 34 35 16 = some 10 by decide +kernel) (by decide) (by decide)) ?_
    refine jr_1 jm_228 (show jw_cd cd_228 62 = some (.iload 4) by decide +kernel) rfl ?_
    refine jr_1 jm_228 (show jw_cd cd_228 64 = some (.iaload) by decide +kernel) (ma_i hl (i := x) (e := σ 10 (x)) 10 (by omega) (by show _ < ((1740 : Nat) : Int); omega) rfl (by decide) (by decide) (by decide)) ?_
    refine jr_1 jm_228 (F2 := (67, [some (.ref 15), some (.int (Int32.ofInt (dp))), some (.int (Int32.ofInt (wh))), some (.int (Int32.ofInt (w))), some (.int (Int32.ofInt (σ 10 (x))))], [], ml_mk h σ)) (show jw_cd cd_228 65 = some (.istore 4) by decide +kernel) rfl ?_
    refine jr_1 jm_228 (show jw_cd cd_228 67 = some (.goto (-41)) by decide +kernel) (ju_go (t := 26) (by decide)) ?_
    exact r1
theorem jn_put_n {β : Bool} {d : Nat} {h : jx_H} {σ : mS} (hl : 49 ≤ h.length) {A B D : Int → Prop} (hD : mIx D) {dp wh w : Int} {s : List Int} (hs : tx s) (hd : 0 ≤ dp ∧ dp < 5) (e35 : σ 35 dp = pk s) : ∀ (F : FT) (x : Int), fok F → mFo σ A B D F x → fget s F = none → ∀ res, jx_r (jz β) jw_M (d + 1) 228 (70, [some (.ref 15), some (.int (Int32.ofInt (dp))), some (.int (Int32.ofInt (wh))), some (.int (Int32.ofInt (w))), some (.int (Int32.ofInt (-1)))], [], ml_mk h σ) res → jx_r (jz β) jw_M (d + 1) 228 (26, [some (.ref 15), some (.int (Int32.ofInt (dp))), some (.int (Int32.ofInt (wh))), some (.int (Int32.ofInt (w))), some (.int (Int32.ofInt (x)))], [], ml_mk h σ) res
  | .leaf, x, _, hx, _, res, kk => by
    have hx : x = -1 := hx
    subst hx
    refine jr_1 jm_228 (show jw_cd cd_228 26 = some (.iload 4) by decide +kernel) rfl ?_
    refine jr_1 jm_228 (show jw_cd cd_228 28 = some (.iconst (-1)) by decide +kernel) rfl ?_
    refine jr_1 jm_228 (show jw_cd cd_228 29 = some (.if_icmp .eq 41) by decide +kernel) (mb_t (q := .eq) (a := -1) (b := -1) (t := 70) (by show -1 = -1; omega) ⟨by omega, by omega⟩ ⟨by omega, by omega⟩ (by decide) (by decide)) ?_
    exact kk
  | .inner s0 i u0 c n, x, ho, hx, hg, res, kk => by
    obtain ⟨b1, a1, hkey, hN, hc, hn⟩ := hx
    obtain ⟨t1, t2, -, -, o1, o2⟩ := ho
    obtain ⟨bx0, bx1⟩ := hD x b1
    have hg : (if i.2.2.2 = s then some (i, c) else fget s n) = none := hg
    by_cases hp : pk i.2.2.2 = pk s
    · rw [if_pos ((pk_inj t2 hs).mp hp)] at hg
      cases hg
    have hq : ¬ i.2.2.2 = s := fun e => hp (by rw [e])
    rw [if_neg hq] at hg
    have hne0 : ¬ (if pk i.2.2.2 < pk s then (-1 : Int) else if pk i.2.2.2 = pk s then 0 else 1) = 0 ∧ (if pk i.2.2.2 < pk s then (-1 : Int) else if pk i.2.2.2 = pk s then 0 else 1) ≤ 1 ∧ -1 ≤ (if pk i.2.2.2 < pk s then (-1 : Int) else if pk i.2.2.2 = pk s then 0 else 1) := by
      rw [if_neg hp]
      split <;> omega
    refine jr_1 jm_228 (show jw_cd cd_228 26 = some (.iload 4) by decide +kernel) rfl ?_
    refine jr_1 jm_228 (show jw_cd cd_228 28 = some (.iconst (-1)) by decide +kernel) rfl ?_
    refine jr_1 jm_228 (show jw_cd cd_228 29 = some (.if_icmp .eq 41) by decide +kernel) (mb_f (q := .eq) (a := x) (b := -1) (by show ¬ (x = -1); omega) ⟨by omega, by omega⟩ ⟨by omega, by omega⟩ (by decide)) ?_
    refine jr_1 jm_228 (show jw_cd cd_228 32 = some (.aload_n 0) by decide +kernel) rfl ?_
    refine jr_1 jm_228 (show jw_cd cd_228 33 = some (.getfield 32) by decide +kernel) (mg_a hl (a := 23) (show jw_fld 34 32 16 = some 9 by decide +kernel) (by decide) (by decide)) ?_
    refine jr_1 jm_228 (show jw_cd cd_228 36 = some (.iload 4) by decide +kernel) rfl ?_
    refine jr_1 jm_228 (show jw_cd cd_228 38 = some (.laload) by decide +kernel) (ma_j hl (i := x) (e := pk i.2.2.2) 9 (by omega) (by show _ < ((1740 : Nat) : Int); omega) hkey (by decide) (by decide) (by decide)) ?_
    refine jr_1 jm_228 (show jw_cd cd_228 39 = some (.aload_n 0) by decide +kernel) rfl ?_
    refine jr_1 jm_228 (show jw_cd cd_228 40 = some (.getfield 86) by decide +kernel) (mg_a hl (a := 41) (show jw_fld 34 86 16 = some 35 by decide +kernel) (by decide) (by decide)) ?_
    refine jr_1 jm_228 (show jw_cd cd_228 43 = some (.iload_n 1) by decide +kernel) rfl ?_
    refine jr_1 jm_228 (show jw_cd cd_228 44 = some (.laload) by decide +kernel) (ma_j hl (i := dp) (e := pk s) 35 (by omega) (by show _ < ((5 : Nat) : Int); omega) e35 (by decide) (by decide) (by decide)) ?_
    refine jr_1 jm_228 (show jw_cd cd_228 45 = some (.lcmp) by decide +kernel) (mt_cmp (r := (if pk i.2.2.2 < pk s then -1 else if pk i.2.2.2 = pk s then 0 else 1)) ⟨by have := (pk_b t2).1; omega, by have := (pk_b t2).2; omega⟩ ⟨by have := (pk_b hs).1; omega, by have := (pk_b hs).2; omega⟩ rfl) ?_
    refine jr_1 jm_228 (show jw_cd cd_228 46 = some (.ifCond .ne 12) by decide +kernel) (mz_t (q := .ne) (a := (if pk i.2.2.2 < pk s then -1 else if pk i.2.2.2 = pk s then 0 else 1)) (t := 58) hne0.1 ⟨by have := hne0.2.2; omega, by have := hne0.2.1; omega⟩ (by decide) (by decide)) ?_
    refine jr_1 jm_228 (show jw_cd cd_228 58 = some (.aload_n 0) by decide +kernel) rfl ?_
    refine jr_1 jm_228 (show jw_cd cd_228 59 = some (.getfield 35) by decide +kernel) (mg_a hl (a := 24) (show jw_fld 34 35 16 = some 10 by decide +kernel) (by decide) (by decide)) ?_
    refine jr_1 jm_228 (show jw_cd cd_228 62 = some (.iload 4) by decide +kernel) rfl ?_
    refine jr_1 jm_228 (show jw_cd cd_228 64 = some (.iaload) by decide +kernel) (ma_i hl (i := x) (e := σ 10 (x)) 10 (by omega) (by show _ < ((1740 : Nat) : Int); omega) rfl (by decide) (by decide) (by decide)) ?_
    refine jr_1 jm_228 (F2 := (67, [some (.ref 15), some (.int (Int32.ofInt (dp))), some (.int (Int32.ofInt (wh))), some (.int (Int32.ofInt (w))), some (.int (Int32.ofInt (σ 10 (x))))], [], ml_mk h σ)) (show jw_cd cd_228 65 = some (.istore 4) by decide +kernel) rfl ?_
    refine jr_1 jm_228 (show jw_cd cd_228 67 = some (.goto (-41)) by decide +kernel) (ju_go (t := 26) (by decide)) ?_
    exact jn_put_n hl hD hs hd e35 n (σ 10 x) o2 hn hg res kk
theorem jn_put_new {β : Bool} {d : Nat} {h : jx_H} {σ : mS} (hl : 49 ≤ h.length) {dp wh w kd la : Int} {s : List Int} (hd : 0 ≤ dp ∧ dp < 5) (e33 : σ 33 dp = w) (hw : 0 ≤ w ∧ w < 1740) (e3 : σ 3 w = kd) (hkd : 0 ≤ kd ∧ kd ≤ 6) (e34 : σ 34 dp = la) (e35 : σ 35 dp = pk s) (hs : tx s) {A B D : Int → Prop} (hD : mIx D) {F : FT} (ho : fok F) (hF : mFo σ A B D F (σ 6 w)) {cc li : Int} {lf : Nat} (e12 : σ 12 4 = cc) (hc0 : 0 ≤ cc) (hc1 : cc < 1000) (hlk : mLk la w lf li) (hg : kd = 6 → fget s F = none) : jx_r (jz β) jw_M (d + 1) 228 (0, [some (.ref 15), some (.int (Int32.ofInt (dp))), some (.int (Int32.ofInt (wh))), none, none], [], ml_mk h σ) (ml_mk h ((su (mJoin σ 4 w lf li wh (pk s)) 34 (dp) (170 * 4 + cc))), .inl none) := by
  obtain ⟨d0, d1⟩ := hd
  obtain ⟨w0, w1⟩ := hw
  have hd : 0 ≤ dp ∧ dp < 5 := ⟨d0, d1⟩
  have hw : 0 ≤ w ∧ w < 1740 := ⟨w0, w1⟩
  refine jr_1 jm_228 (show jw_cd cd_228 0 = some (.aload_n 0) by decide +kernel) rfl ?_
  refine jr_1 jm_228 (show jw_cd cd_228 1 = some (.getfield 80) by decide +kernel) (mg_a hl (a := 39) (show jw_fld 34 80 16 = some 33 by decide +kernel) (by decide) (by decide)) ?_
  refine jr_1 jm_228 (show jw_cd cd_228 4 = some (.iload_n 1) by decide +kernel) rfl ?_
  refine jr_1 jm_228 (show jw_cd cd_228 5 = some (.iaload) by decide +kernel) (ma_i hl (i := dp) (e := w) 33 (by omega) (by show _ < ((5 : Nat) : Int); omega) e33 (by decide) (by decide) (by decide)) ?_
  refine jr_1 jm_228 (F2 := (7, [some (.ref 15), some (.int (Int32.ofInt (dp))), some (.int (Int32.ofInt (wh))), some (.int (Int32.ofInt (w))), none], [], ml_mk h σ)) (show jw_cd cd_228 6 = some (.istore_n 3) by decide +kernel) rfl ?_
  refine jr_1 jm_228 (show jw_cd cd_228 7 = some (.aload_n 0) by decide +kernel) rfl ?_
  refine jr_1 jm_228 (show jw_cd cd_228 8 = some (.getfield 13) by decide +kernel) (mg_a hl (a := 17) (show jw_fld 34 13 16 = some 3 by decide +kernel) (by decide) (by decide)) ?_
  refine jr_1 jm_228 (show jw_cd cd_228 11 = some (.iload_n 3) by decide +kernel) rfl ?_
  refine jr_1 jm_228 (show jw_cd cd_228 12 = some (.iaload) by decide +kernel) (ma_i hl (i := w) (e := kd) 3 (by omega) (by show _ < ((1740 : Nat) : Int); omega) e3 (by decide) (by decide) (by decide)) ?_
  refine jr_1 jm_228 (show jw_cd cd_228 13 = some (.bipush 6) by decide +kernel) (mt_bi (by decide)) ?_
  by_cases hk : kd = 6
  · skip
    refine jr_1 jm_228 (show jw_cd cd_228 15 = some (.if_icmp .ne 55) by decide +kernel) (mb_f (q := .ne) (a := kd) (b := 6) (fun z => z hk) ⟨by omega, by omega⟩ ⟨by omega, by omega⟩ (by decide)) ?_
    refine jr_1 jm_228 (show jw_cd cd_228 18 = some (.aload_n 0) by decide +kernel) rfl ?_
    refine jr_1 jm_228 (show jw_cd cd_228 19 = some (.getfield 23) by decide +kernel) (mg_a hl (a := 20) (show jw_fld 34 23 16 = some 6 by decide +kernel) (by decide) (by decide)) ?_
    refine jr_1 jm_228 (show jw_cd cd_228 22 = some (.iload_n 3) by decide +kernel) rfl ?_
    refine jr_1 jm_228 (show jw_cd cd_228 23 = some (.iaload) by decide +kernel) (ma_i hl (i := w) (e := σ 6 (w)) 6 (by omega) (by show _ < ((1740 : Nat) : Int); omega) rfl (by decide) (by decide) (by decide)) ?_
    refine jr_1 jm_228 (F2 := (26, [some (.ref 15), some (.int (Int32.ofInt (dp))), some (.int (Int32.ofInt (wh))), some (.int (Int32.ofInt (w))), some (.int (Int32.ofInt (σ 6 (w))))], [], ml_mk h σ)) (show jw_cd cd_228 24 = some (.istore 4) by decide +kernel) rfl ?_
    refine jn_put_n hl hD hs hd e35 F (σ 6 w) ho hF (hg hk) _ ?_
    refine jr_1 jm_228 (show jw_cd cd_228 70 = some (.aload_n 0) by decide +kernel) rfl ?_
    refine jr_1 jm_228 (show jw_cd cd_228 71 = some (.iconst 4) by decide +kernel) rfl ?_
    refine jr_1 jm_228 (show jw_cd cd_228 72 = some (.iload_n 3) by decide +kernel) rfl ?_
    refine jr_1 jm_228 (show jw_cd cd_228 73 = some (.aload_n 0) by decide +kernel) rfl ?_
    refine jr_1 jm_228 (show jw_cd cd_228 74 = some (.getfield 83) by decide +kernel) (mg_a hl (a := 40) (show jw_fld 34 83 16 = some 34 by decide +kernel) (by decide) (by decide)) ?_
    refine jr_1 jm_228 (show jw_cd cd_228 77 = some (.iload_n 1) by decide +kernel) rfl ?_
    refine jr_1 jm_228 (show jw_cd cd_228 78 = some (.iaload) by decide +kernel) (ma_i hl (i := dp) (e := la) 34 (by omega) (by show _ < ((5 : Nat) : Int); omega) e34 (by decide) (by decide) (by decide)) ?_
    refine jr_1 jm_228 (show jw_cd cd_228 79 = some (.iload_n 2) by decide +kernel) rfl ?_
    refine jr_1 jm_228 (show jw_cd cd_228 80 = some (.aload_n 0) by decide +kernel) rfl ?_
    refine jr_1 jm_228 (show jw_cd cd_228 81 = some (.getfield 86) by decide +kernel) (mg_a hl (a := 41) (show jw_fld 34 86 16 = some 35 by decide +kernel) (by decide) (by decide)) ?_
    refine jr_1 jm_228 (show jw_cd cd_228 84 = some (.iload_n 1) by decide +kernel) rfl ?_
    refine jr_1 jm_228 (show jw_cd cd_228 85 = some (.laload) by decide +kernel) (ma_j hl (i := dp) (e := pk s) 35 (by omega) (by show _ < ((5 : Nat) : Int); omega) e35 (by decide) (by decide) (by decide)) ?_
    refine jr_c jm_228 (show jw_cd cd_228 86 = some (.invokevirtual 128) by decide +kernel) (mc_v hl (n := 5) (m2 := 229) (bs := [.int (Int32.ofInt (4)), .int (Int32.ofInt (w)), .int (Int32.ofInt (la)), .int (Int32.ofInt (wh)), .long (Int64.ofInt (pk s))]) (r := []) (show jw_find jw_cvT 34 128 = some (5, [(16, 229)]) by decide +kernel) (by decide) rfl rfl rfl) jm_229 ⟨Nat.le_of_ble_eq_true rfl, by decide⟩ (jn_joinM hl ⟨by decide, by decide⟩ (m := cc) e12 hc0 (by omega) hw hlk) ?_
    refine jr_1 jm_228 (F2 := (91, [some (.ref 15), some (.int (Int32.ofInt (dp))), some (.int (Int32.ofInt (wh))), some (.int (Int32.ofInt (w))), some (.int (Int32.ofInt (170 * 4 + cc)))], [], ml_mk h (mJoin σ 4 w lf li wh (pk s)))) (show jw_cd cd_228 89 = some (.istore 4) by decide +kernel) rfl ?_
    refine jr_1 jm_228 (show jw_cd cd_228 91 = some (.aload_n 0) by decide +kernel) rfl ?_
    refine jr_1 jm_228 (show jw_cd cd_228 92 = some (.getfield 83) by decide +kernel) (mg_a hl (a := 40) (show jw_fld 34 83 16 = some 34 by decide +kernel) (by decide) (by decide)) ?_
    refine jr_1 jm_228 (show jw_cd cd_228 95 = some (.iload_n 1) by decide +kernel) rfl ?_
    refine jr_1 jm_228 (show jw_cd cd_228 96 = some (.iload 4) by decide +kernel) rfl ?_
    refine jr_1 jm_228 (show jw_cd cd_228 98 = some (.iastore) by decide +kernel) (ms_i hl (i := dp) (x := 170 * 4 + cc) 34 (by omega) (by show _ < ((5 : Nat) : Int); omega) (by decide) (by decide) (by decide)) ?_
    exact jr_v jm_228 (show jw_cd cd_228 99 = some (.return_) by decide +kernel) rfl
  · skip
    refine jr_1 jm_228 (show jw_cd cd_228 15 = some (.if_icmp .ne 55) by decide +kernel) (mb_t (q := .ne) (a := kd) (b := 6) (t := 70) hk ⟨by omega, by omega⟩ ⟨by omega, by omega⟩ (by decide) (by decide)) ?_
    refine jr_1 jm_228 (show jw_cd cd_228 70 = some (.aload_n 0) by decide +kernel) rfl ?_
    refine jr_1 jm_228 (show jw_cd cd_228 71 = some (.iconst 4) by decide +kernel) rfl ?_
    refine jr_1 jm_228 (show jw_cd cd_228 72 = some (.iload_n 3) by decide +kernel) rfl ?_
    refine jr_1 jm_228 (show jw_cd cd_228 73 = some (.aload_n 0) by decide +kernel) rfl ?_
    refine jr_1 jm_228 (show jw_cd cd_228 74 = some (.getfield 83) by decide +kernel) (mg_a hl (a := 40) (show jw_fld 34 83 16 = some 34 by decide +kernel) (by decide) (by decide)) ?_
    refine jr_1 jm_228 (show jw_cd cd_228 77 = some (.iload_n 1) by decide +kernel) rfl ?_
    refine jr_1 jm_228 (show jw_cd cd_228 78 = some (.iaload) by decide +kernel) (ma_i hl (i := dp) (e := la) 34 (by omega) (by show _ < ((5 : Nat) : Int); omega) e34 (by decide) (by decide) (by decide)) ?_
    refine jr_1 jm_228 (show jw_cd cd_228 79 = some (.iload_n 2) by decide +kernel) rfl ?_
    refine jr_1 jm_228 (show jw_cd cd_228 80 = some (.aload_n 0) by decide +kernel) rfl ?_
    refine jr_1 jm_228 (show jw_cd cd_228 81 = some (.getfield 86) by decide +kernel) (mg_a hl (a := 41) (show jw_fld 34 86 16 = some 35 by decide +kernel) (by decide) (by decide)) ?_
    refine jr_1 jm_228 (show jw_cd cd_228 84 = some (.iload_n 1) by decide +kernel) rfl ?_
    refine jr_1 jm_228 (show jw_cd cd_228 85 = some (.laload) by decide +kernel) (ma_j hl (i := dp) (e := pk s) 35 (by omega) (by show _ < ((5 : Nat) : Int); omega) e35 (by decide) (by decide) (by decide)) ?_
    refine jr_c jm_228 (show jw_cd cd_228 86 = some (.invokevirtual 128) by decide +kernel) (mc_v hl (n := 5) (m2 := 229) (bs := [.int (Int32.ofInt (4)), .int (Int32.ofInt (w)), .int (Int32.ofInt (la)), .int (Int32.ofInt (wh)), .long (Int64.ofInt (pk s))]) (r := []) (show jw_find jw_cvT 34 128 = some (5, [(16, 229)]) by decide +kernel) (by decide) rfl rfl rfl) jm_229 ⟨Nat.le_of_ble_eq_true rfl, by decide⟩ (jn_joinM hl ⟨by decide, by decide⟩ (m := cc) e12 hc0 (by omega) hw hlk) ?_
    refine jr_1 jm_228 (F2 := (91, [some (.ref 15), some (.int (Int32.ofInt (dp))), some (.int (Int32.ofInt (wh))), some (.int (Int32.ofInt (w))), some (.int (Int32.ofInt (170 * 4 + cc)))], [], ml_mk h (mJoin σ 4 w lf li wh (pk s)))) (show jw_cd cd_228 89 = some (.istore 4) by decide +kernel) rfl ?_
    refine jr_1 jm_228 (show jw_cd cd_228 91 = some (.aload_n 0) by decide +kernel) rfl ?_
    refine jr_1 jm_228 (show jw_cd cd_228 92 = some (.getfield 83) by decide +kernel) (mg_a hl (a := 40) (show jw_fld 34 83 16 = some 34 by decide +kernel) (by decide) (by decide)) ?_
    refine jr_1 jm_228 (show jw_cd cd_228 95 = some (.iload_n 1) by decide +kernel) rfl ?_
    refine jr_1 jm_228 (show jw_cd cd_228 96 = some (.iload 4) by decide +kernel) rfl ?_
    refine jr_1 jm_228 (show jw_cd cd_228 98 = some (.iastore) by decide +kernel) (ms_i hl (i := dp) (x := 170 * 4 + cc) 34 (by omega) (by show _ < ((5 : Nat) : Int); omega) (by decide) (by decide) (by decide)) ?_
    exact jr_v jm_228 (show jw_cd cd_228 99 = some (.return_) by decide +kernel) rfl
theorem jn_put_old {β : Bool} {d : Nat} {h : jx_H} {σ : mS} (hl : 49 ≤ h.length) {dp wh w kd la : Int} {s : List Int} (hd : 0 ≤ dp ∧ dp < 5) (e33 : σ 33 dp = w) (hw : 0 ≤ w ∧ w < 1740) (e3 : σ 3 w = kd) (hkd : 0 ≤ kd ∧ kd ≤ 6) (e34 : σ 34 dp = la) (e35 : σ 35 dp = pk s) (hs : tx s) {A B D : Int → Prop} (hD : mIx D) {F : FT} (ho : fok F) (hF : mFo σ A B D F (σ 6 w)) (hk : kd = 6) (hg : (fget s F).isSome = true) : ∃ y, jx_r (jz β) jw_M (d + 1) 228 (0, [some (.ref 15), some (.int (Int32.ofInt (dp))), some (.int (Int32.ofInt (wh))), none, none], [], ml_mk h σ) (ml_mk h (su σ 8 y wh), .inl none) ∧ atk σ s F (σ 6 w) y := by
  obtain ⟨d0, d1⟩ := hd
  obtain ⟨w0, w1⟩ := hw
  obtain ⟨y, r1, r2⟩ := jn_put_f (β := β) (d := d) (wh := wh) (w := w) hl hD hs ⟨d0, d1⟩ e35 F (σ 6 w) ho hF hg
  refine ⟨y, ?_, r2⟩
  refine jr_1 jm_228 (show jw_cd cd_228 0 = some (.aload_n 0) by decide +kernel) rfl ?_
  refine jr_1 jm_228 (show jw_cd cd_228 1 = some (.getfield 80) by decide +kernel) (mg_a hl (a := 39) (show jw_fld 34 80 16 = some 33 by decide +kernel) (by decide) (by decide)) ?_
  refine jr_1 jm_228 (show jw_cd cd_228 4 = some (.iload_n 1) by decide +kernel) rfl ?_
  refine jr_1 jm_228 (show jw_cd cd_228 5 = some (.iaload) by decide +kernel) (ma_i hl (i := dp) (e := w) 33 (by omega) (by show _ < ((5 : Nat) : Int); omega) e33 (by decide) (by decide) (by decide)) ?_
  refine jr_1 jm_228 (F2 := (7, [some (.ref 15), some (.int (Int32.ofInt (dp))), some (.int (Int32.ofInt (wh))), some (.int (Int32.ofInt (w))), none], [], ml_mk h σ)) (show jw_cd cd_228 6 = some (.istore_n 3) by decide +kernel) rfl ?_
  refine jr_1 jm_228 (show jw_cd cd_228 7 = some (.aload_n 0) by decide +kernel) rfl ?_
  refine jr_1 jm_228 (show jw_cd cd_228 8 = some (.getfield 13) by decide +kernel) (mg_a hl (a := 17) (show jw_fld 34 13 16 = some 3 by decide +kernel) (by decide) (by decide)) ?_
  refine jr_1 jm_228 (show jw_cd cd_228 11 = some (.iload_n 3) by decide +kernel) rfl ?_
  refine jr_1 jm_228 (show jw_cd cd_228 12 = some (.iaload) by decide +kernel) (ma_i hl (i := w) (e := kd) 3 (by omega) (by show _ < ((1740 : Nat) : Int); omega) e3 (by decide) (by decide) (by decide)) ?_
  refine jr_1 jm_228 (show jw_cd cd_228 13 = some (.bipush 6) by decide +kernel) (mt_bi (by decide)) ?_
  refine jr_1 jm_228 (show jw_cd cd_228 15 = some (.if_icmp .ne 55) by decide +kernel) (mb_f (q := .ne) (a := kd) (b := 6) (fun z => z hk) ⟨by omega, by omega⟩ ⟨by omega, by omega⟩ (by decide)) ?_
  refine jr_1 jm_228 (show jw_cd cd_228 18 = some (.aload_n 0) by decide +kernel) rfl ?_
  refine jr_1 jm_228 (show jw_cd cd_228 19 = some (.getfield 23) by decide +kernel) (mg_a hl (a := 20) (show jw_fld 34 23 16 = some 6 by decide +kernel) (by decide) (by decide)) ?_
  refine jr_1 jm_228 (show jw_cd cd_228 22 = some (.iload_n 3) by decide +kernel) rfl ?_
  refine jr_1 jm_228 (show jw_cd cd_228 23 = some (.iaload) by decide +kernel) (ma_i hl (i := w) (e := σ 6 (w)) 6 (by omega) (by show _ < ((1740 : Nat) : Int); omega) rfl (by decide) (by decide) (by decide)) ?_
  refine jr_1 jm_228 (F2 := (26, [some (.ref 15), some (.int (Int32.ofInt (dp))), some (.int (Int32.ofInt (wh))), some (.int (Int32.ofInt (w))), some (.int (Int32.ofInt (σ 6 (w))))], [], ml_mk h σ)) (show jw_cd cd_228 24 = some (.istore 4) by decide +kernel) rfl ?_
  exact r1
