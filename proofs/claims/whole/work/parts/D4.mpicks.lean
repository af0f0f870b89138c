/-! ===== picks (printed by program: gen53.py) ===== -/
/-- the picking step e stands at the item ii, its number at the place s -/
def pkR (σ : mS) (ii s : Int) (e : sE) : Prop := (0 ≤ ii ∧ ii < 1200) ∧ σ 17 ii = e.1 ∧ ((e.1 = 0 ∧ σ 18 ii = pk e.2.1 ∧ tx e.2.1) ∨ (e.1 = 1 ∧ (0 ≤ s ∧ s < 144) ∧ σ 21 (3 * s) = e.2.2.1.2.1 ∧ -1000000 ≤ e.2.2.1.2.1 ∧ e.2.2.1.2.1 ≤ 1000000))
def pkF (σ τ : mS) (k : Int) : Prop := (∀ f, ¬ f = 37 → τ f = σ f) ∧ ∀ v, v < k → τ 37 v = σ 37 v
theorem pkF_refl (σ : mS) (k : Int) : pkF σ σ k := ⟨fun _ _ => rfl, fun _ _ => rfl⟩
theorem pkF_su (σ : mS) (k x : Int) : pkF σ (su σ 37 k x) k := ⟨fun f hf => su_row hf, fun v hv => su_ni (by omega)⟩
theorem pkR_fr {σ τ : mS} {k ii s : Int} {e : sE} (h : pkF σ τ k) (hs : pkR σ ii s e) : pkR τ ii s e := by
  unfold pkR at hs ⊢
  rw [h.1 17 (by decide), h.1 18 (by decide), h.1 21 (by decide)]
  exact hs
theorem mO_pk {σ τ : mS} {A B : Int → Prop} {k w : Int} {x : Option vT} (h : pkF σ τ k) (hx : mO σ A B w x) : mO τ A B w x := mO_eq (fun f f1 f2 => h.1 f (by omega)) hx
theorem jn_pc_item {β : Bool} {d : Nat} {h : jx_H} {σ : mS} (hl : 49 ≤ h.length) {A B : Int → Prop} {ii s k sl : Int} {e : sE} {c4 c5 c6 : Option Value} (hA : mIx A) (hB : mIx B) {x : Option vT} (hP : pkR σ ii s e) (hx : mO σ A B (σ 37 k) x) (hv : ∀ v, x = some v → vok v ∧ fct v.2 ≤ 390) (e36 : σ 36 0 = sl) (hk : 0 ≤ k ∧ k < sl) (hsl : sl ≤ 400) :
    ∃ (τ : mS) (c4' c5' c6' : Option Value), (∀ res, jx_r (jz β) jw_M (d + 1) 266 (152, [some (.ref 15), some (.int (Int32.ofInt (ii))), some (.int (Int32.ofInt (s))), some (.int (Int32.ofInt (k))), c4', c5', c6'], [], ml_mk h τ) res → jx_r (jz β) jw_M (d + 1) 266 (12, [some (.ref 15), some (.int (Int32.ofInt (ii))), some (.int (Int32.ofInt (s))), some (.int (Int32.ofInt (k))), c4, c5, c6], [], ml_mk h σ) res) ∧ pkF σ τ k ∧ (∀ v, ¬ v = k → τ 37 v = σ 37 v) ∧ mO τ A B (τ 37 k) (x.bind (pckS e)) := by
  obtain ⟨k0, k1⟩ := hk
  obtain ⟨y, hy⟩ : ∃ y, y = σ 37 k := ⟨_, rfl⟩
  have e37 : σ 37 k = y := hy.symm
  rw [e37] at hx
  obtain ⟨⟨ii0, ii1⟩, e17, hP⟩ := hP
  cases x with
  | none =>
    have hy1 : y = -1 := hx
    refine ⟨σ, some (.int (Int32.ofInt (y))), c5, c6, fun res kk => ?_, pkF_refl σ k, fun _ _ => rfl, e37.trans hy1⟩
    · skip
      refine jr_1 jm_266 (show jw_cd cd_266 12 = some (.iload_n 3) by decide +kernel) rfl ?_
      refine jr_1 jm_266 (show jw_cd cd_266 13 = some (.aload_n 0) by decide +kernel) rfl ?_
      refine jr_1 jm_266 (show jw_cd cd_266 14 = some (.getfield 264) by decide +kernel) (mg_i hl (e := sl) e36 (show jw_fld 34 264 16 = some 36 by decide +kernel) (by decide) (by decide)) ?_
      refine jr_1 jm_266 (show jw_cd cd_266 17 = some (.if_icmp .ge 141) by decide +kernel) (mb_f (q := .ge) (a := k) (b := sl) (by show ¬ (sl ≤ k); omega) ⟨by omega, by omega⟩ ⟨by omega, by omega⟩ (by decide)) ?_
      refine jr_1 jm_266 (show jw_cd cd_266 20 = some (.aload_n 0) by decide +kernel) rfl ?_
      refine jr_1 jm_266 (show jw_cd cd_266 21 = some (.getfield 89) by decide +kernel) (mg_a hl (a := 42) (show jw_fld 34 89 16 = some 37 by decide +kernel) (by decide) (by decide)) ?_
      refine jr_1 jm_266 (show jw_cd cd_266 24 = some (.iload_n 3) by decide +kernel) rfl ?_
      refine jr_1 jm_266 (show jw_cd cd_266 25 = some (.iaload) by decide +kernel) (ma_i hl (i := k) (e := y) 37 (by omega) (by show _ < ((400 : Nat) : Int); omega) e37 (by decide) (by decide) (by decide)) ?_
      refine jr_1 jm_266 (F2 := (28, [some (.ref 15), some (.int (Int32.ofInt (ii))), some (.int (Int32.ofInt (s))), some (.int (Int32.ofInt (k))), some (.int (Int32.ofInt (y))), c5, c6], [], ml_mk h σ)) (show jw_cd cd_266 26 = some (.istore 4) by decide +kernel) rfl ?_
      refine jr_1 jm_266 (show jw_cd cd_266 28 = some (.iload 4) by decide +kernel) rfl ?_
      refine jr_1 jm_266 (show jw_cd cd_266 30 = some (.iconst (-1)) by decide +kernel) rfl ?_
      refine jr_1 jm_266 (show jw_cd cd_266 31 = some (.if_icmp .eq 33) by decide +kernel) (mb_t (q := .eq) (a := y) (b := -1) (t := 64) (by show y = -1; omega) ⟨by omega, by omega⟩ ⟨by omega, by omega⟩ (by decide) (by decide)) ?_
      refine jr_1 jm_266 (show jw_cd cd_266 64 = some (.iload 4) by decide +kernel) rfl ?_
      refine jr_1 jm_266 (show jw_cd cd_266 66 = some (.iconst (-1)) by decide +kernel) rfl ?_
      refine jr_1 jm_266 (show jw_cd cd_266 67 = some (.if_icmp .eq 85) by decide +kernel) (mb_t (q := .eq) (a := y) (b := -1) (t := 152) (by show y = -1; omega) ⟨by omega, by omega⟩ ⟨by omega, by omega⟩ (by decide) (by decide)) ?_
      exact kk
  | some z =>
    obtain ⟨i, F⟩ := z
    have hV : mV σ A B y i F := hx
    obtain ⟨⟨hi, hF⟩, hc⟩ := hv (i, F) rfl
    have hc : fct F ≤ 390 := hc
    have hzc := fsz_le F
    have i0 : 0 ≤ i.1 := hi.1
    have i6 : i.1 ≤ 6 := hi.2.1
    have hyr := hA y hV.1
    have e3 : σ 3 y = i.1 := hV.2.1.1
    have e7 : σ 7 y = (fsz F : Int) := hV.2.1.2.2.2
    rcases hP with ⟨h0, e18, ht⟩ | ⟨h1, ⟨s0, s1⟩, e21, n0, n1⟩
    · obtain ⟨w2, r1, r2⟩ := jn_child (β := β) (d := d) (h := h) (σ := σ) hl hA hB ht ⟨by omega, by omega⟩ (fwf_ok F hF) hV
      refine ⟨su σ 37 k w2, some (.int (Int32.ofInt (y))), c5, c6, fun res kk => ?_, pkF_su σ k w2, fun v hv => su_ni hv, ?_⟩
      rotate_left
      · rw [su_eq]
        refine mO_pk (pkF_su σ k w2) ?_
        show mO σ A B w2 (pckS e (i, F))
        unfold pckS
        rw [if_pos h0]
        exact r2
      refine jr_1 jm_266 (show jw_cd cd_266 12 = some (.iload_n 3) by decide +kernel) rfl ?_
      refine jr_1 jm_266 (show jw_cd cd_266 13 = some (.aload_n 0) by decide +kernel) rfl ?_
      refine jr_1 jm_266 (show jw_cd cd_266 14 = some (.getfield 264) by decide +kernel) (mg_i hl (e := sl) e36 (show jw_fld 34 264 16 = some 36 by decide +kernel) (by decide) (by decide)) ?_
      refine jr_1 jm_266 (show jw_cd cd_266 17 = some (.if_icmp .ge 141) by decide +kernel) (mb_f (q := .ge) (a := k) (b := sl) (by show ¬ (sl ≤ k); omega) ⟨by omega, by omega⟩ ⟨by omega, by omega⟩ (by decide)) ?_
      refine jr_1 jm_266 (show jw_cd cd_266 20 = some (.aload_n 0) by decide +kernel) rfl ?_
      refine jr_1 jm_266 (show jw_cd cd_266 21 = some (.getfield 89) by decide +kernel) (mg_a hl (a := 42) (show jw_fld 34 89 16 = some 37 by decide +kernel) (by decide) (by decide)) ?_
      refine jr_1 jm_266 (show jw_cd cd_266 24 = some (.iload_n 3) by decide +kernel) rfl ?_
      refine jr_1 jm_266 (show jw_cd cd_266 25 = some (.iaload) by decide +kernel) (ma_i hl (i := k) (e := y) 37 (by omega) (by show _ < ((400 : Nat) : Int); omega) e37 (by decide) (by decide) (by decide)) ?_
      refine jr_1 jm_266 (F2 := (28, [some (.ref 15), some (.int (Int32.ofInt (ii))), some (.int (Int32.ofInt (s))), some (.int (Int32.ofInt (k))), some (.int (Int32.ofInt (y))), c5, c6], [], ml_mk h σ)) (show jw_cd cd_266 26 = some (.istore 4) by decide +kernel) rfl ?_
      refine jr_1 jm_266 (show jw_cd cd_266 28 = some (.iload 4) by decide +kernel) rfl ?_
      refine jr_1 jm_266 (show jw_cd cd_266 30 = some (.iconst (-1)) by decide +kernel) rfl ?_
      refine jr_1 jm_266 (show jw_cd cd_266 31 = some (.if_icmp .eq 33) by decide +kernel) (mb_f (q := .eq) (a := y) (b := -1) (by show ¬ (y = -1); omega) ⟨by omega, by omega⟩ ⟨by omega, by omega⟩ (by decide)) ?_
      refine jr_1 jm_266 (show jw_cd cd_266 34 = some (.aload_n 0) by decide +kernel) rfl ?_
      refine jr_1 jm_266 (show jw_cd cd_266 35 = some (.getfield 47) by decide +kernel) (mg_a hl (a := 28) (show jw_fld 34 47 16 = some 17 by decide +kernel) (by decide) (by decide)) ?_
      refine jr_1 jm_266 (show jw_cd cd_266 38 = some (.iload_n 1) by decide +kernel) rfl ?_
      refine jr_1 jm_266 (show jw_cd cd_266 39 = some (.iaload) by decide +kernel) (ma_i hl (i := ii) (e := e.1) 17 (by omega) (by show _ < ((1200 : Nat) : Int); omega) e17 (by decide) (by decide) (by decide)) ?_
      refine jr_1 jm_266 (show jw_cd cd_266 40 = some (.ifCond .ne 24) by decide +kernel) (mz_f (q := .ne) (a := e.1) (by show ¬ (¬ (e.1 = 0)); omega) ⟨by omega, by omega⟩ (by decide)) ?_
      refine jr_1 jm_266 (show jw_cd cd_266 43 = some (.aload_n 0) by decide +kernel) rfl ?_
      refine jr_1 jm_266 (show jw_cd cd_266 44 = some (.getfield 89) by decide +kernel) (mg_a hl (a := 42) (show jw_fld 34 89 16 = some 37 by decide +kernel) (by decide) (by decide)) ?_
      refine jr_1 jm_266 (show jw_cd cd_266 47 = some (.iload_n 3) by decide +kernel) rfl ?_
      refine jr_1 jm_266 (show jw_cd cd_266 48 = some (.aload_n 0) by decide +kernel) rfl ?_
      refine jr_1 jm_266 (show jw_cd cd_266 49 = some (.iload 4) by decide +kernel) rfl ?_
      refine jr_1 jm_266 (show jw_cd cd_266 51 = some (.aload_n 0) by decide +kernel) rfl ?_
      refine jr_1 jm_266 (show jw_cd cd_266 52 = some (.getfield 50) by decide +kernel) (mg_a hl (a := 29) (show jw_fld 34 50 16 = some 18 by decide +kernel) (by decide) (by decide)) ?_
      refine jr_1 jm_266 (show jw_cd cd_266 55 = some (.iload_n 1) by decide +kernel) rfl ?_
      refine jr_1 jm_266 (show jw_cd cd_266 56 = some (.laload) by decide +kernel) (ma_j hl (i := ii) (e := pk e.2.1) 18 (by omega) (by show _ < ((1200 : Nat) : Int); omega) e18 (by decide) (by decide) (by decide)) ?_
      refine jr_c jm_266 (show jw_cd cd_266 57 = some (.invokevirtual 132) by decide +kernel) (mc_v hl (n := 2) (m2 := 256) (bs := [.int (Int32.ofInt (y)), .long (Int64.ofInt (pk e.2.1))]) (r := [.int (Int32.ofInt (k)), .ref 42]) (show jw_find jw_cvT 34 132 = some (2, [(16, 256)]) by decide +kernel) (by decide) rfl rfl rfl) jm_256 ⟨Nat.le_of_ble_eq_true rfl, by decide⟩ r1 ?_
      refine jr_1 jm_266 (show jw_cd cd_266 60 = some (.iastore) by decide +kernel) (ms_i hl (i := k) (x := w2) 37 (by omega) (by show _ < ((400 : Nat) : Int); omega) (by decide) (by decide) (by decide)) ?_
      refine jr_1 jm_266 (show jw_cd cd_266 61 = some (.goto 91) by decide +kernel) (ju_go (t := 152) (by decide)) ?_
      exact kk
    · obtain ⟨n, hn⟩ : ∃ n, n = e.2.2.1.2.1 := ⟨_, rfl⟩
      rw [← hn] at e21 n0 n1
      have hpk : pckS e (i, F) = idxS n (i, F) := by
        unfold pckS
        rw [if_neg (by omega), hn]
      show ∃ (τ : mS) (c4' c5' c6' : Option Value), _ ∧ _ ∧ _ ∧ mO τ A B (τ 37 k) (pckS e (i, F))
      rw [hpk]
      by_cases h5 : i.1 = 5
      · obtain ⟨m, hm⟩ : ∃ m, m = idxK n (fsz F) := ⟨_, rfl⟩
        have hmr : m = n ∧ 0 ≤ n ∨ m = n + (fsz F : Int) ∧ n < 0 := by
          rw [hm]
          unfold idxK
          by_cases hn0 : n < 0
          · rw [if_pos hn0]
            exact Or.inr ⟨rfl, hn0⟩
          · rw [if_neg hn0]
            exact Or.inl ⟨rfl, by omega⟩
        by_cases hin : 0 ≤ m ∧ m < fsz F
        · obtain ⟨m0, m1⟩ := hin
          obtain ⟨w2, j, c2, r1, r2, r3⟩ := jn_element (β := β) (d := d) (h := h) (σ := σ) (s := m.toNat) hl hA hB hV (by omega) (by omega)
          rw [show ((m.toNat : Nat) : Int) = m by omega] at r1
          rw [fnth_sib] at r2
          have hid : idxS n (i, F) = some (j, c2) := by
            unfold idxS
            rw [← hm, if_pos ⟨h5, m0, m1⟩]
            exact r2
          rw [hid]
          refine ⟨su σ 37 k w2, some (.int (Int32.ofInt (y))), some (.int (Int32.ofInt (n))), some (.int (Int32.ofInt (m))), fun res kk => ?_, pkF_su σ k w2, fun v hv => su_ni hv, by rw [su_eq]; exact mO_pk (x := some (j, c2)) (pkF_su σ k w2) r3⟩
          rcases hmr with ⟨hm2, hn0⟩ | ⟨hm2, hn0⟩
          · subst hm2
            refine jr_1 jm_266 (show jw_cd cd_266 12 = some (.iload_n 3) by decide +kernel) rfl ?_
            refine jr_1 jm_266 (show jw_cd cd_266 13 = some (.aload_n 0) by decide +kernel) rfl ?_
            refine jr_1 jm_266 (show jw_cd cd_266 14 = some (.getfield 264) by decide +kernel) (mg_i hl (e := sl) e36 (show jw_fld 34 264 16 = some 36 by decide +kernel) (by decide) (by decide)) ?_
            refine jr_1 jm_266 (show jw_cd cd_266 17 = some (.if_icmp .ge 141) by decide +kernel) (mb_f (q := .ge) (a := k) (b := sl) (by show ¬ (sl ≤ k); omega) ⟨by omega, by omega⟩ ⟨by omega, by omega⟩ (by decide)) ?_
            refine jr_1 jm_266 (show jw_cd cd_266 20 = some (.aload_n 0) by decide +kernel) rfl ?_
            refine jr_1 jm_266 (show jw_cd cd_266 21 = some (.getfield 89) by decide +kernel) (mg_a hl (a := 42) (show jw_fld 34 89 16 = some 37 by decide +kernel) (by decide) (by decide)) ?_
            refine jr_1 jm_266 (show jw_cd cd_266 24 = some (.iload_n 3) by decide +kernel) rfl ?_
            refine jr_1 jm_266 (show jw_cd cd_266 25 = some (.iaload) by decide +kernel) (ma_i hl (i := k) (e := y) 37 (by omega) (by show _ < ((400 : Nat) : Int); omega) e37 (by decide) (by decide) (by decide)) ?_
            refine jr_1 jm_266 (F2 := (28, [some (.ref 15), some (.int (Int32.ofInt (ii))), some (.int (Int32.ofInt (s))), some (.int (Int32.ofInt (k))), some (.int (Int32.ofInt (y))), c5, c6], [], ml_mk h σ)) (show jw_cd cd_266 26 = some (.istore 4) by decide +kernel) rfl ?_
            refine jr_1 jm_266 (show jw_cd cd_266 28 = some (.iload 4) by decide +kernel) rfl ?_
            refine jr_1 jm_266 (show jw_cd cd_266 30 = some (.iconst (-1)) by decide +kernel) rfl ?_
            refine jr_1 jm_266 (show jw_cd cd_266 31 = some (.if_icmp .eq 33) by decide +kernel) (mb_f (q := .eq) (a := y) (b := -1) (by show ¬ (y = -1); omega) ⟨by omega, by omega⟩ ⟨by omega, by omega⟩ (by decide)) ?_
            refine jr_1 jm_266 (show jw_cd cd_266 34 = some (.aload_n 0) by decide +kernel) rfl ?_
            refine jr_1 jm_266 (show jw_cd cd_266 35 = some (.getfield 47) by decide +kernel) (mg_a hl (a := 28) (show jw_fld 34 47 16 = some 17 by decide +kernel) (by decide) (by decide)) ?_
            refine jr_1 jm_266 (show jw_cd cd_266 38 = some (.iload_n 1) by decide +kernel) rfl ?_
            refine jr_1 jm_266 (show jw_cd cd_266 39 = some (.iaload) by decide +kernel) (ma_i hl (i := ii) (e := e.1) 17 (by omega) (by show _ < ((1200 : Nat) : Int); omega) e17 (by decide) (by decide) (by decide)) ?_
            refine jr_1 jm_266 (show jw_cd cd_266 40 = some (.ifCond .ne 24) by decide +kernel) (mz_t (q := .ne) (a := e.1) (t := 64) (by show ¬ (e.1 = 0); omega) ⟨by omega, by omega⟩ (by decide) (by decide)) ?_
            refine jr_1 jm_266 (show jw_cd cd_266 64 = some (.iload 4) by decide +kernel) rfl ?_
            refine jr_1 jm_266 (show jw_cd cd_266 66 = some (.iconst (-1)) by decide +kernel) rfl ?_
            refine jr_1 jm_266 (show jw_cd cd_266 67 = some (.if_icmp .eq 85) by decide +kernel) (mb_f (q := .eq) (a := y) (b := -1) (by show ¬ (y = -1); omega) ⟨by omega, by omega⟩ ⟨by omega, by omega⟩ (by decide)) ?_
            refine jr_1 jm_266 (show jw_cd cd_266 70 = some (.aload_n 0) by decide +kernel) rfl ?_
            refine jr_1 jm_266 (show jw_cd cd_266 71 = some (.getfield 59) by decide +kernel) (mg_a hl (a := 32) (show jw_fld 34 59 16 = some 21 by decide +kernel) (by decide) (by decide)) ?_
            refine jr_1 jm_266 (show jw_cd cd_266 74 = some (.iconst 3) by decide +kernel) rfl ?_
            refine jr_1 jm_266 (show jw_cd cd_266 75 = some (.iload_n 2) by decide +kernel) rfl ?_
            refine jr_1 jm_266 (show jw_cd cd_266 76 = some (.imul) by decide +kernel) (mt_mul (c := 3 * s) rfl) ?_
            refine jr_1 jm_266 (show jw_cd cd_266 77 = some (.iaload) by decide +kernel) (ma_i hl (i := 3 * s) (e := m) 21 (by omega) (by show _ < ((432 : Nat) : Int); omega) e21 (by decide) (by decide) (by decide)) ?_
            refine jr_1 jm_266 (F2 := (80, [some (.ref 15), some (.int (Int32.ofInt (ii))), some (.int (Int32.ofInt (s))), some (.int (Int32.ofInt (k))), some (.int (Int32.ofInt (y))), some (.int (Int32.ofInt (m))), c6], [], ml_mk h σ)) (show jw_cd cd_266 78 = some (.istore 5) by decide +kernel) rfl ?_
            refine jr_1 jm_266 (show jw_cd cd_266 80 = some (.aload_n 0) by decide +kernel) rfl ?_
            refine jr_1 jm_266 (show jw_cd cd_266 81 = some (.getfield 13) by decide +kernel) (mg_a hl (a := 17) (show jw_fld 34 13 16 = some 3 by decide +kernel) (by decide) (by decide)) ?_
            refine jr_1 jm_266 (show jw_cd cd_266 84 = some (.iload 4) by decide +kernel) rfl ?_
            refine jr_1 jm_266 (show jw_cd cd_266 86 = some (.iaload) by decide +kernel) (ma_i hl (i := y) (e := i.1) 3 (by omega) (by show _ < ((1740 : Nat) : Int); omega) e3 (by decide) (by decide) (by decide)) ?_
            refine jr_1 jm_266 (show jw_cd cd_266 87 = some (.iconst 5) by decide +kernel) rfl ?_
            refine jr_1 jm_266 (show jw_cd cd_266 88 = some (.if_icmp .eq 7) by decide +kernel) (mb_t (q := .eq) (a := i.1) (b := 5) (t := 95) (by show i.1 = 5; omega) ⟨by omega, by omega⟩ ⟨by omega, by omega⟩ (by decide) (by decide)) ?_
            refine jr_1 jm_266 (show jw_cd cd_266 95 = some (.iload 5) by decide +kernel) rfl ?_
            refine jr_1 jm_266 (show jw_cd cd_266 97 = some (.ifCond .ge 16) by decide +kernel) (mz_t (q := .ge) (a := m) (t := 113) (by show 0 ≤ m; omega) ⟨by omega, by omega⟩ (by decide) (by decide)) ?_
            refine jr_1 jm_266 (show jw_cd cd_266 113 = some (.iload 5) by decide +kernel) rfl ?_
            refine jr_1 jm_266 (F2 := (117, [some (.ref 15), some (.int (Int32.ofInt (ii))), some (.int (Int32.ofInt (s))), some (.int (Int32.ofInt (k))), some (.int (Int32.ofInt (y))), some (.int (Int32.ofInt (m))), some (.int (Int32.ofInt (m)))], [], ml_mk h σ)) (show jw_cd cd_266 115 = some (.istore 6) by decide +kernel) rfl ?_
            refine jr_1 jm_266 (show jw_cd cd_266 117 = some (.aload_n 0) by decide +kernel) rfl ?_
            refine jr_1 jm_266 (show jw_cd cd_266 118 = some (.getfield 89) by decide +kernel) (mg_a hl (a := 42) (show jw_fld 34 89 16 = some 37 by decide +kernel) (by decide) (by decide)) ?_
            refine jr_1 jm_266 (show jw_cd cd_266 121 = some (.iload_n 3) by decide +kernel) rfl ?_
            refine jr_1 jm_266 (show jw_cd cd_266 122 = some (.iload 6) by decide +kernel) rfl ?_
            refine jr_1 jm_266 (show jw_cd cd_266 124 = some (.ifCond .lt 15) by decide +kernel) (mz_f (q := .lt) (a := m) (by show ¬ (m < 0); omega) ⟨by omega, by omega⟩ (by decide)) ?_
            refine jr_1 jm_266 (show jw_cd cd_266 127 = some (.iload 6) by decide +kernel) rfl ?_
            refine jr_1 jm_266 (show jw_cd cd_266 129 = some (.aload_n 0) by decide +kernel) rfl ?_
            refine jr_1 jm_266 (show jw_cd cd_266 130 = some (.getfield 26) by decide +kernel) (mg_a hl (a := 21) (show jw_fld 34 26 16 = some 7 by decide +kernel) (by decide) (by decide)) ?_
            refine jr_1 jm_266 (show jw_cd cd_266 133 = some (.iload 4) by decide +kernel) rfl ?_
            refine jr_1 jm_266 (show jw_cd cd_266 135 = some (.iaload) by decide +kernel) (ma_i hl (i := y) (e := (fsz F : Int)) 7 (by omega) (by show _ < ((1740 : Nat) : Int); omega) e7 (by decide) (by decide) (by decide)) ?_
            refine jr_1 jm_266 (show jw_cd cd_266 136 = some (.if_icmp .lt 7) by decide +kernel) (mb_t (q := .lt) (a := m) (b := (fsz F : Int)) (t := 143) (by show m < (fsz F : Int); omega) ⟨by omega, by omega⟩ ⟨by omega, by omega⟩ (by decide) (by decide)) ?_
            refine jr_1 jm_266 (show jw_cd cd_266 143 = some (.aload_n 0) by decide +kernel) rfl ?_
            refine jr_1 jm_266 (show jw_cd cd_266 144 = some (.iload 4) by decide +kernel) rfl ?_
            refine jr_1 jm_266 (show jw_cd cd_266 146 = some (.iload 6) by decide +kernel) rfl ?_
            refine jr_c jm_266 (show jw_cd cd_266 148 = some (.invokevirtual 277) by decide +kernel) (mc_v hl (n := 2) (m2 := 267) (bs := [.int (Int32.ofInt (y)), .int (Int32.ofInt (m))]) (r := [.int (Int32.ofInt (k)), .ref 42]) (show jw_find jw_cvT 34 277 = some (2, [(16, 267)]) by decide +kernel) (by decide) rfl rfl rfl) jm_267 ⟨Nat.le_of_ble_eq_true rfl, by decide⟩ r1 ?_
            refine jr_1 jm_266 (show jw_cd cd_266 151 = some (.iastore) by decide +kernel) (ms_i hl (i := k) (x := w2) 37 (by omega) (by show _ < ((400 : Nat) : Int); omega) (by decide) (by decide) (by decide)) ?_
            exact kk
          · subst hm2
            refine jr_1 jm_266 (show jw_cd cd_266 12 = some (.iload_n 3) by decide +kernel) rfl ?_
            refine jr_1 jm_266 (show jw_cd cd_266 13 = some (.aload_n 0) by decide +kernel) rfl ?_
            refine jr_1 jm_266 (show jw_cd cd_266 14 = some (.getfield 264) by decide +kernel) (mg_i hl (e := sl) e36 (show jw_fld 34 264 16 = some 36 by decide +kernel) (by decide) (by decide)) ?_
            refine jr_1 jm_266 (show jw_cd cd_266 17 = some (.if_icmp .ge 141) by decide +kernel) (mb_f (q := .ge) (a := k) (b := sl) (by show ¬ (sl ≤ k); omega) ⟨by omega, by omega⟩ ⟨by omega, by omega⟩ (by decide)) ?_
            refine jr_1 jm_266 (show jw_cd cd_266 20 = some (.aload_n 0) by decide +kernel) rfl ?_
            refine jr_1 jm_266 (show jw_cd cd_266 21 = some (.getfield 89) by decide +kernel) (mg_a hl (a := 42) (show jw_fld 34 89 16 = some 37 by decide +kernel) (by decide) (by decide)) ?_
            refine jr_1 jm_266 (show jw_cd cd_266 24 = some (.iload_n 3) by decide +kernel) rfl ?_
            refine jr_1 jm_266 (show jw_cd cd_266 25 = some (.iaload) by decide +kernel) (ma_i hl (i := k) (e := y) 37 (by omega) (by show _ < ((400 : Nat) : Int); omega) e37 (by decide) (by decide) (by decide)) ?_
            refine jr_1 jm_266 (F2 := (28, [some (.ref 15), some (.int (Int32.ofInt (ii))), some (.int (Int32.ofInt (s))), some (.int (Int32.ofInt (k))), some (.int (Int32.ofInt (y))), c5, c6], [], ml_mk h σ)) (show jw_cd cd_266 26 = some (.istore 4) by decide +kernel) rfl ?_
            refine jr_1 jm_266 (show jw_cd cd_266 28 = some (.iload 4) by decide +kernel) rfl ?_
            refine jr_1 jm_266 (show jw_cd cd_266 30 = some (.iconst (-1)) by decide +kernel) rfl ?_
            refine jr_1 jm_266 (show jw_cd cd_266 31 = some (.if_icmp .eq 33) by decide +kernel) (mb_f (q := .eq) (a := y) (b := -1) (by show ¬ (y = -1); omega) ⟨by omega, by omega⟩ ⟨by omega, by omega⟩ (by decide)) ?_
            refine jr_1 jm_266 (show jw_cd cd_266 34 = some (.aload_n 0) by decide +kernel) rfl ?_
            refine jr_1 jm_266 (show jw_cd cd_266 35 = some (.getfield 47) by decide +kernel) (mg_a hl (a := 28) (show jw_fld 34 47 16 = some 17 by decide +kernel) (by decide) (by decide)) ?_
            refine jr_1 jm_266 (show jw_cd cd_266 38 = some (.iload_n 1) by decide +kernel) rfl ?_
            refine jr_1 jm_266 (show jw_cd cd_266 39 = some (.iaload) by decide +kernel) (ma_i hl (i := ii) (e := e.1) 17 (by omega) (by show _ < ((1200 : Nat) : Int); omega) e17 (by decide) (by decide) (by decide)) ?_
            refine jr_1 jm_266 (show jw_cd cd_266 40 = some (.ifCond .ne 24) by decide +kernel) (mz_t (q := .ne) (a := e.1) (t := 64) (by show ¬ (e.1 = 0); omega) ⟨by omega, by omega⟩ (by decide) (by decide)) ?_
            refine jr_1 jm_266 (show jw_cd cd_266 64 = some (.iload 4) by decide +kernel) rfl ?_
            refine jr_1 jm_266 (show jw_cd cd_266 66 = some (.iconst (-1)) by decide +kernel) rfl ?_
            refine jr_1 jm_266 (show jw_cd cd_266 67 = some (.if_icmp .eq 85) by decide +kernel) (mb_f (q := .eq) (a := y) (b := -1) (by show ¬ (y = -1); omega) ⟨by omega, by omega⟩ ⟨by omega, by omega⟩ (by decide)) ?_
            refine jr_1 jm_266 (show jw_cd cd_266 70 = some (.aload_n 0) by decide +kernel) rfl ?_
            refine jr_1 jm_266 (show jw_cd cd_266 71 = some (.getfield 59) by decide +kernel) (mg_a hl (a := 32) (show jw_fld 34 59 16 = some 21 by decide +kernel) (by decide) (by decide)) ?_
            refine jr_1 jm_266 (show jw_cd cd_266 74 = some (.iconst 3) by decide +kernel) rfl ?_
            refine jr_1 jm_266 (show jw_cd cd_266 75 = some (.iload_n 2) by decide +kernel) rfl ?_
            refine jr_1 jm_266 (show jw_cd cd_266 76 = some (.imul) by decide +kernel) (mt_mul (c := 3 * s) rfl) ?_
            refine jr_1 jm_266 (show jw_cd cd_266 77 = some (.iaload) by decide +kernel) (ma_i hl (i := 3 * s) (e := n) 21 (by omega) (by show _ < ((432 : Nat) : Int); omega) e21 (by decide) (by decide) (by decide)) ?_
            refine jr_1 jm_266 (F2 := (80, [some (.ref 15), some (.int (Int32.ofInt (ii))), some (.int (Int32.ofInt (s))), some (.int (Int32.ofInt (k))), some (.int (Int32.ofInt (y))), some (.int (Int32.ofInt (n))), c6], [], ml_mk h σ)) (show jw_cd cd_266 78 = some (.istore 5) by decide +kernel) rfl ?_
            refine jr_1 jm_266 (show jw_cd cd_266 80 = some (.aload_n 0) by decide +kernel) rfl ?_
            refine jr_1 jm_266 (show jw_cd cd_266 81 = some (.getfield 13) by decide +kernel) (mg_a hl (a := 17) (show jw_fld 34 13 16 = some 3 by decide +kernel) (by decide) (by decide)) ?_
            refine jr_1 jm_266 (show jw_cd cd_266 84 = some (.iload 4) by decide +kernel) rfl ?_
            refine jr_1 jm_266 (show jw_cd cd_266 86 = some (.iaload) by decide +kernel) (ma_i hl (i := y) (e := i.1) 3 (by omega) (by show _ < ((1740 : Nat) : Int); omega) e3 (by decide) (by decide) (by decide)) ?_
            refine jr_1 jm_266 (show jw_cd cd_266 87 = some (.iconst 5) by decide +kernel) rfl ?_
            refine jr_1 jm_266 (show jw_cd cd_266 88 = some (.if_icmp .eq 7) by decide +kernel) (mb_t (q := .eq) (a := i.1) (b := 5) (t := 95) (by show i.1 = 5; omega) ⟨by omega, by omega⟩ ⟨by omega, by omega⟩ (by decide) (by decide)) ?_
            refine jr_1 jm_266 (show jw_cd cd_266 95 = some (.iload 5) by decide +kernel) rfl ?_
            refine jr_1 jm_266 (show jw_cd cd_266 97 = some (.ifCond .ge 16) by decide +kernel) (mz_f (q := .ge) (a := n) (by show ¬ (0 ≤ n); omega) ⟨by omega, by omega⟩ (by decide)) ?_
            refine jr_1 jm_266 (show jw_cd cd_266 100 = some (.iload 5) by decide +kernel) rfl ?_
            refine jr_1 jm_266 (show jw_cd cd_266 102 = some (.aload_n 0) by decide +kernel) rfl ?_
            refine jr_1 jm_266 (show jw_cd cd_266 103 = some (.getfield 26) by decide +kernel) (mg_a hl (a := 21) (show jw_fld 34 26 16 = some 7 by decide +kernel) (by decide) (by decide)) ?_
            refine jr_1 jm_266 (show jw_cd cd_266 106 = some (.iload 4) by decide +kernel) rfl ?_
            refine jr_1 jm_266 (show jw_cd cd_266 108 = some (.iaload) by decide +kernel) (ma_i hl (i := y) (e := (fsz F : Int)) 7 (by omega) (by show _ < ((1740 : Nat) : Int); omega) e7 (by decide) (by decide) (by decide)) ?_
            refine jr_1 jm_266 (show jw_cd cd_266 109 = some (.iadd) by decide +kernel) (mt_add (c := n + ((fsz F : Int))) rfl) ?_
            refine jr_1 jm_266 (show jw_cd cd_266 110 = some (.goto 5) by decide +kernel) (ju_go (t := 115) (by decide)) ?_
            refine jr_1 jm_266 (F2 := (117, [some (.ref 15), some (.int (Int32.ofInt (ii))), some (.int (Int32.ofInt (s))), some (.int (Int32.ofInt (k))), some (.int (Int32.ofInt (y))), some (.int (Int32.ofInt (n))), some (.int (Int32.ofInt (n + ((fsz F : Int)))))], [], ml_mk h σ)) (show jw_cd cd_266 115 = some (.istore 6) by decide +kernel) rfl ?_
            refine jr_1 jm_266 (show jw_cd cd_266 117 = some (.aload_n 0) by decide +kernel) rfl ?_
            refine jr_1 jm_266 (show jw_cd cd_266 118 = some (.getfield 89) by decide +kernel) (mg_a hl (a := 42) (show jw_fld 34 89 16 = some 37 by decide +kernel) (by decide) (by decide)) ?_
            refine jr_1 jm_266 (show jw_cd cd_266 121 = some (.iload_n 3) by decide +kernel) rfl ?_
            refine jr_1 jm_266 (show jw_cd cd_266 122 = some (.iload 6) by decide +kernel) rfl ?_
            refine jr_1 jm_266 (show jw_cd cd_266 124 = some (.ifCond .lt 15) by decide +kernel) (mz_f (q := .lt) (a := n + ((fsz F : Int))) (by show ¬ (n + ((fsz F : Int)) < 0); omega) ⟨by omega, by omega⟩ (by decide)) ?_
            refine jr_1 jm_266 (show jw_cd cd_266 127 = some (.iload 6) by decide +kernel) rfl ?_
            refine jr_1 jm_266 (show jw_cd cd_266 129 = some (.aload_n 0) by decide +kernel) rfl ?_
            refine jr_1 jm_266 (show jw_cd cd_266 130 = some (.getfield 26) by decide +kernel) (mg_a hl (a := 21) (show jw_fld 34 26 16 = some 7 by decide +kernel) (by decide) (by decide)) ?_
            refine jr_1 jm_266 (show jw_cd cd_266 133 = some (.iload 4) by decide +kernel) rfl ?_
            refine jr_1 jm_266 (show jw_cd cd_266 135 = some (.iaload) by decide +kernel) (ma_i hl (i := y) (e := (fsz F : Int)) 7 (by omega) (by show _ < ((1740 : Nat) : Int); omega) e7 (by decide) (by decide) (by decide)) ?_
            refine jr_1 jm_266 (show jw_cd cd_266 136 = some (.if_icmp .lt 7) by decide +kernel) (mb_t (q := .lt) (a := n + ((fsz F : Int))) (b := (fsz F : Int)) (t := 143) (by show n + ((fsz F : Int)) < (fsz F : Int); omega) ⟨by omega, by omega⟩ ⟨by omega, by omega⟩ (by decide) (by decide)) ?_
            refine jr_1 jm_266 (show jw_cd cd_266 143 = some (.aload_n 0) by decide +kernel) rfl ?_
            refine jr_1 jm_266 (show jw_cd cd_266 144 = some (.iload 4) by decide +kernel) rfl ?_
            refine jr_1 jm_266 (show jw_cd cd_266 146 = some (.iload 6) by decide +kernel) rfl ?_
            refine jr_c jm_266 (show jw_cd cd_266 148 = some (.invokevirtual 277) by decide +kernel) (mc_v hl (n := 2) (m2 := 267) (bs := [.int (Int32.ofInt (y)), .int (Int32.ofInt (n + ((fsz F : Int))))]) (r := [.int (Int32.ofInt (k)), .ref 42]) (show jw_find jw_cvT 34 277 = some (2, [(16, 267)]) by decide +kernel) (by decide) rfl rfl rfl) jm_267 ⟨Nat.le_of_ble_eq_true rfl, by decide⟩ r1 ?_
            refine jr_1 jm_266 (show jw_cd cd_266 151 = some (.iastore) by decide +kernel) (ms_i hl (i := k) (x := w2) 37 (by omega) (by show _ < ((400 : Nat) : Int); omega) (by decide) (by decide) (by decide)) ?_
            exact kk
        · have hid : idxS n (i, F) = none := by
            unfold idxS
            rw [← hm, if_neg]
            rintro ⟨-, a, b⟩
            exact hin ⟨a, b⟩
          rw [hid]
          refine ⟨su σ 37 k (-1), some (.int (Int32.ofInt (y))), some (.int (Int32.ofInt (n))), some (.int (Int32.ofInt (m))), fun res kk => ?_, pkF_su σ k (-1), fun v hv => su_ni hv, by rw [su_eq]; exact rfl⟩
          rcases hmr with ⟨hm2, hn0⟩ | ⟨hm2, hn0⟩
          · subst hm2
            refine jr_1 jm_266 (show jw_cd cd_266 12 = some (.iload_n 3) by decide +kernel) rfl ?_
            refine jr_1 jm_266 (show jw_cd cd_266 13 = some (.aload_n 0) by decide +kernel) rfl ?_
            refine jr_1 jm_266 (show jw_cd cd_266 14 = some (.getfield 264) by decide +kernel) (mg_i hl (e := sl) e36 (show jw_fld 34 264 16 = some 36 by decide +kernel) (by decide) (by decide)) ?_
            refine jr_1 jm_266 (show jw_cd cd_266 17 = some (.if_icmp .ge 141) by decide +kernel) (mb_f (q := .ge) (a := k) (b := sl) (by show ¬ (sl ≤ k); omega) ⟨by omega, by omega⟩ ⟨by omega, by omega⟩ (by decide)) ?_
            refine jr_1 jm_266 (show jw_cd cd_266 20 = some (.aload_n 0) by decide +kernel) rfl ?_
            refine jr_1 jm_266 (show jw_cd cd_266 21 = some (.getfield 89) by decide +kernel) (mg_a hl (a := 42) (show jw_fld 34 89 16 = some 37 by decide +kernel) (by decide) (by decide)) ?_
            refine jr_1 jm_266 (show jw_cd cd_266 24 = some (.iload_n 3) by decide +kernel) rfl ?_
            refine jr_1 jm_266 (show jw_cd cd_266 25 = some (.iaload) by decide +kernel) (ma_i hl (i := k) (e := y) 37 (by omega) (by show _ < ((400 : Nat) : Int); omega) e37 (by decide) (by decide) (by decide)) ?_
            refine jr_1 jm_266 (F2 := (28, [some (.ref 15), some (.int (Int32.ofInt (ii))), some (.int (Int32.ofInt (s))), some (.int (Int32.ofInt (k))), some (.int (Int32.ofInt (y))), c5, c6], [], ml_mk h σ)) (show jw_cd cd_266 26 = some (.istore 4) by decide +kernel) rfl ?_
            refine jr_1 jm_266 (show jw_cd cd_266 28 = some (.iload 4) by decide +kernel) rfl ?_
            refine jr_1 jm_266 (show jw_cd cd_266 30 = some (.iconst (-1)) by decide +kernel) rfl ?_
            refine jr_1 jm_266 (show jw_cd cd_266 31 = some (.if_icmp .eq 33) by decide +kernel) (mb_f (q := .eq) (a := y) (b := -1) (by show ¬ (y = -1); omega) ⟨by omega, by omega⟩ ⟨by omega, by omega⟩ (by decide)) ?_
            refine jr_1 jm_266 (show jw_cd cd_266 34 = some (.aload_n 0) by decide +kernel) rfl ?_
            refine jr_1 jm_266 (show jw_cd cd_266 35 = some (.getfield 47) by decide +kernel) (mg_a hl (a := 28) (show jw_fld 34 47 16 = some 17 by decide +kernel) (by decide) (by decide)) ?_
            refine jr_1 jm_266 (show jw_cd cd_266 38 = some (.iload_n 1) by decide +kernel) rfl ?_
            refine jr_1 jm_266 (show jw_cd cd_266 39 = some (.iaload) by decide +kernel) (ma_i hl (i := ii) (e := e.1) 17 (by omega) (by show _ < ((1200 : Nat) : Int); omega) e17 (by decide) (by decide) (by decide)) ?_
            refine jr_1 jm_266 (show jw_cd cd_266 40 = some (.ifCond .ne 24) by decide +kernel) (mz_t (q := .ne) (a := e.1) (t := 64) (by show ¬ (e.1 = 0); omega) ⟨by omega, by omega⟩ (by decide) (by decide)) ?_
            refine jr_1 jm_266 (show jw_cd cd_266 64 = some (.iload 4) by decide +kernel) rfl ?_
            refine jr_1 jm_266 (show jw_cd cd_266 66 = some (.iconst (-1)) by decide +kernel) rfl ?_
            refine jr_1 jm_266 (show jw_cd cd_266 67 = some (.if_icmp .eq 85) by decide +kernel) (mb_f (q := .eq) (a := y) (b := -1) (by show ¬ (y = -1); omega) ⟨by omega, by omega⟩ ⟨by omega, by omega⟩ (by decide)) ?_
            refine jr_1 jm_266 (show jw_cd cd_266 70 = some (.aload_n 0) by decide +kernel) rfl ?_
            refine jr_1 jm_266 (show jw_cd cd_266 71 = some (.getfield 59) by decide +kernel) (mg_a hl (a := 32) (show jw_fld 34 59 16 = some 21 by decide +kernel) (by decide) (by decide)) ?_
            refine jr_1 jm_266 (show jw_cd cd_266 74 = some (.iconst 3) by decide +kernel) rfl ?_
            refine jr_1 jm_266 (show jw_cd cd_266 75 = some (.iload_n 2) by decide +kernel) rfl ?_
            refine jr_1 jm_266 (show jw_cd cd_266 76 = some (.imul) by decide +kernel) (mt_mul (c := 3 * s) rfl) ?_
            refine jr_1 jm_266 (show jw_cd cd_266 77 = some (.iaload) by decide +kernel) (ma_i hl (i := 3 * s) (e := m) 21 (by omega) (by show _ < ((432 : Nat) : Int); omega) e21 (by decide) (by decide) (by decide)) ?_
            refine jr_1 jm_266 (F2 := (80, [some (.ref 15), some (.int (Int32.ofInt (ii))), some (.int (Int32.ofInt (s))), some (.int (Int32.ofInt (k))), some (.int (Int32.ofInt (y))), some (.int (Int32.ofInt (m))), c6], [], ml_mk h σ)) (show jw_cd cd_266 78 = some (.istore 5) by decide +kernel) rfl ?_
            refine jr_1 jm_266 (show jw_cd cd_266 80 = some (.aload_n 0) by decide +kernel) rfl ?_
            refine jr_1 jm_266 (show jw_cd cd_266 81 = some (.getfield 13) by decide +kernel) (mg_a hl (a := 17) (show jw_fld 34 13 16 = some 3 by decide +kernel) (by decide) (by decide)) ?_
            refine jr_1 jm_266 (show jw_cd cd_266 84 = some (.iload 4) by decide +kernel) rfl ?_
            refine jr_1 jm_266 (show jw_cd cd_266 86 = some (.iaload) by decide +kernel) (ma_i hl (i := y) (e := i.1) 3 (by omega) (by show _ < ((1740 : Nat) : Int); omega) e3 (by decide) (by decide) (by decide)) ?_
            refine jr_1 jm_266 (show jw_cd cd_266 87 = some (.iconst 5) by decide +kernel) rfl ?_
            refine jr_1 jm_266 (show jw_cd cd_266 88 = some (.if_icmp .eq 7) by decide +kernel) (mb_t (q := .eq) (a := i.1) (b := 5) (t := 95) (by show i.1 = 5; omega) ⟨by omega, by omega⟩ ⟨by omega, by omega⟩ (by decide) (by decide)) ?_
            refine jr_1 jm_266 (show jw_cd cd_266 95 = some (.iload 5) by decide +kernel) rfl ?_
            refine jr_1 jm_266 (show jw_cd cd_266 97 = some (.ifCond .ge 16) by decide +kernel) (mz_t (q := .ge) (a := m) (t := 113) (by show 0 ≤ m; omega) ⟨by omega, by omega⟩ (by decide) (by decide)) ?_
            refine jr_1 jm_266 (show jw_cd cd_266 113 = some (.iload 5) by decide +kernel) rfl ?_
            refine jr_1 jm_266 (F2 := (117, [some (.ref 15), some (.int (Int32.ofInt (ii))), some (.int (Int32.ofInt (s))), some (.int (Int32.ofInt (k))), some (.int (Int32.ofInt (y))), some (.int (Int32.ofInt (m))), some (.int (Int32.ofInt (m)))], [], ml_mk h σ)) (show jw_cd cd_266 115 = some (.istore 6) by decide +kernel) rfl ?_
            refine jr_1 jm_266 (show jw_cd cd_266 117 = some (.aload_n 0) by decide +kernel) rfl ?_
            refine jr_1 jm_266 (show jw_cd cd_266 118 = some (.getfield 89) by decide +kernel) (mg_a hl (a := 42) (show jw_fld 34 89 16 = some 37 by decide +kernel) (by decide) (by decide)) ?_
            refine jr_1 jm_266 (show jw_cd cd_266 121 = some (.iload_n 3) by decide +kernel) rfl ?_
            refine jr_1 jm_266 (show jw_cd cd_266 122 = some (.iload 6) by decide +kernel) rfl ?_
            refine jr_1 jm_266 (show jw_cd cd_266 124 = some (.ifCond .lt 15) by decide +kernel) (mz_f (q := .lt) (a := m) (by show ¬ (m < 0); omega) ⟨by omega, by omega⟩ (by decide)) ?_
            refine jr_1 jm_266 (show jw_cd cd_266 127 = some (.iload 6) by decide +kernel) rfl ?_
            refine jr_1 jm_266 (show jw_cd cd_266 129 = some (.aload_n 0) by decide +kernel) rfl ?_
            refine jr_1 jm_266 (show jw_cd cd_266 130 = some (.getfield 26) by decide +kernel) (mg_a hl (a := 21) (show jw_fld 34 26 16 = some 7 by decide +kernel) (by decide) (by decide)) ?_
            refine jr_1 jm_266 (show jw_cd cd_266 133 = some (.iload 4) by decide +kernel) rfl ?_
            refine jr_1 jm_266 (show jw_cd cd_266 135 = some (.iaload) by decide +kernel) (ma_i hl (i := y) (e := (fsz F : Int)) 7 (by omega) (by show _ < ((1740 : Nat) : Int); omega) e7 (by decide) (by decide) (by decide)) ?_
            refine jr_1 jm_266 (show jw_cd cd_266 136 = some (.if_icmp .lt 7) by decide +kernel) (mb_f (q := .lt) (a := m) (b := (fsz F : Int)) (by show ¬ (m < (fsz F : Int)); omega) ⟨by omega, by omega⟩ ⟨by omega, by omega⟩ (by decide)) ?_
            refine jr_1 jm_266 (show jw_cd cd_266 139 = some (.iconst (-1)) by decide +kernel) rfl ?_
            refine jr_1 jm_266 (show jw_cd cd_266 140 = some (.goto 11) by decide +kernel) (ju_go (t := 151) (by decide)) ?_
            refine jr_1 jm_266 (show jw_cd cd_266 151 = some (.iastore) by decide +kernel) (ms_i hl (i := k) (x := -1) 37 (by omega) (by show _ < ((400 : Nat) : Int); omega) (by decide) (by decide) (by decide)) ?_
            exact kk
          · by_cases hlt : m < 0
            · subst hm2
              refine jr_1 jm_266 (show jw_cd cd_266 12 = some (.iload_n 3) by decide +kernel) rfl ?_
              refine jr_1 jm_266 (show jw_cd cd_266 13 = some (.aload_n 0) by decide +kernel) rfl ?_
              refine jr_1 jm_266 (show jw_cd cd_266 14 = some (.getfield 264) by decide +kernel) (mg_i hl (e := sl) e36 (show jw_fld 34 264 16 = some 36 by decide +kernel) (by decide) (by decide)) ?_
              refine jr_1 jm_266 (show jw_cd cd_266 17 = some (.if_icmp .ge 141) by decide +kernel) (mb_f (q := .ge) (a := k) (b := sl) (by show ¬ (sl ≤ k); omega) ⟨by omega, by omega⟩ ⟨by omega, by omega⟩ (by decide)) ?_
              refine jr_1 jm_266 (show jw_cd cd_266 20 = some (.aload_n 0) by decide +kernel) rfl ?_
              refine jr_1 jm_266 (show jw_cd cd_266 21 = some (.getfield 89) by decide +kernel) (mg_a hl (a := 42) (show jw_fld 34 89 16 = some 37 by decide +kernel) (by decide) (by decide)) ?_
              refine jr_1 jm_266 (show jw_cd cd_266 24 = some (.iload_n 3) by decide +kernel) rfl ?_
              refine jr_1 jm_266 (show jw_cd cd_266 25 = some (.iaload) by decide +kernel) (ma_i hl (i := k) (e := y) 37 (by omega) (by show _ < ((400 : Nat) : Int); omega) e37 (by decide) (by decide) (by decide)) ?_
              refine jr_1 jm_266 (F2 := (28, [some (.ref 15), some (.int (Int32.ofInt (ii))), some (.int (Int32.ofInt (s))), some (.int (Int32.ofInt (k))), some (.int (Int32.ofInt (y))), c5, c6], [], ml_mk h σ)) (show jw_cd cd_266 26 = some (.istore 4) by decide +kernel) rfl ?_
              refine jr_1 jm_266 (show jw_cd cd_266 28 = some (.iload 4) by decide +kernel) rfl ?_
              refine jr_1 jm_266 (show jw_cd cd_266 30 = some (.iconst (-1)) by decide +kernel) rfl ?_
              refine jr_1 jm_266 (show jw_cd cd_266 31 = some (.if_icmp .eq 33) by decide +kernel) (mb_f (q := .eq) (a := y) (b := -1) (by show ¬ (y = -1); omega) ⟨by omega, by omega⟩ ⟨by omega, by omega⟩ (by decide)) ?_
              refine jr_1 jm_266 (show jw_cd cd_266 34 = some (.aload_n 0) by decide +kernel) rfl ?_
              refine jr_1 jm_266 (show jw_cd cd_266 35 = some (.getfield 47) by decide +kernel) (mg_a hl (a := 28) (show jw_fld 34 47 16 = some 17 by decide +kernel) (by decide) (by decide)) ?_
              refine jr_1 jm_266 (show jw_cd cd_266 38 = some (.iload_n 1) by decide +kernel) rfl ?_
              refine jr_1 jm_266 (show jw_cd cd_266 39 = some (.iaload) by decide +kernel) (ma_i hl (i := ii) (e := e.1) 17 (by omega) (by show _ < ((1200 : Nat) : Int); omega) e17 (by decide) (by decide) (by decide)) ?_
              refine jr_1 jm_266 (show jw_cd cd_266 40 = some (.ifCond .ne 24) by decide +kernel) (mz_t (q := .ne) (a := e.1) (t := 64) (by show ¬ (e.1 = 0); omega) ⟨by omega, by omega⟩ (by decide) (by decide)) ?_
              refine jr_1 jm_266 (show jw_cd cd_266 64 = some (.iload 4) by decide +kernel) rfl ?_
              refine jr_1 jm_266 (show jw_cd cd_266 66 = some (.iconst (-1)) by decide +kernel) rfl ?_
              refine jr_1 jm_266 (show jw_cd cd_266 67 = some (.if_icmp .eq 85) by decide +kernel) (mb_f (q := .eq) (a := y) (b := -1) (by show ¬ (y = -1); omega) ⟨by omega, by omega⟩ ⟨by omega, by omega⟩ (by decide)) ?_
              refine jr_1 jm_266 (show jw_cd cd_266 70 = some (.aload_n 0) by decide +kernel) rfl ?_
              refine jr_1 jm_266 (show jw_cd cd_266 71 = some (.getfield 59) by decide +kernel) (mg_a hl (a := 32) (show jw_fld 34 59 16 = some 21 by decide +kernel) (by decide) (by decide)) ?_
              refine jr_1 jm_266 (show jw_cd cd_266 74 = some (.iconst 3) by decide +kernel) rfl ?_
              refine jr_1 jm_266 (show jw_cd cd_266 75 = some (.iload_n 2) by decide +kernel) rfl ?_
              refine jr_1 jm_266 (show jw_cd cd_266 76 = some (.imul) by decide +kernel) (mt_mul (c := 3 * s) rfl) ?_
              refine jr_1 jm_266 (show jw_cd cd_266 77 = some (.iaload) by decide +kernel) (ma_i hl (i := 3 * s) (e := n) 21 (by omega) (by show _ < ((432 : Nat) : Int); omega) e21 (by decide) (by decide) (by decide)) ?_
              refine jr_1 jm_266 (F2 := (80, [some (.ref 15), some (.int (Int32.ofInt (ii))), some (.int (Int32.ofInt (s))), some (.int (Int32.ofInt (k))), some (.int (Int32.ofInt (y))), some (.int (Int32.ofInt (n))), c6], [], ml_mk h σ)) (show jw_cd cd_266 78 = some (.istore 5) by decide +kernel) rfl ?_
              refine jr_1 jm_266 (show jw_cd cd_266 80 = some (.aload_n 0) by decide +kernel) rfl ?_
              refine jr_1 jm_266 (show jw_cd cd_266 81 = some (.getfield 13) by decide +kernel) (mg_a hl (a := 17) (show jw_fld 34 13 16 = some 3 by decide +kernel) (by decide) (by decide)) ?_
              refine jr_1 jm_266 (show jw_cd cd_266 84 = some (.iload 4) by decide +kernel) rfl ?_
              refine jr_1 jm_266 (show jw_cd cd_266 86 = some (.iaload) by decide +kernel) (ma_i hl (i := y) (e := i.1) 3 (by omega) (by show _ < ((1740 : Nat) : Int); omega) e3 (by decide) (by decide) (by decide)) ?_
              refine jr_1 jm_266 (show jw_cd cd_266 87 = some (.iconst 5) by decide +kernel) rfl ?_
              refine jr_1 jm_266 (show jw_cd cd_266 88 = some (.if_icmp .eq 7) by decide +kernel) (mb_t (q := .eq) (a := i.1) (b := 5) (t := 95) (by show i.1 = 5; omega) ⟨by omega, by omega⟩ ⟨by omega, by omega⟩ (by decide) (by decide)) ?_
              refine jr_1 jm_266 (show jw_cd cd_266 95 = some (.iload 5) by decide +kernel) rfl ?_
              refine jr_1 jm_266 (show jw_cd cd_266 97 = some (.ifCond .ge 16) by decide +kernel) (mz_f (q := .ge) (a := n) (by show ¬ (0 ≤ n); omega) ⟨by omega, by omega⟩ (by decide)) ?_
              refine jr_1 jm_266 (show jw_cd cd_266 100 = some (.iload 5) by decide +kernel) rfl ?_
              refine jr_1 jm_266 (show jw_cd cd_266 102 = some (.aload_n 0) by decide +kernel) rfl ?_
              refine jr_1 jm_266 (show jw_cd cd_266 103 = some (.getfield 26) by decide +kernel) (mg_a hl (a := 21) (show jw_fld 34 26 16 = some 7 by decide +kernel) (by decide) (by decide)) ?_
              refine jr_1 jm_266 (show jw_cd cd_266 106 = some (.iload 4) by decide +kernel) rfl ?_
              refine jr_1 jm_266 (show jw_cd cd_266 108 = some (.iaload) by decide +kernel) (ma_i hl (i := y) (e := (fsz F : Int)) 7 (by omega) (by show _ < ((1740 : Nat) : Int); omega) e7 (by decide) (by decide) (by decide)) ?_
              refine jr_1 jm_266 (show jw_cd cd_266 109 = some (.iadd) by decide +kernel) (mt_add (c := n + ((fsz F : Int))) rfl) ?_
              refine jr_1 jm_266 (show jw_cd cd_266 110 = some (.goto 5) by decide +kernel) (ju_go (t := 115) (by decide)) ?_
              refine jr_1 jm_266 (F2 := (117, [some (.ref 15), some (.int (Int32.ofInt (ii))), some (.int (Int32.ofInt (s))), some (.int (Int32.ofInt (k))), some (.int (Int32.ofInt (y))), some (.int (Int32.ofInt (n))), some (.int (Int32.ofInt (n + ((fsz F : Int)))))], [], ml_mk h σ)) (show jw_cd cd_266 115 = some (.istore 6) by decide +kernel) rfl ?_
              refine jr_1 jm_266 (show jw_cd cd_266 117 = some (.aload_n 0) by decide +kernel) rfl ?_
              refine jr_1 jm_266 (show jw_cd cd_266 118 = some (.getfield 89) by decide +kernel) (mg_a hl (a := 42) (show jw_fld 34 89 16 = some 37 by decide +kernel) (by decide) (by decide)) ?_
              refine jr_1 jm_266 (show jw_cd cd_266 121 = some (.iload_n 3) by decide +kernel) rfl ?_
              refine jr_1 jm_266 (show jw_cd cd_266 122 = some (.iload 6) by decide +kernel) rfl ?_
              refine jr_1 jm_266 (show jw_cd cd_266 124 = some (.ifCond .lt 15) by decide +kernel) (mz_t (q := .lt) (a := n + ((fsz F : Int))) (t := 139) (by show n + ((fsz F : Int)) < 0; omega) ⟨by omega, by omega⟩ (by decide) (by decide)) ?_
              refine jr_1 jm_266 (show jw_cd cd_266 139 = some (.iconst (-1)) by decide +kernel) rfl ?_
              refine jr_1 jm_266 (show jw_cd cd_266 140 = some (.goto 11) by decide +kernel) (ju_go (t := 151) (by decide)) ?_
              refine jr_1 jm_266 (show jw_cd cd_266 151 = some (.iastore) by decide +kernel) (ms_i hl (i := k) (x := -1) 37 (by omega) (by show _ < ((400 : Nat) : Int); omega) (by decide) (by decide) (by decide)) ?_
              exact kk
            · subst hm2
              refine jr_1 jm_266 (show jw_cd cd_266 12 = some (.iload_n 3) by decide +kernel) rfl ?_
              refine jr_1 jm_266 (show jw_cd cd_266 13 = some (.aload_n 0) by decide +kernel) rfl ?_
              refine jr_1 jm_266 (show jw_cd cd_266 14 = some (.getfield 264) by decide +kernel) (mg_i hl (e := sl) e36 (show jw_fld 34 264 16 = some 36 by decide +kernel) (by decide) (by decide)) ?_
              refine jr_1 jm_266 (show jw_cd cd_266 17 = some (.if_icmp .ge 141) by decide +kernel) (mb_f (q := .ge) (a := k) (b := sl) (by show ¬ (sl ≤ k); omega) ⟨by omega, by omega⟩ ⟨by omega, by omega⟩ (by decide)) ?_
              refine jr_1 jm_266 (show jw_cd cd_266 20 = some (.aload_n 0) by decide +kernel) rfl ?_
              refine jr_1 jm_266 (show jw_cd cd_266 21 = some (.getfield 89) by decide +kernel) (mg_a hl (a := 42) (show jw_fld 34 89 16 = some 37 by decide +kernel) (by decide) (by decide)) ?_
              refine jr_1 jm_266 (show jw_cd cd_266 24 = some (.iload_n 3) by decide +kernel) rfl ?_
              refine jr_1 jm_266 (show jw_cd cd_266 25 = some (.iaload) by decide +kernel) (ma_i hl (i := k) (e := y) 37 (by omega) (by show _ < ((400 : Nat) : Int); omega) e37 (by decide) (by decide) (by decide)) ?_
              refine jr_1 jm_266 (F2 := (28, [some (.ref 15), some (.int (Int32.ofInt (ii))), some (.int (Int32.ofInt (s))), some (.int (Int32.ofInt (k))), some (.int (Int32.ofInt (y))), c5, c6], [], ml_mk h σ)) (show jw_cd cd_266 26 = some (.istore 4) by decide +kernel) rfl ?_
              refine jr_1 jm_266 (show jw_cd cd_266 28 = some (.iload 4) by decide +kernel) rfl ?_
              refine jr_1 jm_266 (show jw_cd cd_266 30 = some (.iconst (-1)) by decide +kernel) rfl ?_
              refine jr_1 jm_266 (show jw_cd cd_266 31 = some (.if_icmp .eq 33) by decide +kernel) (mb_f (q := .eq) (a := y) (b := -1) (by show ¬ (y = -1); omega) ⟨by omega, by omega⟩ ⟨by omega, by omega⟩ (by decide)) ?_
              refine jr_1 jm_266 (show jw_cd cd_266 34 = some (.aload_n 0) by decide +kernel) rfl ?_
              refine jr_1 jm_266 (show jw_cd cd_266 35 = some (.getfield 47) by decide +kernel) (mg_a hl (a := 28) (show jw_fld 34 47 16 = some 17 by decide +kernel) (by decide) (by decide)) ?_
              refine jr_1 jm_266 (show jw_cd cd_266 38 = some (.iload_n 1) by decide +kernel) rfl ?_
              refine jr_1 jm_266 (show jw_cd cd_266 39 = some (.iaload) by decide +kernel) (ma_i hl (i := ii) (e := e.1) 17 (by omega) (by show _ < ((1200 : Nat) : Int); omega) e17 (by decide) (by decide) (by decide)) ?_
              refine jr_1 jm_266 (show jw_cd cd_266 40 = some (.ifCond .ne 24) by decide +kernel) (mz_t (q := .ne) (a := e.1) (t := 64) (by show ¬ (e.1 = 0); omega) ⟨by omega, by omega⟩ (by decide) (by decide)) ?_
              refine jr_1 jm_266 (show jw_cd cd_266 64 = some (.iload 4) by decide +kernel) rfl ?_
              refine jr_1 jm_266 (show jw_cd cd_266 66 = some (.iconst (-1)) by decide +kernel) rfl ?_
              refine jr_1 jm_266 (show jw_cd cd_266 67 = some (.if_icmp .eq 85) by decide +kernel) (mb_f (q := .eq) (a := y) (b := -1) (by show ¬ (y = -1); omega) ⟨by omega, by omega⟩ ⟨by omega, by omega⟩ (by decide)) ?_
              refine jr_1 jm_266 (show jw_cd cd_266 70 = some (.aload_n 0) by decide +kernel) rfl ?_
              refine jr_1 jm_266 (show jw_cd cd_266 71 = some (.getfield 59) by decide +kernel) (mg_a hl (a := 32) (show jw_fld 34 59 16 = some 21 by decide +kernel) (by decide) (by decide)) ?_
              refine jr_1 jm_266 (show jw_cd cd_266 74 = some (.iconst 3) by decide +kernel) rfl ?_
              refine jr_1 jm_266 (show jw_cd cd_266 75 = some (.iload_n 2) by decide +kernel) rfl ?_
              refine jr_1 jm_266 (show jw_cd cd_266 76 = some (.imul) by decide +kernel) (mt_mul (c := 3 * s) rfl) ?_
              refine jr_1 jm_266 (show jw_cd cd_266 77 = some (.iaload) by decide +kernel) (ma_i hl (i := 3 * s) (e := n) 21 (by omega) (by show _ < ((432 : Nat) : Int); omega) e21 (by decide) (by decide) (by decide)) ?_
              refine jr_1 jm_266 (F2 := (80, [some (.ref 15), some (.int (Int32.ofInt (ii))), some (.int (Int32.ofInt (s))), some (.int (Int32.ofInt (k))), some (.int (Int32.ofInt (y))), some (.int (Int32.ofInt (n))), c6], [], ml_mk h σ)) (show jw_cd cd_266 78 = some (.istore 5) by decide +kernel) rfl ?_
              refine jr_1 jm_266 (show jw_cd cd_266 80 = some (.aload_n 0) by decide +kernel) rfl ?_
              refine jr_1 jm_266 (show jw_cd cd_266 81 = some (.getfield 13) by decide +kernel) (mg_a hl (a := 17) (show jw_fld 34 13 16 = some 3 by decide +kernel) (by decide) (by decide)) ?_
              refine jr_1 jm_266 (show jw_cd cd_266 84 = some (.iload 4) by decide +kernel) rfl ?_
              refine jr_1 jm_266 (show jw_cd cd_266 86 = some (.iaload) by decide +kernel) (ma_i hl (i := y) (e := i.1) 3 (by omega) (by show _ < ((1740 : Nat) : Int); omega) e3 (by decide) (by decide) (by decide)) ?_
              refine jr_1 jm_266 (show jw_cd cd_266 87 = some (.iconst 5) by decide +kernel) rfl ?_
              refine jr_1 jm_266 (show jw_cd cd_266 88 = some (.if_icmp .eq 7) by decide +kernel) (mb_t (q := .eq) (a := i.1) (b := 5) (t := 95) (by show i.1 = 5; omega) ⟨by omega, by omega⟩ ⟨by omega, by omega⟩ (by decide) (by decide)) ?_
              refine jr_1 jm_266 (show jw_cd cd_266 95 = some (.iload 5) by decide +kernel) rfl ?_
              refine jr_1 jm_266 (show jw_cd cd_266 97 = some (.ifCond .ge 16) by decide +kernel) (mz_f (q := .ge) (a := n) (by show ¬ (0 ≤ n); omega) ⟨by omega, by omega⟩ (by decide)) ?_
              refine jr_1 jm_266 (show jw_cd cd_266 100 = some (.iload 5) by decide +kernel) rfl ?_
              refine jr_1 jm_266 (show jw_cd cd_266 102 = some (.aload_n 0) by decide +kernel) rfl ?_
              refine jr_1 jm_266 (show jw_cd cd_266 103 = some (.getfield 26) by decide +kernel) (mg_a hl (a := 21) (show jw_fld 34 26 16 = some 7 by decide +kernel) (by decide) (by decide)) ?_
              refine jr_1 jm_266 (show jw_cd cd_266 106 = some (.iload 4) by decide +kernel) rfl ?_
              refine jr_1 jm_266 (show jw_cd cd_266 108 = some (.iaload) by decide +kernel) (ma_i hl (i := y) (e := (fsz F : Int)) 7 (by omega) (by show _ < ((1740 : Nat) : Int); omega) e7 (by decide) (by decide) (by decide)) ?_
              refine jr_1 jm_266 (show jw_cd cd_266 109 = some (.iadd) by decide +kernel) (mt_add (c := n + ((fsz F : Int))) rfl) ?_
              refine jr_1 jm_266 (show jw_cd cd_266 110 = some (.goto 5) by decide +kernel) (ju_go (t := 115) (by decide)) ?_
              refine jr_1 jm_266 (F2 := (117, [some (.ref 15), some (.int (Int32.ofInt (ii))), some (.int (Int32.ofInt (s))), some (.int (Int32.ofInt (k))), some (.int (Int32.ofInt (y))), some (.int (Int32.ofInt (n))), some (.int (Int32.ofInt (n + ((fsz F : Int)))))], [], ml_mk h σ)) (show jw_cd cd_266 115 = some (.istore 6) by decide +kernel) rfl ?_
              refine jr_1 jm_266 (show jw_cd cd_266 117 = some (.aload_n 0) by decide +kernel) rfl ?_
              refine jr_1 jm_266 (show jw_cd cd_266 118 = some (.getfield 89) by decide +kernel) (mg_a hl (a := 42) (show jw_fld 34 89 16 = some 37 by decide +kernel) (by decide) (by decide)) ?_
              refine jr_1 jm_266 (show jw_cd cd_266 121 = some (.iload_n 3) by decide +kernel) rfl ?_
              refine jr_1 jm_266 (show jw_cd cd_266 122 = some (.iload 6) by decide +kernel) rfl ?_
              refine jr_1 jm_266 (show jw_cd cd_266 124 = some (.ifCond .lt 15) by decide +kernel) (mz_f (q := .lt) (a := n + ((fsz F : Int))) (by show ¬ (n + ((fsz F : Int)) < 0); omega) ⟨by omega, by omega⟩ (by decide)) ?_
              refine jr_1 jm_266 (show jw_cd cd_266 127 = some (.iload 6) by decide +kernel) rfl ?_
              refine jr_1 jm_266 (show jw_cd cd_266 129 = some (.aload_n 0) by decide +kernel) rfl ?_
              refine jr_1 jm_266 (show jw_cd cd_266 130 = some (.getfield 26) by decide +kernel) (mg_a hl (a := 21) (show jw_fld 34 26 16 = some 7 by decide +kernel) (by decide) (by decide)) ?_
              refine jr_1 jm_266 (show jw_cd cd_266 133 = some (.iload 4) by decide +kernel) rfl ?_
              refine jr_1 jm_266 (show jw_cd cd_266 135 = some (.iaload) by decide +kernel) (ma_i hl (i := y) (e := (fsz F : Int)) 7 (by omega) (by show _ < ((1740 : Nat) : Int); omega) e7 (by decide) (by decide) (by decide)) ?_
              refine jr_1 jm_266 (show jw_cd cd_266 136 = some (.if_icmp .lt 7) by decide +kernel) (mb_f (q := .lt) (a := n + ((fsz F : Int))) (b := (fsz F : Int)) (by show ¬ (n + ((fsz F : Int)) < (fsz F : Int)); omega) ⟨by omega, by omega⟩ ⟨by omega, by omega⟩ (by decide)) ?_
              refine jr_1 jm_266 (show jw_cd cd_266 139 = some (.iconst (-1)) by decide +kernel) rfl ?_
              refine jr_1 jm_266 (show jw_cd cd_266 140 = some (.goto 11) by decide +kernel) (ju_go (t := 151) (by decide)) ?_
              refine jr_1 jm_266 (show jw_cd cd_266 151 = some (.iastore) by decide +kernel) (ms_i hl (i := k) (x := -1) 37 (by omega) (by show _ < ((400 : Nat) : Int); omega) (by decide) (by decide) (by decide)) ?_
              exact kk
      · have hid : idxS n (i, F) = none := by
          unfold idxS
          rw [if_neg]
          rintro ⟨a, -, -⟩
          exact h5 a
        rw [hid]
        refine ⟨su σ 37 k (-1), some (.int (Int32.ofInt (y))), some (.int (Int32.ofInt (n))), some (.int (Int32.ofInt (-1))), fun res kk => ?_, pkF_su σ k (-1), fun v hv => su_ni hv, by rw [su_eq]; exact rfl⟩
        refine jr_1 jm_266 (show jw_cd cd_266 12 = some (.iload_n 3) by decide +kernel) rfl ?_
        refine jr_1 jm_266 (show jw_cd cd_266 13 = some (.aload_n 0) by decide +kernel) rfl ?_
        refine jr_1 jm_266 (show jw_cd cd_266 14 = some (.getfield 264) by decide +kernel) (mg_i hl (e := sl) e36 (show jw_fld 34 264 16 = some 36 by decide +kernel) (by decide) (by decide)) ?_
        refine jr_1 jm_266 (show jw_cd cd_266 17 = some (.if_icmp .ge 141) by decide +kernel) (mb_f (q := .ge) (a := k) (b := sl) (by show ¬ (sl ≤ k); omega) ⟨by omega, by omega⟩ ⟨by omega, by omega⟩ (by decide)) ?_
        refine jr_1 jm_266 (show jw_cd cd_266 20 = some (.aload_n 0) by decide +kernel) rfl ?_
        refine jr_1 jm_266 (show jw_cd cd_266 21 = some (.getfield 89) by decide +kernel) (mg_a hl (a := 42) (show jw_fld 34 89 16 = some 37 by decide +kernel) (by decide) (by decide)) ?_
        refine jr_1 jm_266 (show jw_cd cd_266 24 = some (.iload_n 3) by decide +kernel) rfl ?_
        refine jr_1 jm_266 (show jw_cd cd_266 25 = some (.iaload) by decide +kernel) (ma_i hl (i := k) (e := y) 37 (by omega) (by show _ < ((400 : Nat) : Int); omega) e37 (by decide) (by decide) (by decide)) ?_
        refine jr_1 jm_266 (F2 := (28, [some (.ref 15), some (.int (Int32.ofInt (ii))), some (.int (Int32.ofInt (s))), some (.int (Int32.ofInt (k))), some (.int (Int32.ofInt (y))), c5, c6], [], ml_mk h σ)) (show jw_cd cd_266 26 = some (.istore 4) by decide +kernel) rfl ?_
        refine jr_1 jm_266 (show jw_cd cd_266 28 = some (.iload 4) by decide +kernel) rfl ?_
        refine jr_1 jm_266 (show jw_cd cd_266 30 = some (.iconst (-1)) by decide +kernel) rfl ?_
        refine jr_1 jm_266 (show jw_cd cd_266 31 = some (.if_icmp .eq 33) by decide +kernel) (mb_f (q := .eq) (a := y) (b := -1) (by show ¬ (y = -1); omega) ⟨by omega, by omega⟩ ⟨by omega, by omega⟩ (by decide)) ?_
        refine jr_1 jm_266 (show jw_cd cd_266 34 = some (.aload_n 0) by decide +kernel) rfl ?_
        refine jr_1 jm_266 (show jw_cd cd_266 35 = some (.getfield 47) by decide +kernel) (mg_a hl (a := 28) (show jw_fld 34 47 16 = some 17 by decide +kernel) (by decide) (by decide)) ?_
        refine jr_1 jm_266 (show jw_cd cd_266 38 = some (.iload_n 1) by decide +kernel) rfl ?_
        refine jr_1 jm_266 (show jw_cd cd_266 39 = some (.iaload) by decide +kernel) (ma_i hl (i := ii) (e := e.1) 17 (by omega) (by show _ < ((1200 : Nat) : Int); omega) e17 (by decide) (by decide) (by decide)) ?_
        refine jr_1 jm_266 (show jw_cd cd_266 40 = some (.ifCond .ne 24) by decide +kernel) (mz_t (q := .ne) (a := e.1) (t := 64) (by show ¬ (e.1 = 0); omega) ⟨by omega, by omega⟩ (by decide) (by decide)) ?_
        refine jr_1 jm_266 (show jw_cd cd_266 64 = some (.iload 4) by decide +kernel) rfl ?_
        refine jr_1 jm_266 (show jw_cd cd_266 66 = some (.iconst (-1)) by decide +kernel) rfl ?_
        refine jr_1 jm_266 (show jw_cd cd_266 67 = some (.if_icmp .eq 85) by decide +kernel) (mb_f (q := .eq) (a := y) (b := -1) (by show ¬ (y = -1); omega) ⟨by omega, by omega⟩ ⟨by omega, by omega⟩ (by decide)) ?_
        refine jr_1 jm_266 (show jw_cd cd_266 70 = some (.aload_n 0) by decide +kernel) rfl ?_
        refine jr_1 jm_266 (show jw_cd cd_266 71 = some (.getfield 59) by decide +kernel) (mg_a hl (a := 32) (show jw_fld 34 59 16 = some 21 by decide +kernel) (by decide) (by decide)) ?_
        refine jr_1 jm_266 (show jw_cd cd_266 74 = some (.iconst 3) by decide +kernel) rfl ?_
        refine jr_1 jm_266 (show jw_cd cd_266 75 = some (.iload_n 2) by decide +kernel) rfl ?_
        refine jr_1 jm_266 (show jw_cd cd_266 76 = some (.imul) by decide +kernel) (mt_mul (c := 3 * s) rfl) ?_
        refine jr_1 jm_266 (show jw_cd cd_266 77 = some (.iaload) by decide +kernel) (ma_i hl (i := 3 * s) (e := n) 21 (by omega) (by show _ < ((432 : Nat) : Int); omega) e21 (by decide) (by decide) (by decide)) ?_
        refine jr_1 jm_266 (F2 := (80, [some (.ref 15), some (.int (Int32.ofInt (ii))), some (.int (Int32.ofInt (s))), some (.int (Int32.ofInt (k))), some (.int (Int32.ofInt (y))), some (.int (Int32.ofInt (n))), c6], [], ml_mk h σ)) (show jw_cd cd_266 78 = some (.istore 5) by decide +kernel) rfl ?_
        refine jr_1 jm_266 (show jw_cd cd_266 80 = some (.aload_n 0) by decide +kernel) rfl ?_
        refine jr_1 jm_266 (show jw_cd cd_266 81 = some (.getfield 13) by decide +kernel) (mg_a hl (a := 17) (show jw_fld 34 13 16 = some 3 by decide +kernel) (by decide) (by decide)) ?_
        refine jr_1 jm_266 (show jw_cd cd_266 84 = some (.iload 4) by decide +kernel) rfl ?_
        refine jr_1 jm_266 (show jw_cd cd_266 86 = some (.iaload) by decide +kernel) (ma_i hl (i := y) (e := i.1) 3 (by omega) (by show _ < ((1740 : Nat) : Int); omega) e3 (by decide) (by decide) (by decide)) ?_
        refine jr_1 jm_266 (show jw_cd cd_266 87 = some (.iconst 5) by decide +kernel) rfl ?_
        refine jr_1 jm_266 (show jw_cd cd_266 88 = some (.if_icmp .eq 7) by decide +kernel) (mb_f (q := .eq) (a := i.1) (b := 5) (by show ¬ (i.1 = 5); omega) ⟨by omega, by omega⟩ ⟨by omega, by omega⟩ (by decide)) ?_
        refine jr_1 jm_266 (show jw_cd cd_266 91 = some (.iconst (-1)) by decide +kernel) rfl ?_
        refine jr_1 jm_266 (show jw_cd cd_266 92 = some (.goto 23) by decide +kernel) (ju_go (t := 115) (by decide)) ?_
        refine jr_1 jm_266 (F2 := (117, [some (.ref 15), some (.int (Int32.ofInt (ii))), some (.int (Int32.ofInt (s))), some (.int (Int32.ofInt (k))), some (.int (Int32.ofInt (y))), some (.int (Int32.ofInt (n))), some (.int (Int32.ofInt (-1)))], [], ml_mk h σ)) (show jw_cd cd_266 115 = some (.istore 6) by decide +kernel) rfl ?_
        refine jr_1 jm_266 (show jw_cd cd_266 117 = some (.aload_n 0) by decide +kernel) rfl ?_
        refine jr_1 jm_266 (show jw_cd cd_266 118 = some (.getfield 89) by decide +kernel) (mg_a hl (a := 42) (show jw_fld 34 89 16 = some 37 by decide +kernel) (by decide) (by decide)) ?_
        refine jr_1 jm_266 (show jw_cd cd_266 121 = some (.iload_n 3) by decide +kernel) rfl ?_
        refine jr_1 jm_266 (show jw_cd cd_266 122 = some (.iload 6) by decide +kernel) rfl ?_
        refine jr_1 jm_266 (show jw_cd cd_266 124 = some (.ifCond .lt 15) by decide +kernel) (mz_t (q := .lt) (a := -1) (t := 139) (by show -1 < 0; omega) ⟨by omega, by omega⟩ (by decide) (by decide)) ?_
        refine jr_1 jm_266 (show jw_cd cd_266 139 = some (.iconst (-1)) by decide +kernel) rfl ?_
        refine jr_1 jm_266 (show jw_cd cd_266 140 = some (.goto 11) by decide +kernel) (ju_go (t := 151) (by decide)) ?_
        refine jr_1 jm_266 (show jw_cd cd_266 151 = some (.iastore) by decide +kernel) (ms_i hl (i := k) (x := -1) 37 (by omega) (by show _ < ((400 : Nat) : Int); omega) (by decide) (by decide) (by decide)) ?_
        exact kk
theorem jn_pc_out {β : Bool} {d : Nat} {h : jx_H} (hl : 49 ≤ h.length) {A B : Int → Prop} {ii s sl : Int} {e : sE} (hA : mIx A) (hB : mIx B) (hsl : sl ≤ 400) : ∀ (rest : List lT) (k : Int) (σ : mS) (c4 c5 c6 : Option Value), pkR σ ii s e → tpR σ A B k rest → (∀ t ∈ rest, ∀ v, t.2 = some v → vok v ∧ fct v.2 ≤ 390) → σ 36 0 = sl → k + rest.length = sl → 0 ≤ k →
    ∃ τ : mS, jx_r (jz β) jw_M (d + 1) 266 (12, [some (.ref 15), some (.int (Int32.ofInt (ii))), some (.int (Int32.ofInt (s))), some (.int (Int32.ofInt (k))), c4, c5, c6], [], ml_mk h σ) (ml_mk h (τ), .inl none) ∧ pkF σ τ k ∧ tpR τ A B k (mapV (pckS e) rest)
  | [], k, σ, c4, c5, c6, hP, hT, hv, e36, hb, hk => by
    have hb : k = sl := by simp at hb; exact hb
    refine ⟨σ, ?_, pkF_refl σ k, trivial⟩
    refine jr_1 jm_266 (show jw_cd cd_266 12 = some (.iload_n 3) by decide +kernel) rfl ?_
    refine jr_1 jm_266 (show jw_cd cd_266 13 = some (.aload_n 0) by decide +kernel) rfl ?_
    refine jr_1 jm_266 (show jw_cd cd_266 14 = some (.getfield 264) by decide +kernel) (mg_i hl (e := sl) e36 (show jw_fld 34 264 16 = some 36 by decide +kernel) (by decide) (by decide)) ?_
    refine jr_1 jm_266 (show jw_cd cd_266 17 = some (.if_icmp .ge 141) by decide +kernel) (mb_t (q := .ge) (a := k) (b := sl) (t := 158) (by show sl ≤ k; omega) ⟨by omega, by omega⟩ ⟨by omega, by omega⟩ (by decide) (by decide)) ?_
    exact jr_v jm_266 (show jw_cd cd_266 158 = some (.return_) by decide +kernel) rfl
  | (f0, x) :: rest, k, σ, c4, c5, c6, hP, hT, hv, e36, hb, hk => by
    have hlen : ((((f0, x) :: rest).length : Nat) : Int) = rest.length + 1 := by simp
    rw [hlen] at hb
    obtain ⟨τ1, d4, d5, d6, r1, r2, r3, r4⟩ := jn_pc_item (β := β) (d := d) (h := h) (x := x) (c4 := c4) (c5 := c5) (c6 := c6) hl hA hB hP hT.1.2 (hv (f0, x) (List.mem_cons_self ..)) e36 ⟨hk, by omega⟩ hsl
    obtain ⟨τ, y1, y2, y3⟩ := jn_pc_out (β := β) (d := d) (s := s) hl hA hB hsl rest (k + 1) τ1 d4 d5 d6 (pkR_fr r2 hP) (tpR_fr (fun w x hx => mO_pk r2 hx) rest (k + 1) (fun j j1 j2 => ⟨r3 j (by omega), by rw [r2.1 38 (by decide)]⟩) hT.2) (fun t ht => hv t (List.mem_cons_of_mem _ ht)) (by rw [r2.1 36 (by decide)]; exact e36) (by omega) (by omega)
    refine ⟨τ, ?_, ⟨fun f hf => (y2.1 f hf).trans (r2.1 f hf), fun v hv => (y2.2 v (by omega)).trans (r2.2 v hv)⟩, ⟨⟨?_, ?_⟩, y3⟩⟩
    · refine r1 _ ?_
      refine jr_1 jm_266 (F2 := (155, [some (.ref 15), some (.int (Int32.ofInt (ii))), some (.int (Int32.ofInt (s))), some (.int (Int32.ofInt (k + 1))), d4, d5, d6], [], ml_mk h τ1)) (show jw_cd cd_266 152 = some (.iinc 3 1) by decide +kernel) (mt_inc (a := k) (c := k + 1) rfl (by omega) rfl) ?_
      refine jr_1 jm_266 (show jw_cd cd_266 155 = some (.goto (-143)) by decide +kernel) (ju_go (t := 12) (by decide)) ?_
      exact y1
    · rw [y2.1 38 (by decide), r2.1 38 (by decide)]
      exact hT.1.1
    · rw [y2.2 k (by omega)]
      exact mO_pk y2 r4
theorem jn_picks {β : Bool} {d : Nat} {h : jx_H} {σ : mS} (hl : 49 ≤ h.length) {A B : Int → Prop} {ii s fi sl m : Int} {e : sE} {top : List lT} (hA : mIx A) (hB : mIx B) (hP : pkR σ ii s e) (hT : tpR σ A B fi top) (hv : ∀ t ∈ top, ∀ v, t.2 = some v → vok v ∧ fct v.2 ≤ 390) (e36 : σ 36 0 = sl) (e41 : σ 41 0 = m) (e40 : σ 40 (m - 1) = fi) (hm : 1 ≤ m ∧ m < 16) (hfi : 0 ≤ fi) (hb : fi + top.length = sl) (hsl : sl ≤ 400) :
    ∃ τ : mS, jx_r (jz β) jw_M (d + 1) 266 (0, [some (.ref 15), some (.int (Int32.ofInt (ii))), some (.int (Int32.ofInt (s))), none, none, none, none], [], ml_mk h σ) (ml_mk h (τ), .inl none) ∧ pkF σ τ fi ∧ tpR τ A B fi (mapV (pckS e) top) := by
  obtain ⟨m0, m1⟩ := hm
  obtain ⟨τ, y1, y2, y3⟩ := jn_pc_out (β := β) (d := d) (h := h) (s := s) hl hA hB hsl top fi σ none none none hP hT hv e36 hb hfi
  refine ⟨τ, ?_, y2, y3⟩
  refine jr_1 jm_266 (show jw_cd cd_266 0 = some (.aload_n 0) by decide +kernel) rfl ?_
  refine jr_1 jm_266 (show jw_cd cd_266 1 = some (.getfield 98) by decide +kernel) (mg_a hl (a := 45) (show jw_fld 34 98 16 = some 40 by decide +kernel) (by decide) (by decide)) ?_
  refine jr_1 jm_266 (show jw_cd cd_266 4 = some (.aload_n 0) by decide +kernel) rfl ?_
  refine jr_1 jm_266 (show jw_cd cd_266 5 = some (.getfield 283) by decide +kernel) (mg_i hl (e := m) e41 (show jw_fld 34 283 16 = some 41 by decide +kernel) (by decide) (by decide)) ?_
  refine jr_1 jm_266 (show jw_cd cd_266 8 = some (.iconst 1) by decide +kernel) rfl ?_
  refine jr_1 jm_266 (show jw_cd cd_266 9 = some (.isub) by decide +kernel) (mt_sub (c := m - 1) rfl) ?_
  refine jr_1 jm_266 (show jw_cd cd_266 10 = some (.iaload) by decide +kernel) (ma_i hl (i := m - 1) (e := fi) 40 (by omega) (by show _ < ((16 : Nat) : Int); omega) e40 (by decide) (by decide) (by decide)) ?_
  refine jr_1 jm_266 (F2 := (12, [some (.ref 15), some (.int (Int32.ofInt (ii))), some (.int (Int32.ofInt (s))), some (.int (Int32.ofInt (fi))), none, none, none], [], ml_mk h σ)) (show jw_cd cd_266 11 = some (.istore_n 3) by decide +kernel) rfl ?_
  exact y1
