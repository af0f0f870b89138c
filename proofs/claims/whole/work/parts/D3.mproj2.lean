/-! ===== project, its outer loop and its entry (printed by program: gen52.py) ===== -/
theorem su39 {σ : mS} {N p k x : Int} (hk : k < p) : pjF σ (su σ 39 k x) N p k := ⟨fun f v f1 f2 _ => su_nf (by omega), fun f v f1 f2 _ => su_nf (by omega), fun v hv => su_ni (by omega), fun f hf => su_row (by simp only [List.mem_cons, List.mem_nil_iff, or_false, not_or] at hf; omega), fun v => su_nf (by decide)⟩
theorem jn_pj_item {β : Bool} {d : Nat} {h : jx_H} {σ : mS} (hl : 49 ≤ h.length) {A B : Int → Prop} {s fi bh k p nn N : Int} {e : sE} {c6 c7 c8 : Option Value} (hA : ∀ v, A v → 0 ≤ v ∧ v < N) (hB : mIx B) (hn0 : 0 ≤ nn) (hN : N = 170 * 4 + nn) (hn1 : N + 1 < 1740) {x : Option vT} (hP : prR σ s e) (hx : mO σ A B (σ 37 k) x) (hv : ∀ v, x = some v → vok v ∧ fct v.2 ≤ 390) (e11 : σ 11 4 = nn) (e36 : σ 36 0 = p) (hk : 0 ≤ k ∧ k < bh) (hb : bh ≤ p) (hr : p + (selO e x).length ≤ 400) :
    ∃ (τ : mS) (c6' c7' c8' : Option Value), (∀ res, jx_r (jz β) jw_M (d + 3) 268 (204, [some (.ref 15), some (.int (Int32.ofInt (e.1))), some (.int (Int32.ofInt (s))), some (.int (Int32.ofInt (fi))), some (.int (Int32.ofInt (bh))), some (.int (Int32.ofInt (k))), c6', c7', c8'], [], ml_mk h τ) res → jx_r (jz β) jw_M (d + 3) 268 (44, [some (.ref 15), some (.int (Int32.ofInt (e.1))), some (.int (Int32.ofInt (s))), some (.int (Int32.ofInt (fi))), some (.int (Int32.ofInt (bh))), some (.int (Int32.ofInt (k))), c6, c7, c8], [], ml_mk h σ) res) ∧ pjF σ τ N p k ∧ τ 39 k = (if fitO e x = true then 1 else 2) ∧ τ 36 0 = p + (selO e x).length ∧ tpR τ A B p ((selO e x).map fun u => (k, some u)) := by
  obtain ⟨k0, k1⟩ := hk
  have hp4 : p ≤ 400 := by omega
  obtain ⟨y, hy⟩ : ∃ y, y = σ 37 k := ⟨_, rfl⟩
  have e37 : σ 37 k = y := hy.symm
  rw [e37] at hx
  obtain ⟨p1, p2⟩ := hP.1
  have hAN : ∀ v, A v → v < N := fun v hv => (hA v hv).2
  have hAx : mIx A := fun v hv => ⟨(hA v hv).1, by have := (hA v hv).2; omega⟩
  cases x with
  | none =>
    have hy1 : y = -1 := hx
    have hs : selO e none = [] := rfl
    have hf : ¬ fitO e none = true := fun z => by cases z
    refine ⟨su σ 39 k 2, some (.int (Int32.ofInt (y))), some (.int (Int32.ofInt (0))), some (.int (Int32.ofInt (-1))), fun res kk => ?_, su39 (by omega), by rw [if_neg hf, su_eq], by rw [su_nf (by decide), e36, hs]; simp, by rw [hs]; trivial⟩
    · skip
      refine jr_1 jm_268 (show jw_cd cd_268 44 = some (.iload 5) by decide +kernel) rfl ?_
      refine jr_1 jm_268 (show jw_cd cd_268 46 = some (.iload 4) by decide +kernel) rfl ?_
      refine jr_1 jm_268 (show jw_cd cd_268 48 = some (.if_icmp .ge 162) by decide +kernel) (mb_f (q := .ge) (a := k) (b := bh) (by show ¬ (bh ≤ k); omega) ⟨by omega, by omega⟩ ⟨by omega, by omega⟩ (by decide)) ?_
      refine jr_1 jm_268 (show jw_cd cd_268 51 = some (.aload_n 0) by decide +kernel) rfl ?_
      refine jr_1 jm_268 (show jw_cd cd_268 52 = some (.getfield 89) by decide +kernel) (mg_a hl (a := 42) (show jw_fld 34 89 16 = some 37 by decide +kernel) (by decide) (by decide)) ?_
      refine jr_1 jm_268 (show jw_cd cd_268 55 = some (.iload 5) by decide +kernel) rfl ?_
      refine jr_1 jm_268 (show jw_cd cd_268 57 = some (.iaload) by decide +kernel) (ma_i hl (i := k) (e := y) 37 (by omega) (by show _ < ((400 : Nat) : Int); omega) e37 (by decide) (by decide) (by decide)) ?_
      refine jr_1 jm_268 (F2 := (60, [some (.ref 15), some (.int (Int32.ofInt (e.1))), some (.int (Int32.ofInt (s))), some (.int (Int32.ofInt (fi))), some (.int (Int32.ofInt (bh))), some (.int (Int32.ofInt (k))), some (.int (Int32.ofInt (y))), c7, c8], [], ml_mk h σ)) (show jw_cd cd_268 58 = some (.istore 6) by decide +kernel) rfl ?_
      refine jr_1 jm_268 (show jw_cd cd_268 60 = some (.iload 6) by decide +kernel) rfl ?_
      refine jr_1 jm_268 (show jw_cd cd_268 62 = some (.iconst (-1)) by decide +kernel) rfl ?_
      refine jr_1 jm_268 (show jw_cd cd_268 63 = some (.if_icmp .eq 28) by decide +kernel) (mb_t (q := .eq) (a := y) (b := -1) (t := 91) (by show y = -1; omega) ⟨by omega, by omega⟩ ⟨by omega, by omega⟩ (by decide) (by decide)) ?_
      refine jr_1 jm_268 (show jw_cd cd_268 91 = some (.iconst 0) by decide +kernel) rfl ?_
      refine jr_1 jm_268 (F2 := (94, [some (.ref 15), some (.int (Int32.ofInt (e.1))), some (.int (Int32.ofInt (s))), some (.int (Int32.ofInt (fi))), some (.int (Int32.ofInt (bh))), some (.int (Int32.ofInt (k))), some (.int (Int32.ofInt (y))), some (.int (Int32.ofInt (0))), c8], [], ml_mk h σ)) (show jw_cd cd_268 92 = some (.istore 7) by decide +kernel) rfl ?_
      refine jr_1 jm_268 (show jw_cd cd_268 94 = some (.aload_n 0) by decide +kernel) rfl ?_
      refine jr_1 jm_268 (show jw_cd cd_268 95 = some (.getfield 95) by decide +kernel) (mg_a hl (a := 44) (show jw_fld 34 95 16 = some 39 by decide +kernel) (by decide) (by decide)) ?_
      refine jr_1 jm_268 (show jw_cd cd_268 98 = some (.iload 5) by decide +kernel) rfl ?_
      refine jr_1 jm_268 (show jw_cd cd_268 100 = some (.iload 7) by decide +kernel) rfl ?_
      refine jr_1 jm_268 (show jw_cd cd_268 102 = some (.ifCond .eq 7) by decide +kernel) (mz_t (q := .eq) (a := 0) (t := 109) (by show 0 = 0; omega) ⟨by omega, by omega⟩ (by decide) (by decide)) ?_
      refine jr_1 jm_268 (show jw_cd cd_268 109 = some (.iconst 2) by decide +kernel) rfl ?_
      refine jr_1 jm_268 (show jw_cd cd_268 110 = some (.iastore) by decide +kernel) (ms_i hl (i := k) (x := 2) 39 (by omega) (by show _ < ((400 : Nat) : Int); omega) (by decide) (by decide) (by decide)) ?_
      refine jr_1 jm_268 (show jw_cd cd_268 111 = some (.iload 7) by decide +kernel) rfl ?_
      refine jr_1 jm_268 (show jw_cd cd_268 113 = some (.ifCond .eq 17) by decide +kernel) (mz_t (q := .eq) (a := 0) (t := 130) (by show 0 = 0; omega) ⟨by omega, by omega⟩ (by decide) (by decide)) ?_
      refine jr_1 jm_268 (show jw_cd cd_268 130 = some (.iload 7) by decide +kernel) rfl ?_
      refine jr_1 jm_268 (show jw_cd cd_268 132 = some (.ifCond .eq 18) by decide +kernel) (mz_t (q := .eq) (a := 0) (t := 150) (by show 0 = 0; omega) ⟨by omega, by omega⟩ (by decide) (by decide)) ?_
      refine jr_1 jm_268 (show jw_cd cd_268 150 = some (.iconst (-1)) by decide +kernel) rfl ?_
      refine jr_1 jm_268 (F2 := (153, [some (.ref 15), some (.int (Int32.ofInt (e.1))), some (.int (Int32.ofInt (s))), some (.int (Int32.ofInt (fi))), some (.int (Int32.ofInt (bh))), some (.int (Int32.ofInt (k))), some (.int (Int32.ofInt (y))), some (.int (Int32.ofInt (0))), some (.int (Int32.ofInt (-1)))], [], ml_mk h (su σ 39 (k) (2)))) (show jw_cd cd_268 151 = some (.istore 8) by decide +kernel) rfl ?_
      refine jr_1 jm_268 (show jw_cd cd_268 153 = some (.iload 8) by decide +kernel) rfl ?_
      refine jr_1 jm_268 (show jw_cd cd_268 155 = some (.iconst (-1)) by decide +kernel) rfl ?_
      refine jr_1 jm_268 (show jw_cd cd_268 156 = some (.if_icmp .eq 48) by decide +kernel) (mb_t (q := .eq) (a := -1) (b := -1) (t := 204) (by show -1 = -1; omega) ⟨by omega, by omega⟩ ⟨by omega, by omega⟩ (by decide) (by decide)) ?_
      exact kk
  | some z =>
    obtain ⟨i, F⟩ := z
    have hV : mV σ A B y i F := hx
    obtain ⟨⟨hi, hF⟩, hc⟩ := hv (i, F) rfl
    have hc : fct F ≤ 390 := hc
    have i0 := hi.1
    have i6 := hi.2.1
    have i0 : 0 ≤ i.1 := i0
    have i6 : i.1 ≤ 6 := i6
    have hyr := hAx y hV.1
    have e3 : σ 3 y = i.1 := hV.2.1.1
    by_cases hf : fitP e i = true
    · have hs : selO e (some (i, F)) = selS e F := if_pos hf
      have hf' : i.1 = if e.1 = 3 then 6 else 5 := of_decide_eq_true hf
      have hfo : fitO e (some (i, F)) = true := hf
      rw [hs] at hr ⊢
      have f1 : pjF σ (su σ 39 k 1) N p k := su39 (by omega)
      have g36 : su σ 39 k 1 36 0 = p := (su_nf (by decide)).trans e36
      by_cases h5 : e.1 = 5
      · have hss : selS e F = slS e.2.2.1 F := by
          unfold selS
          rw [if_neg (by omega), if_pos h5]
        rw [hss] at hr ⊢
        obtain ⟨q1, q2, q3⟩ := (prR_pj f1 hP).2.2 h5
        obtain ⟨τ1, r1, r2, r3, r4⟩ := jn_slice (β := β) (d := d + 1) (h := h) (σ := su σ 39 k 1) (w := k) (p := p) hl hAx hB q1 q2 q3 (mO_pj (x := some (i, F)) f1 hAN hV) (by have := fsz_le F; omega) g36 (by omega) hr
        rw [if_neg (by omega)] at hf'
        refine ⟨τ1, some (.int (Int32.ofInt (y))), some (.int (Int32.ofInt (1))), some (.int (Int32.ofInt (-1))), fun res kk => ?_, pjF_trans f1 (pjF_en N r2 (t := k) (by omega)) (Int.le_refl p) (Int.le_refl k), ?_, r3, r4⟩
        rotate_left
        · rw [r2.1 39 k (by decide) (by decide) (by omega), if_pos hfo, su_eq]
        refine jr_1 jm_268 (show jw_cd cd_268 44 = some (.iload 5) by decide +kernel) rfl ?_
        refine jr_1 jm_268 (show jw_cd cd_268 46 = some (.iload 4) by decide +kernel) rfl ?_
        refine jr_1 jm_268 (show jw_cd cd_268 48 = some (.if_icmp .ge 162) by decide +kernel) (mb_f (q := .ge) (a := k) (b := bh) (by show ¬ (bh ≤ k); omega) ⟨by omega, by omega⟩ ⟨by omega, by omega⟩ (by decide)) ?_
        refine jr_1 jm_268 (show jw_cd cd_268 51 = some (.aload_n 0) by decide +kernel) rfl ?_
        refine jr_1 jm_268 (show jw_cd cd_268 52 = some (.getfield 89) by decide +kernel) (mg_a hl (a := 42) (show jw_fld 34 89 16 = some 37 by decide +kernel) (by decide) (by decide)) ?_
        refine jr_1 jm_268 (show jw_cd cd_268 55 = some (.iload 5) by decide +kernel) rfl ?_
        refine jr_1 jm_268 (show jw_cd cd_268 57 = some (.iaload) by decide +kernel) (ma_i hl (i := k) (e := y) 37 (by omega) (by show _ < ((400 : Nat) : Int); omega) e37 (by decide) (by decide) (by decide)) ?_
        refine jr_1 jm_268 (F2 := (60, [some (.ref 15), some (.int (Int32.ofInt (e.1))), some (.int (Int32.ofInt (s))), some (.int (Int32.ofInt (fi))), some (.int (Int32.ofInt (bh))), some (.int (Int32.ofInt (k))), some (.int (Int32.ofInt (y))), c7, c8], [], ml_mk h σ)) (show jw_cd cd_268 58 = some (.istore 6) by decide +kernel) rfl ?_
        refine jr_1 jm_268 (show jw_cd cd_268 60 = some (.iload 6) by decide +kernel) rfl ?_
        refine jr_1 jm_268 (show jw_cd cd_268 62 = some (.iconst (-1)) by decide +kernel) rfl ?_
        refine jr_1 jm_268 (show jw_cd cd_268 63 = some (.if_icmp .eq 28) by decide +kernel) (mb_f (q := .eq) (a := y) (b := -1) (by show ¬ (y = -1); omega) ⟨by omega, by omega⟩ ⟨by omega, by omega⟩ (by decide)) ?_
        refine jr_1 jm_268 (show jw_cd cd_268 66 = some (.aload_n 0) by decide +kernel) rfl ?_
        refine jr_1 jm_268 (show jw_cd cd_268 67 = some (.getfield 13) by decide +kernel) (mg_a hl (a := 17) (show jw_fld 34 13 16 = some 3 by decide +kernel) (by decide) (by decide)) ?_
        refine jr_1 jm_268 (show jw_cd cd_268 70 = some (.iload 6) by decide +kernel) rfl ?_
        refine jr_1 jm_268 (show jw_cd cd_268 72 = some (.iaload) by decide +kernel) (ma_i hl (i := y) (e := i.1) 3 (by omega) (by show _ < ((1740 : Nat) : Int); omega) e3 (by decide) (by decide) (by decide)) ?_
        refine jr_1 jm_268 (show jw_cd cd_268 73 = some (.iload_n 1) by decide +kernel) rfl ?_
        refine jr_1 jm_268 (show jw_cd cd_268 74 = some (.iconst 3) by decide +kernel) rfl ?_
        refine jr_1 jm_268 (show jw_cd cd_268 75 = some (.if_icmp .ne 8) by decide +kernel) (mb_t (q := .ne) (a := e.1) (b := 3) (t := 83) (by show ¬ (e.1 = 3); omega) ⟨by omega, by omega⟩ ⟨by omega, by omega⟩ (by decide) (by decide)) ?_
        refine jr_1 jm_268 (show jw_cd cd_268 83 = some (.iconst 5) by decide +kernel) rfl ?_
        refine jr_1 jm_268 (show jw_cd cd_268 84 = some (.if_icmp .ne 7) by decide +kernel) (mb_f (q := .ne) (a := i.1) (b := 5) (by show ¬ (¬ (i.1 = 5)); omega) ⟨by omega, by omega⟩ ⟨by omega, by omega⟩ (by decide)) ?_
        refine jr_1 jm_268 (show jw_cd cd_268 87 = some (.iconst 1) by decide +kernel) rfl ?_
        refine jr_1 jm_268 (show jw_cd cd_268 88 = some (.goto 4) by decide +kernel) (ju_go (t := 92) (by decide)) ?_
        refine jr_1 jm_268 (F2 := (94, [some (.ref 15), some (.int (Int32.ofInt (e.1))), some (.int (Int32.ofInt (s))), some (.int (Int32.ofInt (fi))), some (.int (Int32.ofInt (bh))), some (.int (Int32.ofInt (k))), some (.int (Int32.ofInt (y))), some (.int (Int32.ofInt (1))), c8], [], ml_mk h σ)) (show jw_cd cd_268 92 = some (.istore 7) by decide +kernel) rfl ?_
        refine jr_1 jm_268 (show jw_cd cd_268 94 = some (.aload_n 0) by decide +kernel) rfl ?_
        refine jr_1 jm_268 (show jw_cd cd_268 95 = some (.getfield 95) by decide +kernel) (mg_a hl (a := 44) (show jw_fld 34 95 16 = some 39 by decide +kernel) (by decide) (by decide)) ?_
        refine jr_1 jm_268 (show jw_cd cd_268 98 = some (.iload 5) by decide +kernel) rfl ?_
        refine jr_1 jm_268 (show jw_cd cd_268 100 = some (.iload 7) by decide +kernel) rfl ?_
        refine jr_1 jm_268 (show jw_cd cd_268 102 = some (.ifCond .eq 7) by decide +kernel) (mz_f (q := .eq) (a := 1) (by show ¬ (1 = 0); omega) ⟨by omega, by omega⟩ (by decide)) ?_
        refine jr_1 jm_268 (show jw_cd cd_268 105 = some (.iconst 1) by decide +kernel) rfl ?_
        refine jr_1 jm_268 (show jw_cd cd_268 106 = some (.goto 4) by decide +kernel) (ju_go (t := 110) (by decide)) ?_
        refine jr_1 jm_268 (show jw_cd cd_268 110 = some (.iastore) by decide +kernel) (ms_i hl (i := k) (x := 1) 39 (by omega) (by show _ < ((400 : Nat) : Int); omega) (by decide) (by decide) (by decide)) ?_
        refine jr_1 jm_268 (show jw_cd cd_268 111 = some (.iload 7) by decide +kernel) rfl ?_
        refine jr_1 jm_268 (show jw_cd cd_268 113 = some (.ifCond .eq 17) by decide +kernel) (mz_f (q := .eq) (a := 1) (by show ¬ (1 = 0); omega) ⟨by omega, by omega⟩ (by decide)) ?_
        refine jr_1 jm_268 (show jw_cd cd_268 116 = some (.iload_n 1) by decide +kernel) rfl ?_
        refine jr_1 jm_268 (show jw_cd cd_268 117 = some (.iconst 5) by decide +kernel) rfl ?_
        refine jr_1 jm_268 (show jw_cd cd_268 118 = some (.if_icmp .ne 12) by decide +kernel) (mb_f (q := .ne) (a := e.1) (b := 5) (by show ¬ (¬ (e.1 = 5)); omega) ⟨by omega, by omega⟩ ⟨by omega, by omega⟩ (by decide)) ?_
        refine jr_1 jm_268 (show jw_cd cd_268 121 = some (.aload_n 0) by decide +kernel) rfl ?_
        refine jr_1 jm_268 (show jw_cd cd_268 122 = some (.iload_n 2) by decide +kernel) rfl ?_
        refine jr_1 jm_268 (show jw_cd cd_268 123 = some (.iload 6) by decide +kernel) rfl ?_
        refine jr_1 jm_268 (show jw_cd cd_268 125 = some (.iload 5) by decide +kernel) rfl ?_
        refine jr_c jm_268 (show jw_cd cd_268 127 = some (.invokevirtual 286) by decide +kernel) (mc_v hl (n := 3) (m2 := 269) (bs := [.int (Int32.ofInt (s)), .int (Int32.ofInt (y)), .int (Int32.ofInt (k))]) (r := []) (show jw_find jw_cvT 34 286 = some (3, [(16, 269)]) by decide +kernel) (by decide) rfl rfl rfl) jm_269 ⟨Nat.le_of_ble_eq_true rfl, by decide⟩ r1 ?_
        refine jr_1 jm_268 (show jw_cd cd_268 130 = some (.iload 7) by decide +kernel) rfl ?_
        refine jr_1 jm_268 (show jw_cd cd_268 132 = some (.ifCond .eq 18) by decide +kernel) (mz_f (q := .eq) (a := 1) (by show ¬ (1 = 0); omega) ⟨by omega, by omega⟩ (by decide)) ?_
        refine jr_1 jm_268 (show jw_cd cd_268 135 = some (.iload_n 1) by decide +kernel) rfl ?_
        refine jr_1 jm_268 (show jw_cd cd_268 136 = some (.iconst 5) by decide +kernel) rfl ?_
        refine jr_1 jm_268 (show jw_cd cd_268 137 = some (.if_icmp .eq 13) by decide +kernel) (mb_t (q := .eq) (a := e.1) (b := 5) (t := 150) (by show e.1 = 5; omega) ⟨by omega, by omega⟩ ⟨by omega, by omega⟩ (by decide) (by decide)) ?_
        refine jr_1 jm_268 (show jw_cd cd_268 150 = some (.iconst (-1)) by decide +kernel) rfl ?_
        refine jr_1 jm_268 (F2 := (153, [some (.ref 15), some (.int (Int32.ofInt (e.1))), some (.int (Int32.ofInt (s))), some (.int (Int32.ofInt (fi))), some (.int (Int32.ofInt (bh))), some (.int (Int32.ofInt (k))), some (.int (Int32.ofInt (y))), some (.int (Int32.ofInt (1))), some (.int (Int32.ofInt (-1)))], [], ml_mk h τ1)) (show jw_cd cd_268 151 = some (.istore 8) by decide +kernel) rfl ?_
        refine jr_1 jm_268 (show jw_cd cd_268 153 = some (.iload 8) by decide +kernel) rfl ?_
        refine jr_1 jm_268 (show jw_cd cd_268 155 = some (.iconst (-1)) by decide +kernel) rfl ?_
        refine jr_1 jm_268 (show jw_cd cd_268 156 = some (.if_icmp .eq 48) by decide +kernel) (mb_t (q := .eq) (a := -1) (b := -1) (t := 204) (by show -1 = -1; omega) ⟨by omega, by omega⟩ ⟨by omega, by omega⟩ (by decide) (by decide)) ?_
        exact kk
      · rw [selI_S ⟨p1, by omega⟩] at hr ⊢
        obtain ⟨τ, r1, r2, r3, r4⟩ := jn_pj_in (β := β) (d := d) (s := s) (fi := fi) (bh := bh) (k := k) (v := y) hl hA hB hn0 hN hn1 F (σ 6 y) p (su σ 39 k 1) (prR_pj f1 hP) (mF_fr f1.1 (pjF_10 f1) hAN hV.2.2) hF hc (by rw [f1.2.2.2.2]; exact e11) g36 (by omega) hr
        refine ⟨τ, some (.int (Int32.ofInt (y))), some (.int (Int32.ofInt (1))), some (.int (Int32.ofInt (-1))), fun res kk => ?_, pjF_trans f1 r2 (Int.le_refl p) (by omega), ?_, r3, r4⟩
        rotate_left
        · rw [r2.2.2.1 k (by omega), if_pos hfo, su_eq]
        have r1 := r1 res kk
        by_cases h3 : e.1 = 3
        · rw [if_pos h3] at hf'
          refine jr_1 jm_268 (show jw_cd cd_268 44 = some (.iload 5) by decide +kernel) rfl ?_
          refine jr_1 jm_268 (show jw_cd cd_268 46 = some (.iload 4) by decide +kernel) rfl ?_
          refine jr_1 jm_268 (show jw_cd cd_268 48 = some (.if_icmp .ge 162) by decide +kernel) (mb_f (q := .ge) (a := k) (b := bh) (by show ¬ (bh ≤ k); omega) ⟨by omega, by omega⟩ ⟨by omega, by omega⟩ (by decide)) ?_
          refine jr_1 jm_268 (show jw_cd cd_268 51 = some (.aload_n 0) by decide +kernel) rfl ?_
          refine jr_1 jm_268 (show jw_cd cd_268 52 = some (.getfield 89) by decide +kernel) (mg_a hl (a := 42) (show jw_fld 34 89 16 = some 37 by decide +kernel) (by decide) (by decide)) ?_
          refine jr_1 jm_268 (show jw_cd cd_268 55 = some (.iload 5) by decide +kernel) rfl ?_
          refine jr_1 jm_268 (show jw_cd cd_268 57 = some (.iaload) by decide +kernel) (ma_i hl (i := k) (e := y) 37 (by omega) (by show _ < ((400 : Nat) : Int); omega) e37 (by decide) (by decide) (by decide)) ?_
          refine jr_1 jm_268 (F2 := (60, [some (.ref 15), some (.int (Int32.ofInt (e.1))), some (.int (Int32.ofInt (s))), some (.int (Int32.ofInt (fi))), some (.int (Int32.ofInt (bh))), some (.int (Int32.ofInt (k))), some (.int (Int32.ofInt (y))), c7, c8], [], ml_mk h σ)) (show jw_cd cd_268 58 = some (.istore 6) by decide +kernel) rfl ?_
          refine jr_1 jm_268 (show jw_cd cd_268 60 = some (.iload 6) by decide +kernel) rfl ?_
          refine jr_1 jm_268 (show jw_cd cd_268 62 = some (.iconst (-1)) by decide +kernel) rfl ?_
          refine jr_1 jm_268 (show jw_cd cd_268 63 = some (.if_icmp .eq 28) by decide +kernel) (mb_f (q := .eq) (a := y) (b := -1) (by show ¬ (y = -1); omega) ⟨by omega, by omega⟩ ⟨by omega, by omega⟩ (by decide)) ?_
          refine jr_1 jm_268 (show jw_cd cd_268 66 = some (.aload_n 0) by decide +kernel) rfl ?_
          refine jr_1 jm_268 (show jw_cd cd_268 67 = some (.getfield 13) by decide +kernel) (mg_a hl (a := 17) (show jw_fld 34 13 16 = some 3 by decide +kernel) (by decide) (by decide)) ?_
          refine jr_1 jm_268 (show jw_cd cd_268 70 = some (.iload 6) by decide +kernel) rfl ?_
          refine jr_1 jm_268 (show jw_cd cd_268 72 = some (.iaload) by decide +kernel) (ma_i hl (i := y) (e := i.1) 3 (by omega) (by show _ < ((1740 : Nat) : Int); omega) e3 (by decide) (by decide) (by decide)) ?_
          refine jr_1 jm_268 (show jw_cd cd_268 73 = some (.iload_n 1) by decide +kernel) rfl ?_
          refine jr_1 jm_268 (show jw_cd cd_268 74 = some (.iconst 3) by decide +kernel) rfl ?_
          refine jr_1 jm_268 (show jw_cd cd_268 75 = some (.if_icmp .ne 8) by decide +kernel) (mb_f (q := .ne) (a := e.1) (b := 3) (by show ¬ (¬ (e.1 = 3)); omega) ⟨by omega, by omega⟩ ⟨by omega, by omega⟩ (by decide)) ?_
          refine jr_1 jm_268 (show jw_cd cd_268 78 = some (.bipush 6) by decide +kernel) (mt_bi (by decide)) ?_
          refine jr_1 jm_268 (show jw_cd cd_268 80 = some (.goto 4) by decide +kernel) (ju_go (t := 84) (by decide)) ?_
          refine jr_1 jm_268 (show jw_cd cd_268 84 = some (.if_icmp .ne 7) by decide +kernel) (mb_f (q := .ne) (a := i.1) (b := 6) (by show ¬ (¬ (i.1 = 6)); omega) ⟨by omega, by omega⟩ ⟨by omega, by omega⟩ (by decide)) ?_
          refine jr_1 jm_268 (show jw_cd cd_268 87 = some (.iconst 1) by decide +kernel) rfl ?_
          refine jr_1 jm_268 (show jw_cd cd_268 88 = some (.goto 4) by decide +kernel) (ju_go (t := 92) (by decide)) ?_
          refine jr_1 jm_268 (F2 := (94, [some (.ref 15), some (.int (Int32.ofInt (e.1))), some (.int (Int32.ofInt (s))), some (.int (Int32.ofInt (fi))), some (.int (Int32.ofInt (bh))), some (.int (Int32.ofInt (k))), some (.int (Int32.ofInt (y))), some (.int (Int32.ofInt (1))), c8], [], ml_mk h σ)) (show jw_cd cd_268 92 = some (.istore 7) by decide +kernel) rfl ?_
          refine jr_1 jm_268 (show jw_cd cd_268 94 = some (.aload_n 0) by decide +kernel) rfl ?_
          refine jr_1 jm_268 (show jw_cd cd_268 95 = some (.getfield 95) by decide +kernel) (mg_a hl (a := 44) (show jw_fld 34 95 16 = some 39 by decide +kernel) (by decide) (by decide)) ?_
          refine jr_1 jm_268 (show jw_cd cd_268 98 = some (.iload 5) by decide +kernel) rfl ?_
          refine jr_1 jm_268 (show jw_cd cd_268 100 = some (.iload 7) by decide +kernel) rfl ?_
          refine jr_1 jm_268 (show jw_cd cd_268 102 = some (.ifCond .eq 7) by decide +kernel) (mz_f (q := .eq) (a := 1) (by show ¬ (1 = 0); omega) ⟨by omega, by omega⟩ (by decide)) ?_
          refine jr_1 jm_268 (show jw_cd cd_268 105 = some (.iconst 1) by decide +kernel) rfl ?_
          refine jr_1 jm_268 (show jw_cd cd_268 106 = some (.goto 4) by decide +kernel) (ju_go (t := 110) (by decide)) ?_
          refine jr_1 jm_268 (show jw_cd cd_268 110 = some (.iastore) by decide +kernel) (ms_i hl (i := k) (x := 1) 39 (by omega) (by show _ < ((400 : Nat) : Int); omega) (by decide) (by decide) (by decide)) ?_
          refine jr_1 jm_268 (show jw_cd cd_268 111 = some (.iload 7) by decide +kernel) rfl ?_
          refine jr_1 jm_268 (show jw_cd cd_268 113 = some (.ifCond .eq 17) by decide +kernel) (mz_f (q := .eq) (a := 1) (by show ¬ (1 = 0); omega) ⟨by omega, by omega⟩ (by decide)) ?_
          refine jr_1 jm_268 (show jw_cd cd_268 116 = some (.iload_n 1) by decide +kernel) rfl ?_
          refine jr_1 jm_268 (show jw_cd cd_268 117 = some (.iconst 5) by decide +kernel) rfl ?_
          refine jr_1 jm_268 (show jw_cd cd_268 118 = some (.if_icmp .ne 12) by decide +kernel) (mb_t (q := .ne) (a := e.1) (b := 5) (t := 130) (by show ¬ (e.1 = 5); omega) ⟨by omega, by omega⟩ ⟨by omega, by omega⟩ (by decide) (by decide)) ?_
          refine jr_1 jm_268 (show jw_cd cd_268 130 = some (.iload 7) by decide +kernel) rfl ?_
          refine jr_1 jm_268 (show jw_cd cd_268 132 = some (.ifCond .eq 18) by decide +kernel) (mz_f (q := .eq) (a := 1) (by show ¬ (1 = 0); omega) ⟨by omega, by omega⟩ (by decide)) ?_
          refine jr_1 jm_268 (show jw_cd cd_268 135 = some (.iload_n 1) by decide +kernel) rfl ?_
          refine jr_1 jm_268 (show jw_cd cd_268 136 = some (.iconst 5) by decide +kernel) rfl ?_
          refine jr_1 jm_268 (show jw_cd cd_268 137 = some (.if_icmp .eq 13) by decide +kernel) (mb_f (q := .eq) (a := e.1) (b := 5) (by show ¬ (e.1 = 5); omega) ⟨by omega, by omega⟩ ⟨by omega, by omega⟩ (by decide)) ?_
          refine jr_1 jm_268 (show jw_cd cd_268 140 = some (.aload_n 0) by decide +kernel) rfl ?_
          refine jr_1 jm_268 (show jw_cd cd_268 141 = some (.getfield 23) by decide +kernel) (mg_a hl (a := 20) (show jw_fld 34 23 16 = some 6 by decide +kernel) (by decide) (by decide)) ?_
          refine jr_1 jm_268 (show jw_cd cd_268 144 = some (.iload 6) by decide +kernel) rfl ?_
          refine jr_1 jm_268 (show jw_cd cd_268 146 = some (.iaload) by decide +kernel) (ma_i hl (i := y) (e := σ 6 (y)) 6 (by omega) (by show _ < ((1740 : Nat) : Int); omega) (su_nf (by decide)) (by decide) (by decide) (by decide)) ?_
          refine jr_1 jm_268 (show jw_cd cd_268 147 = some (.goto 4) by decide +kernel) (ju_go (t := 151) (by decide)) ?_
          refine jr_1 jm_268 (F2 := (153, [some (.ref 15), some (.int (Int32.ofInt (e.1))), some (.int (Int32.ofInt (s))), some (.int (Int32.ofInt (fi))), some (.int (Int32.ofInt (bh))), some (.int (Int32.ofInt (k))), some (.int (Int32.ofInt (y))), some (.int (Int32.ofInt (1))), some (.int (Int32.ofInt (σ 6 (y))))], [], ml_mk h (su σ 39 (k) (1)))) (show jw_cd cd_268 151 = some (.istore 8) by decide +kernel) rfl ?_
          exact r1
        · rw [if_neg h3] at hf'
          refine jr_1 jm_268 (show jw_cd cd_268 44 = some (.iload 5) by decide +kernel) rfl ?_
          refine jr_1 jm_268 (show jw_cd cd_268 46 = some (.iload 4) by decide +kernel) rfl ?_
          refine jr_1 jm_268 (show jw_cd cd_268 48 = some (.if_icmp .ge 162) by decide +kernel) (mb_f (q := .ge) (a := k) (b := bh) (by show ¬ (bh ≤ k); omega) ⟨by omega, by omega⟩ ⟨by omega, by omega⟩ (by decide)) ?_
          refine jr_1 jm_268 (show jw_cd cd_268 51 = some (.aload_n 0) by decide +kernel) rfl ?_
          refine jr_1 jm_268 (show jw_cd cd_268 52 = some (.getfield 89) by decide +kernel) (mg_a hl (a := 42) (show jw_fld 34 89 16 = some 37 by decide +kernel) (by decide) (by decide)) ?_
          refine jr_1 jm_268 (show jw_cd cd_268 55 = some (.iload 5) by decide +kernel) rfl ?_
          refine jr_1 jm_268 (show jw_cd cd_268 57 = some (.iaload) by decide +kernel) (ma_i hl (i := k) (e := y) 37 (by omega) (by show _ < ((400 : Nat) : Int); omega) e37 (by decide) (by decide) (by decide)) ?_
          refine jr_1 jm_268 (F2 := (60, [some (.ref 15), some (.int (Int32.ofInt (e.1))), some (.int (Int32.ofInt (s))), some (.int (Int32.ofInt (fi))), some (.int (Int32.ofInt (bh))), some (.int (Int32.ofInt (k))), some (.int (Int32.ofInt (y))), c7, c8], [], ml_mk h σ)) (show jw_cd cd_268 58 = some (.istore 6) by decide +kernel) rfl ?_
          refine jr_1 jm_268 (show jw_cd cd_268 60 = some (.iload 6) by decide +kernel) rfl ?_
          refine jr_1 jm_268 (show jw_cd cd_268 62 = some (.iconst (-1)) by decide +kernel) rfl ?_
          refine jr_1 jm_268 (show jw_cd cd_268 63 = some (.if_icmp .eq 28) by decide +kernel) (mb_f (q := .eq) (a := y) (b := -1) (by show ¬ (y = -1); omega) ⟨by omega, by omega⟩ ⟨by omega, by omega⟩ (by decide)) ?_
          refine jr_1 jm_268 (show jw_cd cd_268 66 = some (.aload_n 0) by decide +kernel) rfl ?_
          refine jr_1 jm_268 (show jw_cd cd_268 67 = some (.getfield 13) by decide +kernel) (mg_a hl (a := 17) (show jw_fld 34 13 16 = some 3 by decide +kernel) (by decide) (by decide)) ?_
          refine jr_1 jm_268 (show jw_cd cd_268 70 = some (.iload 6) by decide +kernel) rfl ?_
          refine jr_1 jm_268 (show jw_cd cd_268 72 = some (.iaload) by decide +kernel) (ma_i hl (i := y) (e := i.1) 3 (by omega) (by show _ < ((1740 : Nat) : Int); omega) e3 (by decide) (by decide) (by decide)) ?_
          refine jr_1 jm_268 (show jw_cd cd_268 73 = some (.iload_n 1) by decide +kernel) rfl ?_
          refine jr_1 jm_268 (show jw_cd cd_268 74 = some (.iconst 3) by decide +kernel) rfl ?_
          refine jr_1 jm_268 (show jw_cd cd_268 75 = some (.if_icmp .ne 8) by decide +kernel) (mb_t (q := .ne) (a := e.1) (b := 3) (t := 83) (by show ¬ (e.1 = 3); omega) ⟨by omega, by omega⟩ ⟨by omega, by omega⟩ (by decide) (by decide)) ?_
          refine jr_1 jm_268 (show jw_cd cd_268 83 = some (.iconst 5) by decide +kernel) rfl ?_
          refine jr_1 jm_268 (show jw_cd cd_268 84 = some (.if_icmp .ne 7) by decide +kernel) (mb_f (q := .ne) (a := i.1) (b := 5) (by show ¬ (¬ (i.1 = 5)); omega) ⟨by omega, by omega⟩ ⟨by omega, by omega⟩ (by decide)) ?_
          refine jr_1 jm_268 (show jw_cd cd_268 87 = some (.iconst 1) by decide +kernel) rfl ?_
          refine jr_1 jm_268 (show jw_cd cd_268 88 = some (.goto 4) by decide +kernel) (ju_go (t := 92) (by decide)) ?_
          refine jr_1 jm_268 (F2 := (94, [some (.ref 15), some (.int (Int32.ofInt (e.1))), some (.int (Int32.ofInt (s))), some (.int (Int32.ofInt (fi))), some (.int (Int32.ofInt (bh))), some (.int (Int32.ofInt (k))), some (.int (Int32.ofInt (y))), some (.int (Int32.ofInt (1))), c8], [], ml_mk h σ)) (show jw_cd cd_268 92 = some (.istore 7) by decide +kernel) rfl ?_
          refine jr_1 jm_268 (show jw_cd cd_268 94 = some (.aload_n 0) by decide +kernel) rfl ?_
          refine jr_1 jm_268 (show jw_cd cd_268 95 = some (.getfield 95) by decide +kernel) (mg_a hl (a := 44) (show jw_fld 34 95 16 = some 39 by decide +kernel) (by decide) (by decide)) ?_
          refine jr_1 jm_268 (show jw_cd cd_268 98 = some (.iload 5) by decide +kernel) rfl ?_
          refine jr_1 jm_268 (show jw_cd cd_268 100 = some (.iload 7) by decide +kernel) rfl ?_
          refine jr_1 jm_268 (show jw_cd cd_268 102 = some (.ifCond .eq 7) by decide +kernel) (mz_f (q := .eq) (a := 1) (by show ¬ (1 = 0); omega) ⟨by omega, by omega⟩ (by decide)) ?_
          refine jr_1 jm_268 (show jw_cd cd_268 105 = some (.iconst 1) by decide +kernel) rfl ?_
          refine jr_1 jm_268 (show jw_cd cd_268 106 = some (.goto 4) by decide +kernel) (ju_go (t := 110) (by decide)) ?_
          refine jr_1 jm_268 (show jw_cd cd_268 110 = some (.iastore) by decide +kernel) (ms_i hl (i := k) (x := 1) 39 (by omega) (by show _ < ((400 : Nat) : Int); omega) (by decide) (by decide) (by decide)) ?_
          refine jr_1 jm_268 (show jw_cd cd_268 111 = some (.iload 7) by decide +kernel) rfl ?_
          refine jr_1 jm_268 (show jw_cd cd_268 113 = some (.ifCond .eq 17) by decide +kernel) (mz_f (q := .eq) (a := 1) (by show ¬ (1 = 0); omega) ⟨by omega, by omega⟩ (by decide)) ?_
          refine jr_1 jm_268 (show jw_cd cd_268 116 = some (.iload_n 1) by decide +kernel) rfl ?_
          refine jr_1 jm_268 (show jw_cd cd_268 117 = some (.iconst 5) by decide +kernel) rfl ?_
          refine jr_1 jm_268 (show jw_cd cd_268 118 = some (.if_icmp .ne 12) by decide +kernel) (mb_t (q := .ne) (a := e.1) (b := 5) (t := 130) (by show ¬ (e.1 = 5); omega) ⟨by omega, by omega⟩ ⟨by omega, by omega⟩ (by decide) (by decide)) ?_
          refine jr_1 jm_268 (show jw_cd cd_268 130 = some (.iload 7) by decide +kernel) rfl ?_
          refine jr_1 jm_268 (show jw_cd cd_268 132 = some (.ifCond .eq 18) by decide +kernel) (mz_f (q := .eq) (a := 1) (by show ¬ (1 = 0); omega) ⟨by omega, by omega⟩ (by decide)) ?_
          refine jr_1 jm_268 (show jw_cd cd_268 135 = some (.iload_n 1) by decide +kernel) rfl ?_
          refine jr_1 jm_268 (show jw_cd cd_268 136 = some (.iconst 5) by decide +kernel) rfl ?_
          refine jr_1 jm_268 (show jw_cd cd_268 137 = some (.if_icmp .eq 13) by decide +kernel) (mb_f (q := .eq) (a := e.1) (b := 5) (by show ¬ (e.1 = 5); omega) ⟨by omega, by omega⟩ ⟨by omega, by omega⟩ (by decide)) ?_
          refine jr_1 jm_268 (show jw_cd cd_268 140 = some (.aload_n 0) by decide +kernel) rfl ?_
          refine jr_1 jm_268 (show jw_cd cd_268 141 = some (.getfield 23) by decide +kernel) (mg_a hl (a := 20) (show jw_fld 34 23 16 = some 6 by decide +kernel) (by decide) (by decide)) ?_
          refine jr_1 jm_268 (show jw_cd cd_268 144 = some (.iload 6) by decide +kernel) rfl ?_
          refine jr_1 jm_268 (show jw_cd cd_268 146 = some (.iaload) by decide +kernel) (ma_i hl (i := y) (e := σ 6 (y)) 6 (by omega) (by show _ < ((1740 : Nat) : Int); omega) (su_nf (by decide)) (by decide) (by decide) (by decide)) ?_
          refine jr_1 jm_268 (show jw_cd cd_268 147 = some (.goto 4) by decide +kernel) (ju_go (t := 151) (by decide)) ?_
          refine jr_1 jm_268 (F2 := (153, [some (.ref 15), some (.int (Int32.ofInt (e.1))), some (.int (Int32.ofInt (s))), some (.int (Int32.ofInt (fi))), some (.int (Int32.ofInt (bh))), some (.int (Int32.ofInt (k))), some (.int (Int32.ofInt (y))), some (.int (Int32.ofInt (1))), some (.int (Int32.ofInt (σ 6 (y))))], [], ml_mk h (su σ 39 (k) (1)))) (show jw_cd cd_268 151 = some (.istore 8) by decide +kernel) rfl ?_
          exact r1
    · have hs : selO e (some (i, F)) = [] := if_neg hf
      have hf' : ¬ i.1 = if e.1 = 3 then 6 else 5 := fun z => hf (decide_eq_true z)
      have hfo : ¬ fitO e (some (i, F)) = true := hf
      refine ⟨su σ 39 k 2, some (.int (Int32.ofInt (y))), some (.int (Int32.ofInt (0))), some (.int (Int32.ofInt (-1))), fun res kk => ?_, su39 (by omega), by rw [if_neg hfo, su_eq], by rw [su_nf (by decide), e36, hs]; simp, by rw [hs]; trivial⟩
      by_cases h3 : e.1 = 3
      · rw [if_pos h3] at hf'
        refine jr_1 jm_268 (show jw_cd cd_268 44 = some (.iload 5) by decide +kernel) rfl ?_
        refine jr_1 jm_268 (show jw_cd cd_268 46 = some (.iload 4) by decide +kernel) rfl ?_
        refine jr_1 jm_268 (show jw_cd cd_268 48 = some (.if_icmp .ge 162) by decide +kernel) (mb_f (q := .ge) (a := k) (b := bh) (by show ¬ (bh ≤ k); omega) ⟨by omega, by omega⟩ ⟨by omega, by omega⟩ (by decide)) ?_
        refine jr_1 jm_268 (show jw_cd cd_268 51 = some (.aload_n 0) by decide +kernel) rfl ?_
        refine jr_1 jm_268 (show jw_cd cd_268 52 = some (.getfield 89) by decide +kernel) (mg_a hl (a := 42) (show jw_fld 34 89 16 = some 37 by decide +kernel) (by decide) (by decide)) ?_
        refine jr_1 jm_268 (show jw_cd cd_268 55 = some (.iload 5) by decide +kernel) rfl ?_
        refine jr_1 jm_268 (show jw_cd cd_268 57 = some (.iaload) by decide +kernel) (ma_i hl (i := k) (e := y) 37 (by omega) (by show _ < ((400 : Nat) : Int); omega) e37 (by decide) (by decide) (by decide)) ?_
        refine jr_1 jm_268 (F2 := (60, [some (.ref 15), some (.int (Int32.ofInt (e.1))), some (.int (Int32.ofInt (s))), some (.int (Int32.ofInt (fi))), some (.int (Int32.ofInt (bh))), some (.int (Int32.ofInt (k))), some (.int (Int32.ofInt (y))), c7, c8], [], ml_mk h σ)) (show jw_cd cd_268 58 = some (.istore 6) by decide +kernel) rfl ?_
        refine jr_1 jm_268 (show jw_cd cd_268 60 = some (.iload 6) by decide +kernel) rfl ?_
        refine jr_1 jm_268 (show jw_cd cd_268 62 = some (.iconst (-1)) by decide +kernel) rfl ?_
        refine jr_1 jm_268 (show jw_cd cd_268 63 = some (.if_icmp .eq 28) by decide +kernel) (mb_f (q := .eq) (a := y) (b := -1) (by show ¬ (y = -1); omega) ⟨by omega, by omega⟩ ⟨by omega, by omega⟩ (by decide)) ?_
        refine jr_1 jm_268 (show jw_cd cd_268 66 = some (.aload_n 0) by decide +kernel) rfl ?_
        refine jr_1 jm_268 (show jw_cd cd_268 67 = some (.getfield 13) by decide +kernel) (mg_a hl (a := 17) (show jw_fld 34 13 16 = some 3 by decide +kernel) (by decide) (by decide)) ?_
        refine jr_1 jm_268 (show jw_cd cd_268 70 = some (.iload 6) by decide +kernel) rfl ?_
        refine jr_1 jm_268 (show jw_cd cd_268 72 = some (.iaload) by decide +kernel) (ma_i hl (i := y) (e := i.1) 3 (by omega) (by show _ < ((1740 : Nat) : Int); omega) e3 (by decide) (by decide) (by decide)) ?_
        refine jr_1 jm_268 (show jw_cd cd_268 73 = some (.iload_n 1) by decide +kernel) rfl ?_
        refine jr_1 jm_268 (show jw_cd cd_268 74 = some (.iconst 3) by decide +kernel) rfl ?_
        refine jr_1 jm_268 (show jw_cd cd_268 75 = some (.if_icmp .ne 8) by decide +kernel) (mb_f (q := .ne) (a := e.1) (b := 3) (by show ¬ (¬ (e.1 = 3)); omega) ⟨by omega, by omega⟩ ⟨by omega, by omega⟩ (by decide)) ?_
        refine jr_1 jm_268 (show jw_cd cd_268 78 = some (.bipush 6) by decide +kernel) (mt_bi (by decide)) ?_
        refine jr_1 jm_268 (show jw_cd cd_268 80 = some (.goto 4) by decide +kernel) (ju_go (t := 84) (by decide)) ?_
        refine jr_1 jm_268 (show jw_cd cd_268 84 = some (.if_icmp .ne 7) by decide +kernel) (mb_t (q := .ne) (a := i.1) (b := 6) (t := 91) (by show ¬ (i.1 = 6); omega) ⟨by omega, by omega⟩ ⟨by omega, by omega⟩ (by decide) (by decide)) ?_
        refine jr_1 jm_268 (show jw_cd cd_268 91 = some (.iconst 0) by decide +kernel) rfl ?_
        refine jr_1 jm_268 (F2 := (94, [some (.ref 15), some (.int (Int32.ofInt (e.1))), some (.int (Int32.ofInt (s))), some (.int (Int32.ofInt (fi))), some (.int (Int32.ofInt (bh))), some (.int (Int32.ofInt (k))), some (.int (Int32.ofInt (y))), some (.int (Int32.ofInt (0))), c8], [], ml_mk h σ)) (show jw_cd cd_268 92 = some (.istore 7) by decide +kernel) rfl ?_
        refine jr_1 jm_268 (show jw_cd cd_268 94 = some (.aload_n 0) by decide +kernel) rfl ?_
        refine jr_1 jm_268 (show jw_cd cd_268 95 = some (.getfield 95) by decide +kernel) (mg_a hl (a := 44) (show jw_fld 34 95 16 = some 39 by decide +kernel) (by decide) (by decide)) ?_
        refine jr_1 jm_268 (show jw_cd cd_268 98 = some (.iload 5) by decide +kernel) rfl ?_
        refine jr_1 jm_268 (show jw_cd cd_268 100 = some (.iload 7) by decide +kernel) rfl ?_
        refine jr_1 jm_268 (show jw_cd cd_268 102 = some (.ifCond .eq 7) by decide +kernel) (mz_t (q := .eq) (a := 0) (t := 109) (by show 0 = 0; omega) ⟨by omega, by omega⟩ (by decide) (by decide)) ?_
        refine jr_1 jm_268 (show jw_cd cd_268 109 = some (.iconst 2) by decide +kernel) rfl ?_
        refine jr_1 jm_268 (show jw_cd cd_268 110 = some (.iastore) by decide +kernel) (ms_i hl (i := k) (x := 2) 39 (by omega) (by show _ < ((400 : Nat) : Int); omega) (by decide) (by decide) (by decide)) ?_
        refine jr_1 jm_268 (show jw_cd cd_268 111 = some (.iload 7) by decide +kernel) rfl ?_
        refine jr_1 jm_268 (show jw_cd cd_268 113 = some (.ifCond .eq 17) by decide +kernel) (mz_t (q := .eq) (a := 0) (t := 130) (by show 0 = 0; omega) ⟨by omega, by omega⟩ (by decide) (by decide)) ?_
        refine jr_1 jm_268 (show jw_cd cd_268 130 = some (.iload 7) by decide +kernel) rfl ?_
        refine jr_1 jm_268 (show jw_cd cd_268 132 = some (.ifCond .eq 18) by decide +kernel) (mz_t (q := .eq) (a := 0) (t := 150) (by show 0 = 0; omega) ⟨by omega, by omega⟩ (by decide) (by decide)) ?_
        refine jr_1 jm_268 (show jw_cd cd_268 150 = some (.iconst (-1)) by decide +kernel) rfl ?_
        refine jr_1 jm_268 (F2 := (153, [some (.ref 15), some (.int (Int32.ofInt (e.1))), some (.int (Int32.ofInt (s))), some (.int (Int32.ofInt (fi))), some (.int (Int32.ofInt (bh))), some (.int (Int32.ofInt (k))), some (.int (Int32.ofInt (y))), some (.int (Int32.ofInt (0))), some (.int (Int32.ofInt (-1)))], [], ml_mk h (su σ 39 (k) (2)))) (show jw_cd cd_268 151 = some (.istore 8) by decide +kernel) rfl ?_
        refine jr_1 jm_268 (show jw_cd cd_268 153 = some (.iload 8) by decide +kernel) rfl ?_
        refine jr_1 jm_268 (show jw_cd cd_268 155 = some (.iconst (-1)) by decide +kernel) rfl ?_
        refine jr_1 jm_268 (show jw_cd cd_268 156 = some (.if_icmp .eq 48) by decide +kernel) (mb_t (q := .eq) (a := -1) (b := -1) (t := 204) (by show -1 = -1; omega) ⟨by omega, by omega⟩ ⟨by omega, by omega⟩ (by decide) (by decide)) ?_
        exact kk
      · rw [if_neg h3] at hf'
        refine jr_1 jm_268 (show jw_cd cd_268 44 = some (.iload 5) by decide +kernel) rfl ?_
        refine jr_1 jm_268 (show jw_cd cd_268 46 = some (.iload 4) by decide +kernel) rfl ?_
        refine jr_1 jm_268 (show jw_cd cd_268 48 = some (.if_icmp .ge 162) by decide +kernel) (mb_f (q := .ge) (a := k) (b := bh) (by show ¬ (bh ≤ k); omega) ⟨by omega, by omega⟩ ⟨by omega, by omega⟩ (by decide)) ?_
        refine jr_1 jm_268 (show jw_cd cd_268 51 = some (.aload_n 0) by decide +kernel) rfl ?_
        refine jr_1 jm_268 (show jw_cd cd_268 52 = some (.getfield 89) by decide +kernel) (mg_a hl (a := 42) (show jw_fld 34 89 16 = some 37 by decide +kernel) (by decide) (by decide)) ?_
        refine jr_1 jm_268 (show jw_cd cd_268 55 = some (.iload 5) by decide +kernel) rfl ?_
        refine jr_1 jm_268 (show jw_cd cd_268 57 = some (.iaload) by decide +kernel) (ma_i hl (i := k) (e := y) 37 (by omega) (by show _ < ((400 : Nat) : Int); omega) e37 (by decide) (by decide) (by decide)) ?_
        refine jr_1 jm_268 (F2 := (60, [some (.ref 15), some (.int (Int32.ofInt (e.1))), some (.int (Int32.ofInt (s))), some (.int (Int32.ofInt (fi))), some (.int (Int32.ofInt (bh))), some (.int (Int32.ofInt (k))), some (.int (Int32.ofInt (y))), c7, c8], [], ml_mk h σ)) (show jw_cd cd_268 58 = some (.istore 6) by decide +kernel) rfl ?_
        refine jr_1 jm_268 (show jw_cd cd_268 60 = some (.iload 6) by decide +kernel) rfl ?_
        refine jr_1 jm_268 (show jw_cd cd_268 62 = some (.iconst (-1)) by decide +kernel) rfl ?_
        refine jr_1 jm_268 (show jw_cd cd_268 63 = some (.if_icmp .eq 28) by decide +kernel) (mb_f (q := .eq) (a := y) (b := -1) (by show ¬ (y = -1); omega) ⟨by omega, by omega⟩ ⟨by omega, by omega⟩ (by decide)) ?_
        refine jr_1 jm_268 (show jw_cd cd_268 66 = some (.aload_n 0) by decide +kernel) rfl ?_
        refine jr_1 jm_268 (show jw_cd cd_268 67 = some (.getfield 13) by decide +kernel) (mg_a hl (a := 17) (show jw_fld 34 13 16 = some 3 by decide +kernel) (by decide) (by decide)) ?_
        refine jr_1 jm_268 (show jw_cd cd_268 70 = some (.iload 6) by decide +kernel) rfl ?_
        refine jr_1 jm_268 (show jw_cd cd_268 72 = some (.iaload) by decide +kernel) (ma_i hl (i := y) (e := i.1) 3 (by omega) (by show _ < ((1740 : Nat) : Int); omega) e3 (by decide) (by decide) (by decide)) ?_
        refine jr_1 jm_268 (show jw_cd cd_268 73 = some (.iload_n 1) by decide +kernel) rfl ?_
        refine jr_1 jm_268 (show jw_cd cd_268 74 = some (.iconst 3) by decide +kernel) rfl ?_
        refine jr_1 jm_268 (show jw_cd cd_268 75 = some (.if_icmp .ne 8) by decide +kernel) (mb_t (q := .ne) (a := e.1) (b := 3) (t := 83) (by show ¬ (e.1 = 3); omega) ⟨by omega, by omega⟩ ⟨by omega, by omega⟩ (by decide) (by decide)) ?_
        refine jr_1 jm_268 (show jw_cd cd_268 83 = some (.iconst 5) by decide +kernel) rfl ?_
        refine jr_1 jm_268 (show jw_cd cd_268 84 = some (.if_icmp .ne 7) by decide +kernel) (mb_t (q := .ne) (a := i.1) (b := 5) (t := 91) (by show ¬ (i.1 = 5); omega) ⟨by omega, by omega⟩ ⟨by omega, by omega⟩ (by decide) (by decide)) ?_
        refine jr_1 jm_268 (show jw_cd cd_268 91 = some (.iconst 0) by decide +kernel) rfl ?_
        refine jr_1 jm_268 (F2 := (94, [some (.ref 15), some (.int (Int32.ofInt (e.1))), some (.int (Int32.ofInt (s))), some (.int (Int32.ofInt (fi))), some (.int (Int32.ofInt (bh))), some (.int (Int32.ofInt (k))), some (.int (Int32.ofInt (y))), some (.int (Int32.ofInt (0))), c8], [], ml_mk h σ)) (show jw_cd cd_268 92 = some (.istore 7) by decide +kernel) rfl ?_
        refine jr_1 jm_268 (show jw_cd cd_268 94 = some (.aload_n 0) by decide +kernel) rfl ?_
        refine jr_1 jm_268 (show jw_cd cd_268 95 = some (.getfield 95) by decide +kernel) (mg_a hl (a := 44) (show jw_fld 34 95 16 = some 39 by decide +kernel) (by decide) (by decide)) ?_
        refine jr_1 jm_268 (show jw_cd cd_268 98 = some (.iload 5) by decide +kernel) rfl ?_
        refine jr_1 jm_268 (show jw_cd cd_268 100 = some (.iload 7) by decide +kernel) rfl ?_
        refine jr_1 jm_268 (show jw_cd cd_268 102 = some (.ifCond .eq 7) by decide +kernel) (mz_t (q := .eq) (a := 0) (t := 109) (by show 0 = 0; omega) ⟨by omega, by omega⟩ (by decide) (by decide)) ?_
        refine jr_1 jm_268 (show jw_cd cd_268 109 = some (.iconst 2) by decide +kernel) rfl ?_
        refine jr_1 jm_268 (show jw_cd cd_268 110 = some (.iastore) by decide +kernel) (ms_i hl (i := k) (x := 2) 39 (by omega) (by show _ < ((400 : Nat) : Int); omega) (by decide) (by decide) (by decide)) ?_
        refine jr_1 jm_268 (show jw_cd cd_268 111 = some (.iload 7) by decide +kernel) rfl ?_
        refine jr_1 jm_268 (show jw_cd cd_268 113 = some (.ifCond .eq 17) by decide +kernel) (mz_t (q := .eq) (a := 0) (t := 130) (by show 0 = 0; omega) ⟨by omega, by omega⟩ (by decide) (by decide)) ?_
        refine jr_1 jm_268 (show jw_cd cd_268 130 = some (.iload 7) by decide +kernel) rfl ?_
        refine jr_1 jm_268 (show jw_cd cd_268 132 = some (.ifCond .eq 18) by decide +kernel) (mz_t (q := .eq) (a := 0) (t := 150) (by show 0 = 0; omega) ⟨by omega, by omega⟩ (by decide) (by decide)) ?_
        refine jr_1 jm_268 (show jw_cd cd_268 150 = some (.iconst (-1)) by decide +kernel) rfl ?_
        refine jr_1 jm_268 (F2 := (153, [some (.ref 15), some (.int (Int32.ofInt (e.1))), some (.int (Int32.ofInt (s))), some (.int (Int32.ofInt (fi))), some (.int (Int32.ofInt (bh))), some (.int (Int32.ofInt (k))), some (.int (Int32.ofInt (y))), some (.int (Int32.ofInt (0))), some (.int (Int32.ofInt (-1)))], [], ml_mk h (su σ 39 (k) (2)))) (show jw_cd cd_268 151 = some (.istore 8) by decide +kernel) rfl ?_
        refine jr_1 jm_268 (show jw_cd cd_268 153 = some (.iload 8) by decide +kernel) rfl ?_
        refine jr_1 jm_268 (show jw_cd cd_268 155 = some (.iconst (-1)) by decide +kernel) rfl ?_
        refine jr_1 jm_268 (show jw_cd cd_268 156 = some (.if_icmp .eq 48) by decide +kernel) (mb_t (q := .eq) (a := -1) (b := -1) (t := 204) (by show -1 = -1; omega) ⟨by omega, by omega⟩ ⟨by omega, by omega⟩ (by decide) (by decide)) ?_
        exact kk
theorem jn_pj_out {β : Bool} {d : Nat} {h : jx_H} (hl : 49 ≤ h.length) {A B : Int → Prop} {s fi bh nn N : Int} {e : sE} (hA : ∀ v, A v → 0 ≤ v ∧ v < N) (hB : mIx B) (hn0 : 0 ≤ nn) (hN : N = 170 * 4 + nn) (hn1 : N + 1 < 1740) : ∀ (rest : List lT) (k p : Int) (σ : mS) (c6 c7 c8 : Option Value), prR σ s e → tpR σ A B k rest → (∀ t ∈ rest, ∀ v, t.2 = some v → vok v ∧ fct v.2 ≤ 390) → σ 11 4 = nn → σ 36 0 = p → k + rest.length = bh → 0 ≤ k → bh ≤ p → p + (prj e k rest).length ≤ 400 →
    ∃ τ : mS, jx_r (jz β) jw_M (d + 3) 268 (44, [some (.ref 15), some (.int (Int32.ofInt (e.1))), some (.int (Int32.ofInt (s))), some (.int (Int32.ofInt (fi))), some (.int (Int32.ofInt (bh))), some (.int (Int32.ofInt (k))), c6, c7, c8], [], ml_mk h σ) (ml_mk h (τ), .inl none) ∧ pjF σ τ N p k ∧ τ 36 0 = p + (prj e k rest).length ∧ bsR τ k (fitL e rest) ∧ tpR τ A B p (prj e k rest)
  | [], k, p, σ, c6, c7, c8, hP, hT, hv, e11, e36, hb, hk, hbp, hr => by
    have hb : k = bh := by simp at hb; exact hb
    have hp4 : p ≤ 400 := by
      have : (0 : Int) ≤ (prj e k []).length := Int.natCast_nonneg _
      omega
    refine ⟨σ, ?_, pjF_refl σ N p k, by rw [e36]; show p = p + ((0 : Nat) : Int); omega, trivial, trivial⟩
    refine jr_1 jm_268 (show jw_cd cd_268 44 = some (.iload 5) by decide +kernel) rfl ?_
    refine jr_1 jm_268 (show jw_cd cd_268 46 = some (.iload 4) by decide +kernel) rfl ?_
    refine jr_1 jm_268 (show jw_cd cd_268 48 = some (.if_icmp .ge 162) by decide +kernel) (mb_t (q := .ge) (a := k) (b := bh) (t := 210) (by show bh ≤ k; omega) ⟨by omega, by omega⟩ ⟨by omega, by omega⟩ (by decide) (by decide)) ?_
    exact jr_v jm_268 (show jw_cd cd_268 210 = some (.return_) by decide +kernel) rfl
  | (f0, x) :: rest, k, p, σ, c6, c7, c8, hP, hT, hv, e11, e36, hb, hk, hbp, hr => by
    have hlen : ((((f0, x) :: rest).length : Nat) : Int) = rest.length + 1 := by simp
    rw [hlen] at hb
    have hpl : ((prj e k ((f0, x) :: rest)).length : Int) = (selO e x).length + (prj e (k + 1) rest).length := by
      show ((((selO e x).map fun w => (k, some w)) ++ prj e (k + 1) rest).length : Int) = _
      rw [List.length_append, List.length_map]
      omega
    have hAN : ∀ v, A v → v < N := fun v hv => (hA v hv).2
    have hpp : prj e k ((f0, x) :: rest) = ((selO e x).map fun w => (k, some w)) ++ prj e (k + 1) rest := rfl
    obtain ⟨τ1, d6, d7, d8, r1, r2, r3, r4, r5⟩ := jn_pj_item (β := β) (d := d) (h := h) (x := x) (bh := bh) (fi := fi) (c6 := c6) (c7 := c7) (c8 := c8) hl hA hB hn0 hN hn1 hP hT.1.2 (hv (f0, x) (List.mem_cons_self ..)) e11 e36 ⟨hk, by omega⟩ hbp (by omega)
    obtain ⟨τ, y1, y2, y3, y4, y5⟩ := jn_pj_out (β := β) (d := d) (s := s) (fi := fi) (bh := bh) hl hA hB hn0 hN hn1 rest (k + 1) (p + (selO e x).length) τ1 d6 d7 d8 (prR_pj r2 hP) (tpR_fr (fun w x hx => mO_pj r2 hAN hx) rest (k + 1) (fun j j1 j2 => ⟨r2.2.1 37 j (by decide) (by decide) (by omega), r2.2.1 38 j (by decide) (by decide) (by omega)⟩) hT.2) (fun t ht => hv t (List.mem_cons_of_mem _ ht)) (by rw [r2.2.2.2.2]; exact e11) r4 (by omega) (by omega) (by omega) (by omega)
    refine ⟨τ, ?_, pjF_trans r2 y2 (by omega) (by omega), by rw [y3, hpl]; omega, ⟨⟨?_, ?_⟩, y4⟩, ?_⟩
    · refine r1 _ ?_
      refine jr_1 jm_268 (F2 := (207, [some (.ref 15), some (.int (Int32.ofInt (e.1))), some (.int (Int32.ofInt (s))), some (.int (Int32.ofInt (fi))), some (.int (Int32.ofInt (bh))), some (.int (Int32.ofInt (k + 1))), d6, d7, d8], [], ml_mk h τ1)) (show jw_cd cd_268 204 = some (.iinc 5 1) by decide +kernel) (mt_inc (a := k) (c := k + 1) rfl (by omega) rfl) ?_
      refine jr_1 jm_268 (show jw_cd cd_268 207 = some (.goto (-163)) by decide +kernel) (ju_go (t := 44) (by decide)) ?_
      exact y1
    · rw [y2.2.1 38 k (by decide) (by decide) (by omega), r2.2.1 38 k (by decide) (by decide) (by omega)]
      exact hT.1.1
    · rw [y2.2.2.1 k (by omega)]
      exact r3
    · rw [hpp]
      refine tpR_app _ p _ (tpR_fr (fun w x hx => mO_pj y2 hAN hx) _ p (fun j j1 j2 => ?_) r5) ?_
      · rw [List.length_map] at j2
        exact ⟨y2.2.1 37 j (by decide) (by decide) (by omega), y2.2.1 38 j (by decide) (by decide) (by omega)⟩
      · rw [List.length_map]
        exact y5
theorem jn_project {β : Bool} {d : Nat} {h : jx_H} {σ : mS} (hl : 49 ≤ h.length) {A B : Int → Prop} {s fi bh nn N m : Int} {e : sE} {top : List lT} (hA : ∀ v, A v → 0 ≤ v ∧ v < N) (hB : mIx B) (hn0 : 0 ≤ nn) (hN : N = 170 * 4 + nn) (hn1 : N + 1 < 1740) (hP : prR σ s e) (hT : tpR σ A B fi top) (hv : ∀ t ∈ top, ∀ v, t.2 = some v → vok v ∧ fct v.2 ≤ 390) (e11 : σ 11 4 = nn) (e36 : σ 36 0 = bh) (e41 : σ 41 0 = m) (e40 : σ 40 (m - 1) = fi) (hm : 1 ≤ m ∧ m < 16) (hfi : 0 ≤ fi) (hb : fi + top.length = bh) (hr : bh + (prj e fi top).length ≤ 400) :
    ∃ τ : mS, jx_r (jz β) jw_M (d + 3) 268 (0, [some (.ref 15), some (.int (Int32.ofInt (e.1))), some (.int (Int32.ofInt (s))), none, none, none, none, none, none], [], ml_mk h σ) (ml_mk h (τ), .inl none) ∧ pjF (su (su σ 40 (m) (bh)) 41 (0) (m + 1)) τ N bh fi ∧ τ 36 0 = bh + (prj e fi top).length ∧ bsR τ fi (fitL e top) ∧ tpR τ A B bh (prj e fi top) := by
  obtain ⟨m0, m1⟩ := hm
  have hq : ∀ f, f ∉ [40, 41] → (su (su σ 40 (m) (bh)) 41 (0) (m + 1)) f = σ f := fun f hf => by
    simp only [List.mem_cons, List.mem_nil_iff, or_false, not_or] at hf
    rw [su_row (by omega), su_row (by omega)]
  obtain ⟨τ, y1, y2, y3, y4, y5⟩ := jn_pj_out (β := β) (d := d) (h := h) (s := s) (fi := fi) (bh := bh) hl hA hB hn0 hN hn1 top fi bh (su (su σ 40 (m) (bh)) 41 (0) (m + 1)) none none none (prR_fr (fun f f1 f2 => hq f (by simp; omega)) hP) (tpR_fr (fun w x hx => mO_eq (fun f f1 f2 => hq f (by simp; omega)) hx) top fi (fun j _ _ => ⟨by rw [hq 37 (by decide)], by rw [hq 38 (by decide)]⟩) hT) hv (by rw [hq 11 (by decide)]; exact e11) (by rw [hq 36 (by decide)]; exact e36) hb hfi (by omega) hr
  refine ⟨τ, ?_, y2, y3, y4, y5⟩
  refine jr_1 jm_268 (show jw_cd cd_268 0 = some (.aload_n 0) by decide +kernel) rfl ?_
  refine jr_1 jm_268 (show jw_cd cd_268 1 = some (.getfield 98) by decide +kernel) (mg_a hl (a := 45) (show jw_fld 34 98 16 = some 40 by decide +kernel) (by decide) (by decide)) ?_
  refine jr_1 jm_268 (show jw_cd cd_268 4 = some (.aload_n 0) by decide +kernel) rfl ?_
  refine jr_1 jm_268 (show jw_cd cd_268 5 = some (.getfield 283) by decide +kernel) (mg_i hl (e := m) e41 (show jw_fld 34 283 16 = some 41 by decide +kernel) (by decide) (by decide)) ?_
  refine jr_1 jm_268 (show jw_cd cd_268 8 = some (.iconst 1) by decide +kernel) rfl ?_
  refine jr_1 jm_268 (show jw_cd cd_268 9 = some (.isub) by decide +kernel) (mt_sub (c := m - 1) rfl) ?_
  refine jr_1 jm_268 (show jw_cd cd_268 10 = some (.iaload) by decide +kernel) (ma_i hl (i := m - 1) (e := fi) 40 (by omega) (by show _ < ((16 : Nat) : Int); omega) e40 (by decide) (by decide) (by decide)) ?_
  refine jr_1 jm_268 (F2 := (12, [some (.ref 15), some (.int (Int32.ofInt (e.1))), some (.int (Int32.ofInt (s))), some (.int (Int32.ofInt (fi))), none, none, none, none, none], [], ml_mk h σ)) (show jw_cd cd_268 11 = some (.istore_n 3) by decide +kernel) rfl ?_
  refine jr_1 jm_268 (show jw_cd cd_268 12 = some (.aload_n 0) by decide +kernel) rfl ?_
  refine jr_1 jm_268 (show jw_cd cd_268 13 = some (.getfield 264) by decide +kernel) (mg_i hl (e := bh) e36 (show jw_fld 34 264 16 = some 36 by decide +kernel) (by decide) (by decide)) ?_
  refine jr_1 jm_268 (F2 := (18, [some (.ref 15), some (.int (Int32.ofInt (e.1))), some (.int (Int32.ofInt (s))), some (.int (Int32.ofInt (fi))), some (.int (Int32.ofInt (bh))), none, none, none, none], [], ml_mk h σ)) (show jw_cd cd_268 16 = some (.istore 4) by decide +kernel) rfl ?_
  refine jr_1 jm_268 (show jw_cd cd_268 18 = some (.aload_n 0) by decide +kernel) rfl ?_
  refine jr_1 jm_268 (show jw_cd cd_268 19 = some (.getfield 98) by decide +kernel) (mg_a hl (a := 45) (show jw_fld 34 98 16 = some 40 by decide +kernel) (by decide) (by decide)) ?_
  refine jr_1 jm_268 (show jw_cd cd_268 22 = some (.aload_n 0) by decide +kernel) rfl ?_
  refine jr_1 jm_268 (show jw_cd cd_268 23 = some (.getfield 283) by decide +kernel) (mg_i hl (e := m) e41 (show jw_fld 34 283 16 = some 41 by decide +kernel) (by decide) (by decide)) ?_
  refine jr_1 jm_268 (show jw_cd cd_268 26 = some (.aload_n 0) by decide +kernel) rfl ?_
  refine jr_1 jm_268 (show jw_cd cd_268 27 = some (.getfield 264) by decide +kernel) (mg_i hl (e := bh) e36 (show jw_fld 34 264 16 = some 36 by decide +kernel) (by decide) (by decide)) ?_
  refine jr_1 jm_268 (show jw_cd cd_268 30 = some (.iastore) by decide +kernel) (ms_i hl (i := m) (x := bh) 40 (by omega) (by show _ < ((16 : Nat) : Int); omega) (by decide) (by decide) (by decide)) ?_
  refine jr_1 jm_268 (show jw_cd cd_268 31 = some (.aload_n 0) by decide +kernel) rfl ?_
  refine jr_1 jm_268 (show jw_cd cd_268 32 = some (.dup) by decide +kernel) rfl ?_
  refine jr_1 jm_268 (show jw_cd cd_268 33 = some (.getfield 283) by decide +kernel) (mg_i hl (e := m) ((su_nf (by decide)).trans e41) (show jw_fld 34 283 16 = some 41 by decide +kernel) (by decide) (by decide)) ?_
  refine jr_1 jm_268 (show jw_cd cd_268 36 = some (.iconst 1) by decide +kernel) rfl ?_
  refine jr_1 jm_268 (show jw_cd cd_268 37 = some (.iadd) by decide +kernel) (mt_add (c := m + 1) rfl) ?_
  refine jr_1 jm_268 (show jw_cd cd_268 38 = some (.putfield 283) by decide +kernel) (mp_i hl (x := m + 1) (show jw_fld 34 283 16 = some 41 by decide +kernel) (by decide) (by decide) (show jw_ft 16 41 = some .int by decide +kernel) (show jw_fm 34 16 41 = some false by decide +kernel)) ?_
  refine jr_1 jm_268 (show jw_cd cd_268 41 = some (.iload_n 3) by decide +kernel) rfl ?_
  refine jr_1 jm_268 (F2 := (44, [some (.ref 15), some (.int (Int32.ofInt (e.1))), some (.int (Int32.ofInt (s))), some (.int (Int32.ofInt (fi))), some (.int (Int32.ofInt (bh))), some (.int (Int32.ofInt (fi))), none, none, none], [], ml_mk h (su (su σ 40 (m) (bh)) 41 (0) (m + 1)))) (show jw_cd cd_268 42 = some (.istore 5) by decide +kernel) rfl ?_
  exact y1
