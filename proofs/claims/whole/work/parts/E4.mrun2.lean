/-! ===== run, as a whole (printed by program: gen61.py) ===== -/
theorem jn_ru_end {β : Bool} {d : Nat} {h : jx_H} {σ : mS} (hl : 49 ≤ h.length) {q v z i bh z0 f : Int} {c6 c7 : Option Value} {u : vT} (hz0 : z0 = 0 ∨ z0 = 2 ∨ z0 = 3) (hV : mV σ (Zn z0) (Zn z0) v u.1 u.2) (hc : fct u.2 ≤ 79) (e42 : σ 42 0 = f) :
    ∃ τ : mS, jx_r (jz β) jw_M (d + 5) 245 (199, [some (.ref 15), some (.int (Int32.ofInt (q))), some (.int (Int32.ofInt (v))), some (.int (Int32.ofInt (z))), some (.int (Int32.ofInt (i))), some (.int (Int32.ofInt (bh))), c6, c7], [], ml_mk h σ) (ml_mk h (τ), .inl (some (.int (Int32.ofInt (f))))) ∧ τ 14 0 = 170 * 1 ∧ mO τ (Zn 1) (Zn 1) (170 * 1) (some u) ∧ rnF σ τ := by
  have hx : mIx (Zn z0) := fun v hv => ⟨by have := hv.1; omega, by have := hv.2; omega⟩
  have hd : ∀ v, Zn z0 v → ¬ Zn 1 v := fun v hv h => by
    have h1 := hv.1
    have h2 := hv.2
    have h3 := h.1
    have h4 := h.2
    omega
  obtain ⟨τ2, y1, y2, y3, y4, y5⟩ := jn_copy (β := β) (d := d + 3) (h := h) hl hx hx (z := 1) ⟨by decide, by decide⟩ hd hd hV (by omega)
  have e42b : τ2 42 0 = f := by rw [y5 42 (Or.inr (by decide)) (by decide) (by decide)]; exact e42
  refine ⟨su τ2 14 0 (170 * 1), ?_, su_eq _ _ _ _, mO_eq (σ := τ2) (fun f f1 f2 => su_row (by omega)) y2, fun f v hv f1 f2 => ?_, fun f hf => ?_⟩
  · skip
    refine jr_1 jm_245 (show jw_cd cd_245 199 = some (.aload_n 0) by decide +kernel) rfl ?_
    refine jr_1 jm_245 (show jw_cd cd_245 200 = some (.aload_n 0) by decide +kernel) rfl ?_
    refine jr_1 jm_245 (show jw_cd cd_245 201 = some (.iload_n 2) by decide +kernel) rfl ?_
    refine jr_1 jm_245 (show jw_cd cd_245 202 = some (.iconst 1) by decide +kernel) rfl ?_
    refine jr_c jm_245 (show jw_cd cd_245 203 = some (.invokevirtual 211) by decide +kernel) (mc_v hl (n := 2) (m2 := 230) (bs := [.int (Int32.ofInt (v)), .int (Int32.ofInt (1))]) (r := [.ref 15]) (show jw_find jw_cvT 34 211 = some (2, [(16, 230)]) by decide +kernel) (by decide) rfl rfl rfl) jm_230 ⟨Nat.le_of_ble_eq_true rfl, by decide⟩ y1 ?_
    refine jr_1 jm_245 (show jw_cd cd_245 206 = some (.putfield 118) by decide +kernel) (mp_i hl (x := 170 * 1) (show jw_fld 34 118 16 = some 14 by decide +kernel) (by decide) (by decide) (show jw_ft 16 14 = some .int by decide +kernel) (show jw_fm 34 16 14 = some false by decide +kernel)) ?_
    refine jr_1 jm_245 (show jw_cd cd_245 209 = some (.aload_n 0) by decide +kernel) rfl ?_
    refine jr_1 jm_245 (show jw_cd cd_245 210 = some (.getfield 317) by decide +kernel) (mg_i hl (e := f) ((su_nf (by decide)).trans e42b) (show jw_fld 34 317 16 = some 42 by decide +kernel) (by decide) (by decide)) ?_
    exact jr_v jm_245 (show jw_cd cd_245 213 = some (.ireturn) by decide +kernel) rfl
  · rw [su_nf (by omega)]
    exact y3 f v (fun h => by have h1 := hv.2; have h2 := h.1; omega) f1 f2
  · simp only [List.mem_cons, List.mem_nil_iff, or_false, not_or] at hf
    rw [su_row (by omega)]
    exact y5 f (by omega) (by omega) (by omega)
theorem jn_ru_j {β : Bool} {d : Nat} {h : jx_H} {σ : mS} (hl : 49 ≤ h.length) {q v z i bh : Int} {c7 : Option Value} : ∀ (n : Nat) (j : Int), (∀ t : Int, 0 ≤ t → t < n → 0 ≤ σ 17 (j + t) ∧ (σ 17 (j + t) < 7 ∨ 7 < σ 17 (j + t)) ∧ σ 17 (j + t) ≤ 100) → σ 17 (j + n) = 7 → 0 ≤ j → j + n < 1200 → ∀ res, jx_r (jz β) jw_M (d) 245 (97, [some (.ref 15), some (.int (Int32.ofInt (q))), some (.int (Int32.ofInt (v))), some (.int (Int32.ofInt (z))), some (.int (Int32.ofInt (i))), some (.int (Int32.ofInt (bh))), some (.int (Int32.ofInt (j + n))), c7], [], ml_mk h σ) res → jx_r (jz β) jw_M (d) 245 (79, [some (.ref 15), some (.int (Int32.ofInt (q))), some (.int (Int32.ofInt (v))), some (.int (Int32.ofInt (z))), some (.int (Int32.ofInt (i))), some (.int (Int32.ofInt (bh))), some (.int (Int32.ofInt (j))), c7], [], ml_mk h σ) res
  | 0, j, hne, h7, hj, hr, res, kk => by
    have e17 : σ 17 j = 7 := by simpa using h7
    rw [show j + ((0 : Nat) : Int) = j by simp] at kk
    refine jr_1 jm_245 (show jw_cd cd_245 79 = some (.aload_n 0) by decide +kernel) rfl ?_
    refine jr_1 jm_245 (show jw_cd cd_245 80 = some (.getfield 47) by decide +kernel) (mg_a hl (a := 28) (show jw_fld 34 47 16 = some 17 by decide +kernel) (by decide) (by decide)) ?_
    refine jr_1 jm_245 (show jw_cd cd_245 83 = some (.iload 6) by decide +kernel) rfl ?_
    refine jr_1 jm_245 (show jw_cd cd_245 85 = some (.iaload) by decide +kernel) (ma_i hl (i := j) (e := 7) 17 (by omega) (by show _ < ((1200 : Nat) : Int); omega) e17 (by decide) (by decide) (by decide)) ?_
    refine jr_1 jm_245 (show jw_cd cd_245 86 = some (.bipush 7) by decide +kernel) (mt_bi (by decide)) ?_
    refine jr_1 jm_245 (show jw_cd cd_245 88 = some (.if_icmp .eq 9) by decide +kernel) (mb_t (q := .eq) (a := 7) (b := 7) (t := 97) (by show 7 = 7; omega) ⟨by omega, by omega⟩ ⟨by omega, by omega⟩ (by decide) (by decide)) ?_
    exact kk
  | n + 1, j, hne, h7, hj, hr, res, kk => by
    have h0 := hne 0 (Int.le_refl 0) (by omega)
    rw [Int.add_zero] at h0
    obtain ⟨x, hx⟩ : ∃ x, x = σ 17 j := ⟨_, rfl⟩
    have e17 : σ 17 j = x := hx.symm
    rw [e17] at h0
    have e : j + 1 + (n : Int) = j + ((n + 1 : Nat) : Int) := by omega
    have ih := jn_ru_j (β := β) (d := d) (h := h) (σ := σ) hl (q := q) (v := v) (z := z) (i := i) (bh := bh) (c7 := c7) n (j + 1) (fun t t0 t1 => by
      have := hne (t + 1) (by omega) (by omega)
      rw [show j + (t + 1) = j + 1 + t by omega] at this
      exact this) (by rw [e]; exact h7) (by omega) (by omega) res (by rw [e]; exact kk)
    refine jr_1 jm_245 (show jw_cd cd_245 79 = some (.aload_n 0) by decide +kernel) rfl ?_
    refine jr_1 jm_245 (show jw_cd cd_245 80 = some (.getfield 47) by decide +kernel) (mg_a hl (a := 28) (show jw_fld 34 47 16 = some 17 by decide +kernel) (by decide) (by decide)) ?_
    refine jr_1 jm_245 (show jw_cd cd_245 83 = some (.iload 6) by decide +kernel) rfl ?_
    refine jr_1 jm_245 (show jw_cd cd_245 85 = some (.iaload) by decide +kernel) (ma_i hl (i := j) (e := x) 17 (by omega) (by show _ < ((1200 : Nat) : Int); omega) e17 (by decide) (by decide) (by decide)) ?_
    refine jr_1 jm_245 (show jw_cd cd_245 86 = some (.bipush 7) by decide +kernel) (mt_bi (by decide)) ?_
    refine jr_1 jm_245 (show jw_cd cd_245 88 = some (.if_icmp .eq 9) by decide +kernel) (mb_f (q := .eq) (a := x) (b := 7) (by show ¬ (x = 7); omega) ⟨by omega, by omega⟩ ⟨by omega, by omega⟩ (by decide)) ?_
    refine jr_1 jm_245 (F2 := (94, [some (.ref 15), some (.int (Int32.ofInt (q))), some (.int (Int32.ofInt (v))), some (.int (Int32.ofInt (z))), some (.int (Int32.ofInt (i))), some (.int (Int32.ofInt (bh))), some (.int (Int32.ofInt (j + 1))), c7], [], ml_mk h σ)) (show jw_cd cd_245 91 = some (.iinc 6 1) by decide +kernel) (mt_inc (a := j) (c := j + 1) rfl (by omega) rfl) ?_
    refine jr_1 jm_245 (show jw_cd cd_245 94 = some (.goto (-15)) by decide +kernel) (ju_go (t := 79) (by decide)) ?_
    exact ih
theorem stR_j {σ : mS} {i : Int} {st : sT} (h : stR σ i st) : σ 17 (i + stJ st) = 7 ∧ (∀ t : Int, 0 ≤ t → t < stJ st → 0 ≤ σ 17 (i + t) ∧ (σ 17 (i + t) < 7 ∨ 7 < σ 17 (i + t)) ∧ σ 17 (i + t) ≤ 100) ∧ (st.1 < 0 → ∀ e ∈ st.2.2, eok1 e) := by
  rcases h with ⟨h1, h2, h3, h4⟩ | ⟨⟨h1, h2⟩, h3, h4, h5, h6⟩
  · have hsj : stJ st = st.2.2.length := if_pos h1
    rw [hsj]
    refine ⟨h4, fun t t0 t1 => ?_, fun _ => itR_ok _ _ h2⟩
    have := itR_ne _ _ h2 t t0 t1
    omega
  · have hsj : stJ st = 1 := if_neg (by omega)
    rw [hsj]
    refine ⟨h6, fun t t0 t1 => ?_, fun z => by omega⟩
    rw [show i + t = i by omega, h3]
    omega
theorem jn_ru_loop {β : Bool} {d : Nat} {h : jx_H} (hl : 49 ≤ h.length) {q bh : Int} (hbh : bh ≤ 1200) : ∀ (l : List sT) (i v z z0 : Int) (u : vT) (σ : mS) (c6 c7 : Option Value), quR σ i l → i + quL l = bh → 0 ≤ i → (z = 2 ∨ z = 3) → (z0 = 0 ∨ z0 = 2 ∨ z0 = 3) → ¬ z0 = z → mV σ (Zn z0) (Zn z0) v u.1 u.2 → vok u → fct u.2 ≤ 79 → σ 42 0 = 0 →
    ∃ τ : mS, jx_r (jz β) jw_M (d + 5) 245 (61, [some (.ref 15), some (.int (Int32.ofInt (q))), some (.int (Int32.ofInt (v))), some (.int (Int32.ofInt (z))), some (.int (Int32.ofInt (i))), some (.int (Int32.ofInt (bh))), c6, c7], [], ml_mk h σ) (ml_mk h (τ), .inl (some (.int (Int32.ofInt ((runS l u).1))))) ∧ τ 14 0 = 170 * 1 ∧ mO τ (Zn 1) (Zn 1) (170 * 1) (some (runS l u).2) ∧ rnF σ τ
  | [], i, v, z, z0, u, σ, c6, c7, hQ, hi, hi0, hz, hz0, hzz, hV, hv, hc, e42 => by
    have hi : i = bh := by
      have : i + 0 = bh := hi
      omega
    obtain ⟨τ, r1, r2, r3, r4⟩ := jn_ru_end (β := β) (d := d) (h := h) (q := q) (z := z) (i := i) (bh := bh) (c6 := c6) (c7 := c7) hl hz0 hV hc e42
    refine ⟨τ, ?_, r2, r3, r4⟩
    refine jr_1 jm_245 (show jw_cd cd_245 61 = some (.iload 4) by decide +kernel) rfl ?_
    refine jr_1 jm_245 (show jw_cd cd_245 63 = some (.iload 5) by decide +kernel) rfl ?_
    refine jr_1 jm_245 (show jw_cd cd_245 65 = some (.if_icmp .ge 134) by decide +kernel) (mb_t (q := .ge) (a := i) (b := bh) (t := 199) (by show bh ≤ i; omega) ⟨by omega, by omega⟩ ⟨by omega, by omega⟩ (by decide) (by decide)) ?_
    exact r1
  | st :: l, i, v, z, z0, u, σ, c6, c7, hQ, hi, hi0, hz, hz0, hzz, hV, hv, hc, e42 => by
    have hi : i + (stJ st + 1 + quL l) = bh := hi
    have hjn := stJ_nn st
    have hqn := quL_nn l
    obtain ⟨hS, hQ2⟩ := hQ
    obtain ⟨j1, j2, j3⟩ := stR_j hS
    obtain ⟨j, hj⟩ : ∃ j, j = i + stJ st := ⟨_, rfl⟩
    have hd : ∀ v, Zn z0 v → ¬ Zn z v := fun v hv h => by
      have h1 := hv.1
      have h2 := hv.2
      have h3 := h.1
      have h4 := h.2
      omega
    have hr : ∀ v, Zn z0 v → 0 ≤ v ∧ v < 680 := fun v hv => ⟨by have := hv.1; omega, by have := hv.2; omega⟩
    obtain ⟨τ2, g, y1, y2, y3, y4⟩ := jn_ru_st (β := β) (d := d) (h := h) (σ := σ) (q := q) (bh := bh) (j := j) (c7 := c7) hl hr hr hz hd hd hV hv hc hS hj hi0 (by omega) e42
    have hq := jn_ru_j (β := β) (d := d + 5) (h := h) (σ := σ) hl (q := q) (v := v) (z := z) (i := i) (bh := bh) (c7 := c7) (stJ st).toNat i (fun t t0 t1 => j2 t t0 (by omega)) (by rw [show (((stJ st).toNat : Nat) : Int) = stJ st by omega]; exact j1) hi0 (by omega)
    rw [show i + (((stJ st).toNat : Nat) : Int) = j by omega] at hq
    have hvv := stgV_ok hv hc j3
    have hz3 : 5 - z = 2 ∨ 5 - z = 3 := by omega
    have hz4 : z = 0 ∨ z = 2 ∨ z = 3 := by omega
    by_cases hf : (stg st u).1 = 0
    · have hru : runS (st :: l) u = runS l (stgV (stg st u)) := if_pos hf
      rw [hf] at y2
      obtain ⟨τ, r1, r2, r3, r4⟩ := jn_ru_loop (β := β) (d := d) (h := h) (q := q) hl hbh l (j + 1) (170 * z) (5 - z) z (stgV (stg st u)) τ2 (some (.int (Int32.ofInt (j)))) g (quR_fr (rnF_it y4) l (j + 1) (by rw [hj]; exact hQ2)) (by omega) (by omega) hz3 hz4 (by omega) y3 hvv.1 hvv.2 y2
      rw [hru]
      refine ⟨τ, ?_, r2, r3, rnF_trans y4 r4⟩
      have r1 := hq _ (y1 _ r1)
      refine jr_1 jm_245 (show jw_cd cd_245 61 = some (.iload 4) by decide +kernel) rfl ?_
      refine jr_1 jm_245 (show jw_cd cd_245 63 = some (.iload 5) by decide +kernel) rfl ?_
      refine jr_1 jm_245 (show jw_cd cd_245 65 = some (.if_icmp .ge 134) by decide +kernel) (mb_f (q := .ge) (a := i) (b := bh) (by show ¬ (bh ≤ i); omega) ⟨by omega, by omega⟩ ⟨by omega, by omega⟩ (by decide)) ?_
      refine jr_1 jm_245 (show jw_cd cd_245 68 = some (.aload_n 0) by decide +kernel) rfl ?_
      refine jr_1 jm_245 (show jw_cd cd_245 69 = some (.getfield 317) by decide +kernel) (mg_i hl (e := 0) e42 (show jw_fld 34 317 16 = some 42 by decide +kernel) (by decide) (by decide)) ?_
      refine jr_1 jm_245 (show jw_cd cd_245 72 = some (.ifCond .ne 127) by decide +kernel) (mz_f (q := .ne) (a := 0) (by show ¬ (¬ (0 = 0)); omega) ⟨by omega, by omega⟩ (by decide)) ?_
      refine jr_1 jm_245 (show jw_cd cd_245 75 = some (.iload 4) by decide +kernel) rfl ?_
      refine jr_1 jm_245 (F2 := (79, [some (.ref 15), some (.int (Int32.ofInt (q))), some (.int (Int32.ofInt (v))), some (.int (Int32.ofInt (z))), some (.int (Int32.ofInt (i))), some (.int (Int32.ofInt (bh))), some (.int (Int32.ofInt (i))), c7], [], ml_mk h σ)) (show jw_cd cd_245 77 = some (.istore 6) by decide +kernel) rfl ?_
      exact r1
    · have hru : runS (st :: l) u = ((stg st u).1, nulV) := if_neg hf
      have hsv : stgV (stg st u) = nulV := if_neg hf
      rw [hru]
      obtain ⟨f, hfe⟩ : ∃ f, f = (stg st u).1 := ⟨_, rfl⟩
      rw [← hfe] at hf y2
      rw [hsv] at y3
      have hfr : 0 ≤ f ∧ f ≤ 2 := by
        rw [hfe]
        unfold stg
        split
        · dsimp only
          exact ⟨by decide, by decide⟩
        · exact doS_f _ _ _
      obtain ⟨τ, r1, r2, r3, r4⟩ := jn_ru_end (β := β) (d := d) (h := h) (σ := τ2) (q := q) (z := 5 - z) (i := j + 1) (bh := bh) (c6 := some (.int (Int32.ofInt (j)))) (c7 := g) (z0 := z) (u := nulV) hl hz4 y3 (Nat.zero_le _) y2
      have hm : jx_r (jz β) jw_M (d + 5) 245 (61, [some (.ref 15), some (.int (Int32.ofInt (q))), some (.int (Int32.ofInt (170 * z))), some (.int (Int32.ofInt (5 - z))), some (.int (Int32.ofInt (j + 1))), some (.int (Int32.ofInt (bh))), some (.int (Int32.ofInt (j))), g], [], ml_mk h τ2) (ml_mk h (τ), .inl (some (.int (Int32.ofInt (f))))) := by
        by_cases hb : bh ≤ j + 1
        · skip
          refine jr_1 jm_245 (show jw_cd cd_245 61 = some (.iload 4) by decide +kernel) rfl ?_
          refine jr_1 jm_245 (show jw_cd cd_245 63 = some (.iload 5) by decide +kernel) rfl ?_
          refine jr_1 jm_245 (show jw_cd cd_245 65 = some (.if_icmp .ge 134) by decide +kernel) (mb_t (q := .ge) (a := j + 1) (b := bh) (t := 199) (by show bh ≤ j + 1; omega) ⟨by omega, by omega⟩ ⟨by omega, by omega⟩ (by decide) (by decide)) ?_
          exact r1
        · skip
          refine jr_1 jm_245 (show jw_cd cd_245 61 = some (.iload 4) by decide +kernel) rfl ?_
          refine jr_1 jm_245 (show jw_cd cd_245 63 = some (.iload 5) by decide +kernel) rfl ?_
          refine jr_1 jm_245 (show jw_cd cd_245 65 = some (.if_icmp .ge 134) by decide +kernel) (mb_f (q := .ge) (a := j + 1) (b := bh) (by show ¬ (bh ≤ j + 1); omega) ⟨by omega, by omega⟩ ⟨by omega, by omega⟩ (by decide)) ?_
          refine jr_1 jm_245 (show jw_cd cd_245 68 = some (.aload_n 0) by decide +kernel) rfl ?_
          refine jr_1 jm_245 (show jw_cd cd_245 69 = some (.getfield 317) by decide +kernel) (mg_i hl (e := f) y2 (show jw_fld 34 317 16 = some 42 by decide +kernel) (by decide) (by decide)) ?_
          refine jr_1 jm_245 (show jw_cd cd_245 72 = some (.ifCond .ne 127) by decide +kernel) (mz_t (q := .ne) (a := f) (t := 199) (by show ¬ (f = 0); omega) ⟨by omega, by omega⟩ (by decide) (by decide)) ?_
          exact r1
      refine ⟨τ, ?_, r2, r3, rnF_trans y4 r4⟩
      have r1 := hq _ (y1 _ hm)
      show jx_r (jz β) jw_M (d + 5) 245 (61, [some (.ref 15), some (.int (Int32.ofInt (q))), some (.int (Int32.ofInt (v))), some (.int (Int32.ofInt (z))), some (.int (Int32.ofInt (i))), some (.int (Int32.ofInt (bh))), c6, c7], [], ml_mk h σ) (ml_mk h τ, .inl (some (.int (Int32.ofInt ((stg st u).1)))))
      rw [← hfe]
      refine jr_1 jm_245 (show jw_cd cd_245 61 = some (.iload 4) by decide +kernel) rfl ?_
      refine jr_1 jm_245 (show jw_cd cd_245 63 = some (.iload 5) by decide +kernel) rfl ?_
      refine jr_1 jm_245 (show jw_cd cd_245 65 = some (.if_icmp .ge 134) by decide +kernel) (mb_f (q := .ge) (a := i) (b := bh) (by show ¬ (bh ≤ i); omega) ⟨by omega, by omega⟩ ⟨by omega, by omega⟩ (by decide)) ?_
      refine jr_1 jm_245 (show jw_cd cd_245 68 = some (.aload_n 0) by decide +kernel) rfl ?_
      refine jr_1 jm_245 (show jw_cd cd_245 69 = some (.getfield 317) by decide +kernel) (mg_i hl (e := 0) e42 (show jw_fld 34 317 16 = some 42 by decide +kernel) (by decide) (by decide)) ?_
      refine jr_1 jm_245 (show jw_cd cd_245 72 = some (.ifCond .ne 127) by decide +kernel) (mz_f (q := .ne) (a := 0) (by show ¬ (¬ (0 = 0)); omega) ⟨by omega, by omega⟩ (by decide)) ?_
      refine jr_1 jm_245 (show jw_cd cd_245 75 = some (.iload 4) by decide +kernel) rfl ?_
      refine jr_1 jm_245 (F2 := (79, [some (.ref 15), some (.int (Int32.ofInt (q))), some (.int (Int32.ofInt (v))), some (.int (Int32.ofInt (z))), some (.int (Int32.ofInt (i))), some (.int (Int32.ofInt (bh))), some (.int (Int32.ofInt (i))), c7], [], ml_mk h σ)) (show jw_cd cd_245 77 = some (.istore 6) by decide +kernel) rfl ?_
      exact r1
theorem jn_run_ok {β : Bool} {d : Nat} {h : jx_H} {σ : mS} (hl : 49 ≤ h.length) {q Q : Int} {l : List sT} {u : vT} (hq : 0 ≤ q ∧ q < Q) (hQ : Q ≤ 12) (e15 : σ 15 0 = Q) (e13 : σ 13 0 = 170 * 0) (hV : mV σ (Zn 0) (Zn 0) (170 * 0) u.1 u.2) (hv : vok u) (hc : fct u.2 ≤ 79) (hR : quR σ (100 * q) l) (e16 : σ 16 q = quL l) (h100 : quL l ≤ 100) :
    ∃ τ : mS, jx_r (jz β) jw_M (d + 5) 245 (0, [some (.ref 15), some (.int (Int32.ofInt (q))), none, none, none, none, none, none], [], ml_mk h σ) (ml_mk h (τ), .inl (some (.int (Int32.ofInt ((runS l u).1))))) ∧ τ 0 0 = 0 ∧ τ 14 0 = 170 * 1 ∧ mO τ (Zn 1) (Zn 1) (170 * 1) (some (runS l u).2) ∧ rnF (su σ 0 0 0) τ := by
  obtain ⟨q0, q1⟩ := hq
  have hqn := quL_nn l
  obtain ⟨τ, r1, r2, r3, r4⟩ := jn_ru_loop (β := β) (d := d) (h := h) (q := q) (bh := 100 * q + quL l) hl (by omega) l (100 * q) (170 * 0) 2 0 u (su (su σ 0 (0) (0)) 42 (0) (0)) none none (quR_fr (fun f f1 f2 => by rw [su_row (by omega), su_row (by omega)]) l _ hR) rfl (by omega) (Or.inl rfl) (Or.inl rfl) (by decide) (mV_eq (fun f f1 f2 => by rw [su_row (by omega), su_row (by omega)]) hV) hv hc (su_eq _ _ _ _)
  refine ⟨τ, ?_, ?_, r2, r3, fun f v hv f1 f2 => ?_, fun f hf => ?_⟩
  · skip
    refine jr_1 jm_245 (show jw_cd cd_245 0 = some (.aload_n 0) by decide +kernel) rfl ?_
    refine jr_1 jm_245 (show jw_cd cd_245 1 = some (.iload_n 1) by decide +kernel) rfl ?_
    refine jr_1 jm_245 (show jw_cd cd_245 2 = some (.ifCond .lt 11) by decide +kernel) (mz_f (q := .lt) (a := q) (by show ¬ (q < 0); omega) ⟨by omega, by omega⟩ (by decide)) ?_
    refine jr_1 jm_245 (show jw_cd cd_245 5 = some (.iload_n 1) by decide +kernel) rfl ?_
    refine jr_1 jm_245 (show jw_cd cd_245 6 = some (.aload_n 0) by decide +kernel) rfl ?_
    refine jr_1 jm_245 (show jw_cd cd_245 7 = some (.getfield 219) by decide +kernel) (mg_i hl (e := Q) e15 (show jw_fld 34 219 16 = some 15 by decide +kernel) (by decide) (by decide)) ?_
    refine jr_1 jm_245 (show jw_cd cd_245 10 = some (.if_icmp .lt 7) by decide +kernel) (mb_t (q := .lt) (a := q) (b := Q) (t := 17) (by show q < Q; omega) ⟨by omega, by omega⟩ ⟨by omega, by omega⟩ (by decide) (by decide)) ?_
    refine jr_1 jm_245 (show jw_cd cd_245 17 = some (.iconst 0) by decide +kernel) rfl ?_
    refine jr_1 jm_245 (show jw_cd cd_245 18 = some (.putfield 121) by decide +kernel) (mp_i hl (x := 0) (show jw_fld 34 121 16 = some 0 by decide +kernel) (by decide) (by decide) (show jw_ft 16 0 = some .int by decide +kernel) (show jw_fm 34 16 0 = some false by decide +kernel)) ?_
    refine jr_1 jm_245 (show jw_cd cd_245 21 = some (.aload_n 0) by decide +kernel) rfl ?_
    refine jr_1 jm_245 (show jw_cd cd_245 22 = some (.getfield 121) by decide +kernel) (mg_i hl (e := 0) (su_eq _ _ _ _) (show jw_fld 34 121 16 = some 0 by decide +kernel) (by decide) (by decide)) ?_
    refine jr_1 jm_245 (show jw_cd cd_245 25 = some (.ifCond .le 5) by decide +kernel) (mz_t (q := .le) (a := 0) (t := 30) (by show 0 ≤ 0; omega) ⟨by omega, by omega⟩ (by decide) (by decide)) ?_
    refine jr_1 jm_245 (show jw_cd cd_245 30 = some (.aload_n 0) by decide +kernel) rfl ?_
    refine jr_1 jm_245 (show jw_cd cd_245 31 = some (.iconst 0) by decide +kernel) rfl ?_
    refine jr_1 jm_245 (show jw_cd cd_245 32 = some (.putfield 317) by decide +kernel) (mp_i hl (x := 0) (show jw_fld 34 317 16 = some 42 by decide +kernel) (by decide) (by decide) (show jw_ft 16 42 = some .int by decide +kernel) (show jw_fm 34 16 42 = some false by decide +kernel)) ?_
    refine jr_1 jm_245 (show jw_cd cd_245 35 = some (.aload_n 0) by decide +kernel) rfl ?_
    refine jr_1 jm_245 (show jw_cd cd_245 36 = some (.getfield 114) by decide +kernel) (mg_i hl (e := 170 * 0) ((su_nf (by decide)).trans ((su_nf (by decide)).trans e13)) (show jw_fld 34 114 16 = some 13 by decide +kernel) (by decide) (by decide)) ?_
    refine jr_1 jm_245 (F2 := (40, [some (.ref 15), some (.int (Int32.ofInt (q))), some (.int (Int32.ofInt (170 * 0))), none, none, none, none, none], [], ml_mk h (su (su σ 0 (0) (0)) 42 (0) (0)))) (show jw_cd cd_245 39 = some (.istore_n 2) by decide +kernel) rfl ?_
    refine jr_1 jm_245 (show jw_cd cd_245 40 = some (.iconst 2) by decide +kernel) rfl ?_
    refine jr_1 jm_245 (F2 := (42, [some (.ref 15), some (.int (Int32.ofInt (q))), some (.int (Int32.ofInt (170 * 0))), some (.int (Int32.ofInt (2))), none, none, none, none], [], ml_mk h (su (su σ 0 (0) (0)) 42 (0) (0)))) (show jw_cd cd_245 41 = some (.istore_n 3) by decide +kernel) rfl ?_
    refine jr_1 jm_245 (show jw_cd cd_245 42 = some (.bipush 100) by decide +kernel) (mt_bi (by decide)) ?_
    refine jr_1 jm_245 (show jw_cd cd_245 44 = some (.iload_n 1) by decide +kernel) rfl ?_
    refine jr_1 jm_245 (show jw_cd cd_245 45 = some (.imul) by decide +kernel) (mt_mul (c := 100 * q) rfl) ?_
    refine jr_1 jm_245 (F2 := (48, [some (.ref 15), some (.int (Int32.ofInt (q))), some (.int (Int32.ofInt (170 * 0))), some (.int (Int32.ofInt (2))), some (.int (Int32.ofInt (100 * q))), none, none, none], [], ml_mk h (su (su σ 0 (0) (0)) 42 (0) (0)))) (show jw_cd cd_245 46 = some (.istore 4) by decide +kernel) rfl ?_
    refine jr_1 jm_245 (show jw_cd cd_245 48 = some (.bipush 100) by decide +kernel) (mt_bi (by decide)) ?_
    refine jr_1 jm_245 (show jw_cd cd_245 50 = some (.iload_n 1) by decide +kernel) rfl ?_
    refine jr_1 jm_245 (show jw_cd cd_245 51 = some (.imul) by decide +kernel) (mt_mul (c := 100 * q) rfl) ?_
    refine jr_1 jm_245 (show jw_cd cd_245 52 = some (.aload_n 0) by decide +kernel) rfl ?_
    refine jr_1 jm_245 (show jw_cd cd_245 53 = some (.getfield 44) by decide +kernel) (mg_a hl (a := 27) (show jw_fld 34 44 16 = some 16 by decide +kernel) (by decide) (by decide)) ?_
    refine jr_1 jm_245 (show jw_cd cd_245 56 = some (.iload_n 1) by decide +kernel) rfl ?_
    refine jr_1 jm_245 (show jw_cd cd_245 57 = some (.iaload) by decide +kernel) (ma_i hl (i := q) (e := quL l) 16 (by omega) (by show _ < ((12 : Nat) : Int); omega) ((su_nf (by decide)).trans ((su_nf (by decide)).trans e16)) (by decide) (by decide) (by decide)) ?_
    refine jr_1 jm_245 (show jw_cd cd_245 58 = some (.iadd) by decide +kernel) (mt_add (c := 100 * q + (quL l)) rfl) ?_
    refine jr_1 jm_245 (F2 := (61, [some (.ref 15), some (.int (Int32.ofInt (q))), some (.int (Int32.ofInt (170 * 0))), some (.int (Int32.ofInt (2))), some (.int (Int32.ofInt (100 * q))), some (.int (Int32.ofInt (100 * q + (quL l)))), none, none], [], ml_mk h (su (su σ 0 (0) (0)) 42 (0) (0)))) (show jw_cd cd_245 59 = some (.istore 5) by decide +kernel) rfl ?_
    exact r1
  · rw [r4.2 0 (by decide), su_nf (by decide), su_eq]
  · rw [r4.1 f v hv f1 f2, su_nf (by omega)]
  · rw [r4.2 f hf]
    simp only [List.mem_cons, List.mem_nil_iff, or_false, not_or] at hf
    rw [su_row (by omega)]
theorem jn_run_no {β : Bool} {d : Nat} {h : jx_H} {σ : mS} (hl : 49 ≤ h.length) {q Q : Int} (hq : mr q) (hQ : 0 ≤ Q ∧ Q ≤ 12) (e15 : σ 15 0 = Q) (hn : q < 0 ∨ Q ≤ q) : jx_r (jz β) jw_M (d) 245 (0, [some (.ref 15), some (.int (Int32.ofInt (q))), none, none, none, none, none, none], [], ml_mk h σ) (ml_mk h (su σ 0 0 1), .inl (some (.int (Int32.ofInt (0))))) := by
  obtain ⟨q1, q2⟩ := hq
  obtain ⟨Q1, Q2⟩ := hQ
  by_cases h0 : q < 0
  · skip
    refine jr_1 jm_245 (show jw_cd cd_245 0 = some (.aload_n 0) by decide +kernel) rfl ?_
    refine jr_1 jm_245 (show jw_cd cd_245 1 = some (.iload_n 1) by decide +kernel) rfl ?_
    refine jr_1 jm_245 (show jw_cd cd_245 2 = some (.ifCond .lt 11) by decide +kernel) (mz_t (q := .lt) (a := q) (t := 13) (by show q < 0; omega) ⟨by omega, by omega⟩ (by decide) (by decide)) ?_
    refine jr_1 jm_245 (show jw_cd cd_245 13 = some (.iconst 1) by decide +kernel) rfl ?_
    refine jr_1 jm_245 (show jw_cd cd_245 14 = some (.goto 4) by decide +kernel) (ju_go (t := 18) (by decide)) ?_
    refine jr_1 jm_245 (show jw_cd cd_245 18 = some (.putfield 121) by decide +kernel) (mp_i hl (x := 1) (show jw_fld 34 121 16 = some 0 by decide +kernel) (by decide) (by decide) (show jw_ft 16 0 = some .int by decide +kernel) (show jw_fm 34 16 0 = some false by decide +kernel)) ?_
    refine jr_1 jm_245 (show jw_cd cd_245 21 = some (.aload_n 0) by decide +kernel) rfl ?_
    refine jr_1 jm_245 (show jw_cd cd_245 22 = some (.getfield 121) by decide +kernel) (mg_i hl (e := 1) (su_eq _ _ _ _) (show jw_fld 34 121 16 = some 0 by decide +kernel) (by decide) (by decide)) ?_
    refine jr_1 jm_245 (show jw_cd cd_245 25 = some (.ifCond .le 5) by decide +kernel) (mz_f (q := .le) (a := 1) (by show ¬ (1 ≤ 0); omega) ⟨by omega, by omega⟩ (by decide)) ?_
    refine jr_1 jm_245 (show jw_cd cd_245 28 = some (.iconst 0) by decide +kernel) rfl ?_
    exact jr_v jm_245 (show jw_cd cd_245 29 = some (.ireturn) by decide +kernel) rfl
  · skip
    refine jr_1 jm_245 (show jw_cd cd_245 0 = some (.aload_n 0) by decide +kernel) rfl ?_
    refine jr_1 jm_245 (show jw_cd cd_245 1 = some (.iload_n 1) by decide +kernel) rfl ?_
    refine jr_1 jm_245 (show jw_cd cd_245 2 = some (.ifCond .lt 11) by decide +kernel) (mz_f (q := .lt) (a := q) (by show ¬ (q < 0); omega) ⟨by omega, by omega⟩ (by decide)) ?_
    refine jr_1 jm_245 (show jw_cd cd_245 5 = some (.iload_n 1) by decide +kernel) rfl ?_
    refine jr_1 jm_245 (show jw_cd cd_245 6 = some (.aload_n 0) by decide +kernel) rfl ?_
    refine jr_1 jm_245 (show jw_cd cd_245 7 = some (.getfield 219) by decide +kernel) (mg_i hl (e := Q) e15 (show jw_fld 34 219 16 = some 15 by decide +kernel) (by decide) (by decide)) ?_
    refine jr_1 jm_245 (show jw_cd cd_245 10 = some (.if_icmp .lt 7) by decide +kernel) (mb_f (q := .lt) (a := q) (b := Q) (by show ¬ (q < Q); omega) ⟨by omega, by omega⟩ ⟨by omega, by omega⟩ (by decide)) ?_
    refine jr_1 jm_245 (show jw_cd cd_245 13 = some (.iconst 1) by decide +kernel) rfl ?_
    refine jr_1 jm_245 (show jw_cd cd_245 14 = some (.goto 4) by decide +kernel) (ju_go (t := 18) (by decide)) ?_
    refine jr_1 jm_245 (show jw_cd cd_245 18 = some (.putfield 121) by decide +kernel) (mp_i hl (x := 1) (show jw_fld 34 121 16 = some 0 by decide +kernel) (by decide) (by decide) (show jw_ft 16 0 = some .int by decide +kernel) (show jw_fm 34 16 0 = some false by decide +kernel)) ?_
    refine jr_1 jm_245 (show jw_cd cd_245 21 = some (.aload_n 0) by decide +kernel) rfl ?_
    refine jr_1 jm_245 (show jw_cd cd_245 22 = some (.getfield 121) by decide +kernel) (mg_i hl (e := 1) (su_eq _ _ _ _) (show jw_fld 34 121 16 = some 0 by decide +kernel) (by decide) (by decide)) ?_
    refine jr_1 jm_245 (show jw_cd cd_245 25 = some (.ifCond .le 5) by decide +kernel) (mz_f (q := .le) (a := 1) (by show ¬ (1 ≤ 0); omega) ⟨by omega, by omega⟩ (by decide)) ?_
    refine jr_1 jm_245 (show jw_cd cd_245 28 = some (.iconst 0) by decide +kernel) rfl ?_
    exact jr_v jm_245 (show jw_cd cd_245 29 = some (.ireturn) by decide +kernel) rfl
