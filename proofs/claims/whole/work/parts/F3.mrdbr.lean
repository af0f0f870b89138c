/-! ===== the model reads brackets and what comes behind (printed by program: gen67.py) ===== -/
theorem stp_add {σ τ : mS} {T : Int → Int} {n Q I s q k w pl : Int} (hw : w = 2 ∨ w = 3 ∨ w = 6) (hQ : 0 ≤ Q ∧ Q < 12) (hI : 0 ≤ I ∧ I < 100) (hP : rP τ T n q) (hF : rdF σ τ Q (100 * Q + I) s) (h30 : τ 30 0 = k) : stpP σ (mAdd τ Q I w 0 pl) T n Q I s q k (w, [], nnu, 0, nsd, nsd) := by
  obtain ⟨m1, m2, m3, m4, m5, m6⟩ := mAdd_F (σ := τ) (Q := Q) (I := I) (w := w) (t := 0) (s := pl) (s0 := s)
  refine ⟨rP_q hP (fun f hf => m6 f (by simp; omega)) (by rw [m6 28 (by decide)]) (by rw [m6 29 (by decide)]), m5, ⟨⟨by omega, by omega⟩, m2, ⟨by show 0 ≤ w; omega, by show w ≤ 6; omega⟩, fun z => ?_, fun z1 z2 => ?_⟩, fun z => ?_, rdF_trans hF m1 (Int.le_refl _) (Int.le_refl _), by rw [m6 30 (by decide)]; exact h30⟩
  · have z : w ≤ 1 := z
    omega
  · refine ⟨⟨z1, z2⟩, fun z => ?_, fun z => ?_⟩
    · have z : w = 4 := z
      omega
    · have z : w = 5 := z
      omega
  · have z : w = 1 ∨ w = 4 ∨ w = 5 := z
    omega
theorem stp_key {σ τ : mS} {T : Int → Int} {n Q I s q k pl : Int} {r : List Int} (hr : tx r) (hQ : 0 ≤ Q ∧ Q < 12) (hI : 0 ≤ I ∧ I < 100) (hP : rP τ T n q) (hF : rdF σ τ Q (100 * Q + I) s) (h30 : τ 30 0 = k) : stpP σ (mAdd τ Q I 0 (pk r) pl) T n Q I s q k (0, r, nnu, 0, nsd, nsd) := by
  obtain ⟨m1, m2, m3, m4, m5, m6⟩ := mAdd_F (σ := τ) (Q := Q) (I := I) (w := 0) (t := pk r) (s := pl) (s0 := s)
  refine ⟨rP_q hP (fun f hf => m6 f (by simp; omega)) (by rw [m6 28 (by decide)]) (by rw [m6 29 (by decide)]), m5, ⟨⟨by omega, by omega⟩, m2, ⟨Int.le_refl 0, by show (0 : Int) ≤ 6; decide⟩, fun _ => ⟨⟨by omega, by omega⟩, m2, Or.inl ⟨rfl, m3, hr⟩⟩, fun z => absurd z (by show ¬ (2 : Int) ≤ 0; decide)⟩, fun z => absurd z (by show ¬ ((0 : Int) = 1 ∨ (0 : Int) = 4 ∨ (0 : Int) = 5); decide), rdF_trans hF m1 (Int.le_refl _) (Int.le_refl _), by rw [m6 30 (by decide)]; exact h30⟩
theorem stp_trans {σ σ1 τ : mS} {T : Int → Int} {n Q I s q k : Int} {e : sE} (hF : rdF σ σ1 Q (100 * Q + I) s) (h : stpP σ1 τ T n Q I s q k e) : stpP σ τ T n Q I s q k e := ⟨h.1, h.2.1, h.2.2.1, h.2.2.2.1, rdF_trans hF h.2.2.2.2.1 (Int.le_refl _) (Int.le_refl _), h.2.2.2.2.2⟩
theorem jn_brackets {β : Bool} {d : Nat} {h : jx_H} {σ : mS} (hl : 49 ≤ h.length) {T : Int → Int} {n p : Int} (ht : tOK T n) (hP : rP σ T n p) (h0 : 0 ≤ p) (hp : p + 1 ≤ n) {s Q I k : Int} {kn : Nat} (e15 : σ 15 0 = Q) (e16 : σ 16 Q = I) (e30 : σ 30 0 = k) (hQ : 0 ≤ Q ∧ Q < 12) (hI : 0 ≤ I ∧ I < 100) (hk : k = kn) (hk1 : kn ≤ 12) (hs : s = 12 * Q + k) : (∀ e, sBr T n p kn = .inl e → ∃ τ : mS, jx_r (jz β) jw_M (d + 6) 239 (0, [some (.ref 15), none], [], ml_mk h σ) (ml_mk h (τ), .inl none) ∧ τ 29 0 = -1 - e ∧ rdF σ τ (-1) (100 * Q + I) s) ∧ (∀ e q, sBr T n p kn = .inr (e, q) → ∃ τ : mS, jx_r (jz β) jw_M (d + 6) 239 (0, [some (.ref 15), none], [], ml_mk h σ) (ml_mk h (τ), .inl none) ∧ stpP σ τ T n Q I s q (k + 1) e) := by
  have hn160 := ht.2.1
  unfold sBr
  by_cases hk12 : kn = 12
  · rw [if_pos hk12]
    refine ⟨fun e' he => ?_, fun a q he => (by cases he)⟩
    cases he
    refine ⟨su σ 29 0 (-1 - p), ?_, su_eq _ _ _ _, rdF_su (rdF_refl _ _ _ _) (by omega)⟩
    refine jr_1 jm_239 (show jw_cd cd_239 0 = some (.aload_n 0) by decide +kernel) rfl ?_
    refine jr_1 jm_239 (show jw_cd cd_239 1 = some (.aload_n 0) by decide +kernel) rfl ?_
    refine jr_1 jm_239 (show jw_cd cd_239 2 = some (.getfield 145) by decide +kernel) (mg_i hl (e := p) hP.2.2.1 (show jw_fld 34 145 16 = some 28 by decide +kernel) (by decide) (by decide)) ?_
    refine jr_c jm_239 (show jw_cd cd_239 5 = some (.invokevirtual 240) by decide +kernel) (mc_v hl (n := 1) (m2 := 238) (bs := [.int (Int32.ofInt (p))]) (r := []) (show jw_find jw_cvT 34 240 = some (1, [(16, 238)]) by decide +kernel) (by decide) rfl rfl rfl) jm_238 ⟨Nat.le_of_ble_eq_true rfl, by decide⟩ (jn_cntF hl hP e30 (by omega)) ?_
    refine jr_1 jm_239 (show jw_cd cd_239 8 = some (.ifCond .ne 4) by decide +kernel) (mz_f (q := .ne) (a := 0) (by show ¬ (¬ (0 = 0)); omega) ⟨by omega, by omega⟩ (by decide)) ?_
    exact jr_v jm_239 (show jw_cd cd_239 11 = some (.return_) by decide +kernel) rfl
  · rw [if_neg hk12]
    have hsE : 12 * Q + (k + 1) - 1 = s := by omega
    have hs144 : 0 ≤ s ∧ s < 144 := by omega
    obtain ⟨s0, s1⟩ := id hs144
    obtain ⟨σ1, h1⟩ : ∃ σ1, σ1 = (su (su (su (su (su σ 30 0 (k + 1)) 28 (0) (p + 1)) 20 (s) (0)) 23 (2 * s) (0)) 23 (2 * s + 1) (0)) := ⟨_, rfl⟩
    have pre : ∀ res, jx_r (jz β) jw_M (d + 6) 239 (64, [some (.ref 15), some (.int (Int32.ofInt (s)))], [], ml_mk h σ1) res → jx_r (jz β) jw_M (d + 6) 239 (0, [some (.ref 15), none], [], ml_mk h σ) res := fun res kk => by
      rw [h1] at kk
      refine jr_1 jm_239 (show jw_cd cd_239 0 = some (.aload_n 0) by decide +kernel) rfl ?_
      refine jr_1 jm_239 (show jw_cd cd_239 1 = some (.aload_n 0) by decide +kernel) rfl ?_
      refine jr_1 jm_239 (show jw_cd cd_239 2 = some (.getfield 145) by decide +kernel) (mg_i hl (e := p) hP.2.2.1 (show jw_fld 34 145 16 = some 28 by decide +kernel) (by decide) (by decide)) ?_
      refine jr_c jm_239 (show jw_cd cd_239 5 = some (.invokevirtual 240) by decide +kernel) (mc_v hl (n := 1) (m2 := 238) (bs := [.int (Int32.ofInt (p))]) (r := []) (show jw_find jw_cvT 34 240 = some (1, [(16, 238)]) by decide +kernel) (by decide) rfl rfl rfl) jm_238 ⟨Nat.le_of_ble_eq_true rfl, by decide⟩ (jn_cntT hl e30 ⟨by omega, by omega⟩) ?_
      refine jr_1 jm_239 (show jw_cd cd_239 8 = some (.ifCond .ne 4) by decide +kernel) (mz_t (q := .ne) (a := 1) (t := 12) (by show ¬ (1 = 0); omega) ⟨by omega, by omega⟩ (by decide) (by decide)) ?_
      refine jr_1 jm_239 (show jw_cd cd_239 12 = some (.aload_n 0) by decide +kernel) rfl ?_
      refine jr_1 jm_239 (show jw_cd cd_239 13 = some (.dup) by decide +kernel) rfl ?_
      refine jr_1 jm_239 (show jw_cd cd_239 14 = some (.getfield 145) by decide +kernel) (mg_i hl (e := p) ((su_nf (by decide)).trans hP.2.2.1) (show jw_fld 34 145 16 = some 28 by decide +kernel) (by decide) (by decide)) ?_
      refine jr_1 jm_239 (show jw_cd cd_239 17 = some (.iconst 1) by decide +kernel) rfl ?_
      refine jr_1 jm_239 (show jw_cd cd_239 18 = some (.iadd) by decide +kernel) (mt_add (c := p + 1) rfl) ?_
      refine jr_1 jm_239 (show jw_cd cd_239 19 = some (.putfield 145) by decide +kernel) (mp_i hl (x := p + 1) (show jw_fld 34 145 16 = some 28 by decide +kernel) (by decide) (by decide) (show jw_ft 16 28 = some .int by decide +kernel) (show jw_fm 34 16 28 = some false by decide +kernel)) ?_
      refine jr_1 jm_239 (show jw_cd cd_239 22 = some (.bipush 12) by decide +kernel) (mt_bi (by decide)) ?_
      refine jr_1 jm_239 (show jw_cd cd_239 24 = some (.aload_n 0) by decide +kernel) rfl ?_
      refine jr_1 jm_239 (show jw_cd cd_239 25 = some (.getfield 219) by decide +kernel) (mg_i hl (e := Q) ((su_nf (by decide)).trans ((su_nf (by decide)).trans e15)) (show jw_fld 34 219 16 = some 15 by decide +kernel) (by decide) (by decide)) ?_
      refine jr_1 jm_239 (show jw_cd cd_239 28 = some (.imul) by decide +kernel) (mt_mul (c := 12 * Q) rfl) ?_
      refine jr_1 jm_239 (show jw_cd cd_239 29 = some (.aload_n 0) by decide +kernel) rfl ?_
      refine jr_1 jm_239 (show jw_cd cd_239 30 = some (.getfield 222) by decide +kernel) (mg_i hl (e := k + 1) ((su_nf (by decide)).trans (su_eq _ _ _ _)) (show jw_fld 34 222 16 = some 30 by decide +kernel) (by decide) (by decide)) ?_
      refine jr_1 jm_239 (show jw_cd cd_239 33 = some (.iadd) by decide +kernel) (mt_add (c := 12 * Q + (k + 1)) rfl) ?_
      refine jr_1 jm_239 (show jw_cd cd_239 34 = some (.iconst 1) by decide +kernel) rfl ?_
      refine jr_1 jm_239 (show jw_cd cd_239 35 = some (.isub) by decide +kernel) (mt_sub (c := s) hsE) ?_
      refine jr_1 jm_239 (F2 := (37, [some (.ref 15), some (.int (Int32.ofInt (s)))], [], ml_mk h (su (su σ 30 (0) (k + 1)) 28 (0) (p + 1)))) (show jw_cd cd_239 36 = some (.istore_n 1) by decide +kernel) rfl ?_
      refine jr_1 jm_239 (show jw_cd cd_239 37 = some (.aload_n 0) by decide +kernel) rfl ?_
      refine jr_1 jm_239 (show jw_cd cd_239 38 = some (.getfield 56) by decide +kernel) (mg_a hl (a := 31) (show jw_fld 34 56 16 = some 20 by decide +kernel) (by decide) (by decide)) ?_
      refine jr_1 jm_239 (show jw_cd cd_239 41 = some (.iload_n 1) by decide +kernel) rfl ?_
      refine jr_1 jm_239 (show jw_cd cd_239 42 = some (.iconst 0) by decide +kernel) rfl ?_
      refine jr_1 jm_239 (show jw_cd cd_239 43 = some (.iastore) by decide +kernel) (ms_i hl (i := s) (x := 0) 20 (by omega) (by show _ < ((144 : Nat) : Int); omega) (by decide) (by decide) (by decide)) ?_
      refine jr_1 jm_239 (show jw_cd cd_239 44 = some (.aload_n 0) by decide +kernel) rfl ?_
      refine jr_1 jm_239 (show jw_cd cd_239 45 = some (.getfield 65) by decide +kernel) (mg_a hl (a := 34) (show jw_fld 34 65 16 = some 23 by decide +kernel) (by decide) (by decide)) ?_
      refine jr_1 jm_239 (show jw_cd cd_239 48 = some (.iconst 2) by decide +kernel) rfl ?_
      refine jr_1 jm_239 (show jw_cd cd_239 49 = some (.iload_n 1) by decide +kernel) rfl ?_
      refine jr_1 jm_239 (show jw_cd cd_239 50 = some (.imul) by decide +kernel) (mt_mul (c := 2 * s) rfl) ?_
      refine jr_1 jm_239 (show jw_cd cd_239 51 = some (.iconst 0) by decide +kernel) rfl ?_
      refine jr_1 jm_239 (show jw_cd cd_239 52 = some (.iastore) by decide +kernel) (ms_i hl (i := 2 * s) (x := 0) 23 (by omega) (by show _ < ((288 : Nat) : Int); omega) (by decide) (by decide) (by decide)) ?_
      refine jr_1 jm_239 (show jw_cd cd_239 53 = some (.aload_n 0) by decide +kernel) rfl ?_
      refine jr_1 jm_239 (show jw_cd cd_239 54 = some (.getfield 65) by decide +kernel) (mg_a hl (a := 34) (show jw_fld 34 65 16 = some 23 by decide +kernel) (by decide) (by decide)) ?_
      refine jr_1 jm_239 (show jw_cd cd_239 57 = some (.iconst 2) by decide +kernel) rfl ?_
      refine jr_1 jm_239 (show jw_cd cd_239 58 = some (.iload_n 1) by decide +kernel) rfl ?_
      refine jr_1 jm_239 (show jw_cd cd_239 59 = some (.imul) by decide +kernel) (mt_mul (c := 2 * s) rfl) ?_
      refine jr_1 jm_239 (show jw_cd cd_239 60 = some (.iconst 1) by decide +kernel) rfl ?_
      refine jr_1 jm_239 (show jw_cd cd_239 61 = some (.iadd) by decide +kernel) (mt_add (c := 2 * s + 1) rfl) ?_
      refine jr_1 jm_239 (show jw_cd cd_239 62 = some (.iconst 0) by decide +kernel) rfl ?_
      refine jr_1 jm_239 (show jw_cd cd_239 63 = some (.iastore) by decide +kernel) (ms_i hl (i := 2 * s + 1) (x := 0) 23 (by omega) (by show _ < ((288 : Nat) : Int); omega) (by decide) (by decide) (by decide)) ?_
      exact kk
    have hP1 : rP σ1 T n (p + 1) := by
      rw [h1]
      exact rP_su (rP_su (rP_su (rP_mv (rP_su hP (by decide) (by decide) (by decide))) (by decide) (by decide) (by decide)) (by decide) (by decide) (by decide)) (by decide) (by decide) (by decide)
    have hF1 : rdF σ σ1 (-1) (100 * Q + I) s := by
      rw [h1]
      refine rdF_su (rdF_su (rdF_su (rdF_su (rdF_su (rdF_refl _ _ _ _) (by omega)) (by omega)) (Or.inr (Or.inr (Or.inr ⟨⟨by decide, by decide⟩, ?_⟩)))) (Or.inr (Or.inr (Or.inr ⟨⟨by decide, by decide⟩, ?_⟩)))) (Or.inr (Or.inr (Or.inr ⟨⟨by decide, by decide⟩, ?_⟩)))
      · show 1 * s ≤ s
        omega
      · exact Int.le_refl (2 * s)
      · show 2 * s ≤ 2 * s + 1
        omega
    have hq : ∀ f, f ∉ [20, 23, 28, 30] → σ1 f = σ f := fun f hf => by
      simp only [List.mem_cons, List.mem_nil_iff, or_false, not_or] at hf
      rw [h1, su_row (by omega), su_row (by omega), su_row (by omega), su_row (by omega), su_row (by omega)]
    have e15b : σ1 15 0 = Q := by rw [hq 15 (by decide)]; exact e15
    have e16b : σ1 16 Q = I := by rw [hq 16 (by decide)]; exact e16
    have e20 : σ1 20 s = 0 := by rw [h1, su_nf (by decide), su_nf (by decide), su_eq]
    have e23 : σ1 23 (2 * s + 1) = 0 := by rw [h1, su_eq]
    have e30b : σ1 30 0 = k + 1 := by rw [h1, su_nf (by decide), su_nf (by decide), su_nf (by decide), su_nf (by decide), su_eq]
    have e15c : ∀ (a b c : Int), su (su σ1 28 0 a) 28 0 b 15 c = σ1 15 c ∧ su σ1 28 0 a 15 c = σ1 15 c ∧ su (su σ1 28 0 a) 28 0 b 16 c = σ1 16 c ∧ su σ1 28 0 a 16 c = σ1 16 c ∧ su (su σ1 28 0 a) 28 0 b 30 c = σ1 30 c ∧ su σ1 28 0 a 30 c = σ1 30 c := fun a b c => ⟨by rw [su_nf (by decide), su_nf (by decide)], su_nf (by decide), by rw [su_nf (by decide), su_nf (by decide)], su_nf (by decide), by rw [su_nf (by decide), su_nf (by decide)], su_nf (by decide)⟩
    have hP2 : rP (su σ1 28 0 (p + 1 + 1)) T n (p + 1 + 1) := rP_mv hP1
    have hF2 : rdF σ (su σ1 28 0 (p + 1 + 1)) (-1) (100 * Q + I) s := rdF_su hF1 (by omega)
    by_cases h93 : tH T n (p + 1) = 93
    · have hl1 := tH_lt ht (by omega) h93 (by decide)
      rw [if_pos h93]
      refine ⟨fun e' he => (by cases he), fun a q he => ?_⟩
      cases he
      refine ⟨mAdd (su σ1 28 0 (p + 1 + 1)) Q I 6 0 s, pre _ ?_, stp_add (Or.inr (Or.inr rfl)) hQ hI hP2 (rdF_w hF2) (by rw [su_nf (by decide)]; exact e30b)⟩
      · have e16c : su σ1 28 0 (p + 1 + 1) 16 Q = I := by rw [su_nf (by decide)]; exact e16b
        have e15c : su σ1 28 0 (p + 1 + 1) 15 0 = Q := by rw [su_nf (by decide)]; exact e15b
        refine jr_1 jm_239 (show jw_cd cd_239 64 = some (.aload_n 0) by decide +kernel) rfl ?_
        refine jr_1 jm_239 (show jw_cd cd_239 65 = some (.bipush 93) by decide +kernel) (mt_bi (by decide)) ?_
        refine jr_c jm_239 (show jw_cd cd_239 67 = some (.invokevirtual 170) by decide +kernel) (mc_v hl (n := 1) (m2 := 226) (bs := [.int (Int32.ofInt (93))]) (r := []) (show jw_find jw_cvT 34 170 = some (1, [(16, 226)]) by decide +kernel) (by decide) rfl rfl rfl) jm_226 ⟨Nat.le_of_ble_eq_true rfl, by decide⟩ (jn_takT hl ht hP1 (by omega) (by omega) ⟨by decide, by decide⟩ h93) ?_
        refine jr_1 jm_239 (show jw_cd cd_239 70 = some (.ifCond .eq 14) by decide +kernel) (mz_f (q := .eq) (a := 1) (by show ¬ (1 = 0); omega) ⟨by omega, by omega⟩ (by decide)) ?_
        refine jr_1 jm_239 (show jw_cd cd_239 73 = some (.aload_n 0) by decide +kernel) rfl ?_
        refine jr_1 jm_239 (show jw_cd cd_239 74 = some (.bipush 6) by decide +kernel) (mt_bi (by decide)) ?_
        refine jr_1 jm_239 (F2 := (77, [some (.ref 15), some (.int (Int32.ofInt (s)))], [.long (Int64.ofInt (0)), .int (Int32.ofInt (6)), .ref 15], ml_mk h (su σ1 28 0 (p + 1 + 1)))) (show jw_cd cd_239 76 = some (.lconst 0) by decide +kernel) rfl ?_
        refine jr_1 jm_239 (show jw_cd cd_239 77 = some (.iload_n 1) by decide +kernel) rfl ?_
        refine jr_c jm_239 (show jw_cd cd_239 78 = some (.invokevirtual 233) by decide +kernel) (mc_v hl (n := 3) (m2 := 237) (bs := [.int (Int32.ofInt (6)), .long (Int64.ofInt (0)), .int (Int32.ofInt (s))]) (r := []) (show jw_find jw_cvT 34 233 = some (3, [(16, 237)]) by decide +kernel) (by decide) rfl rfl rfl) jm_237 ⟨Nat.le_of_ble_eq_true rfl, by decide⟩ (jn_add hl e15c e16c hQ hI) ?_
        refine jr_1 jm_239 (show jw_cd cd_239 81 = some (.goto 53) by decide +kernel) (ju_go (t := 134) (by decide)) ?_
        exact jr_v jm_239 (show jw_cd cd_239 134 = some (.return_) by decide +kernel) rfl
    · rw [if_neg h93]
      by_cases h42 : tH T n (p + 1) = 42
      · have hl1 := tH_lt ht (by omega) h42 (by decide)
        rw [if_pos h42]
        by_cases h93b : tH T n (p + 1 + 1) = 93
        · have hl2 := tH_lt ht (by omega) h93b (by decide)
          rw [if_pos h93b]
          refine ⟨fun e' he => (by cases he), fun a q he => ?_⟩
          cases he
          have e16c : su (su σ1 28 0 (p + 1 + 1)) 28 0 (p + 1 + 1 + 1) 16 Q = I := by rw [su_nf (by decide), su_nf (by decide)]; exact e16b
          have e15c : su (su σ1 28 0 (p + 1 + 1)) 28 0 (p + 1 + 1 + 1) 15 0 = Q := by rw [su_nf (by decide), su_nf (by decide)]; exact e15b
          refine ⟨mAdd (su (su σ1 28 0 (p + 1 + 1)) 28 0 (p + 1 + 1 + 1)) Q I 2 0 s, pre _ ?_, stp_add (Or.inl rfl) hQ hI (rP_mv hP2) (rdF_w (rdF_su hF2 (by omega))) (by rw [su_nf (by decide), su_nf (by decide)]; exact e30b)⟩
          refine jr_1 jm_239 (show jw_cd cd_239 64 = some (.aload_n 0) by decide +kernel) rfl ?_
          refine jr_1 jm_239 (show jw_cd cd_239 65 = some (.bipush 93) by decide +kernel) (mt_bi (by decide)) ?_
          refine jr_c jm_239 (show jw_cd cd_239 67 = some (.invokevirtual 170) by decide +kernel) (mc_v hl (n := 1) (m2 := 226) (bs := [.int (Int32.ofInt (93))]) (r := []) (show jw_find jw_cvT 34 170 = some (1, [(16, 226)]) by decide +kernel) (by decide) rfl rfl rfl) jm_226 ⟨Nat.le_of_ble_eq_true rfl, by decide⟩ (jn_takF hl ht hP1 (by omega) (by omega) ⟨by decide, by decide⟩ h93) ?_
          refine jr_1 jm_239 (show jw_cd cd_239 70 = some (.ifCond .eq 14) by decide +kernel) (mz_t (q := .eq) (a := 0) (t := 84) (by show 0 = 0; omega) ⟨by omega, by omega⟩ (by decide) (by decide)) ?_
          refine jr_1 jm_239 (show jw_cd cd_239 84 = some (.aload_n 0) by decide +kernel) rfl ?_
          refine jr_1 jm_239 (show jw_cd cd_239 85 = some (.bipush 42) by decide +kernel) (mt_bi (by decide)) ?_
          refine jr_c jm_239 (show jw_cd cd_239 87 = some (.invokevirtual 170) by decide +kernel) (mc_v hl (n := 1) (m2 := 226) (bs := [.int (Int32.ofInt (42))]) (r := []) (show jw_find jw_cvT 34 170 = some (1, [(16, 226)]) by decide +kernel) (by decide) rfl rfl rfl) jm_226 ⟨Nat.le_of_ble_eq_true rfl, by decide⟩ (jn_takT hl ht hP1 (by omega) (by omega) ⟨by decide, by decide⟩ h42) ?_
          refine jr_1 jm_239 (show jw_cd cd_239 90 = some (.ifCond .eq 22) by decide +kernel) (mz_f (q := .eq) (a := 1) (by show ¬ (1 = 0); omega) ⟨by omega, by omega⟩ (by decide)) ?_
          refine jr_1 jm_239 (show jw_cd cd_239 93 = some (.aload_n 0) by decide +kernel) rfl ?_
          refine jr_1 jm_239 (show jw_cd cd_239 94 = some (.bipush 93) by decide +kernel) (mt_bi (by decide)) ?_
          refine jr_c jm_239 (show jw_cd cd_239 96 = some (.invokevirtual 179) by decide +kernel) (mc_v hl (n := 1) (m2 := 221) (bs := [.int (Int32.ofInt (93))]) (r := []) (show jw_find jw_cvT 34 179 = some (1, [(16, 221)]) by decide +kernel) (by decide) rfl rfl rfl) jm_221 ⟨Nat.le_of_ble_eq_true rfl, by decide⟩ (jn_mustT hl ht hP2 (by omega) (by omega) ⟨by decide, by decide⟩ h93b) ?_
          refine jr_1 jm_239 (show jw_cd cd_239 99 = some (.ifCond .eq 35) by decide +kernel) (mz_f (q := .eq) (a := 1) (by show ¬ (1 = 0); omega) ⟨by omega, by omega⟩ (by decide)) ?_
          refine jr_1 jm_239 (show jw_cd cd_239 102 = some (.aload_n 0) by decide +kernel) rfl ?_
          refine jr_1 jm_239 (show jw_cd cd_239 103 = some (.iconst 2) by decide +kernel) rfl ?_
          refine jr_1 jm_239 (F2 := (105, [some (.ref 15), some (.int (Int32.ofInt (s)))], [.long (Int64.ofInt (0)), .int (Int32.ofInt (2)), .ref 15], ml_mk h (su (su σ1 28 0 (p + 1 + 1)) 28 0 (p + 1 + 1 + 1)))) (show jw_cd cd_239 104 = some (.lconst 0) by decide +kernel) rfl ?_
          refine jr_1 jm_239 (show jw_cd cd_239 105 = some (.iload_n 1) by decide +kernel) rfl ?_
          refine jr_c jm_239 (show jw_cd cd_239 106 = some (.invokevirtual 233) by decide +kernel) (mc_v hl (n := 3) (m2 := 237) (bs := [.int (Int32.ofInt (2)), .long (Int64.ofInt (0)), .int (Int32.ofInt (s))]) (r := []) (show jw_find jw_cvT 34 233 = some (3, [(16, 237)]) by decide +kernel) (by decide) rfl rfl rfl) jm_237 ⟨Nat.le_of_ble_eq_true rfl, by decide⟩ (jn_add hl e15c e16c hQ hI) ?_
          refine jr_1 jm_239 (show jw_cd cd_239 109 = some (.goto 25) by decide +kernel) (ju_go (t := 134) (by decide)) ?_
          exact jr_v jm_239 (show jw_cd cd_239 134 = some (.return_) by decide +kernel) rfl
        · rw [if_neg h93b]
          refine ⟨fun e' he => ?_, fun a q he => (by cases he)⟩
          cases he
          refine ⟨su (su σ1 28 0 (p + 1 + 1)) 29 0 (-1 - (p + 1 + 1)), pre _ ?_, su_eq _ _ _ _, rdF_su hF2 (by omega)⟩
          refine jr_1 jm_239 (show jw_cd cd_239 64 = some (.aload_n 0) by decide +kernel) rfl ?_
          refine jr_1 jm_239 (show jw_cd cd_239 65 = some (.bipush 93) by decide +kernel) (mt_bi (by decide)) ?_
          refine jr_c jm_239 (show jw_cd cd_239 67 = some (.invokevirtual 170) by decide +kernel) (mc_v hl (n := 1) (m2 := 226) (bs := [.int (Int32.ofInt (93))]) (r := []) (show jw_find jw_cvT 34 170 = some (1, [(16, 226)]) by decide +kernel) (by decide) rfl rfl rfl) jm_226 ⟨Nat.le_of_ble_eq_true rfl, by decide⟩ (jn_takF hl ht hP1 (by omega) (by omega) ⟨by decide, by decide⟩ h93) ?_
          refine jr_1 jm_239 (show jw_cd cd_239 70 = some (.ifCond .eq 14) by decide +kernel) (mz_t (q := .eq) (a := 0) (t := 84) (by show 0 = 0; omega) ⟨by omega, by omega⟩ (by decide) (by decide)) ?_
          refine jr_1 jm_239 (show jw_cd cd_239 84 = some (.aload_n 0) by decide +kernel) rfl ?_
          refine jr_1 jm_239 (show jw_cd cd_239 85 = some (.bipush 42) by decide +kernel) (mt_bi (by decide)) ?_
          refine jr_c jm_239 (show jw_cd cd_239 87 = some (.invokevirtual 170) by decide +kernel) (mc_v hl (n := 1) (m2 := 226) (bs := [.int (Int32.ofInt (42))]) (r := []) (show jw_find jw_cvT 34 170 = some (1, [(16, 226)]) by decide +kernel) (by decide) rfl rfl rfl) jm_226 ⟨Nat.le_of_ble_eq_true rfl, by decide⟩ (jn_takT hl ht hP1 (by omega) (by omega) ⟨by decide, by decide⟩ h42) ?_
          refine jr_1 jm_239 (show jw_cd cd_239 90 = some (.ifCond .eq 22) by decide +kernel) (mz_f (q := .eq) (a := 1) (by show ¬ (1 = 0); omega) ⟨by omega, by omega⟩ (by decide)) ?_
          refine jr_1 jm_239 (show jw_cd cd_239 93 = some (.aload_n 0) by decide +kernel) rfl ?_
          refine jr_1 jm_239 (show jw_cd cd_239 94 = some (.bipush 93) by decide +kernel) (mt_bi (by decide)) ?_
          refine jr_c jm_239 (show jw_cd cd_239 96 = some (.invokevirtual 179) by decide +kernel) (mc_v hl (n := 1) (m2 := 221) (bs := [.int (Int32.ofInt (93))]) (r := []) (show jw_find jw_cvT 34 179 = some (1, [(16, 221)]) by decide +kernel) (by decide) rfl rfl rfl) jm_221 ⟨Nat.le_of_ble_eq_true rfl, by decide⟩ (jn_mustF hl ht hP2 (by omega) (by omega) ⟨by decide, by decide⟩ h93b) ?_
          refine jr_1 jm_239 (show jw_cd cd_239 99 = some (.ifCond .eq 35) by decide +kernel) (mz_t (q := .eq) (a := 0) (t := 134) (by show 0 = 0; omega) ⟨by omega, by omega⟩ (by decide) (by decide)) ?_
          exact jr_v jm_239 (show jw_cd cd_239 134 = some (.return_) by decide +kernel) rfl
      · rw [if_neg h42]
        by_cases h63 : tH T n (p + 1) = 63
        · have hl1 := tH_lt ht (by omega) h63 (by decide)
          rw [if_pos h63]
          have hC := jn_cond (β := β) (d := d) (h := h) (σ := su σ1 28 0 (p + 1 + 1)) hl ht hP2 (by omega) (by omega) hs144 (by rw [su_nf (by decide)]; exact e15b) (by rw [su_nf (by decide)]; exact e16b) hQ hI (by rw [su_nf (by decide)]; exact e23)
          refine ⟨fun e' he => ?_, fun a q he => ?_⟩
          · obtain ⟨τ, r1, r2, r3⟩ := hC.1 e' he
            refine ⟨τ, pre _ ?_, r2, rdF_trans hF2 r3 (Int.le_refl _) (Int.le_refl _)⟩
            refine jr_1 jm_239 (show jw_cd cd_239 64 = some (.aload_n 0) by decide +kernel) rfl ?_
            refine jr_1 jm_239 (show jw_cd cd_239 65 = some (.bipush 93) by decide +kernel) (mt_bi (by decide)) ?_
            refine jr_c jm_239 (show jw_cd cd_239 67 = some (.invokevirtual 170) by decide +kernel) (mc_v hl (n := 1) (m2 := 226) (bs := [.int (Int32.ofInt (93))]) (r := []) (show jw_find jw_cvT 34 170 = some (1, [(16, 226)]) by decide +kernel) (by decide) rfl rfl rfl) jm_226 ⟨Nat.le_of_ble_eq_true rfl, by decide⟩ (jn_takF hl ht hP1 (by omega) (by omega) ⟨by decide, by decide⟩ h93) ?_
            refine jr_1 jm_239 (show jw_cd cd_239 70 = some (.ifCond .eq 14) by decide +kernel) (mz_t (q := .eq) (a := 0) (t := 84) (by show 0 = 0; omega) ⟨by omega, by omega⟩ (by decide) (by decide)) ?_
            refine jr_1 jm_239 (show jw_cd cd_239 84 = some (.aload_n 0) by decide +kernel) rfl ?_
            refine jr_1 jm_239 (show jw_cd cd_239 85 = some (.bipush 42) by decide +kernel) (mt_bi (by decide)) ?_
            refine jr_c jm_239 (show jw_cd cd_239 87 = some (.invokevirtual 170) by decide +kernel) (mc_v hl (n := 1) (m2 := 226) (bs := [.int (Int32.ofInt (42))]) (r := []) (show jw_find jw_cvT 34 170 = some (1, [(16, 226)]) by decide +kernel) (by decide) rfl rfl rfl) jm_226 ⟨Nat.le_of_ble_eq_true rfl, by decide⟩ (jn_takF hl ht hP1 (by omega) (by omega) ⟨by decide, by decide⟩ h42) ?_
            refine jr_1 jm_239 (show jw_cd cd_239 90 = some (.ifCond .eq 22) by decide +kernel) (mz_t (q := .eq) (a := 0) (t := 112) (by show 0 = 0; omega) ⟨by omega, by omega⟩ (by decide) (by decide)) ?_
            refine jr_1 jm_239 (show jw_cd cd_239 112 = some (.aload_n 0) by decide +kernel) rfl ?_
            refine jr_1 jm_239 (show jw_cd cd_239 113 = some (.bipush 63) by decide +kernel) (mt_bi (by decide)) ?_
            refine jr_c jm_239 (show jw_cd cd_239 115 = some (.invokevirtual 170) by decide +kernel) (mc_v hl (n := 1) (m2 := 226) (bs := [.int (Int32.ofInt (63))]) (r := []) (show jw_find jw_cvT 34 170 = some (1, [(16, 226)]) by decide +kernel) (by decide) rfl rfl rfl) jm_226 ⟨Nat.le_of_ble_eq_true rfl, by decide⟩ (jn_takT hl ht hP1 (by omega) (by omega) ⟨by decide, by decide⟩ h63) ?_
            refine jr_1 jm_239 (show jw_cd cd_239 118 = some (.ifCond .eq 11) by decide +kernel) (mz_f (q := .eq) (a := 1) (by show ¬ (1 = 0); omega) ⟨by omega, by omega⟩ (by decide)) ?_
            refine jr_1 jm_239 (show jw_cd cd_239 121 = some (.aload_n 0) by decide +kernel) rfl ?_
            refine jr_1 jm_239 (show jw_cd cd_239 122 = some (.iload_n 1) by decide +kernel) rfl ?_
            refine jr_c jm_239 (show jw_cd cd_239 123 = some (.invokevirtual 246) by decide +kernel) (mc_v hl (n := 1) (m2 := 240) (bs := [.int (Int32.ofInt (s))]) (r := []) (show jw_find jw_cvT 34 246 = some (1, [(16, 240)]) by decide +kernel) (by decide) rfl rfl rfl) jm_240 ⟨Nat.le_of_ble_eq_true rfl, by decide⟩ r1 ?_
            refine jr_1 jm_239 (show jw_cd cd_239 126 = some (.goto 8) by decide +kernel) (ju_go (t := 134) (by decide)) ?_
            exact jr_v jm_239 (show jw_cd cd_239 134 = some (.return_) by decide +kernel) rfl
          · obtain ⟨τ, r1, r2⟩ := hC.2 a q he
            rw [su_nf (by decide), e30b] at r2
            refine ⟨τ, pre _ ?_, stp_trans (rdF_w hF2) r2⟩
            refine jr_1 jm_239 (show jw_cd cd_239 64 = some (.aload_n 0) by decide +kernel) rfl ?_
            refine jr_1 jm_239 (show jw_cd cd_239 65 = some (.bipush 93) by decide +kernel) (mt_bi (by decide)) ?_
            refine jr_c jm_239 (show jw_cd cd_239 67 = some (.invokevirtual 170) by decide +kernel) (mc_v hl (n := 1) (m2 := 226) (bs := [.int (Int32.ofInt (93))]) (r := []) (show jw_find jw_cvT 34 170 = some (1, [(16, 226)]) by decide +kernel) (by decide) rfl rfl rfl) jm_226 ⟨Nat.le_of_ble_eq_true rfl, by decide⟩ (jn_takF hl ht hP1 (by omega) (by omega) ⟨by decide, by decide⟩ h93) ?_
            refine jr_1 jm_239 (show jw_cd cd_239 70 = some (.ifCond .eq 14) by decide +kernel) (mz_t (q := .eq) (a := 0) (t := 84) (by show 0 = 0; omega) ⟨by omega, by omega⟩ (by decide) (by decide)) ?_
            refine jr_1 jm_239 (show jw_cd cd_239 84 = some (.aload_n 0) by decide +kernel) rfl ?_
            refine jr_1 jm_239 (show jw_cd cd_239 85 = some (.bipush 42) by decide +kernel) (mt_bi (by decide)) ?_
            refine jr_c jm_239 (show jw_cd cd_239 87 = some (.invokevirtual 170) by decide +kernel) (mc_v hl (n := 1) (m2 := 226) (bs := [.int (Int32.ofInt (42))]) (r := []) (show jw_find jw_cvT 34 170 = some (1, [(16, 226)]) by decide +kernel) (by decide) rfl rfl rfl) jm_226 ⟨Nat.le_of_ble_eq_true rfl, by decide⟩ (jn_takF hl ht hP1 (by omega) (by omega) ⟨by decide, by decide⟩ h42) ?_
            refine jr_1 jm_239 (show jw_cd cd_239 90 = some (.ifCond .eq 22) by decide +kernel) (mz_t (q := .eq) (a := 0) (t := 112) (by show 0 = 0; omega) ⟨by omega, by omega⟩ (by decide) (by decide)) ?_
            refine jr_1 jm_239 (show jw_cd cd_239 112 = some (.aload_n 0) by decide +kernel) rfl ?_
            refine jr_1 jm_239 (show jw_cd cd_239 113 = some (.bipush 63) by decide +kernel) (mt_bi (by decide)) ?_
            refine jr_c jm_239 (show jw_cd cd_239 115 = some (.invokevirtual 170) by decide +kernel) (mc_v hl (n := 1) (m2 := 226) (bs := [.int (Int32.ofInt (63))]) (r := []) (show jw_find jw_cvT 34 170 = some (1, [(16, 226)]) by decide +kernel) (by decide) rfl rfl rfl) jm_226 ⟨Nat.le_of_ble_eq_true rfl, by decide⟩ (jn_takT hl ht hP1 (by omega) (by omega) ⟨by decide, by decide⟩ h63) ?_
            refine jr_1 jm_239 (show jw_cd cd_239 118 = some (.ifCond .eq 11) by decide +kernel) (mz_f (q := .eq) (a := 1) (by show ¬ (1 = 0); omega) ⟨by omega, by omega⟩ (by decide)) ?_
            refine jr_1 jm_239 (show jw_cd cd_239 121 = some (.aload_n 0) by decide +kernel) rfl ?_
            refine jr_1 jm_239 (show jw_cd cd_239 122 = some (.iload_n 1) by decide +kernel) rfl ?_
            refine jr_c jm_239 (show jw_cd cd_239 123 = some (.invokevirtual 246) by decide +kernel) (mc_v hl (n := 1) (m2 := 240) (bs := [.int (Int32.ofInt (s))]) (r := []) (show jw_find jw_cvT 34 246 = some (1, [(16, 240)]) by decide +kernel) (by decide) rfl rfl rfl) jm_240 ⟨Nat.le_of_ble_eq_true rfl, by decide⟩ r1 ?_
            refine jr_1 jm_239 (show jw_cd cd_239 126 = some (.goto 8) by decide +kernel) (ju_go (t := 134) (by decide)) ?_
            exact jr_v jm_239 (show jw_cd cd_239 134 = some (.return_) by decide +kernel) rfl
        · rw [if_neg h63]
          have hC := jn_numbered (β := β) (d := d + 2) (h := h) (σ := σ1) hl ht hP1 (by omega) (by omega) hs144 e15b e16b hQ hI e20
          refine ⟨fun e' he => ?_, fun a q he => ?_⟩
          · obtain ⟨τ, r1, r2, r3⟩ := hC.1 e' he
            refine ⟨τ, pre _ ?_, r2, rdF_trans hF1 r3 (Int.le_refl _) (Int.le_refl _)⟩
            refine jr_1 jm_239 (show jw_cd cd_239 64 = some (.aload_n 0) by decide +kernel) rfl ?_
            refine jr_1 jm_239 (show jw_cd cd_239 65 = some (.bipush 93) by decide +kernel) (mt_bi (by decide)) ?_
            refine jr_c jm_239 (show jw_cd cd_239 67 = some (.invokevirtual 170) by decide +kernel) (mc_v hl (n := 1) (m2 := 226) (bs := [.int (Int32.ofInt (93))]) (r := []) (show jw_find jw_cvT 34 170 = some (1, [(16, 226)]) by decide +kernel) (by decide) rfl rfl rfl) jm_226 ⟨Nat.le_of_ble_eq_true rfl, by decide⟩ (jn_takF hl ht hP1 (by omega) (by omega) ⟨by decide, by decide⟩ h93) ?_
            refine jr_1 jm_239 (show jw_cd cd_239 70 = some (.ifCond .eq 14) by decide +kernel) (mz_t (q := .eq) (a := 0) (t := 84) (by show 0 = 0; omega) ⟨by omega, by omega⟩ (by decide) (by decide)) ?_
            refine jr_1 jm_239 (show jw_cd cd_239 84 = some (.aload_n 0) by decide +kernel) rfl ?_
            refine jr_1 jm_239 (show jw_cd cd_239 85 = some (.bipush 42) by decide +kernel) (mt_bi (by decide)) ?_
            refine jr_c jm_239 (show jw_cd cd_239 87 = some (.invokevirtual 170) by decide +kernel) (mc_v hl (n := 1) (m2 := 226) (bs := [.int (Int32.ofInt (42))]) (r := []) (show jw_find jw_cvT 34 170 = some (1, [(16, 226)]) by decide +kernel) (by decide) rfl rfl rfl) jm_226 ⟨Nat.le_of_ble_eq_true rfl, by decide⟩ (jn_takF hl ht hP1 (by omega) (by omega) ⟨by decide, by decide⟩ h42) ?_
            refine jr_1 jm_239 (show jw_cd cd_239 90 = some (.ifCond .eq 22) by decide +kernel) (mz_t (q := .eq) (a := 0) (t := 112) (by show 0 = 0; omega) ⟨by omega, by omega⟩ (by decide) (by decide)) ?_
            refine jr_1 jm_239 (show jw_cd cd_239 112 = some (.aload_n 0) by decide +kernel) rfl ?_
            refine jr_1 jm_239 (show jw_cd cd_239 113 = some (.bipush 63) by decide +kernel) (mt_bi (by decide)) ?_
            refine jr_c jm_239 (show jw_cd cd_239 115 = some (.invokevirtual 170) by decide +kernel) (mc_v hl (n := 1) (m2 := 226) (bs := [.int (Int32.ofInt (63))]) (r := []) (show jw_find jw_cvT 34 170 = some (1, [(16, 226)]) by decide +kernel) (by decide) rfl rfl rfl) jm_226 ⟨Nat.le_of_ble_eq_true rfl, by decide⟩ (jn_takF hl ht hP1 (by omega) (by omega) ⟨by decide, by decide⟩ h63) ?_
            refine jr_1 jm_239 (show jw_cd cd_239 118 = some (.ifCond .eq 11) by decide +kernel) (mz_t (q := .eq) (a := 0) (t := 129) (by show 0 = 0; omega) ⟨by omega, by omega⟩ (by decide) (by decide)) ?_
            refine jr_1 jm_239 (show jw_cd cd_239 129 = some (.aload_n 0) by decide +kernel) rfl ?_
            refine jr_1 jm_239 (show jw_cd cd_239 130 = some (.iload_n 1) by decide +kernel) rfl ?_
            refine jr_c jm_239 (show jw_cd cd_239 131 = some (.invokevirtual 249) by decide +kernel) (mc_v hl (n := 1) (m2 := 243) (bs := [.int (Int32.ofInt (s))]) (r := []) (show jw_find jw_cvT 34 249 = some (1, [(16, 243)]) by decide +kernel) (by decide) rfl rfl rfl) jm_243 ⟨Nat.le_of_ble_eq_true rfl, by decide⟩ r1 ?_
            exact jr_v jm_239 (show jw_cd cd_239 134 = some (.return_) by decide +kernel) rfl
          · obtain ⟨τ, r1, r2⟩ := hC.2 a q he
            rw [e30b] at r2
            refine ⟨τ, pre _ ?_, stp_trans (rdF_w hF1) r2⟩
            refine jr_1 jm_239 (show jw_cd cd_239 64 = some (.aload_n 0) by decide +kernel) rfl ?_
            refine jr_1 jm_239 (show jw_cd cd_239 65 = some (.bipush 93) by decide +kernel) (mt_bi (by decide)) ?_
            refine jr_c jm_239 (show jw_cd cd_239 67 = some (.invokevirtual 170) by decide +kernel) (mc_v hl (n := 1) (m2 := 226) (bs := [.int (Int32.ofInt (93))]) (r := []) (show jw_find jw_cvT 34 170 = some (1, [(16, 226)]) by decide +kernel) (by decide) rfl rfl rfl) jm_226 ⟨Nat.le_of_ble_eq_true rfl, by decide⟩ (jn_takF hl ht hP1 (by omega) (by omega) ⟨by decide, by decide⟩ h93) ?_
            refine jr_1 jm_239 (show jw_cd cd_239 70 = some (.ifCond .eq 14) by decide +kernel) (mz_t (q := .eq) (a := 0) (t := 84) (by show 0 = 0; omega) ⟨by omega, by omega⟩ (by decide) (by decide)) ?_
            refine jr_1 jm_239 (show jw_cd cd_239 84 = some (.aload_n 0) by decide +kernel) rfl ?_
            refine jr_1 jm_239 (show jw_cd cd_239 85 = some (.bipush 42) by decide +kernel) (mt_bi (by decide)) ?_
            refine jr_c jm_239 (show jw_cd cd_239 87 = some (.invokevirtual 170) by decide +kernel) (mc_v hl (n := 1) (m2 := 226) (bs := [.int (Int32.ofInt (42))]) (r := []) (show jw_find jw_cvT 34 170 = some (1, [(16, 226)]) by decide +kernel) (by decide) rfl rfl rfl) jm_226 ⟨Nat.le_of_ble_eq_true rfl, by decide⟩ (jn_takF hl ht hP1 (by omega) (by omega) ⟨by decide, by decide⟩ h42) ?_
            refine jr_1 jm_239 (show jw_cd cd_239 90 = some (.ifCond .eq 22) by decide +kernel) (mz_t (q := .eq) (a := 0) (t := 112) (by show 0 = 0; omega) ⟨by omega, by omega⟩ (by decide) (by decide)) ?_
            refine jr_1 jm_239 (show jw_cd cd_239 112 = some (.aload_n 0) by decide +kernel) rfl ?_
            refine jr_1 jm_239 (show jw_cd cd_239 113 = some (.bipush 63) by decide +kernel) (mt_bi (by decide)) ?_
            refine jr_c jm_239 (show jw_cd cd_239 115 = some (.invokevirtual 170) by decide +kernel) (mc_v hl (n := 1) (m2 := 226) (bs := [.int (Int32.ofInt (63))]) (r := []) (show jw_find jw_cvT 34 170 = some (1, [(16, 226)]) by decide +kernel) (by decide) rfl rfl rfl) jm_226 ⟨Nat.le_of_ble_eq_true rfl, by decide⟩ (jn_takF hl ht hP1 (by omega) (by omega) ⟨by decide, by decide⟩ h63) ?_
            refine jr_1 jm_239 (show jw_cd cd_239 118 = some (.ifCond .eq 11) by decide +kernel) (mz_t (q := .eq) (a := 0) (t := 129) (by show 0 = 0; omega) ⟨by omega, by omega⟩ (by decide) (by decide)) ?_
            refine jr_1 jm_239 (show jw_cd cd_239 129 = some (.aload_n 0) by decide +kernel) rfl ?_
            refine jr_1 jm_239 (show jw_cd cd_239 130 = some (.iload_n 1) by decide +kernel) rfl ?_
            refine jr_c jm_239 (show jw_cd cd_239 131 = some (.invokevirtual 249) by decide +kernel) (mc_v hl (n := 1) (m2 := 243) (bs := [.int (Int32.ofInt (s))]) (r := []) (show jw_find jw_cvT 34 249 = some (1, [(16, 243)]) by decide +kernel) (by decide) rfl rfl rfl) jm_243 ⟨Nat.le_of_ble_eq_true rfl, by decide⟩ r1 ?_
            exact jr_v jm_239 (show jw_cd cd_239 134 = some (.return_) by decide +kernel) rfl
theorem jn_readNext {β : Bool} {d : Nat} {h : jx_H} {σ : mS} (hl : 49 ≤ h.length) {T : Int → Int} {n p : Int} (ht : tOK T n) (hP : rP σ T n p) (h0 : 0 ≤ p) (hp : p + 1 ≤ n) {s Q I k : Int} {kn : Nat} (e15 : σ 15 0 = Q) (e16 : σ 16 Q = I) (e30 : σ 30 0 = k) (hQ : 0 ≤ Q ∧ Q < 12) (hI : 0 ≤ I ∧ I < 100) (hk : k = kn) (hk1 : kn ≤ 12) (hs : s = 12 * Q + k) : (∀ e, sNxt T n p kn = .inl e → ∃ τ : mS, jx_r (jz β) jw_M (d + 7) 244 (0, [some (.ref 15)], [], ml_mk h σ) (ml_mk h (τ), .inl none) ∧ τ 29 0 = -1 - e ∧ rdF σ τ (-1) (100 * Q + I) s) ∧ (∀ e q, sNxt T n p kn = .inr (e, q) → ∃ τ : mS, jx_r (jz β) jw_M (d + 7) 244 (0, [some (.ref 15)], [], ml_mk h σ) (ml_mk h (τ), .inl none) ∧ stpP σ τ T n Q I s q (k + 1) e) := by
  have hn160 := ht.2.1
  have hh := tH_r (p := p) ht h0
  unfold sNxt
  by_cases h91 : tH T n p = 91
  · rw [if_pos h91]
    have hB := jn_brackets (β := β) (d := d) (h := h) hl ht hP h0 hp e15 e16 e30 hQ hI hk hk1 hs
    refine ⟨fun e' he => ?_, fun a q he => ?_⟩
    · obtain ⟨τ, r1, r2, r3⟩ := hB.1 e' he
      refine ⟨τ, ?_, r2, r3⟩
      refine jr_1 jm_244 (show jw_cd cd_244 0 = some (.aload_n 0) by decide +kernel) rfl ?_
      refine jr_c jm_244 (show jw_cd cd_244 1 = some (.invokevirtual 151) by decide +kernel) (mc_v hl (n := 0) (m2 := 215) (bs := []) (r := []) (show jw_find jw_cvT 34 151 = some (0, [(16, 215)]) by decide +kernel) (by decide) rfl rfl rfl) jm_215 ⟨Nat.le_of_ble_eq_true rfl, by decide⟩ (jn_hr hl ht hP h0 (by omega)) ?_
      refine jr_1 jm_244 (show jw_cd cd_244 4 = some (.bipush 91) by decide +kernel) (mt_bi (by decide)) ?_
      refine jr_1 jm_244 (show jw_cd cd_244 6 = some (.if_icmp .ne 8) by decide +kernel) (mb_f (q := .ne) (a := tH T n p) (b := 91) (by show ¬ (¬ (tH T n p = 91)); omega) ⟨by omega, by omega⟩ ⟨by omega, by omega⟩ (by decide)) ?_
      refine jr_1 jm_244 (show jw_cd cd_244 9 = some (.aload_n 0) by decide +kernel) rfl ?_
      refine jr_c jm_244 (show jw_cd cd_244 10 = some (.invokevirtual 243) by decide +kernel) (mc_v hl (n := 0) (m2 := 239) (bs := []) (r := []) (show jw_find jw_cvT 34 243 = some (0, [(16, 239)]) by decide +kernel) (by decide) rfl rfl rfl) jm_239 ⟨Nat.le_of_ble_eq_true rfl, by decide⟩ r1 ?_
      exact jr_v jm_244 (show jw_cd cd_244 13 = some (.return_) by decide +kernel) rfl
    · obtain ⟨τ, r1, r2⟩ := hB.2 a q he
      refine ⟨τ, ?_, r2⟩
      refine jr_1 jm_244 (show jw_cd cd_244 0 = some (.aload_n 0) by decide +kernel) rfl ?_
      refine jr_c jm_244 (show jw_cd cd_244 1 = some (.invokevirtual 151) by decide +kernel) (mc_v hl (n := 0) (m2 := 215) (bs := []) (r := []) (show jw_find jw_cvT 34 151 = some (0, [(16, 215)]) by decide +kernel) (by decide) rfl rfl rfl) jm_215 ⟨Nat.le_of_ble_eq_true rfl, by decide⟩ (jn_hr hl ht hP h0 (by omega)) ?_
      refine jr_1 jm_244 (show jw_cd cd_244 4 = some (.bipush 91) by decide +kernel) (mt_bi (by decide)) ?_
      refine jr_1 jm_244 (show jw_cd cd_244 6 = some (.if_icmp .ne 8) by decide +kernel) (mb_f (q := .ne) (a := tH T n p) (b := 91) (by show ¬ (¬ (tH T n p = 91)); omega) ⟨by omega, by omega⟩ ⟨by omega, by omega⟩ (by decide)) ?_
      refine jr_1 jm_244 (show jw_cd cd_244 9 = some (.aload_n 0) by decide +kernel) rfl ?_
      refine jr_c jm_244 (show jw_cd cd_244 10 = some (.invokevirtual 243) by decide +kernel) (mc_v hl (n := 0) (m2 := 239) (bs := []) (r := []) (show jw_find jw_cvT 34 243 = some (0, [(16, 239)]) by decide +kernel) (by decide) rfl rfl rfl) jm_239 ⟨Nat.le_of_ble_eq_true rfl, by decide⟩ r1 ?_
      exact jr_v jm_244 (show jw_cd cd_244 13 = some (.return_) by decide +kernel) rfl
  · rw [if_neg h91]
    by_cases hk12 : kn = 12
    · rw [if_pos hk12]
      refine ⟨fun e' he => ?_, fun a q he => (by cases he)⟩
      cases he
      refine ⟨su σ 29 0 (-1 - p), ?_, su_eq _ _ _ _, rdF_su (rdF_refl _ _ _ _) (by omega)⟩
      refine jr_1 jm_244 (show jw_cd cd_244 0 = some (.aload_n 0) by decide +kernel) rfl ?_
      refine jr_c jm_244 (show jw_cd cd_244 1 = some (.invokevirtual 151) by decide +kernel) (mc_v hl (n := 0) (m2 := 215) (bs := []) (r := []) (show jw_find jw_cvT 34 151 = some (0, [(16, 215)]) by decide +kernel) (by decide) rfl rfl rfl) jm_215 ⟨Nat.le_of_ble_eq_true rfl, by decide⟩ (jn_hr hl ht hP h0 (by omega)) ?_
      refine jr_1 jm_244 (show jw_cd cd_244 4 = some (.bipush 91) by decide +kernel) (mt_bi (by decide)) ?_
      refine jr_1 jm_244 (show jw_cd cd_244 6 = some (.if_icmp .ne 8) by decide +kernel) (mb_t (q := .ne) (a := tH T n p) (b := 91) (t := 14) (by show ¬ (tH T n p = 91); omega) ⟨by omega, by omega⟩ ⟨by omega, by omega⟩ (by decide) (by decide)) ?_
      refine jr_1 jm_244 (show jw_cd cd_244 14 = some (.aload_n 0) by decide +kernel) rfl ?_
      refine jr_1 jm_244 (show jw_cd cd_244 15 = some (.aload_n 0) by decide +kernel) rfl ?_
      refine jr_1 jm_244 (show jw_cd cd_244 16 = some (.getfield 145) by decide +kernel) (mg_i hl (e := p) hP.2.2.1 (show jw_fld 34 145 16 = some 28 by decide +kernel) (by decide) (by decide)) ?_
      refine jr_c jm_244 (show jw_cd cd_244 19 = some (.invokevirtual 240) by decide +kernel) (mc_v hl (n := 1) (m2 := 238) (bs := [.int (Int32.ofInt (p))]) (r := []) (show jw_find jw_cvT 34 240 = some (1, [(16, 238)]) by decide +kernel) (by decide) rfl rfl rfl) jm_238 ⟨Nat.le_of_ble_eq_true rfl, by decide⟩ (jn_cntF hl hP e30 (by omega)) ?_
      refine jr_1 jm_244 (show jw_cd cd_244 22 = some (.ifCond .ne 4) by decide +kernel) (mz_f (q := .ne) (a := 0) (by show ¬ (¬ (0 = 0)); omega) ⟨by omega, by omega⟩ (by decide)) ?_
      exact jr_v jm_244 (show jw_cd cd_244 25 = some (.return_) by decide +kernel) rfl
    · rw [if_neg hk12]
      have hP1 : rP (su (su σ 30 0 (k + 1)) 28 (0) (p + 1)) T n (p + 1) := rP_mv (rP_su hP (by decide) (by decide) (by decide))
      have hF1 : rdF σ (su (su σ 30 0 (k + 1)) 28 (0) (p + 1)) (-1) (100 * Q + I) s := rdF_su (rdF_su (rdF_refl _ _ _ _) (by omega)) (by omega)
      have e30b : (su (su σ 30 0 (k + 1)) 28 (0) (p + 1)) 30 0 = k + 1 := by rw [su_nf (by decide), su_eq]
      by_cases h42 : tH T n (p + 1) = 42
      · have hl1 := tH_lt ht (by omega) h42 (by decide)
        rw [if_pos h42]
        refine ⟨fun e' he => (by cases he), fun a q he => ?_⟩
        cases he
        have e16c : su (su (su σ 30 0 (k + 1)) 28 (0) (p + 1)) 28 0 (p + 1 + 1) 16 Q = I := by rw [su_nf (by decide), su_nf (by decide), su_nf (by decide)]; exact e16
        have e15c : su (su (su σ 30 0 (k + 1)) 28 (0) (p + 1)) 28 0 (p + 1 + 1) 15 0 = Q := by rw [su_nf (by decide), su_nf (by decide), su_nf (by decide)]; exact e15
        have e30c : su (su (su σ 30 0 (k + 1)) 28 (0) (p + 1)) 28 0 (p + 1 + 1) 30 0 = k + 1 := by rw [su_nf (by decide)]; exact e30b
        refine ⟨mAdd (su (su (su σ 30 0 (k + 1)) 28 (0) (p + 1)) 28 0 (p + 1 + 1)) Q I 3 0 (k + 1 - 1), ?_, stp_add (Or.inr (Or.inl rfl)) hQ hI (rP_mv hP1) (rdF_w (rdF_su hF1 (by omega))) e30c⟩
        refine jr_1 jm_244 (show jw_cd cd_244 0 = some (.aload_n 0) by decide +kernel) rfl ?_
        refine jr_c jm_244 (show jw_cd cd_244 1 = some (.invokevirtual 151) by decide +kernel) (mc_v hl (n := 0) (m2 := 215) (bs := []) (r := []) (show jw_find jw_cvT 34 151 = some (0, [(16, 215)]) by decide +kernel) (by decide) rfl rfl rfl) jm_215 ⟨Nat.le_of_ble_eq_true rfl, by decide⟩ (jn_hr hl ht hP h0 (by omega)) ?_
        refine jr_1 jm_244 (show jw_cd cd_244 4 = some (.bipush 91) by decide +kernel) (mt_bi (by decide)) ?_
        refine jr_1 jm_244 (show jw_cd cd_244 6 = some (.if_icmp .ne 8) by decide +kernel) (mb_t (q := .ne) (a := tH T n p) (b := 91) (t := 14) (by show ¬ (tH T n p = 91); omega) ⟨by omega, by omega⟩ ⟨by omega, by omega⟩ (by decide) (by decide)) ?_
        refine jr_1 jm_244 (show jw_cd cd_244 14 = some (.aload_n 0) by decide +kernel) rfl ?_
        refine jr_1 jm_244 (show jw_cd cd_244 15 = some (.aload_n 0) by decide +kernel) rfl ?_
        refine jr_1 jm_244 (show jw_cd cd_244 16 = some (.getfield 145) by decide +kernel) (mg_i hl (e := p) hP.2.2.1 (show jw_fld 34 145 16 = some 28 by decide +kernel) (by decide) (by decide)) ?_
        refine jr_c jm_244 (show jw_cd cd_244 19 = some (.invokevirtual 240) by decide +kernel) (mc_v hl (n := 1) (m2 := 238) (bs := [.int (Int32.ofInt (p))]) (r := []) (show jw_find jw_cvT 34 240 = some (1, [(16, 238)]) by decide +kernel) (by decide) rfl rfl rfl) jm_238 ⟨Nat.le_of_ble_eq_true rfl, by decide⟩ (jn_cntT hl e30 ⟨by omega, by omega⟩) ?_
        refine jr_1 jm_244 (show jw_cd cd_244 22 = some (.ifCond .ne 4) by decide +kernel) (mz_t (q := .ne) (a := 1) (t := 26) (by show ¬ (1 = 0); omega) ⟨by omega, by omega⟩ (by decide) (by decide)) ?_
        refine jr_1 jm_244 (show jw_cd cd_244 26 = some (.aload_n 0) by decide +kernel) rfl ?_
        refine jr_1 jm_244 (show jw_cd cd_244 27 = some (.dup) by decide +kernel) rfl ?_
        refine jr_1 jm_244 (show jw_cd cd_244 28 = some (.getfield 145) by decide +kernel) (mg_i hl (e := p) ((su_nf (by decide)).trans hP.2.2.1) (show jw_fld 34 145 16 = some 28 by decide +kernel) (by decide) (by decide)) ?_
        refine jr_1 jm_244 (show jw_cd cd_244 31 = some (.iconst 1) by decide +kernel) rfl ?_
        refine jr_1 jm_244 (show jw_cd cd_244 32 = some (.iadd) by decide +kernel) (mt_add (c := p + 1) rfl) ?_
        refine jr_1 jm_244 (show jw_cd cd_244 33 = some (.putfield 145) by decide +kernel) (mp_i hl (x := p + 1) (show jw_fld 34 145 16 = some 28 by decide +kernel) (by decide) (by decide) (show jw_ft 16 28 = some .int by decide +kernel) (show jw_fm 34 16 28 = some false by decide +kernel)) ?_
        refine jr_1 jm_244 (show jw_cd cd_244 36 = some (.aload_n 0) by decide +kernel) rfl ?_
        refine jr_1 jm_244 (show jw_cd cd_244 37 = some (.bipush 42) by decide +kernel) (mt_bi (by decide)) ?_
        refine jr_c jm_244 (show jw_cd cd_244 39 = some (.invokevirtual 170) by decide +kernel) (mc_v hl (n := 1) (m2 := 226) (bs := [.int (Int32.ofInt (42))]) (r := []) (show jw_find jw_cvT 34 170 = some (1, [(16, 226)]) by decide +kernel) (by decide) rfl rfl rfl) jm_226 ⟨Nat.le_of_ble_eq_true rfl, by decide⟩ (jn_takT hl ht hP1 (by omega) (by omega) ⟨by decide, by decide⟩ h42) ?_
        refine jr_1 jm_244 (show jw_cd cd_244 42 = some (.ifCond .eq 18) by decide +kernel) (mz_f (q := .eq) (a := 1) (by show ¬ (1 = 0); omega) ⟨by omega, by omega⟩ (by decide)) ?_
        refine jr_1 jm_244 (show jw_cd cd_244 45 = some (.aload_n 0) by decide +kernel) rfl ?_
        refine jr_1 jm_244 (show jw_cd cd_244 46 = some (.iconst 3) by decide +kernel) rfl ?_
        refine jr_1 jm_244 (F2 := (48, [some (.ref 15)], [.long (Int64.ofInt (0)), .int (Int32.ofInt (3)), .ref 15], ml_mk h (su (su (su σ 30 0 (k + 1)) 28 (0) (p + 1)) 28 0 (p + 1 + 1)))) (show jw_cd cd_244 47 = some (.lconst 0) by decide +kernel) rfl ?_
        refine jr_1 jm_244 (show jw_cd cd_244 48 = some (.aload_n 0) by decide +kernel) rfl ?_
        refine jr_1 jm_244 (show jw_cd cd_244 49 = some (.getfield 222) by decide +kernel) (mg_i hl (e := k + 1) e30c (show jw_fld 34 222 16 = some 30 by decide +kernel) (by decide) (by decide)) ?_
        refine jr_1 jm_244 (show jw_cd cd_244 52 = some (.iconst 1) by decide +kernel) rfl ?_
        refine jr_1 jm_244 (show jw_cd cd_244 53 = some (.isub) by decide +kernel) (mt_sub (c := k + 1 - 1) rfl) ?_
        refine jr_c jm_244 (show jw_cd cd_244 54 = some (.invokevirtual 233) by decide +kernel) (mc_v hl (n := 3) (m2 := 237) (bs := [.int (Int32.ofInt (3)), .long (Int64.ofInt (0)), .int (Int32.ofInt (k + 1 - 1))]) (r := []) (show jw_find jw_cvT 34 233 = some (3, [(16, 237)]) by decide +kernel) (by decide) rfl rfl rfl) jm_237 ⟨Nat.le_of_ble_eq_true rfl, by decide⟩ (jn_add hl e15c e16c hQ hI) ?_
        refine jr_1 jm_244 (show jw_cd cd_244 57 = some (.goto 25) by decide +kernel) (ju_go (t := 82) (by decide)) ?_
        exact jr_v jm_244 (show jw_cd cd_244 82 = some (.return_) by decide +kernel) rfl
      · rw [if_neg h42]
        have hkR := sKey_R (T := T) (n := n) (p := p + 1) (by omega) hp
        cases hss : sKey T n (p + 1) with
        | inl e =>
          obtain ⟨τ, r1, r2, r3⟩ := jn_readKey_er (β := β) (d := d + 4) (h := h) hl ht hP1.1 hP1.2.1 hP1.2.2.1 (by omega) hp (by rw [hP1.2.2.2]; exact mr0) hP1.2.2.2 hss
          refine ⟨fun e' he => ?_, fun a q he => (by cases he)⟩
          cases he
          refine ⟨τ, ?_, r2, rdF_trans hF1 (rdF_sd (dd := 2 * s) (sdF_q (by decide) r3) (Int.le_refl _)) (Int.le_refl _) (Int.le_refl _)⟩
          refine jr_1 jm_244 (show jw_cd cd_244 0 = some (.aload_n 0) by decide +kernel) rfl ?_
          refine jr_c jm_244 (show jw_cd cd_244 1 = some (.invokevirtual 151) by decide +kernel) (mc_v hl (n := 0) (m2 := 215) (bs := []) (r := []) (show jw_find jw_cvT 34 151 = some (0, [(16, 215)]) by decide +kernel) (by decide) rfl rfl rfl) jm_215 ⟨Nat.le_of_ble_eq_true rfl, by decide⟩ (jn_hr hl ht hP h0 (by omega)) ?_
          refine jr_1 jm_244 (show jw_cd cd_244 4 = some (.bipush 91) by decide +kernel) (mt_bi (by decide)) ?_
          refine jr_1 jm_244 (show jw_cd cd_244 6 = some (.if_icmp .ne 8) by decide +kernel) (mb_t (q := .ne) (a := tH T n p) (b := 91) (t := 14) (by show ¬ (tH T n p = 91); omega) ⟨by omega, by omega⟩ ⟨by omega, by omega⟩ (by decide) (by decide)) ?_
          refine jr_1 jm_244 (show jw_cd cd_244 14 = some (.aload_n 0) by decide +kernel) rfl ?_
          refine jr_1 jm_244 (show jw_cd cd_244 15 = some (.aload_n 0) by decide +kernel) rfl ?_
          refine jr_1 jm_244 (show jw_cd cd_244 16 = some (.getfield 145) by decide +kernel) (mg_i hl (e := p) hP.2.2.1 (show jw_fld 34 145 16 = some 28 by decide +kernel) (by decide) (by decide)) ?_
          refine jr_c jm_244 (show jw_cd cd_244 19 = some (.invokevirtual 240) by decide +kernel) (mc_v hl (n := 1) (m2 := 238) (bs := [.int (Int32.ofInt (p))]) (r := []) (show jw_find jw_cvT 34 240 = some (1, [(16, 238)]) by decide +kernel) (by decide) rfl rfl rfl) jm_238 ⟨Nat.le_of_ble_eq_true rfl, by decide⟩ (jn_cntT hl e30 ⟨by omega, by omega⟩) ?_
          refine jr_1 jm_244 (show jw_cd cd_244 22 = some (.ifCond .ne 4) by decide +kernel) (mz_t (q := .ne) (a := 1) (t := 26) (by show ¬ (1 = 0); omega) ⟨by omega, by omega⟩ (by decide) (by decide)) ?_
          refine jr_1 jm_244 (show jw_cd cd_244 26 = some (.aload_n 0) by decide +kernel) rfl ?_
          refine jr_1 jm_244 (show jw_cd cd_244 27 = some (.dup) by decide +kernel) rfl ?_
          refine jr_1 jm_244 (show jw_cd cd_244 28 = some (.getfield 145) by decide +kernel) (mg_i hl (e := p) ((su_nf (by decide)).trans hP.2.2.1) (show jw_fld 34 145 16 = some 28 by decide +kernel) (by decide) (by decide)) ?_
          refine jr_1 jm_244 (show jw_cd cd_244 31 = some (.iconst 1) by decide +kernel) rfl ?_
          refine jr_1 jm_244 (show jw_cd cd_244 32 = some (.iadd) by decide +kernel) (mt_add (c := p + 1) rfl) ?_
          refine jr_1 jm_244 (show jw_cd cd_244 33 = some (.putfield 145) by decide +kernel) (mp_i hl (x := p + 1) (show jw_fld 34 145 16 = some 28 by decide +kernel) (by decide) (by decide) (show jw_ft 16 28 = some .int by decide +kernel) (show jw_fm 34 16 28 = some false by decide +kernel)) ?_
          refine jr_1 jm_244 (show jw_cd cd_244 36 = some (.aload_n 0) by decide +kernel) rfl ?_
          refine jr_1 jm_244 (show jw_cd cd_244 37 = some (.bipush 42) by decide +kernel) (mt_bi (by decide)) ?_
          refine jr_c jm_244 (show jw_cd cd_244 39 = some (.invokevirtual 170) by decide +kernel) (mc_v hl (n := 1) (m2 := 226) (bs := [.int (Int32.ofInt (42))]) (r := []) (show jw_find jw_cvT 34 170 = some (1, [(16, 226)]) by decide +kernel) (by decide) rfl rfl rfl) jm_226 ⟨Nat.le_of_ble_eq_true rfl, by decide⟩ (jn_takF hl ht hP1 (by omega) (by omega) ⟨by decide, by decide⟩ h42) ?_
          refine jr_1 jm_244 (show jw_cd cd_244 42 = some (.ifCond .eq 18) by decide +kernel) (mz_t (q := .eq) (a := 0) (t := 60) (by show 0 = 0; omega) ⟨by omega, by omega⟩ (by decide) (by decide)) ?_
          refine jr_1 jm_244 (show jw_cd cd_244 60 = some (.aload_n 0) by decide +kernel) rfl ?_
          refine jr_c jm_244 (show jw_cd cd_244 61 = some (.invokevirtual 192) by decide +kernel) (mc_v hl (n := 0) (m2 := 218) (bs := []) (r := []) (show jw_find jw_cvT 34 192 = some (0, [(16, 218)]) by decide +kernel) (by decide) rfl rfl rfl) jm_218 ⟨Nat.le_of_ble_eq_true rfl, by decide⟩ r1 ?_
          refine jr_1 jm_244 (show jw_cd cd_244 64 = some (.ifCond .eq 18) by decide +kernel) (mz_t (q := .eq) (a := 0) (t := 82) (by show 0 = 0; omega) ⟨by omega, by omega⟩ (by decide) (by decide)) ?_
          exact jr_v jm_244 (show jw_cd cd_244 82 = some (.return_) by decide +kernel) rfl
        | inr x =>
          obtain ⟨r, q⟩ := x
          obtain ⟨k1, k2, k3⟩ := hkR.2 r q hss
          refine ⟨fun e' he => (by cases he), fun a q he => ?_⟩
          cases he
          have r1 := jn_readKey_ok (β := β) (d := d + 4) (h := h) hl ht hP1.1 hP1.2.1 hP1.2.2.1 (by omega) hp (by rw [hP1.2.2.2]; exact mr0) hss
          obtain ⟨τ, hτ⟩ : ∃ τ, τ = su (su (su (su σ 30 0 (k + 1)) 28 (0) (p + 1)) 31 0 (pk r)) 28 0 q := ⟨_, rfl⟩
          rw [← hτ] at r1
          have e16c : τ 16 Q = I := by rw [hτ, su_nf (by decide), su_nf (by decide), su_nf (by decide), su_nf (by decide)]; exact e16
          have e15c : τ 15 0 = Q := by rw [hτ, su_nf (by decide), su_nf (by decide), su_nf (by decide), su_nf (by decide)]; exact e15
          have e30c : τ 30 0 = k + 1 := by rw [hτ, su_nf (by decide), su_nf (by decide)]; exact e30b
          have e31c : τ 31 0 = pk r := by rw [hτ, su_nf (by decide), su_eq]
          refine ⟨mAdd τ Q I 0 (pk r) (k + 1 - 1), ?_, stp_key k3 hQ hI (by rw [hτ]; exact rP_mv (rP_su hP1 (by decide) (by decide) (by decide))) (by rw [hτ]; exact rdF_w (rdF_su (rdF_su hF1 (by omega)) (by omega))) e30c⟩
          refine jr_1 jm_244 (show jw_cd cd_244 0 = some (.aload_n 0) by decide +kernel) rfl ?_
          refine jr_c jm_244 (show jw_cd cd_244 1 = some (.invokevirtual 151) by decide +kernel) (mc_v hl (n := 0) (m2 := 215) (bs := []) (r := []) (show jw_find jw_cvT 34 151 = some (0, [(16, 215)]) by decide +kernel) (by decide) rfl rfl rfl) jm_215 ⟨Nat.le_of_ble_eq_true rfl, by decide⟩ (jn_hr hl ht hP h0 (by omega)) ?_
          refine jr_1 jm_244 (show jw_cd cd_244 4 = some (.bipush 91) by decide +kernel) (mt_bi (by decide)) ?_
          refine jr_1 jm_244 (show jw_cd cd_244 6 = some (.if_icmp .ne 8) by decide +kernel) (mb_t (q := .ne) (a := tH T n p) (b := 91) (t := 14) (by show ¬ (tH T n p = 91); omega) ⟨by omega, by omega⟩ ⟨by omega, by omega⟩ (by decide) (by decide)) ?_
          refine jr_1 jm_244 (show jw_cd cd_244 14 = some (.aload_n 0) by decide +kernel) rfl ?_
          refine jr_1 jm_244 (show jw_cd cd_244 15 = some (.aload_n 0) by decide +kernel) rfl ?_
          refine jr_1 jm_244 (show jw_cd cd_244 16 = some (.getfield 145) by decide +kernel) (mg_i hl (e := p) hP.2.2.1 (show jw_fld 34 145 16 = some 28 by decide +kernel) (by decide) (by decide)) ?_
          refine jr_c jm_244 (show jw_cd cd_244 19 = some (.invokevirtual 240) by decide +kernel) (mc_v hl (n := 1) (m2 := 238) (bs := [.int (Int32.ofInt (p))]) (r := []) (show jw_find jw_cvT 34 240 = some (1, [(16, 238)]) by decide +kernel) (by decide) rfl rfl rfl) jm_238 ⟨Nat.le_of_ble_eq_true rfl, by decide⟩ (jn_cntT hl e30 ⟨by omega, by omega⟩) ?_
          refine jr_1 jm_244 (show jw_cd cd_244 22 = some (.ifCond .ne 4) by decide +kernel) (mz_t (q := .ne) (a := 1) (t := 26) (by show ¬ (1 = 0); omega) ⟨by omega, by omega⟩ (by decide) (by decide)) ?_
          refine jr_1 jm_244 (show jw_cd cd_244 26 = some (.aload_n 0) by decide +kernel) rfl ?_
          refine jr_1 jm_244 (show jw_cd cd_244 27 = some (.dup) by decide +kernel) rfl ?_
          refine jr_1 jm_244 (show jw_cd cd_244 28 = some (.getfield 145) by decide +kernel) (mg_i hl (e := p) ((su_nf (by decide)).trans hP.2.2.1) (show jw_fld 34 145 16 = some 28 by decide +kernel) (by decide) (by decide)) ?_
          refine jr_1 jm_244 (show jw_cd cd_244 31 = some (.iconst 1) by decide +kernel) rfl ?_
          refine jr_1 jm_244 (show jw_cd cd_244 32 = some (.iadd) by decide +kernel) (mt_add (c := p + 1) rfl) ?_
          refine jr_1 jm_244 (show jw_cd cd_244 33 = some (.putfield 145) by decide +kernel) (mp_i hl (x := p + 1) (show jw_fld 34 145 16 = some 28 by decide +kernel) (by decide) (by decide) (show jw_ft 16 28 = some .int by decide +kernel) (show jw_fm 34 16 28 = some false by decide +kernel)) ?_
          refine jr_1 jm_244 (show jw_cd cd_244 36 = some (.aload_n 0) by decide +kernel) rfl ?_
          refine jr_1 jm_244 (show jw_cd cd_244 37 = some (.bipush 42) by decide +kernel) (mt_bi (by decide)) ?_
          refine jr_c jm_244 (show jw_cd cd_244 39 = some (.invokevirtual 170) by decide +kernel) (mc_v hl (n := 1) (m2 := 226) (bs := [.int (Int32.ofInt (42))]) (r := []) (show jw_find jw_cvT 34 170 = some (1, [(16, 226)]) by decide +kernel) (by decide) rfl rfl rfl) jm_226 ⟨Nat.le_of_ble_eq_true rfl, by decide⟩ (jn_takF hl ht hP1 (by omega) (by omega) ⟨by decide, by decide⟩ h42) ?_
          refine jr_1 jm_244 (show jw_cd cd_244 42 = some (.ifCond .eq 18) by decide +kernel) (mz_t (q := .eq) (a := 0) (t := 60) (by show 0 = 0; omega) ⟨by omega, by omega⟩ (by decide) (by decide)) ?_
          refine jr_1 jm_244 (show jw_cd cd_244 60 = some (.aload_n 0) by decide +kernel) rfl ?_
          refine jr_c jm_244 (show jw_cd cd_244 61 = some (.invokevirtual 192) by decide +kernel) (mc_v hl (n := 0) (m2 := 218) (bs := []) (r := []) (show jw_find jw_cvT 34 192 = some (0, [(16, 218)]) by decide +kernel) (by decide) rfl rfl rfl) jm_218 ⟨Nat.le_of_ble_eq_true rfl, by decide⟩ r1 ?_
          refine jr_1 jm_244 (show jw_cd cd_244 64 = some (.ifCond .eq 18) by decide +kernel) (mz_f (q := .eq) (a := 1) (by show ¬ (1 = 0); omega) ⟨by omega, by omega⟩ (by decide)) ?_
          refine jr_1 jm_244 (show jw_cd cd_244 67 = some (.aload_n 0) by decide +kernel) rfl ?_
          refine jr_1 jm_244 (show jw_cd cd_244 68 = some (.iconst 0) by decide +kernel) rfl ?_
          refine jr_1 jm_244 (show jw_cd cd_244 69 = some (.aload_n 0) by decide +kernel) rfl ?_
          refine jr_1 jm_244 (show jw_cd cd_244 70 = some (.getfield 158) by decide +kernel) (mg_j hl (e := pk r) e31c (show jw_fld 34 158 16 = some 31 by decide +kernel) (by decide) (by decide)) ?_
          refine jr_1 jm_244 (show jw_cd cd_244 73 = some (.aload_n 0) by decide +kernel) rfl ?_
          refine jr_1 jm_244 (show jw_cd cd_244 74 = some (.getfield 222) by decide +kernel) (mg_i hl (e := k + 1) e30c (show jw_fld 34 222 16 = some 30 by decide +kernel) (by decide) (by decide)) ?_
          refine jr_1 jm_244 (show jw_cd cd_244 77 = some (.iconst 1) by decide +kernel) rfl ?_
          refine jr_1 jm_244 (show jw_cd cd_244 78 = some (.isub) by decide +kernel) (mt_sub (c := k + 1 - 1) rfl) ?_
          refine jr_c jm_244 (show jw_cd cd_244 79 = some (.invokevirtual 233) by decide +kernel) (mc_v hl (n := 3) (m2 := 237) (bs := [.int (Int32.ofInt (0)), .long (Int64.ofInt (pk r)), .int (Int32.ofInt (k + 1 - 1))]) (r := []) (show jw_find jw_cvT 34 233 = some (3, [(16, 237)]) by decide +kernel) (by decide) rfl rfl rfl) jm_237 ⟨Nat.le_of_ble_eq_true rfl, by decide⟩ (jn_add hl e15c e16c hQ hI) ?_
          exact jr_v jm_244 (show jw_cd cd_244 82 = some (.return_) by decide +kernel) rfl
