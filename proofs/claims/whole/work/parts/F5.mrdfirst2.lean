/-! ===== readFirst (printed by program: gen69.py) ===== -/
theorem jn_readFirst {β : Bool} {d : Nat} {h : jx_H} {σ : mS} (hl : 49 ≤ h.length) {T : Int → Int} {n p : Int} (ht : tOK T n) (hP : rP σ T n p) (h0 : 0 ≤ p) (hp : p ≤ n) {s0 Q I k : Int} {kn : Nat} (e15 : σ 15 0 = Q) (e16 : σ 16 Q = I) (e30 : σ 30 0 = k) (hQ : 0 ≤ Q ∧ Q < 12) (hI : 0 ≤ I ∧ I < 100) (hk : k = kn) (hk1 : kn ≤ 12) (hs : s0 = 12 * Q + k) : (∀ e, sFst T n p kn = .inl e → ∃ (τ : mS) (b : Int), jx_r (jz β) jw_M (d + 7) 233 (0, [some (.ref 15), none], [], ml_mk h σ) (ml_mk h (τ), .inl (some (.int (Int32.ofInt (b))))) ∧ (b = 0 ∨ b = 1) ∧ τ 29 0 = -1 - e ∧ rdF σ τ (-1) (100 * Q + I) s0) ∧ (∀ st q, sFst T n p kn = .inr (.inl st, q) → ∃ τ : mS, jx_r (jz β) jw_M (d + 7) 233 (0, [some (.ref 15), none], [], ml_mk h σ) (ml_mk h (τ), .inl (some (.int (Int32.ofInt (0))))) ∧ wdP σ τ T n Q I s0 q k st) ∧ (∀ acc q, sFst T n p kn = .inr (.inr acc, q) → ∃ τ : mS, jx_r (jz β) jw_M (d + 7) 233 (0, [some (.ref 15), none], [], ml_mk h σ) (ml_mk h (τ), .inl (some (.int (Int32.ofInt (1))))) ∧ accP σ τ T n Q I s0 q k acc) := by
  have hn160 := ht.2.1
  have hh := tH_r (p := p) ht h0
  have hmr : mr (tH T n p) := ⟨by omega, by omega⟩
  unfold sFst
  by_cases h1 : pL (tH T n p) = true
  · have hpl := pL_ne h1
    rw [if_pos h1]
    have hkR := sKey_R (T := T) (n := n) (p := p) h0 hp
    cases hss : sKey T n p with
    | inl e =>
      obtain ⟨τ, r1, r2, r3⟩ := jn_readKey_er (β := β) (d := d + 4) (h := h) hl ht hP.1 hP.2.1 hP.2.2.1 h0 hp (by rw [hP.2.2.2]; exact mr0) hP.2.2.2 hss
      refine ⟨fun e' he => ?_, fun a q he => (by cases he), fun a q he => (by cases he)⟩
      cases he
      refine ⟨τ, 0, ?_, Or.inl rfl, r2, rdF_sd (dd := 2 * s0) (sdF_q (by decide) r3) (Int.le_refl _)⟩
      refine jr_1 jm_233 (show jw_cd cd_233 0 = some (.aload_n 0) by decide +kernel) rfl ?_
      refine jr_1 jm_233 (show jw_cd cd_233 1 = some (.getfield 145) by decide +kernel) (mg_i hl (e := p) hP.2.2.1 (show jw_fld 34 145 16 = some 28 by decide +kernel) (by decide) (by decide)) ?_
      refine jr_1 jm_233 (F2 := (5, [some (.ref 15), some (.int (Int32.ofInt (p)))], [], ml_mk h σ)) (show jw_cd cd_233 4 = some (.istore_n 1) by decide +kernel) rfl ?_
      refine jr_1 jm_233 (show jw_cd cd_233 5 = some (.aload_n 0) by decide +kernel) rfl ?_
      refine jr_c jm_233 (show jw_cd cd_233 6 = some (.invokevirtual 151) by decide +kernel) (mc_v hl (n := 0) (m2 := 215) (bs := []) (r := []) (show jw_find jw_cvT 34 151 = some (0, [(16, 215)]) by decide +kernel) (by decide) rfl rfl rfl) jm_215 ⟨Nat.le_of_ble_eq_true rfl, by decide⟩ (jn_hr hl ht hP h0 hp) ?_
      refine jr_c jm_233 (show jw_cd cd_233 9 = some (.invokestatic 162) by decide +kernel) (mc_s (n := 1) (m2 := 219) (bs := [.int (Int32.ofInt (tH T n p))]) (r := []) (by decide) (show jw_find jw_csT 34 162 = some (219, 1) by decide +kernel) rfl rfl rfl) jm_219 ⟨Nat.le_of_ble_eq_true rfl, by decide⟩ (jn_isL_t hl hpl) ?_
      refine jr_1 jm_233 (show jw_cd cd_233 12 = some (.ifCond .eq 53) by decide +kernel) (mz_f (q := .eq) (a := 1) (by show ¬ (1 = 0); omega) ⟨by omega, by omega⟩ (by decide)) ?_
      refine jr_1 jm_233 (show jw_cd cd_233 15 = some (.aload_n 0) by decide +kernel) rfl ?_
      refine jr_c jm_233 (show jw_cd cd_233 16 = some (.invokevirtual 192) by decide +kernel) (mc_v hl (n := 0) (m2 := 218) (bs := []) (r := []) (show jw_find jw_cvT 34 192 = some (0, [(16, 218)]) by decide +kernel) (by decide) rfl rfl rfl) jm_218 ⟨Nat.le_of_ble_eq_true rfl, by decide⟩ r1 ?_
      refine jr_1 jm_233 (show jw_cd cd_233 19 = some (.ifCond .ne 5) by decide +kernel) (mz_f (q := .ne) (a := 0) (by show ¬ (¬ (0 = 0)); omega) ⟨by omega, by omega⟩ (by decide)) ?_
      refine jr_1 jm_233 (show jw_cd cd_233 22 = some (.iconst 0) by decide +kernel) rfl ?_
      exact jr_v jm_233 (show jw_cd cd_233 23 = some (.ireturn) by decide +kernel) rfl
    | inr x =>
      obtain ⟨s, q⟩ := x
      obtain ⟨k1, k2, k3⟩ := hkR.2 s q hss
      have r1 := jn_readKey_ok (β := β) (d := d + 4) (h := h) hl ht hP.1 hP.2.1 hP.2.2.1 h0 hp (by rw [hP.2.2.2]; exact mr0) hss
      obtain ⟨τ, hτ⟩ : ∃ τ, τ = su (su σ 31 0 (pk s)) 28 0 q := ⟨_, rfl⟩
      rw [← hτ] at r1
      have hP2 : rP τ T n q := by rw [hτ]; exact rP_mv (rP_su hP (by decide) (by decide) (by decide))
      have hF2 : rdF σ τ (-1) (100 * Q + I) s0 := by rw [hτ]; exact rdF_su (rdF_su (rdF_refl _ _ _ _) (by omega)) (by omega)
      have e31c : τ 31 0 = pk s := by rw [hτ, su_nf (by decide), su_eq]
      have qq : ∀ f, f ∉ [28, 31] → τ f = σ f := fun f hf => by
        simp only [List.mem_cons, List.mem_nil_iff, or_false, not_or] at hf
        rw [hτ, su_row (by omega), su_row (by omega)]
      have e15c : τ 15 0 = Q := by rw [qq 15 (by decide)]; exact e15
      have e16c : τ 16 Q = I := by rw [qq 16 (by decide)]; exact e16
      have e30c : τ 30 0 = k := by rw [qq 30 (by decide)]; exact e30
      have hh2 := tH_r (p := q) ht (by omega)
      dsimp only
      by_cases h40 : tH T n q = 40
      · have hl2 := tH_lt ht (by omega) h40 (by decide)
        rw [if_pos h40]
        have hW := jn_readWord (β := β) (d := d + 3) (h := h) (σ := τ) (s0 := s0) hl ht hP2 h0 k1 hl2 k3 e31c e15c e16c e30c hQ hI
        cases hsw : sWrd T n s p q with
        | inl e =>
          obtain ⟨τ2, y1, y2, y3⟩ := hW.1 e hsw
          refine ⟨fun e' he => ?_, fun a q he => (by cases he), fun a q he => (by cases he)⟩
          cases he
          refine ⟨τ2, 0, ?_, Or.inl rfl, y2, rdF_trans hF2 y3 (Int.le_refl _) (Int.le_refl _)⟩
          refine jr_1 jm_233 (show jw_cd cd_233 0 = some (.aload_n 0) by decide +kernel) rfl ?_
          refine jr_1 jm_233 (show jw_cd cd_233 1 = some (.getfield 145) by decide +kernel) (mg_i hl (e := p) hP.2.2.1 (show jw_fld 34 145 16 = some 28 by decide +kernel) (by decide) (by decide)) ?_
          refine jr_1 jm_233 (F2 := (5, [some (.ref 15), some (.int (Int32.ofInt (p)))], [], ml_mk h σ)) (show jw_cd cd_233 4 = some (.istore_n 1) by decide +kernel) rfl ?_
          refine jr_1 jm_233 (show jw_cd cd_233 5 = some (.aload_n 0) by decide +kernel) rfl ?_
          refine jr_c jm_233 (show jw_cd cd_233 6 = some (.invokevirtual 151) by decide +kernel) (mc_v hl (n := 0) (m2 := 215) (bs := []) (r := []) (show jw_find jw_cvT 34 151 = some (0, [(16, 215)]) by decide +kernel) (by decide) rfl rfl rfl) jm_215 ⟨Nat.le_of_ble_eq_true rfl, by decide⟩ (jn_hr hl ht hP h0 hp) ?_
          refine jr_c jm_233 (show jw_cd cd_233 9 = some (.invokestatic 162) by decide +kernel) (mc_s (n := 1) (m2 := 219) (bs := [.int (Int32.ofInt (tH T n p))]) (r := []) (by decide) (show jw_find jw_csT 34 162 = some (219, 1) by decide +kernel) rfl rfl rfl) jm_219 ⟨Nat.le_of_ble_eq_true rfl, by decide⟩ (jn_isL_t hl hpl) ?_
          refine jr_1 jm_233 (show jw_cd cd_233 12 = some (.ifCond .eq 53) by decide +kernel) (mz_f (q := .eq) (a := 1) (by show ¬ (1 = 0); omega) ⟨by omega, by omega⟩ (by decide)) ?_
          refine jr_1 jm_233 (show jw_cd cd_233 15 = some (.aload_n 0) by decide +kernel) rfl ?_
          refine jr_c jm_233 (show jw_cd cd_233 16 = some (.invokevirtual 192) by decide +kernel) (mc_v hl (n := 0) (m2 := 218) (bs := []) (r := []) (show jw_find jw_cvT 34 192 = some (0, [(16, 218)]) by decide +kernel) (by decide) rfl rfl rfl) jm_218 ⟨Nat.le_of_ble_eq_true rfl, by decide⟩ r1 ?_
          refine jr_1 jm_233 (show jw_cd cd_233 19 = some (.ifCond .ne 5) by decide +kernel) (mz_t (q := .ne) (a := 1) (t := 24) (by show ¬ (1 = 0); omega) ⟨by omega, by omega⟩ (by decide) (by decide)) ?_
          refine jr_1 jm_233 (show jw_cd cd_233 24 = some (.aload_n 0) by decide +kernel) rfl ?_
          refine jr_c jm_233 (show jw_cd cd_233 25 = some (.invokevirtual 151) by decide +kernel) (mc_v hl (n := 0) (m2 := 215) (bs := []) (r := []) (show jw_find jw_cvT 34 151 = some (0, [(16, 215)]) by decide +kernel) (by decide) rfl rfl rfl) jm_215 ⟨Nat.le_of_ble_eq_true rfl, by decide⟩ (jn_hr hl ht hP2 (by omega) k2) ?_
          refine jr_1 jm_233 (show jw_cd cd_233 28 = some (.bipush 40) by decide +kernel) (mt_bi (by decide)) ?_
          refine jr_1 jm_233 (show jw_cd cd_233 30 = some (.if_icmp .ne 10) by decide +kernel) (mb_f (q := .ne) (a := tH T n q) (b := 40) (by show ¬ (¬ (tH T n q = 40)); omega) ⟨by omega, by omega⟩ ⟨by omega, by omega⟩ (by decide)) ?_
          refine jr_1 jm_233 (show jw_cd cd_233 33 = some (.aload_n 0) by decide +kernel) rfl ?_
          refine jr_1 jm_233 (show jw_cd cd_233 34 = some (.iload_n 1) by decide +kernel) rfl ?_
          refine jr_c jm_233 (show jw_cd cd_233 35 = some (.invokevirtual 237) by decide +kernel) (mc_v hl (n := 1) (m2 := 234) (bs := [.int (Int32.ofInt (p))]) (r := []) (show jw_find jw_cvT 34 237 = some (1, [(16, 234)]) by decide +kernel) (by decide) rfl rfl rfl) jm_234 ⟨Nat.le_of_ble_eq_true rfl, by decide⟩ y1 ?_
          refine jr_1 jm_233 (show jw_cd cd_233 38 = some (.iconst 0) by decide +kernel) rfl ?_
          exact jr_v jm_233 (show jw_cd cd_233 39 = some (.ireturn) by decide +kernel) rfl
        | inr x =>
          obtain ⟨st, q2⟩ := x
          obtain ⟨τ2, y1, z1, z2, z3, z4, z5, z6⟩ := hW.2 st q2 hsw
          refine ⟨fun e' he => (by cases he), fun a q he => ?_, fun a q he => (by cases he)⟩
          cases he
          refine ⟨τ2, ?_, z1, z2, z3, z4, rdF_trans (rdF_w hF2) z5 (Int.le_refl _) (Int.le_refl _), z6⟩
          refine jr_1 jm_233 (show jw_cd cd_233 0 = some (.aload_n 0) by decide +kernel) rfl ?_
          refine jr_1 jm_233 (show jw_cd cd_233 1 = some (.getfield 145) by decide +kernel) (mg_i hl (e := p) hP.2.2.1 (show jw_fld 34 145 16 = some 28 by decide +kernel) (by decide) (by decide)) ?_
          refine jr_1 jm_233 (F2 := (5, [some (.ref 15), some (.int (Int32.ofInt (p)))], [], ml_mk h σ)) (show jw_cd cd_233 4 = some (.istore_n 1) by decide +kernel) rfl ?_
          refine jr_1 jm_233 (show jw_cd cd_233 5 = some (.aload_n 0) by decide +kernel) rfl ?_
          refine jr_c jm_233 (show jw_cd cd_233 6 = some (.invokevirtual 151) by decide +kernel) (mc_v hl (n := 0) (m2 := 215) (bs := []) (r := []) (show jw_find jw_cvT 34 151 = some (0, [(16, 215)]) by decide +kernel) (by decide) rfl rfl rfl) jm_215 ⟨Nat.le_of_ble_eq_true rfl, by decide⟩ (jn_hr hl ht hP h0 hp) ?_
          refine jr_c jm_233 (show jw_cd cd_233 9 = some (.invokestatic 162) by decide +kernel) (mc_s (n := 1) (m2 := 219) (bs := [.int (Int32.ofInt (tH T n p))]) (r := []) (by decide) (show jw_find jw_csT 34 162 = some (219, 1) by decide +kernel) rfl rfl rfl) jm_219 ⟨Nat.le_of_ble_eq_true rfl, by decide⟩ (jn_isL_t hl hpl) ?_
          refine jr_1 jm_233 (show jw_cd cd_233 12 = some (.ifCond .eq 53) by decide +kernel) (mz_f (q := .eq) (a := 1) (by show ¬ (1 = 0); omega) ⟨by omega, by omega⟩ (by decide)) ?_
          refine jr_1 jm_233 (show jw_cd cd_233 15 = some (.aload_n 0) by decide +kernel) rfl ?_
          refine jr_c jm_233 (show jw_cd cd_233 16 = some (.invokevirtual 192) by decide +kernel) (mc_v hl (n := 0) (m2 := 218) (bs := []) (r := []) (show jw_find jw_cvT 34 192 = some (0, [(16, 218)]) by decide +kernel) (by decide) rfl rfl rfl) jm_218 ⟨Nat.le_of_ble_eq_true rfl, by decide⟩ r1 ?_
          refine jr_1 jm_233 (show jw_cd cd_233 19 = some (.ifCond .ne 5) by decide +kernel) (mz_t (q := .ne) (a := 1) (t := 24) (by show ¬ (1 = 0); omega) ⟨by omega, by omega⟩ (by decide) (by decide)) ?_
          refine jr_1 jm_233 (show jw_cd cd_233 24 = some (.aload_n 0) by decide +kernel) rfl ?_
          refine jr_c jm_233 (show jw_cd cd_233 25 = some (.invokevirtual 151) by decide +kernel) (mc_v hl (n := 0) (m2 := 215) (bs := []) (r := []) (show jw_find jw_cvT 34 151 = some (0, [(16, 215)]) by decide +kernel) (by decide) rfl rfl rfl) jm_215 ⟨Nat.le_of_ble_eq_true rfl, by decide⟩ (jn_hr hl ht hP2 (by omega) k2) ?_
          refine jr_1 jm_233 (show jw_cd cd_233 28 = some (.bipush 40) by decide +kernel) (mt_bi (by decide)) ?_
          refine jr_1 jm_233 (show jw_cd cd_233 30 = some (.if_icmp .ne 10) by decide +kernel) (mb_f (q := .ne) (a := tH T n q) (b := 40) (by show ¬ (¬ (tH T n q = 40)); omega) ⟨by omega, by omega⟩ ⟨by omega, by omega⟩ (by decide)) ?_
          refine jr_1 jm_233 (show jw_cd cd_233 33 = some (.aload_n 0) by decide +kernel) rfl ?_
          refine jr_1 jm_233 (show jw_cd cd_233 34 = some (.iload_n 1) by decide +kernel) rfl ?_
          refine jr_c jm_233 (show jw_cd cd_233 35 = some (.invokevirtual 237) by decide +kernel) (mc_v hl (n := 1) (m2 := 234) (bs := [.int (Int32.ofInt (p))]) (r := []) (show jw_find jw_cvT 34 237 = some (1, [(16, 234)]) by decide +kernel) (by decide) rfl rfl rfl) jm_234 ⟨Nat.le_of_ble_eq_true rfl, by decide⟩ y1 ?_
          refine jr_1 jm_233 (show jw_cd cd_233 38 = some (.iconst 0) by decide +kernel) rfl ?_
          exact jr_v jm_233 (show jw_cd cd_233 39 = some (.ireturn) by decide +kernel) rfl
      · rw [if_neg h40]
        by_cases hk12 : kn = 12
        · rw [if_pos hk12]
          refine ⟨fun e' he => ?_, fun a q he => (by cases he), fun a q he => (by cases he)⟩
          cases he
          refine ⟨su τ 29 0 (-1 - p), 1, ?_, Or.inr rfl, su_eq _ _ _ _, rdF_su hF2 (by omega)⟩
          refine jr_1 jm_233 (show jw_cd cd_233 0 = some (.aload_n 0) by decide +kernel) rfl ?_
          refine jr_1 jm_233 (show jw_cd cd_233 1 = some (.getfield 145) by decide +kernel) (mg_i hl (e := p) hP.2.2.1 (show jw_fld 34 145 16 = some 28 by decide +kernel) (by decide) (by decide)) ?_
          refine jr_1 jm_233 (F2 := (5, [some (.ref 15), some (.int (Int32.ofInt (p)))], [], ml_mk h σ)) (show jw_cd cd_233 4 = some (.istore_n 1) by decide +kernel) rfl ?_
          refine jr_1 jm_233 (show jw_cd cd_233 5 = some (.aload_n 0) by decide +kernel) rfl ?_
          refine jr_c jm_233 (show jw_cd cd_233 6 = some (.invokevirtual 151) by decide +kernel) (mc_v hl (n := 0) (m2 := 215) (bs := []) (r := []) (show jw_find jw_cvT 34 151 = some (0, [(16, 215)]) by decide +kernel) (by decide) rfl rfl rfl) jm_215 ⟨Nat.le_of_ble_eq_true rfl, by decide⟩ (jn_hr hl ht hP h0 hp) ?_
          refine jr_c jm_233 (show jw_cd cd_233 9 = some (.invokestatic 162) by decide +kernel) (mc_s (n := 1) (m2 := 219) (bs := [.int (Int32.ofInt (tH T n p))]) (r := []) (by decide) (show jw_find jw_csT 34 162 = some (219, 1) by decide +kernel) rfl rfl rfl) jm_219 ⟨Nat.le_of_ble_eq_true rfl, by decide⟩ (jn_isL_t hl hpl) ?_
          refine jr_1 jm_233 (show jw_cd cd_233 12 = some (.ifCond .eq 53) by decide +kernel) (mz_f (q := .eq) (a := 1) (by show ¬ (1 = 0); omega) ⟨by omega, by omega⟩ (by decide)) ?_
          refine jr_1 jm_233 (show jw_cd cd_233 15 = some (.aload_n 0) by decide +kernel) rfl ?_
          refine jr_c jm_233 (show jw_cd cd_233 16 = some (.invokevirtual 192) by decide +kernel) (mc_v hl (n := 0) (m2 := 218) (bs := []) (r := []) (show jw_find jw_cvT 34 192 = some (0, [(16, 218)]) by decide +kernel) (by decide) rfl rfl rfl) jm_218 ⟨Nat.le_of_ble_eq_true rfl, by decide⟩ r1 ?_
          refine jr_1 jm_233 (show jw_cd cd_233 19 = some (.ifCond .ne 5) by decide +kernel) (mz_t (q := .ne) (a := 1) (t := 24) (by show ¬ (1 = 0); omega) ⟨by omega, by omega⟩ (by decide) (by decide)) ?_
          refine jr_1 jm_233 (show jw_cd cd_233 24 = some (.aload_n 0) by decide +kernel) rfl ?_
          refine jr_c jm_233 (show jw_cd cd_233 25 = some (.invokevirtual 151) by decide +kernel) (mc_v hl (n := 0) (m2 := 215) (bs := []) (r := []) (show jw_find jw_cvT 34 151 = some (0, [(16, 215)]) by decide +kernel) (by decide) rfl rfl rfl) jm_215 ⟨Nat.le_of_ble_eq_true rfl, by decide⟩ (jn_hr hl ht hP2 (by omega) k2) ?_
          refine jr_1 jm_233 (show jw_cd cd_233 28 = some (.bipush 40) by decide +kernel) (mt_bi (by decide)) ?_
          refine jr_1 jm_233 (show jw_cd cd_233 30 = some (.if_icmp .ne 10) by decide +kernel) (mb_t (q := .ne) (a := tH T n q) (b := 40) (t := 40) (by show ¬ (tH T n q = 40); omega) ⟨by omega, by omega⟩ ⟨by omega, by omega⟩ (by decide) (by decide)) ?_
          refine jr_1 jm_233 (show jw_cd cd_233 40 = some (.aload_n 0) by decide +kernel) rfl ?_
          refine jr_1 jm_233 (show jw_cd cd_233 41 = some (.iload_n 1) by decide +kernel) rfl ?_
          refine jr_c jm_233 (show jw_cd cd_233 42 = some (.invokevirtual 240) by decide +kernel) (mc_v hl (n := 1) (m2 := 238) (bs := [.int (Int32.ofInt (p))]) (r := []) (show jw_find jw_cvT 34 240 = some (1, [(16, 238)]) by decide +kernel) (by decide) rfl rfl rfl) jm_238 ⟨Nat.le_of_ble_eq_true rfl, by decide⟩ (jn_cntF hl hP2 e30c (by omega)) ?_
          refine jr_1 jm_233 (show jw_cd cd_233 45 = some (.ifCond .eq 18) by decide +kernel) (mz_t (q := .eq) (a := 0) (t := 63) (by show 0 = 0; omega) ⟨by omega, by omega⟩ (by decide) (by decide)) ?_
          refine jr_1 jm_233 (show jw_cd cd_233 63 = some (.iconst 1) by decide +kernel) rfl ?_
          exact jr_v jm_233 (show jw_cd cd_233 64 = some (.ireturn) by decide +kernel) rfl
        · rw [if_neg hk12]
          refine ⟨fun e' he => (by cases he), fun a q he => (by cases he), fun a q he => ?_⟩
          cases he
          have e15d : su τ 30 0 (k + 1) 15 0 = Q := by rw [su_nf (by decide)]; exact e15c
          have e16d : su τ 30 0 (k + 1) 16 Q = I := by rw [su_nf (by decide)]; exact e16c
          refine ⟨mAdd (su τ 30 0 (k + 1)) Q I 0 (pk s) (k + 1 - 1), ?_, acc_one (stp_key k3 hQ hI (rP_su hP2 (by decide) (by decide) (by decide)) (rdF_w (rdF_su hF2 (by omega))) (su_eq _ _ _ _))⟩
          refine jr_1 jm_233 (show jw_cd cd_233 0 = some (.aload_n 0) by decide +kernel) rfl ?_
          refine jr_1 jm_233 (show jw_cd cd_233 1 = some (.getfield 145) by decide +kernel) (mg_i hl (e := p) hP.2.2.1 (show jw_fld 34 145 16 = some 28 by decide +kernel) (by decide) (by decide)) ?_
          refine jr_1 jm_233 (F2 := (5, [some (.ref 15), some (.int (Int32.ofInt (p)))], [], ml_mk h σ)) (show jw_cd cd_233 4 = some (.istore_n 1) by decide +kernel) rfl ?_
          refine jr_1 jm_233 (show jw_cd cd_233 5 = some (.aload_n 0) by decide +kernel) rfl ?_
          refine jr_c jm_233 (show jw_cd cd_233 6 = some (.invokevirtual 151) by decide +kernel) (mc_v hl (n := 0) (m2 := 215) (bs := []) (r := []) (show jw_find jw_cvT 34 151 = some (0, [(16, 215)]) by decide +kernel) (by decide) rfl rfl rfl) jm_215 ⟨Nat.le_of_ble_eq_true rfl, by decide⟩ (jn_hr hl ht hP h0 hp) ?_
          refine jr_c jm_233 (show jw_cd cd_233 9 = some (.invokestatic 162) by decide +kernel) (mc_s (n := 1) (m2 := 219) (bs := [.int (Int32.ofInt (tH T n p))]) (r := []) (by decide) (show jw_find jw_csT 34 162 = some (219, 1) by decide +kernel) rfl rfl rfl) jm_219 ⟨Nat.le_of_ble_eq_true rfl, by decide⟩ (jn_isL_t hl hpl) ?_
          refine jr_1 jm_233 (show jw_cd cd_233 12 = some (.ifCond .eq 53) by decide +kernel) (mz_f (q := .eq) (a := 1) (by show ¬ (1 = 0); omega) ⟨by omega, by omega⟩ (by decide)) ?_
          refine jr_1 jm_233 (show jw_cd cd_233 15 = some (.aload_n 0) by decide +kernel) rfl ?_
          refine jr_c jm_233 (show jw_cd cd_233 16 = some (.invokevirtual 192) by decide +kernel) (mc_v hl (n := 0) (m2 := 218) (bs := []) (r := []) (show jw_find jw_cvT 34 192 = some (0, [(16, 218)]) by decide +kernel) (by decide) rfl rfl rfl) jm_218 ⟨Nat.le_of_ble_eq_true rfl, by decide⟩ r1 ?_
          refine jr_1 jm_233 (show jw_cd cd_233 19 = some (.ifCond .ne 5) by decide +kernel) (mz_t (q := .ne) (a := 1) (t := 24) (by show ¬ (1 = 0); omega) ⟨by omega, by omega⟩ (by decide) (by decide)) ?_
          refine jr_1 jm_233 (show jw_cd cd_233 24 = some (.aload_n 0) by decide +kernel) rfl ?_
          refine jr_c jm_233 (show jw_cd cd_233 25 = some (.invokevirtual 151) by decide +kernel) (mc_v hl (n := 0) (m2 := 215) (bs := []) (r := []) (show jw_find jw_cvT 34 151 = some (0, [(16, 215)]) by decide +kernel) (by decide) rfl rfl rfl) jm_215 ⟨Nat.le_of_ble_eq_true rfl, by decide⟩ (jn_hr hl ht hP2 (by omega) k2) ?_
          refine jr_1 jm_233 (show jw_cd cd_233 28 = some (.bipush 40) by decide +kernel) (mt_bi (by decide)) ?_
          refine jr_1 jm_233 (show jw_cd cd_233 30 = some (.if_icmp .ne 10) by decide +kernel) (mb_t (q := .ne) (a := tH T n q) (b := 40) (t := 40) (by show ¬ (tH T n q = 40); omega) ⟨by omega, by omega⟩ ⟨by omega, by omega⟩ (by decide) (by decide)) ?_
          refine jr_1 jm_233 (show jw_cd cd_233 40 = some (.aload_n 0) by decide +kernel) rfl ?_
          refine jr_1 jm_233 (show jw_cd cd_233 41 = some (.iload_n 1) by decide +kernel) rfl ?_
          refine jr_c jm_233 (show jw_cd cd_233 42 = some (.invokevirtual 240) by decide +kernel) (mc_v hl (n := 1) (m2 := 238) (bs := [.int (Int32.ofInt (p))]) (r := []) (show jw_find jw_cvT 34 240 = some (1, [(16, 238)]) by decide +kernel) (by decide) rfl rfl rfl) jm_238 ⟨Nat.le_of_ble_eq_true rfl, by decide⟩ (jn_cntT hl e30c ⟨by omega, by omega⟩) ?_
          refine jr_1 jm_233 (show jw_cd cd_233 45 = some (.ifCond .eq 18) by decide +kernel) (mz_f (q := .eq) (a := 1) (by show ¬ (1 = 0); omega) ⟨by omega, by omega⟩ (by decide)) ?_
          refine jr_1 jm_233 (show jw_cd cd_233 48 = some (.aload_n 0) by decide +kernel) rfl ?_
          refine jr_1 jm_233 (show jw_cd cd_233 49 = some (.iconst 0) by decide +kernel) rfl ?_
          refine jr_1 jm_233 (show jw_cd cd_233 50 = some (.aload_n 0) by decide +kernel) rfl ?_
          refine jr_1 jm_233 (show jw_cd cd_233 51 = some (.getfield 158) by decide +kernel) (mg_j hl (e := pk s) ((su_nf (by decide)).trans e31c) (show jw_fld 34 158 16 = some 31 by decide +kernel) (by decide) (by decide)) ?_
          refine jr_1 jm_233 (show jw_cd cd_233 54 = some (.aload_n 0) by decide +kernel) rfl ?_
          refine jr_1 jm_233 (show jw_cd cd_233 55 = some (.getfield 222) by decide +kernel) (mg_i hl (e := k + 1) (su_eq _ _ _ _) (show jw_fld 34 222 16 = some 30 by decide +kernel) (by decide) (by decide)) ?_
          refine jr_1 jm_233 (show jw_cd cd_233 58 = some (.iconst 1) by decide +kernel) rfl ?_
          refine jr_1 jm_233 (show jw_cd cd_233 59 = some (.isub) by decide +kernel) (mt_sub (c := k + 1 - 1) rfl) ?_
          refine jr_c jm_233 (show jw_cd cd_233 60 = some (.invokevirtual 233) by decide +kernel) (mc_v hl (n := 3) (m2 := 237) (bs := [.int (Int32.ofInt (0)), .long (Int64.ofInt (pk s)), .int (Int32.ofInt (k + 1 - 1))]) (r := []) (show jw_find jw_cvT 34 233 = some (3, [(16, 237)]) by decide +kernel) (by decide) rfl rfl rfl) jm_237 ⟨Nat.le_of_ble_eq_true rfl, by decide⟩ (jn_add hl e15d e16d hQ hI) ?_
          refine jr_1 jm_233 (show jw_cd cd_233 63 = some (.iconst 1) by decide +kernel) rfl ?_
          exact jr_v jm_233 (show jw_cd cd_233 64 = some (.ireturn) by decide +kernel) rfl
  · have hpl : ¬ (97 ≤ tH T n p ∧ tH T n p ≤ 122) := fun z => h1 (decide_eq_true z)
    rw [if_neg h1]
    by_cases h91 : tH T n p = 91
    · have hl1 := tH_lt ht h0 h91 (by decide)
      rw [if_pos h91]
      have hB := jn_brackets (β := β) (d := d) (h := h) hl ht hP h0 hl1 e15 e16 e30 hQ hI hk hk1 hs
      cases hsb : sBr T n p kn with
      | inl e =>
        obtain ⟨τ2, y1, y2, y3⟩ := hB.1 e hsb
        refine ⟨fun e' he => ?_, fun a q he => (by cases he), fun a q he => (by cases he)⟩
        cases he
        refine ⟨τ2, 1, ?_, Or.inr rfl, y2, y3⟩
        refine jr_1 jm_233 (show jw_cd cd_233 0 = some (.aload_n 0) by decide +kernel) rfl ?_
        refine jr_1 jm_233 (show jw_cd cd_233 1 = some (.getfield 145) by decide +kernel) (mg_i hl (e := p) hP.2.2.1 (show jw_fld 34 145 16 = some 28 by decide +kernel) (by decide) (by decide)) ?_
        refine jr_1 jm_233 (F2 := (5, [some (.ref 15), some (.int (Int32.ofInt (p)))], [], ml_mk h σ)) (show jw_cd cd_233 4 = some (.istore_n 1) by decide +kernel) rfl ?_
        refine jr_1 jm_233 (show jw_cd cd_233 5 = some (.aload_n 0) by decide +kernel) rfl ?_
        refine jr_c jm_233 (show jw_cd cd_233 6 = some (.invokevirtual 151) by decide +kernel) (mc_v hl (n := 0) (m2 := 215) (bs := []) (r := []) (show jw_find jw_cvT 34 151 = some (0, [(16, 215)]) by decide +kernel) (by decide) rfl rfl rfl) jm_215 ⟨Nat.le_of_ble_eq_true rfl, by decide⟩ (jn_hr hl ht hP h0 hp) ?_
        refine jr_c jm_233 (show jw_cd cd_233 9 = some (.invokestatic 162) by decide +kernel) (mc_s (n := 1) (m2 := 219) (bs := [.int (Int32.ofInt (tH T n p))]) (r := []) (by decide) (show jw_find jw_csT 34 162 = some (219, 1) by decide +kernel) rfl rfl rfl) jm_219 ⟨Nat.le_of_ble_eq_true rfl, by decide⟩ (jn_isL_f hl hmr hpl) ?_
        refine jr_1 jm_233 (show jw_cd cd_233 12 = some (.ifCond .eq 53) by decide +kernel) (mz_t (q := .eq) (a := 0) (t := 65) (by show 0 = 0; omega) ⟨by omega, by omega⟩ (by decide) (by decide)) ?_
        refine jr_1 jm_233 (show jw_cd cd_233 65 = some (.aload_n 0) by decide +kernel) rfl ?_
        refine jr_c jm_233 (show jw_cd cd_233 66 = some (.invokevirtual 151) by decide +kernel) (mc_v hl (n := 0) (m2 := 215) (bs := []) (r := []) (show jw_find jw_cvT 34 151 = some (0, [(16, 215)]) by decide +kernel) (by decide) rfl rfl rfl) jm_215 ⟨Nat.le_of_ble_eq_true rfl, by decide⟩ (jn_hr hl ht hP h0 hp) ?_
        refine jr_1 jm_233 (show jw_cd cd_233 69 = some (.bipush 91) by decide +kernel) (mt_bi (by decide)) ?_
        refine jr_1 jm_233 (show jw_cd cd_233 71 = some (.if_icmp .ne 9) by decide +kernel) (mb_f (q := .ne) (a := tH T n p) (b := 91) (by show ¬ (¬ (tH T n p = 91)); omega) ⟨by omega, by omega⟩ ⟨by omega, by omega⟩ (by decide)) ?_
        refine jr_1 jm_233 (show jw_cd cd_233 74 = some (.aload_n 0) by decide +kernel) rfl ?_
        refine jr_c jm_233 (show jw_cd cd_233 75 = some (.invokevirtual 243) by decide +kernel) (mc_v hl (n := 0) (m2 := 239) (bs := []) (r := []) (show jw_find jw_cvT 34 243 = some (0, [(16, 239)]) by decide +kernel) (by decide) rfl rfl rfl) jm_239 ⟨Nat.le_of_ble_eq_true rfl, by decide⟩ y1 ?_
        refine jr_1 jm_233 (show jw_cd cd_233 78 = some (.iconst 1) by decide +kernel) rfl ?_
        exact jr_v jm_233 (show jw_cd cd_233 79 = some (.ireturn) by decide +kernel) rfl
      | inr x =>
        obtain ⟨e, q2⟩ := x
        obtain ⟨τ2, y1, y2⟩ := hB.2 e q2 hsb
        refine ⟨fun e' he => (by cases he), fun a q he => (by cases he), fun a q he => ?_⟩
        cases he
        refine ⟨τ2, ?_, acc_one y2⟩
        refine jr_1 jm_233 (show jw_cd cd_233 0 = some (.aload_n 0) by decide +kernel) rfl ?_
        refine jr_1 jm_233 (show jw_cd cd_233 1 = some (.getfield 145) by decide +kernel) (mg_i hl (e := p) hP.2.2.1 (show jw_fld 34 145 16 = some 28 by decide +kernel) (by decide) (by decide)) ?_
        refine jr_1 jm_233 (F2 := (5, [some (.ref 15), some (.int (Int32.ofInt (p)))], [], ml_mk h σ)) (show jw_cd cd_233 4 = some (.istore_n 1) by decide +kernel) rfl ?_
        refine jr_1 jm_233 (show jw_cd cd_233 5 = some (.aload_n 0) by decide +kernel) rfl ?_
        refine jr_c jm_233 (show jw_cd cd_233 6 = some (.invokevirtual 151) by decide +kernel) (mc_v hl (n := 0) (m2 := 215) (bs := []) (r := []) (show jw_find jw_cvT 34 151 = some (0, [(16, 215)]) by decide +kernel) (by decide) rfl rfl rfl) jm_215 ⟨Nat.le_of_ble_eq_true rfl, by decide⟩ (jn_hr hl ht hP h0 hp) ?_
        refine jr_c jm_233 (show jw_cd cd_233 9 = some (.invokestatic 162) by decide +kernel) (mc_s (n := 1) (m2 := 219) (bs := [.int (Int32.ofInt (tH T n p))]) (r := []) (by decide) (show jw_find jw_csT 34 162 = some (219, 1) by decide +kernel) rfl rfl rfl) jm_219 ⟨Nat.le_of_ble_eq_true rfl, by decide⟩ (jn_isL_f hl hmr hpl) ?_
        refine jr_1 jm_233 (show jw_cd cd_233 12 = some (.ifCond .eq 53) by decide +kernel) (mz_t (q := .eq) (a := 0) (t := 65) (by show 0 = 0; omega) ⟨by omega, by omega⟩ (by decide) (by decide)) ?_
        refine jr_1 jm_233 (show jw_cd cd_233 65 = some (.aload_n 0) by decide +kernel) rfl ?_
        refine jr_c jm_233 (show jw_cd cd_233 66 = some (.invokevirtual 151) by decide +kernel) (mc_v hl (n := 0) (m2 := 215) (bs := []) (r := []) (show jw_find jw_cvT 34 151 = some (0, [(16, 215)]) by decide +kernel) (by decide) rfl rfl rfl) jm_215 ⟨Nat.le_of_ble_eq_true rfl, by decide⟩ (jn_hr hl ht hP h0 hp) ?_
        refine jr_1 jm_233 (show jw_cd cd_233 69 = some (.bipush 91) by decide +kernel) (mt_bi (by decide)) ?_
        refine jr_1 jm_233 (show jw_cd cd_233 71 = some (.if_icmp .ne 9) by decide +kernel) (mb_f (q := .ne) (a := tH T n p) (b := 91) (by show ¬ (¬ (tH T n p = 91)); omega) ⟨by omega, by omega⟩ ⟨by omega, by omega⟩ (by decide)) ?_
        refine jr_1 jm_233 (show jw_cd cd_233 74 = some (.aload_n 0) by decide +kernel) rfl ?_
        refine jr_c jm_233 (show jw_cd cd_233 75 = some (.invokevirtual 243) by decide +kernel) (mc_v hl (n := 0) (m2 := 239) (bs := []) (r := []) (show jw_find jw_cvT 34 243 = some (0, [(16, 239)]) by decide +kernel) (by decide) rfl rfl rfl) jm_239 ⟨Nat.le_of_ble_eq_true rfl, by decide⟩ y1 ?_
        refine jr_1 jm_233 (show jw_cd cd_233 78 = some (.iconst 1) by decide +kernel) rfl ?_
        exact jr_v jm_233 (show jw_cd cd_233 79 = some (.ireturn) by decide +kernel) rfl
    · rw [if_neg h91]
      by_cases h64 : tH T n p = 64
      · have hl1 := tH_lt ht h0 h64 (by decide)
        rw [if_pos h64]
        refine ⟨fun e' he => (by cases he), fun a q he => (by cases he), fun a q he => ?_⟩
        cases he
        refine ⟨su σ 28 0 (p + 1), ?_, rP_mv hP, by rw [su_nf (by decide), e16]; simp, trivial, trivial, rdF_su (rdF_refl _ _ _ _) (by omega), by rw [su_nf (by decide), e30]; simp⟩
        refine jr_1 jm_233 (show jw_cd cd_233 0 = some (.aload_n 0) by decide +kernel) rfl ?_
        refine jr_1 jm_233 (show jw_cd cd_233 1 = some (.getfield 145) by decide +kernel) (mg_i hl (e := p) hP.2.2.1 (show jw_fld 34 145 16 = some 28 by decide +kernel) (by decide) (by decide)) ?_
        refine jr_1 jm_233 (F2 := (5, [some (.ref 15), some (.int (Int32.ofInt (p)))], [], ml_mk h σ)) (show jw_cd cd_233 4 = some (.istore_n 1) by decide +kernel) rfl ?_
        refine jr_1 jm_233 (show jw_cd cd_233 5 = some (.aload_n 0) by decide +kernel) rfl ?_
        refine jr_c jm_233 (show jw_cd cd_233 6 = some (.invokevirtual 151) by decide +kernel) (mc_v hl (n := 0) (m2 := 215) (bs := []) (r := []) (show jw_find jw_cvT 34 151 = some (0, [(16, 215)]) by decide +kernel) (by decide) rfl rfl rfl) jm_215 ⟨Nat.le_of_ble_eq_true rfl, by decide⟩ (jn_hr hl ht hP h0 hp) ?_
        refine jr_c jm_233 (show jw_cd cd_233 9 = some (.invokestatic 162) by decide +kernel) (mc_s (n := 1) (m2 := 219) (bs := [.int (Int32.ofInt (tH T n p))]) (r := []) (by decide) (show jw_find jw_csT 34 162 = some (219, 1) by decide +kernel) rfl rfl rfl) jm_219 ⟨Nat.le_of_ble_eq_true rfl, by decide⟩ (jn_isL_f hl hmr hpl) ?_
        refine jr_1 jm_233 (show jw_cd cd_233 12 = some (.ifCond .eq 53) by decide +kernel) (mz_t (q := .eq) (a := 0) (t := 65) (by show 0 = 0; omega) ⟨by omega, by omega⟩ (by decide) (by decide)) ?_
        refine jr_1 jm_233 (show jw_cd cd_233 65 = some (.aload_n 0) by decide +kernel) rfl ?_
        refine jr_c jm_233 (show jw_cd cd_233 66 = some (.invokevirtual 151) by decide +kernel) (mc_v hl (n := 0) (m2 := 215) (bs := []) (r := []) (show jw_find jw_cvT 34 151 = some (0, [(16, 215)]) by decide +kernel) (by decide) rfl rfl rfl) jm_215 ⟨Nat.le_of_ble_eq_true rfl, by decide⟩ (jn_hr hl ht hP h0 hp) ?_
        refine jr_1 jm_233 (show jw_cd cd_233 69 = some (.bipush 91) by decide +kernel) (mt_bi (by decide)) ?_
        refine jr_1 jm_233 (show jw_cd cd_233 71 = some (.if_icmp .ne 9) by decide +kernel) (mb_t (q := .ne) (a := tH T n p) (b := 91) (t := 80) (by show ¬ (tH T n p = 91); omega) ⟨by omega, by omega⟩ ⟨by omega, by omega⟩ (by decide) (by decide)) ?_
        refine jr_1 jm_233 (show jw_cd cd_233 80 = some (.aload_n 0) by decide +kernel) rfl ?_
        refine jr_1 jm_233 (show jw_cd cd_233 81 = some (.bipush 64) by decide +kernel) (mt_bi (by decide)) ?_
        refine jr_c jm_233 (show jw_cd cd_233 83 = some (.invokevirtual 179) by decide +kernel) (mc_v hl (n := 1) (m2 := 221) (bs := [.int (Int32.ofInt (64))]) (r := []) (show jw_find jw_cvT 34 179 = some (1, [(16, 221)]) by decide +kernel) (by decide) rfl rfl rfl) jm_221 ⟨Nat.le_of_ble_eq_true rfl, by decide⟩ (jn_mustT hl ht hP h0 hp ⟨by decide, by decide⟩ h64) ?_
        exact jr_v jm_233 (show jw_cd cd_233 86 = some (.ireturn) by decide +kernel) rfl
      · rw [if_neg h64]
        refine ⟨fun e' he => ?_, fun a q he => (by cases he), fun a q he => (by cases he)⟩
        cases he
        refine ⟨su σ 29 0 (-1 - p), 0, ?_, Or.inl rfl, su_eq _ _ _ _, rdF_su (rdF_refl _ _ _ _) (by omega)⟩
        refine jr_1 jm_233 (show jw_cd cd_233 0 = some (.aload_n 0) by decide +kernel) rfl ?_
        refine jr_1 jm_233 (show jw_cd cd_233 1 = some (.getfield 145) by decide +kernel) (mg_i hl (e := p) hP.2.2.1 (show jw_fld 34 145 16 = some 28 by decide +kernel) (by decide) (by decide)) ?_
        refine jr_1 jm_233 (F2 := (5, [some (.ref 15), some (.int (Int32.ofInt (p)))], [], ml_mk h σ)) (show jw_cd cd_233 4 = some (.istore_n 1) by decide +kernel) rfl ?_
        refine jr_1 jm_233 (show jw_cd cd_233 5 = some (.aload_n 0) by decide +kernel) rfl ?_
        refine jr_c jm_233 (show jw_cd cd_233 6 = some (.invokevirtual 151) by decide +kernel) (mc_v hl (n := 0) (m2 := 215) (bs := []) (r := []) (show jw_find jw_cvT 34 151 = some (0, [(16, 215)]) by decide +kernel) (by decide) rfl rfl rfl) jm_215 ⟨Nat.le_of_ble_eq_true rfl, by decide⟩ (jn_hr hl ht hP h0 hp) ?_
        refine jr_c jm_233 (show jw_cd cd_233 9 = some (.invokestatic 162) by decide +kernel) (mc_s (n := 1) (m2 := 219) (bs := [.int (Int32.ofInt (tH T n p))]) (r := []) (by decide) (show jw_find jw_csT 34 162 = some (219, 1) by decide +kernel) rfl rfl rfl) jm_219 ⟨Nat.le_of_ble_eq_true rfl, by decide⟩ (jn_isL_f hl hmr hpl) ?_
        refine jr_1 jm_233 (show jw_cd cd_233 12 = some (.ifCond .eq 53) by decide +kernel) (mz_t (q := .eq) (a := 0) (t := 65) (by show 0 = 0; omega) ⟨by omega, by omega⟩ (by decide) (by decide)) ?_
        refine jr_1 jm_233 (show jw_cd cd_233 65 = some (.aload_n 0) by decide +kernel) rfl ?_
        refine jr_c jm_233 (show jw_cd cd_233 66 = some (.invokevirtual 151) by decide +kernel) (mc_v hl (n := 0) (m2 := 215) (bs := []) (r := []) (show jw_find jw_cvT 34 151 = some (0, [(16, 215)]) by decide +kernel) (by decide) rfl rfl rfl) jm_215 ⟨Nat.le_of_ble_eq_true rfl, by decide⟩ (jn_hr hl ht hP h0 hp) ?_
        refine jr_1 jm_233 (show jw_cd cd_233 69 = some (.bipush 91) by decide +kernel) (mt_bi (by decide)) ?_
        refine jr_1 jm_233 (show jw_cd cd_233 71 = some (.if_icmp .ne 9) by decide +kernel) (mb_t (q := .ne) (a := tH T n p) (b := 91) (t := 80) (by show ¬ (tH T n p = 91); omega) ⟨by omega, by omega⟩ ⟨by omega, by omega⟩ (by decide) (by decide)) ?_
        refine jr_1 jm_233 (show jw_cd cd_233 80 = some (.aload_n 0) by decide +kernel) rfl ?_
        refine jr_1 jm_233 (show jw_cd cd_233 81 = some (.bipush 64) by decide +kernel) (mt_bi (by decide)) ?_
        refine jr_c jm_233 (show jw_cd cd_233 83 = some (.invokevirtual 179) by decide +kernel) (mc_v hl (n := 1) (m2 := 221) (bs := [.int (Int32.ofInt (64))]) (r := []) (show jw_find jw_cvT 34 179 = some (1, [(16, 221)]) by decide +kernel) (by decide) rfl rfl rfl) jm_221 ⟨Nat.le_of_ble_eq_true rfl, by decide⟩ (jn_mustF hl ht hP h0 hp ⟨by decide, by decide⟩ h64) ?_
        exact jr_v jm_233 (show jw_cd cd_233 86 = some (.ireturn) by decide +kernel) rfl
