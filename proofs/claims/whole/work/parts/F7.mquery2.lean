/-! ===== query, as a whole (printed by program: gen71.py) ===== -/
def quP (σ : mS) (s1 : Int) : Int → List sT → Prop
  | _, [] => True
  | i, st :: l => (st.1 < 0 → itP σ s1 i st.2.2) ∧ quP σ s1 (i + stJ st + 1) l
theorem stR_rd {σ τ : mS} {Q i i' s1 : Int} {st : sT} (h : rdF σ τ Q i' s1) (hi : i + stJ st + 1 ≤ i') (hp : st.1 < 0 → itP σ s1 i st.2.2) (hs : stR σ i st) : stR τ i st ∧ (st.1 < 0 → itP τ s1 i st.2.2) := by
  rcases hs with ⟨h1, h2, h3, h4⟩ | ⟨⟨h1, h2⟩, h3, h4, h5, h6⟩
  · have hsj : stJ st = st.2.2.length := if_pos h1
    obtain ⟨a, b⟩ := itR_rd h st.2.2 i (by omega) (hp h1) h2
    exact ⟨Or.inl ⟨h1, a, h3, by rw [h.2.2.1 17 _ (by decide) (by decide) (by omega)]; exact h4⟩, fun _ => b⟩
  · have hsj : stJ st = 1 := if_neg (by omega)
    exact ⟨Or.inr ⟨⟨h1, h2⟩, by rw [h.2.2.1 17 _ (by decide) (by decide) (by omega)]; exact h3, by rw [h.2.2.1 18 _ (by decide) (by decide) (by omega)]; exact h4, h5, by rw [h.2.2.1 17 _ (by decide) (by decide) (by omega)]; exact h6⟩, fun z => by omega⟩
theorem quR_rd {σ τ : mS} {Q i' s1 : Int} (h : rdF σ τ Q i' s1) : ∀ (l : List sT) (i : Int), i + quL l ≤ i' → quP σ s1 i l → quR σ i l → quR τ i l ∧ quP τ s1 i l
  | [], _, _, _, _ => ⟨trivial, trivial⟩
  | st :: l, i, hi, hp, hr => by
    have hi : i + (stJ st + 1 + quL l) ≤ i' := hi
    have h0 := quL_nn l
    obtain ⟨a1, a2⟩ := stR_rd h (by omega) hp.1 hr.1
    obtain ⟨b1, b2⟩ := quR_rd h l (i + stJ st + 1) (by omega) hp.2 hr.2
    exact ⟨⟨a1, b1⟩, ⟨a2, b2⟩⟩
theorem quP_mono {σ : mS} {s1 s2 : Int} (hs : s1 ≤ s2) : ∀ (l : List sT) (i : Int), quP σ s1 i l → quP σ s2 i l
  | [], _, _ => trivial
  | st :: l, i, h => ⟨fun z => itP_mono hs _ _ (h.1 z), quP_mono hs l _ h.2⟩
theorem quR_app {σ : mS} {st : sT} : ∀ (l : List sT) (i : Int), quR σ i l → stR σ (i + quL l) st → quR σ i (l ++ [st])
  | [], i, _, h => by
    have e0 : i + quL [] = i := Int.add_zero i
    rw [e0] at h
    exact ⟨h, trivial⟩
  | a :: l, i, h1, h2 => by
    refine ⟨h1.1, quR_app l _ h1.2 ?_⟩
    rw [show i + stJ a + 1 + quL l = i + quL (a :: l) by show _ = i + (stJ a + 1 + quL l); omega]
    exact h2
theorem quP_app {σ : mS} {s1 : Int} {st : sT} : ∀ (l : List sT) (i : Int), quP σ s1 i l → (st.1 < 0 → itP σ s1 (i + quL l) st.2.2) → quP σ s1 i (l ++ [st])
  | [], i, _, h => by
    have e0 : i + quL [] = i := Int.add_zero i
    rw [e0] at h
    exact ⟨h, trivial⟩
  | a :: l, i, h1, h2 => by
    refine ⟨h1.1, quP_app l _ h1.2 ?_⟩
    rw [show i + stJ a + 1 + quL l = i + quL (a :: l) by show _ = i + (stJ a + 1 + quL l); omega]
    exact h2
/-- what a query leaves alone -/
def rqF (σ τ : mS) (Q : Int) : Prop := (∀ f, f ∉ [2, 15, 16, 17, 18, 19, 20, 21, 22, 23, 24, 25, 26, 27, 28, 29, 30, 31, 32] → τ f = σ f) ∧ (∀ v, 0 ≤ v → ¬ v = Q → τ 16 v = σ 16 v) ∧ (∀ f v, 17 ≤ f → f ≤ 19 → v < 100 * Q → τ f v = σ f v) ∧ (∀ f v, 20 ≤ f → f ≤ 27 → v < mulf f * (12 * Q) → τ f v = σ f v)
theorem rqF_rd {σ τ : mS} {Q : Int} (h : rdF σ τ Q (100 * Q) (12 * Q)) : rqF σ τ Q := ⟨fun f hf => h.1 f (by simp only [List.mem_cons, List.mem_nil_iff, or_false, not_or] at hf ⊢; omega), h.2⟩
theorem rqF_su {σ τ : mS} {Q i x : Int} {f : Nat} (h : rqF σ τ Q) (hf : f = 2 ∨ f = 15) : rqF σ (su τ f i x) Q := ⟨fun g hg => by
  simp only [List.mem_cons, List.mem_nil_iff, or_false, not_or] at hg
  rw [su_row (by omega)]
  exact h.1 g (by simp; omega), fun v v0 hv => by rw [su_nf (by omega)]; exact h.2.1 v v0 hv, fun g v g1 g2 hv => by rw [su_nf (by omega)]; exact h.2.2.1 g v g1 g2 hv, fun g v g1 g2 hv => by rw [su_nf (by omega)]; exact h.2.2.2 g v g1 g2 hv⟩
theorem jn_qu_59 {β : Bool} {d : Nat} {h : jx_H} {σ0 : mS} (hl : 49 ≤ h.length) {T : Int → Int} {n Q : Int} (ht : tOK T n) (hQ : 0 ≤ Q ∧ Q < 12) (h15 : σ0 15 0 = Q) : ∀ (f : Nat) (acc : List sT) (kn : Nat) (p : Int) (σ : mS) (c2 : Option Value), n < p + f → 0 ≤ p → p ≤ n → kn ≤ 12 → 2 * (quL acc - kn) ≤ p → rP σ T n p → σ 16 Q = quL acc → σ 30 0 = kn → quR σ (100 * Q) acc → quP σ (12 * Q + kn) (100 * Q) acc → rdF σ0 σ Q (100 * Q) (12 * Q) → (∀ e, sQs T n f acc kn p = .inl e → ∃ τ : mS, jx_r (jz β) jw_M (d + 8) 232 (59, [some (.ref 15), some (.int (Int32.ofInt (1))), c2], [], ml_mk h σ) (ml_mk h (τ), .inl (some (.int (Int32.ofInt (-1 - e))))) ∧ τ 2 0 = 0 ∧ τ 15 0 = Q ∧ rqF σ0 τ Q) ∧ (∀ l, sQs T n f acc kn p = .inr l → ∃ τ : mS, jx_r (jz β) jw_M (d + 8) 232 (59, [some (.ref 15), some (.int (Int32.ofInt (1))), c2], [], ml_mk h σ) (ml_mk h (τ), .inl (some (.int (Int32.ofInt (Q))))) ∧ τ 2 0 = 0 ∧ τ 15 0 = Q + 1 ∧ τ 16 Q = quL l ∧ quR τ (100 * Q) l ∧ quP τ (12 * Q + 12) (100 * Q) l ∧ rqF σ0 τ Q)
  | 0, acc, kn, p, σ, c2, hf, h0, hp, hk, hq2, hP, e16, e30, hR, hPl, hF => absurd hf (by omega)
  | f + 1, acc, kn, p, σ, c2, hf, h0, hp, hk, hq2, hP, e16, e30, hR, hPl, hF => by
    have hn160 := ht.2.1
    have hI0 := quL_nn acc
    have e15 : σ 15 0 = Q := by rw [hF.1 15 (by decide)]; exact h15
    obtain ⟨I, hI⟩ : ∃ I, I = quL acc := ⟨_, rfl⟩
    rw [← hI] at e16 hq2 hI0
    have hSR := sStg_R (p := p) (k := kn) ht h0 hp hk
    have hfst := jn_readFirst (β := β) (d := d) (h := h) (σ := σ) (s0 := 12 * Q + kn) (I := I) (k := kn) (kn := kn) hl ht hP h0 hp e15 e16 e30 hQ ⟨by omega, by omega⟩ rfl hk rfl
    have hfR := sFst_R (p := p) (k := kn) ht h0 hp hk
    have her : ∀ (e : Int) (τ : mS) (b : Int), (0 ≤ e ∧ e ≤ n) → τ 29 0 = -1 - e → rdF σ τ Q (100 * Q + I) (12 * Q + kn) → 0 ≤ τ 16 Q → τ 16 Q ≤ 92 → (∀ res, jx_r (jz β) jw_M (d + 8) 232 (100, [some (.ref 15), some (.int (Int32.ofInt (1))), some (.int (Int32.ofInt (b)))], [], ml_mk h τ) res → jx_r (jz β) jw_M (d + 8) 232 (59, [some (.ref 15), some (.int (Int32.ofInt (1))), c2], [], ml_mk h σ) res) → ∃ τ : mS, jx_r (jz β) jw_M (d + 8) 232 (59, [some (.ref 15), some (.int (Int32.ofInt (1))), c2], [], ml_mk h σ) (ml_mk h (τ), .inl (some (.int (Int32.ofInt (-1 - e))))) ∧ τ 2 0 = 0 ∧ τ 15 0 = Q ∧ rqF σ0 τ Q := fun e τ b he h29 hFt h1 h2 hrun => by
      have t15 : τ 15 0 = Q := by rw [hFt.1 15 (by decide)]; exact e15
      have hz := jn_qe (β := β) (d := d + 6) (h := h) (g := b) hl t15 rfl hQ ⟨h1, by omega⟩ h29 ⟨he.1, by omega⟩
      obtain ⟨m1, m2, m3, m4, m5, m6⟩ := mAdd_F (σ := τ) (Q := Q) (I := τ 16 Q) (w := 7) (t := 0) (s := 0) (s0 := 12 * Q)
      refine ⟨_, hrun _ hz, su_eq _ _ _ _, by rw [su_nf (by decide), m6 15 (by decide)]; exact t15, rqF_su (rqF_rd ?_) (Or.inl rfl)⟩
      exact rdF_trans hF (rdF_trans (rdF_mono hFt (by omega) (by omega)) (rdF_mono m1 (by omega) (Int.le_refl _)) (Int.le_refl _) (Int.le_refl _)) (Int.le_refl _) (Int.le_refl _)
    have fin : ∀ (st : sT) (q : Int) (k2 : Nat) (τ : mS) (J b : Int), p < q → q ≤ n → kn ≤ k2 → k2 ≤ 12 → 2 * (stJ st + 1 - (k2 - kn)) ≤ q - p + 1 → rP τ T n q → τ 16 Q = J → J = I + stJ st → τ 30 0 = k2 → rdF σ τ Q (100 * Q + I) (12 * Q + kn) → stR (mAdd τ Q J 7 0 0) (100 * Q + I) st → (st.1 < 0 → itP (mAdd τ Q J 7 0 0) (12 * Q + k2) (100 * Q + I) st.2.2) → (∀ res, jx_r (jz β) jw_M (d + 8) 232 (100, [some (.ref 15), some (.int (Int32.ofInt (1))), some (.int (Int32.ofInt (b)))], [], ml_mk h τ) res → jx_r (jz β) jw_M (d + 8) 232 (59, [some (.ref 15), some (.int (Int32.ofInt (1))), c2], [], ml_mk h σ) res) → (∀ e, ((if tH T n q = 124 then sQs T n f (acc ++ [st]) k2 (q + 1) else if q < n then .inl q else .inr (acc ++ [st])) : Int ⊕ List sT) = .inl e → ∃ τ : mS, jx_r (jz β) jw_M (d + 8) 232 (59, [some (.ref 15), some (.int (Int32.ofInt (1))), c2], [], ml_mk h σ) (ml_mk h (τ), .inl (some (.int (Int32.ofInt (-1 - e))))) ∧ τ 2 0 = 0 ∧ τ 15 0 = Q ∧ rqF σ0 τ Q) ∧ (∀ l, ((if tH T n q = 124 then sQs T n f (acc ++ [st]) k2 (q + 1) else if q < n then .inl q else .inr (acc ++ [st])) : Int ⊕ List sT) = .inr l → ∃ τ : mS, jx_r (jz β) jw_M (d + 8) 232 (59, [some (.ref 15), some (.int (Int32.ofInt (1))), c2], [], ml_mk h σ) (ml_mk h (τ), .inl (some (.int (Int32.ofInt (Q))))) ∧ τ 2 0 = 0 ∧ τ 15 0 = Q + 1 ∧ τ 16 Q = quL l ∧ quR τ (100 * Q) l ∧ quP τ (12 * Q + 12) (100 * Q) l ∧ rqF σ0 τ Q) := fun st q k2 τ J b hpq hqn hk1 hk2 hw hPt t16 hJ t30 hFt hS hSp hrun => by
      have hj0 := stJ_nn st
      have t15 : τ 15 0 = Q := by rw [hFt.1 15 (by decide)]; exact e15
      obtain ⟨m1, m2, m3, m4, m5, m6⟩ := mAdd_F (σ := τ) (Q := Q) (I := J) (w := 7) (t := 0) (s := 0) (s0 := 12 * Q + kn)
      obtain ⟨z1, z2, z3⟩ := jn_qs (β := β) (d := d + 6) (h := h) (g := b) hl ht hPt (by omega) hqn t15 t16 hQ ⟨by omega, by omega⟩
      obtain ⟨τ1, hτ1⟩ : ∃ τ1, τ1 = mAdd τ Q J 7 0 0 := ⟨_, rfl⟩
      rw [← hτ1] at z1 z2 z3 m1 m2 m3 m4 m5 m6 hS hSp
      have hF1 : rdF σ τ1 Q (100 * Q + I) (12 * Q + kn) := rdF_trans hFt (rdF_mono m1 (by omega) (Int.le_refl _)) (Int.le_refl _) (Int.le_refl _)
      have hF0 : rdF σ0 τ1 Q (100 * Q) (12 * Q) := rdF_trans hF hF1 (by omega) (by omega)
      obtain ⟨q1, q2⟩ := quR_rd hF1 acc (100 * Q) (by omega) hPl hR
      have hql := quL_app st acc
      have hQR : quR τ1 (100 * Q) (acc ++ [st]) := quR_app _ _ q1 (by rw [← hI]; exact hS)
      have hQP : quP τ1 (12 * Q + k2) (100 * Q) (acc ++ [st]) := quP_app _ _ (quP_mono (by omega) _ _ q2) (by rw [← hI]; exact hSp)
      have u15 : τ1 15 0 = Q := by rw [m6 15 (by decide)]; exact t15
      by_cases h124 : tH T n q = 124
      · have hl2 := tH_lt ht (by omega) h124 (by decide)
        rw [if_pos h124]
        have hF2 : rdF τ1 (su τ1 28 0 (q + 1)) Q (100 * Q + quL (acc ++ [st])) (12 * Q + k2) := rdF_su (rdF_refl _ _ _ _) (by omega)
        obtain ⟨q3, q4⟩ := quR_rd hF2 (acc ++ [st]) (100 * Q) (Int.le_refl _) hQP hQR
        have ih := jn_qu_59 (β := β) (d := d) (h := h) hl ht hQ h15 f (acc ++ [st]) k2 (q + 1) (su τ1 28 0 (q + 1)) (some (.int (Int32.ofInt (b)))) (by omega) (by omega) hl2 hk2 (by rw [hql]; omega) (rP_mv (rP_q hPt (fun f hf => m6 f (by simp; omega)) (by rw [m6 28 (by decide)]) (by rw [m6 29 (by decide)]))) (by rw [su_nf (by decide), m5, hql]; omega) (by rw [su_nf (by decide), m6 30 (by decide)]; exact t30) q3 q4 (rdF_su hF0 (by omega))
        refine ⟨fun e he => ?_, fun l he => ?_⟩
        · obtain ⟨τ', y1, y2⟩ := ih.1 e he
          exact ⟨τ', hrun _ (z1 h124 _ y1), y2⟩
        · obtain ⟨τ', y1, y2⟩ := ih.2 l he
          exact ⟨τ', hrun _ (z1 h124 _ y1), y2⟩
      · rw [if_neg h124]
        by_cases hqn2 : q < n
        · rw [if_pos hqn2]
          refine ⟨fun e he => ?_, fun l he => (by cases he)⟩
          cases he
          exact ⟨_, hrun _ (z2 h124 hqn2), su_eq _ _ _ _, by rw [su_nf (by decide), su_nf (by decide)]; exact u15, rqF_su (rqF_rd (rdF_su hF0 (by omega))) (Or.inl rfl)⟩
        · rw [if_neg hqn2]
          refine ⟨fun e he => (by cases he), fun l he => ?_⟩
          cases he
          have hq27 : ∀ f, 16 ≤ f → f ≤ 27 → (su (su τ1 2 0 0) 15 0 (Q + 1)) f = τ1 f := fun f f1 f2 => by rw [su_row (by omega), su_row (by omega)]
          have hFx : rdF τ1 (su (su τ1 2 0 0) 15 0 (Q + 1)) Q (100 * Q + quL (acc ++ [st])) (12 * Q + k2) ∨ True := Or.inr trivial
          have hquP : ∀ (l : List sT) (i : Int), quP τ1 (12 * Q + k2) i l → quP (su (su τ1 2 0 0) 15 0 (Q + 1)) (12 * Q + k2) i l := fun l => by
            have hit : ∀ (l : List sE) (i : Int), itP τ1 (12 * Q + k2) i l → itP (su (su τ1 2 0 0) 15 0 (Q + 1)) (12 * Q + k2) i l := fun l => by
              induction l with
              | nil => intro i _; exact trivial
              | cons e l ih => intro i hh; exact ⟨fun z => by rw [hq27 19 (by decide) (by decide)]; exact hh.1 z, ih (i + 1) hh.2⟩
            induction l with
            | nil => intro i _; exact trivial
            | cons st l ih => intro i hh; exact ⟨fun z => hit _ _ (hh.1 z), ih _ hh.2⟩
          exact ⟨_, hrun _ (z3 h124 hqn2), by rw [su_nf (by decide), su_eq], su_eq _ _ _ _, by rw [hq27 16 (by decide) (by decide), m5, hql]; omega, quR_fr (fun f f1 f2 => hq27 f (by omega) f2) _ _ hQR, quP_mono (by omega) _ _ (hquP _ _ hQP), rqF_su (rqF_su (rqF_rd hF0) (Or.inl rfl)) (Or.inr rfl)⟩
    unfold sQs
    unfold sStg at hSR ⊢
    cases hs : sFst T n p kn with
    | inl e =>
      obtain ⟨τ, b, r1, r2, r3, r4⟩ := hfst.1 e hs
      have hke := hfR.1 e hs
      have h16 : τ 16 Q = I := by rw [r4.2.1 Q hQ.1 (by omega)]; exact e16
      refine ⟨fun e' he => ?_, fun l he => (by cases he)⟩
      cases he
      refine her e τ b ⟨by omega, hke.2⟩ r3 (rdF_w r4) (by omega) (by omega) (fun res kk => ?_)
      rcases r2 with rfl | rfl
      · skip
        refine jr_1 jm_232 (show jw_cd cd_232 59 = some (.aload_n 0) by decide +kernel) rfl ?_
        refine jr_c jm_232 (show jw_cd cd_232 60 = some (.invokevirtual 258) by decide +kernel) (mc_v hl (n := 0) (m2 := 233) (bs := []) (r := []) (show jw_find jw_cvT 34 258 = some (0, [(16, 233)]) by decide +kernel) (by decide) rfl rfl rfl) jm_233 ⟨Nat.le_of_ble_eq_true rfl, by decide⟩ r1 ?_
        refine jr_1 jm_232 (F2 := (64, [some (.ref 15), some (.int (Int32.ofInt (1))), some (.int (Int32.ofInt (0)))], [], ml_mk h τ)) (show jw_cd cd_232 63 = some (.istore_n 2) by decide +kernel) rfl ?_
        refine jr_1 jm_232 (show jw_cd cd_232 64 = some (.iload_n 2) by decide +kernel) rfl ?_
        refine jr_1 jm_232 (show jw_cd cd_232 65 = some (.ifCond .eq 35) by decide +kernel) (mz_t (q := .eq) (a := 0) (t := 100) (by show 0 = 0; omega) ⟨by omega, by omega⟩ (by decide) (by decide)) ?_
        exact kk
      · skip
        refine jr_1 jm_232 (show jw_cd cd_232 59 = some (.aload_n 0) by decide +kernel) rfl ?_
        refine jr_c jm_232 (show jw_cd cd_232 60 = some (.invokevirtual 258) by decide +kernel) (mc_v hl (n := 0) (m2 := 233) (bs := []) (r := []) (show jw_find jw_cvT 34 258 = some (0, [(16, 233)]) by decide +kernel) (by decide) rfl rfl rfl) jm_233 ⟨Nat.le_of_ble_eq_true rfl, by decide⟩ r1 ?_
        refine jr_1 jm_232 (F2 := (64, [some (.ref 15), some (.int (Int32.ofInt (1))), some (.int (Int32.ofInt (1)))], [], ml_mk h τ)) (show jw_cd cd_232 63 = some (.istore_n 2) by decide +kernel) rfl ?_
        refine jr_1 jm_232 (show jw_cd cd_232 64 = some (.iload_n 2) by decide +kernel) rfl ?_
        refine jr_1 jm_232 (show jw_cd cd_232 65 = some (.ifCond .eq 35) by decide +kernel) (mz_f (q := .eq) (a := 1) (by show ¬ (1 = 0); omega) ⟨by omega, by omega⟩ (by decide)) ?_
        refine jr_1 jm_232 (show jw_cd cd_232 68 = some (.aload_n 0) by decide +kernel) rfl ?_
        refine jr_1 jm_232 (show jw_cd cd_232 69 = some (.getfield 148) by decide +kernel) (mg_i hl (e := -1 - e) r3 (show jw_fld 34 148 16 = some 29 by decide +kernel) (by decide) (by decide)) ?_
        refine jr_1 jm_232 (show jw_cd cd_232 72 = some (.ifCond .ne 28) by decide +kernel) (mz_t (q := .ne) (a := -1 - e) (t := 100) (by show ¬ (-1 - e = 0); omega) ⟨by omega, by omega⟩ (by decide) (by decide)) ?_
        exact kk
    | inr x =>
      obtain ⟨a, q⟩ := x
      obtain ⟨f1, f2, f3⟩ := hfR.2 a q hs
      rw [hs] at hSR
      cases a with
      | inl st =>
        obtain ⟨τ, r1, w1, w2, w3, w4, w5, w6⟩ := hfst.2.1 st q hs
        obtain ⟨g1, g2, g3, g4, g5, g6⟩ := hSR.2 st q kn rfl
        dsimp only
        have hst := f3.1
        have hj : stJ st = 1 := if_neg (by have := hst.1.1; omega)
        obtain ⟨m1, m2, m3, m4, m5, m6⟩ := mAdd_F (σ := τ) (Q := Q) (I := I + 1) (w := 7) (t := 0) (s := 0) (s0 := 12 * Q + kn)
        have e1 : 100 * Q + (I + 1) = 100 * Q + I + 1 := by omega
        refine fin st q kn τ (I + 1) 0 f1 f2 (Nat.le_refl _) hk g6 w1 w2 (by omega) w6 w5 (Or.inr ⟨hst.1, ?_, ?_, hst.2, ?_⟩) (fun z => by have := hst.1.1; omega) (fun res kk => ?_)
        · rw [m1.2.2.1 17 _ (by decide) (by decide) (by omega)]
          exact w3
        · rw [m1.2.2.1 18 _ (by decide) (by decide) (by omega)]
          exact w4
        · rw [← e1]
          exact m2
        · skip
          refine jr_1 jm_232 (show jw_cd cd_232 59 = some (.aload_n 0) by decide +kernel) rfl ?_
          refine jr_c jm_232 (show jw_cd cd_232 60 = some (.invokevirtual 258) by decide +kernel) (mc_v hl (n := 0) (m2 := 233) (bs := []) (r := []) (show jw_find jw_cvT 34 258 = some (0, [(16, 233)]) by decide +kernel) (by decide) rfl rfl rfl) jm_233 ⟨Nat.le_of_ble_eq_true rfl, by decide⟩ r1 ?_
          refine jr_1 jm_232 (F2 := (64, [some (.ref 15), some (.int (Int32.ofInt (1))), some (.int (Int32.ofInt (0)))], [], ml_mk h τ)) (show jw_cd cd_232 63 = some (.istore_n 2) by decide +kernel) rfl ?_
          refine jr_1 jm_232 (show jw_cd cd_232 64 = some (.iload_n 2) by decide +kernel) rfl ?_
          refine jr_1 jm_232 (show jw_cd cd_232 65 = some (.ifCond .eq 35) by decide +kernel) (mz_t (q := .eq) (a := 0) (t := 100) (by show 0 = 0; omega) ⟨by omega, by omega⟩ (by decide) (by decide)) ?_
          exact kk
      | inr acc0 =>
        obtain ⟨τ, r1, r2⟩ := hfst.2.2 acc0 q hs
        dsimp only at hSR ⊢
        have hin := jn_qu_in (β := β) (d := d) (h := h) (σ0 := σ) (I := I) (s0 := 12 * Q + kn) (k := kn) (kn := kn) hl ht hQ ⟨by omega, by omega⟩ rfl rfl e15 14 acc0 q τ (by omega) f3.2 (by omega) f2 r2
        have hpre : ∀ res, jx_r (jz β) jw_M (d + 8) 232 (64, [some (.ref 15), some (.int (Int32.ofInt (1))), some (.int (Int32.ofInt (1)))], [], ml_mk h τ) res → jx_r (jz β) jw_M (d + 8) 232 (59, [some (.ref 15), some (.int (Int32.ofInt (1))), c2], [], ml_mk h σ) res := fun res kk => by
          refine jr_1 jm_232 (show jw_cd cd_232 59 = some (.aload_n 0) by decide +kernel) rfl ?_
          refine jr_c jm_232 (show jw_cd cd_232 60 = some (.invokevirtual 258) by decide +kernel) (mc_v hl (n := 0) (m2 := 233) (bs := []) (r := []) (show jw_find jw_cvT 34 258 = some (0, [(16, 233)]) by decide +kernel) (by decide) rfl rfl rfl) jm_233 ⟨Nat.le_of_ble_eq_true rfl, by decide⟩ r1 ?_
          refine jr_1 jm_232 (F2 := (64, [some (.ref 15), some (.int (Int32.ofInt (1))), some (.int (Int32.ofInt (1)))], [], ml_mk h τ)) (show jw_cd cd_232 63 = some (.istore_n 2) by decide +kernel) rfl ?_
          exact kk
        have hgR := sStp_R (k := kn) ht 14 acc0 q (by omega) f2 f3.1 f3.2
        cases hs2 : sStp T n kn 14 acc0 q with
        | inl e =>
          obtain ⟨τ2, y1, y2, y3, y4, y5⟩ := hin.1 e hs2
          have hke := hgR.1 e hs2
          refine ⟨fun e' he => ?_, fun l he => (by cases he)⟩
          cases he
          exact her e τ2 1 ⟨by omega, hke.2⟩ y2 y3 y4 y5 (fun res kk => hpre _ (y1 _ kk))
        | inr x =>
          obtain ⟨l, q2⟩ := x
          obtain ⟨τ2, y1, a1, a2, a3, a4, a5, a6⟩ := hin.2 l q2 hs2
          rw [hs2] at hSR
          obtain ⟨g1, g2, g3, g4, g5, g6⟩ := hSR.2 (-1, [], l) q2 (kn + l.length) rfl
          dsimp only
          have hj : stJ (-1, [], l) = l.length := if_pos (by show (-1 : Int) < 0; decide)
          obtain ⟨m1, m2, m3, m4, m5, m6⟩ := mAdd_F (σ := τ2) (Q := Q) (I := I + l.length) (w := 7) (t := 0) (s := 0) (s0 := 12 * Q + kn + l.length)
          have e1 : 100 * Q + (I + (l.length : Int)) = 100 * Q + I + l.length := by omega
          rw [e1] at m1 m2
          obtain ⟨b1, b2⟩ := itR_rd m1 l (100 * Q + I) (Int.le_refl _) a4 a3
          refine fin (-1, [], l) q2 (kn + l.length) τ2 (I + l.length) 1 g1 g2 g4 g5 g6 a1 a2 (by omega) (by rw [a6]; omega) a5 (Or.inl ⟨by show (-1 : Int) < 0; decide, b1, by show l.length ≤ 12; omega, m2⟩) (fun _ => ?_) (fun res kk => hpre _ (y1 _ kk))
          exact itP_mono (by omega) _ _ b2
theorem jn_query_no {β : Bool} {d : Nat} {h : jx_H} {σ : mS} (hl : 49 ≤ h.length) {Q : Int} (e15 : σ 15 0 = Q) (hQ : Q = 12) : jx_r (jz β) jw_M (d) 232 (0, [some (.ref 15), none, none], [], ml_mk h σ) (ml_mk h (su σ 0 0 1), .inl (some (.int (Int32.ofInt (0))))) := by
  have hh : True := trivial
  · skip
    refine jr_1 jm_232 (show jw_cd cd_232 0 = some (.aload_n 0) by decide +kernel) rfl ?_
    refine jr_1 jm_232 (show jw_cd cd_232 1 = some (.aload_n 0) by decide +kernel) rfl ?_
    refine jr_1 jm_232 (show jw_cd cd_232 2 = some (.getfield 219) by decide +kernel) (mg_i hl (e := Q) e15 (show jw_fld 34 219 16 = some 15 by decide +kernel) (by decide) (by decide)) ?_
    refine jr_1 jm_232 (show jw_cd cd_232 5 = some (.bipush 12) by decide +kernel) (mt_bi (by decide)) ?_
    refine jr_1 jm_232 (show jw_cd cd_232 7 = some (.if_icmp .ne 7) by decide +kernel) (mb_f (q := .ne) (a := Q) (b := 12) (by show ¬ (¬ (Q = 12)); omega) ⟨by omega, by omega⟩ ⟨by omega, by omega⟩ (by decide)) ?_
    refine jr_1 jm_232 (show jw_cd cd_232 10 = some (.iconst 1) by decide +kernel) rfl ?_
    refine jr_1 jm_232 (show jw_cd cd_232 11 = some (.goto 4) by decide +kernel) (ju_go (t := 15) (by decide)) ?_
    refine jr_1 jm_232 (show jw_cd cd_232 15 = some (.putfield 121) by decide +kernel) (mp_i hl (x := 1) (show jw_fld 34 121 16 = some 0 by decide +kernel) (by decide) (by decide) (show jw_ft 16 0 = some .int by decide +kernel) (show jw_fm 34 16 0 = some false by decide +kernel)) ?_
    refine jr_1 jm_232 (show jw_cd cd_232 18 = some (.aload_n 0) by decide +kernel) rfl ?_
    refine jr_1 jm_232 (show jw_cd cd_232 19 = some (.getfield 121) by decide +kernel) (mg_i hl (e := 1) (su_eq _ _ _ _) (show jw_fld 34 121 16 = some 0 by decide +kernel) (by decide) (by decide)) ?_
    refine jr_1 jm_232 (show jw_cd cd_232 22 = some (.ifCond .le 5) by decide +kernel) (mz_f (q := .le) (a := 1) (by show ¬ (1 ≤ 0); omega) ⟨by omega, by omega⟩ (by decide)) ?_
    refine jr_1 jm_232 (show jw_cd cd_232 25 = some (.iconst 0) by decide +kernel) rfl ?_
    exact jr_v jm_232 (show jw_cd cd_232 26 = some (.ireturn) by decide +kernel) rfl
theorem jn_query {β : Bool} {d : Nat} {h : jx_H} {σ : mS} (hl : 49 ≤ h.length) {T : Int → Int} {n Q : Int} (ht : tOK T n) (e1 : σ 1 = T) (e2 : σ 2 0 = n) (e15 : σ 15 0 = Q) (hQ : 0 ≤ Q ∧ Q < 12) : (∀ e, sQry T n = .inl e → ∃ τ : mS, jx_r (jz β) jw_M (d + 8) 232 (0, [some (.ref 15), none, none], [], ml_mk h σ) (ml_mk h (τ), .inl (some (.int (Int32.ofInt (-1 - e))))) ∧ τ 0 0 = 0 ∧ τ 2 0 = 0 ∧ τ 15 0 = Q ∧ rqF (su σ 0 0 0) τ Q) ∧ (∀ l, sQry T n = .inr l → ∃ τ : mS, jx_r (jz β) jw_M (d + 8) 232 (0, [some (.ref 15), none, none], [], ml_mk h σ) (ml_mk h (τ), .inl (some (.int (Int32.ofInt (Q))))) ∧ τ 0 0 = 0 ∧ τ 2 0 = 0 ∧ τ 15 0 = Q + 1 ∧ τ 16 Q = quL l ∧ quR τ (100 * Q) l ∧ quP τ (12 * Q + 12) (100 * Q) l ∧ rqF (su σ 0 0 0) τ Q) := by
  obtain ⟨q0, q1⟩ := id hQ
  obtain ⟨σ1, h1⟩ : ∃ σ1, σ1 = (su (su (mBegin (su σ 0 (0) (0))) 30 (0) (0)) 16 (Q) (0)) := ⟨_, rfl⟩
  have e15b : mBegin (su σ 0 0 0) 15 0 = Q := by unfold mBegin; rw [su_nf (by decide), su_nf (by decide), su_nf (by decide)]; exact e15
  have e29b : mBegin (su σ 0 0 0) 29 0 = 0 := by unfold mBegin; rw [su_eq]
  have hF : rdF (su σ 0 0 0) σ1 Q (100 * Q) (12 * Q) := by
    rw [h1]
    unfold mBegin
    exact rdF_su (rdF_su (rdF_su (rdF_su (rdF_refl _ _ _ _) (by omega)) (by omega)) (by omega)) (by omega)
  have hP : rP σ1 T n 0 := by
    refine ⟨?_, ?_, ?_, ?_⟩
    · rw [hF.1 1 (by decide), su_row (by decide)]
      exact e1
    · rw [hF.1 2 (by decide), su_nf (by decide)]
      exact e2
    · rw [h1, su_nf (by decide), su_nf (by decide)]
      unfold mBegin
      rw [su_nf (by decide), su_eq]
    · rw [h1, su_nf (by decide), su_nf (by decide)]
      exact e29b
  have pre : ∀ res, jx_r (jz β) jw_M (d + 8) 232 (59, [some (.ref 15), some (.int (Int32.ofInt (1))), none], [], ml_mk h σ1) res → jx_r (jz β) jw_M (d + 8) 232 (0, [some (.ref 15), none, none], [], ml_mk h σ) res := fun res kk => by
    rw [h1] at kk
    refine jr_1 jm_232 (show jw_cd cd_232 0 = some (.aload_n 0) by decide +kernel) rfl ?_
    refine jr_1 jm_232 (show jw_cd cd_232 1 = some (.aload_n 0) by decide +kernel) rfl ?_
    refine jr_1 jm_232 (show jw_cd cd_232 2 = some (.getfield 219) by decide +kernel) (mg_i hl (e := Q) e15 (show jw_fld 34 219 16 = some 15 by decide +kernel) (by decide) (by decide)) ?_
    refine jr_1 jm_232 (show jw_cd cd_232 5 = some (.bipush 12) by decide +kernel) (mt_bi (by decide)) ?_
    refine jr_1 jm_232 (show jw_cd cd_232 7 = some (.if_icmp .ne 7) by decide +kernel) (mb_t (q := .ne) (a := Q) (b := 12) (t := 14) (by show ¬ (Q = 12); omega) ⟨by omega, by omega⟩ ⟨by omega, by omega⟩ (by decide) (by decide)) ?_
    refine jr_1 jm_232 (show jw_cd cd_232 14 = some (.iconst 0) by decide +kernel) rfl ?_
    refine jr_1 jm_232 (show jw_cd cd_232 15 = some (.putfield 121) by decide +kernel) (mp_i hl (x := 0) (show jw_fld 34 121 16 = some 0 by decide +kernel) (by decide) (by decide) (show jw_ft 16 0 = some .int by decide +kernel) (show jw_fm 34 16 0 = some false by decide +kernel)) ?_
    refine jr_1 jm_232 (show jw_cd cd_232 18 = some (.aload_n 0) by decide +kernel) rfl ?_
    refine jr_1 jm_232 (show jw_cd cd_232 19 = some (.getfield 121) by decide +kernel) (mg_i hl (e := 0) (su_eq _ _ _ _) (show jw_fld 34 121 16 = some 0 by decide +kernel) (by decide) (by decide)) ?_
    refine jr_1 jm_232 (show jw_cd cd_232 22 = some (.ifCond .le 5) by decide +kernel) (mz_t (q := .le) (a := 0) (t := 27) (by show 0 ≤ 0; omega) ⟨by omega, by omega⟩ (by decide) (by decide)) ?_
    refine jr_1 jm_232 (show jw_cd cd_232 27 = some (.aload_n 0) by decide +kernel) rfl ?_
    refine jr_c jm_232 (show jw_cd cd_232 28 = some (.invokevirtual 205) by decide +kernel) (mc_v hl (n := 0) (m2 := 212) (bs := []) (r := []) (show jw_find jw_cvT 34 205 = some (0, [(16, 212)]) by decide +kernel) (by decide) rfl rfl rfl) jm_212 ⟨Nat.le_of_ble_eq_true rfl, by decide⟩ (jn_begin hl) ?_
    refine jr_1 jm_232 (show jw_cd cd_232 31 = some (.aload_n 0) by decide +kernel) rfl ?_
    refine jr_1 jm_232 (show jw_cd cd_232 32 = some (.iconst 0) by decide +kernel) rfl ?_
    refine jr_1 jm_232 (show jw_cd cd_232 33 = some (.putfield 222) by decide +kernel) (mp_i hl (x := 0) (show jw_fld 34 222 16 = some 30 by decide +kernel) (by decide) (by decide) (show jw_ft 16 30 = some .int by decide +kernel) (show jw_fm 34 16 30 = some false by decide +kernel)) ?_
    refine jr_1 jm_232 (show jw_cd cd_232 36 = some (.aload_n 0) by decide +kernel) rfl ?_
    refine jr_1 jm_232 (show jw_cd cd_232 37 = some (.getfield 44) by decide +kernel) (mg_a hl (a := 27) (show jw_fld 34 44 16 = some 16 by decide +kernel) (by decide) (by decide)) ?_
    refine jr_1 jm_232 (show jw_cd cd_232 40 = some (.aload_n 0) by decide +kernel) rfl ?_
    refine jr_1 jm_232 (show jw_cd cd_232 41 = some (.getfield 219) by decide +kernel) (mg_i hl (e := Q) ((su_nf (by decide)).trans e15b) (show jw_fld 34 219 16 = some 15 by decide +kernel) (by decide) (by decide)) ?_
    refine jr_1 jm_232 (show jw_cd cd_232 44 = some (.iconst 0) by decide +kernel) rfl ?_
    refine jr_1 jm_232 (show jw_cd cd_232 45 = some (.iastore) by decide +kernel) (ms_i hl (i := Q) (x := 0) 16 (by omega) (by show _ < ((12 : Nat) : Int); omega) (by decide) (by decide) (by decide)) ?_
    refine jr_1 jm_232 (show jw_cd cd_232 46 = some (.iconst 1) by decide +kernel) rfl ?_
    refine jr_1 jm_232 (F2 := (48, [some (.ref 15), some (.int (Int32.ofInt (1))), none], [], ml_mk h (su (su (mBegin (su σ 0 (0) (0))) 30 (0) (0)) 16 (Q) (0)))) (show jw_cd cd_232 47 = some (.istore_n 1) by decide +kernel) rfl ?_
    refine jr_1 jm_232 (show jw_cd cd_232 48 = some (.iload_n 1) by decide +kernel) rfl ?_
    refine jr_1 jm_232 (show jw_cd cd_232 49 = some (.ifCond .eq 84) by decide +kernel) (mz_f (q := .eq) (a := 1) (by show ¬ (1 = 0); omega) ⟨by omega, by omega⟩ (by decide)) ?_
    refine jr_1 jm_232 (show jw_cd cd_232 52 = some (.aload_n 0) by decide +kernel) rfl ?_
    refine jr_1 jm_232 (show jw_cd cd_232 53 = some (.getfield 148) by decide +kernel) (mg_i hl (e := 0) ((su_nf (by decide)).trans ((su_nf (by decide)).trans e29b)) (show jw_fld 34 148 16 = some 29 by decide +kernel) (by decide) (by decide)) ?_
    refine jr_1 jm_232 (show jw_cd cd_232 56 = some (.ifCond .ne 77) by decide +kernel) (mz_f (q := .ne) (a := 0) (by show ¬ (¬ (0 = 0)); omega) ⟨by omega, by omega⟩ (by decide)) ?_
    exact kk
  have hn160 := ht.2.1
  have hZ := jn_qu_59 (β := β) (d := d) (h := h) (σ0 := su σ 0 0 0) hl ht hQ (by rw [su_nf (by decide)]; exact e15) 161 [] 0 0 σ1 none (by omega) (Int.le_refl 0) ht.1 (by decide) (by decide) hP (by rw [h1, su_eq]; rfl) (by rw [h1, su_nf (by decide), su_eq]; rfl) trivial trivial hF
  refine ⟨fun e he => ?_, fun l he => ?_⟩
  · obtain ⟨τ, y1, y2, y3, y4⟩ := hZ.1 e he
    exact ⟨τ, pre _ y1, by rw [y4.1 0 (by decide), su_eq], y2, y3, y4⟩
  · obtain ⟨τ, y1, y2, y3, y4, y5, y6, y7⟩ := hZ.2 l he
    exact ⟨τ, pre _ y1, by rw [y7.1 0 (by decide), su_eq], y2, y3, y4, y5, y6, y7⟩
