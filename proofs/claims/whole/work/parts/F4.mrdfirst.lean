/-! ===== the model reads a word, and what comes first (printed by program: gen68.py) ===== -/
theorem sdR_rd {σ τ : mS} {s1 dd : Int} {s : sD} (h : ∀ f v, 20 ≤ f → f ≤ 27 → v < mulf f * s1 → τ f v = σ f v) (h0 : 0 ≤ dd) (hd : dd < 2 * s1) (hs : sdR σ dd s) : sdR τ dd s := by
  unfold sdR at hs ⊢
  rw [h 23 dd (by decide) (by decide) hd, h 24 dd (by decide) (by decide) hd, h 26 dd (by decide) (by decide) hd, h 27 dd (by decide) (by decide) hd]
  refine ⟨hs.1, hs.2.1, fun z => ?_, hs.2.2.2⟩
  obtain ⟨z1, z2, z3⟩ := hs.2.2.1 z
  refine ⟨z1, z2, pthR_fr _ 0 (Int.le_refl 0) (fun v v1 v2 => h 25 v (by decide) (by decide) ?_) z3⟩
  show v < 6 * s1
  omega
theorem it1_rd {σ τ : mS} {Q i i' s1 : Int} {e : sE} (h : rdF σ τ Q i' s1) (hi : i < i') (hp : e.1 = 1 ∨ e.1 = 4 ∨ e.1 = 5 → σ 19 i < s1) (h1 : it1 σ i e) : it1 τ i e ∧ τ 19 i = σ 19 i := by
  have q17 : τ 17 i = σ 17 i := h.2.2.1 17 i (by decide) (by decide) hi
  have q18 : τ 18 i = σ 18 i := h.2.2.1 18 i (by decide) (by decide) hi
  have q19 : τ 19 i = σ 19 i := h.2.2.1 19 i (by decide) (by decide) hi
  have h4 := h.2.2.2
  obtain ⟨a1, a2, a3, a4, a5⟩ := h1
  refine ⟨⟨a1, q17.trans a2, a3, fun z => ?_, fun z1 z2 => ?_⟩, q19⟩
  · obtain ⟨b1, b2, b3⟩ := a4 z
    rw [q19]
    refine ⟨b1, q17.trans b2, ?_⟩
    rcases b3 with ⟨c1, c2, c3⟩ | ⟨c1, c2, c3, c4⟩
    · exact Or.inl ⟨c1, q18.trans c2, c3⟩
    · refine Or.inr ⟨c1, c2, ?_, c4⟩
      have := hp (Or.inl c1)
      rw [h4 21 _ (by decide) (by decide) (by show _ < 3 * s1; omega)]
      exact c3
  · obtain ⟨b1, b2, b3⟩ := a5 z1 z2
    rw [q19]
    refine ⟨b1, fun z => ?_, fun z => ?_⟩
    · obtain ⟨c1, c2, c3⟩ := b2 z
      have := hp (Or.inr (Or.inl z))
      obtain ⟨c0, c144⟩ := c1
      refine ⟨⟨c0, c144⟩, sdR_rd h4 (by omega) (by omega) c2, ?_⟩
      rcases c3 with ⟨d1, d2⟩ | ⟨d1, d2, d3⟩
      · refine Or.inl ⟨d1, ?_⟩
        rw [h4 23 _ (by decide) (by decide) (by show _ < 2 * s1; omega)]
        exact d2
      · refine Or.inr ⟨sdR_rd h4 (by omega) (by omega) d1, ?_, d3⟩
        rw [h4 22 _ (by decide) (by decide) (by show _ < 1 * s1; omega)]
        exact d2
    · obtain ⟨⟨c0, c144⟩, ⟨n1, n2, n3, n4, n5⟩, c3⟩ := b3 z
      have := hp (Or.inr (Or.inr z))
      refine ⟨⟨c0, c144⟩, ⟨?_, n2, fun z => ⟨?_, (n3 z).2⟩, fun z => ⟨?_, (n4 z).2⟩, fun z => ⟨?_, (n5 z).2⟩⟩, c3⟩
      · rw [h4 20 _ (by decide) (by decide) (by show _ < 1 * s1; omega)]
        exact n1
      · rw [h4 21 _ (by decide) (by decide) (by show _ < 3 * s1; omega)]
        exact (n3 z).1
      · rw [h4 21 _ (by decide) (by decide) (by show _ < 3 * s1; omega)]
        exact (n4 z).1
      · rw [h4 21 _ (by decide) (by decide) (by show _ < 3 * s1; omega)]
        exact (n5 z).1
/-- the places of the steps lie below s1 -/
def itP (σ : mS) (s1 : Int) : Int → List sE → Prop
  | _, [] => True
  | i, e :: l => (e.1 = 1 ∨ e.1 = 4 ∨ e.1 = 5 → σ 19 i < s1) ∧ itP σ s1 (i + 1) l
theorem itR_rd {σ τ : mS} {Q i' s1 : Int} (h : rdF σ τ Q i' s1) : ∀ (l : List sE) (i : Int), i + l.length ≤ i' → itP σ s1 i l → itR σ i l → itR τ i l ∧ itP τ s1 i l
  | [], _, _, _, _ => ⟨trivial, trivial⟩
  | e :: l, i, hi, hp, hr => by
    have hl : ((e :: l).length : Int) = l.length + 1 := by simp
    obtain ⟨a1, a2⟩ := it1_rd h (by omega) hp.1 hr.1
    obtain ⟨b1, b2⟩ := itR_rd h l (i + 1) (by omega) hp.2 hr.2
    exact ⟨⟨a1, b1⟩, ⟨fun z => by rw [a2]; exact hp.1 z, b2⟩⟩
theorem itP_mono {σ : mS} {s1 s2 : Int} (hs : s1 ≤ s2) : ∀ (l : List sE) (i : Int), itP σ s1 i l → itP σ s2 i l
  | [], _, _ => trivial
  | e :: l, i, h => ⟨fun z => by have := h.1 z; omega, itP_mono hs l (i + 1) h.2⟩
theorem itR_app {σ : mS} {e : sE} : ∀ (l : List sE) (i : Int), itR σ i l → it1 σ (i + l.length) e → itR σ i (l ++ [e])
  | [], i, _, h => by
    have e0 : i + (([] : List sE).length : Int) = i := by simp
    rw [e0] at h
    exact ⟨h, trivial⟩
  | a :: l, i, h1, h2 => by
    refine ⟨h1.1, itR_app l (i + 1) h1.2 ?_⟩
    rw [show i + 1 + (l.length : Int) = i + ((a :: l).length : Int) by simp; omega]
    exact h2
theorem itP_app {σ : mS} {s1 : Int} {e : sE} : ∀ (l : List sE) (i : Int), itP σ s1 i l → (e.1 = 1 ∨ e.1 = 4 ∨ e.1 = 5 → σ 19 (i + l.length) < s1) → itP σ s1 i (l ++ [e])
  | [], i, _, h => by
    have e0 : i + (([] : List sE).length : Int) = i := by simp
    rw [e0] at h
    exact ⟨h, trivial⟩
  | a :: l, i, h1, h2 => by
    refine ⟨h1.1, itP_app l (i + 1) h1.2 ?_⟩
    rw [show i + 1 + (l.length : Int) = i + ((a :: l).length : Int) by simp; omega]
    exact h2
/-- the steps acc of a stage have been read -/
def accP (σ τ : mS) (T : Int → Int) (n Q I s q k : Int) (acc : List sE) : Prop := rP τ T n q ∧ τ 16 Q = I + acc.length ∧ itR τ (100 * Q + I) acc ∧ itP τ (s + acc.length) (100 * Q + I) acc ∧ rdF σ τ Q (100 * Q + I) s ∧ τ 30 0 = k + acc.length
theorem acc_step {σ τ υ : mS} {T : Int → Int} {n Q I s q q2 k : Int} {acc : List sE} {e : sE} (h : accP σ τ T n Q I s q k acc) (h2 : stpP τ υ T n Q (I + acc.length) (s + acc.length) q2 (k + acc.length + 1) e) : accP σ υ T n Q I s q2 k (acc ++ [e]) := by
  obtain ⟨a1, a2, a3, a4, a5, a6⟩ := h
  obtain ⟨b1, b2, b3, b4, b5, b6⟩ := h2
  have hlen : (((acc ++ [e]).length : Nat) : Int) = acc.length + 1 := by rw [List.length_append]; simp
  have e1 : 100 * Q + (I + (acc.length : Int)) = 100 * Q + I + acc.length := by omega
  rw [e1] at b3 b4 b5
  obtain ⟨c1, c2⟩ := itR_rd b5 acc (100 * Q + I) (Int.le_refl _) a4 a3
  refine ⟨b1, by rw [b2, hlen]; omega, itR_app _ _ c1 b3, ?_, rdF_trans a5 b5 (by omega) (by omega), by rw [b6, hlen]; omega⟩
  rw [hlen]
  exact itP_app _ _ (itP_mono (by omega) _ _ c2) (fun z => by have := b4 z; omega)
theorem acc_one {σ υ : mS} {T : Int → Int} {n Q I s q2 k : Int} {e : sE} (h2 : stpP σ υ T n Q I s q2 (k + 1) e) : accP σ υ T n Q I s q2 k [e] := by
  obtain ⟨b1, b2, b3, b4, b5, b6⟩ := h2
  exact ⟨b1, b2, ⟨b3, trivial⟩, ⟨b4, trivial⟩, b5, b6⟩
/-- a word has been read -/
def wdP (σ τ : mS) (T : Int → Int) (n Q I s q k : Int) (st : sT) : Prop := rP τ T n q ∧ τ 16 Q = I + 1 ∧ τ 17 (100 * Q + I) = 20 + st.1 ∧ τ 18 (100 * Q + I) = pk st.2.1 ∧ rdF σ τ Q (100 * Q + I) s ∧ τ 30 0 = k
theorem wd_add {σ τ : mS} {T : Int → Int} {n Q I s q k w : Int} {r : List Int} (hP : rP τ T n q) (hF : rdF σ τ Q (100 * Q + I) s) (h30 : τ 30 0 = k) : wdP σ (mAdd τ Q I (20 + w) (pk r) 0) T n Q I s q k (w, r, []) := by
  obtain ⟨m1, m2, m3, m4, m5, m6⟩ := mAdd_F (σ := τ) (Q := Q) (I := I) (w := 20 + w) (t := pk r) (s := 0) (s0 := s)
  exact ⟨rP_q hP (fun f hf => m6 f (by simp; omega)) (by rw [m6 28 (by decide)]) (by rw [m6 29 (by decide)]), m5, m2, m3, rdF_trans hF m1 (Int.le_refl _) (Int.le_refl _), by rw [m6 30 (by decide)]; exact h30⟩
theorem jn_readWord {β : Bool} {d : Nat} {h : jx_H} {σ : mS} (hl : 49 ≤ h.length) {T : Int → Int} {n p q : Int} (ht : tOK T n) (hP : rP σ T n q) (h0 : 0 ≤ p) (hpq : p < q) (hq : q + 1 ≤ n) {s0 Q I k : Int} {s : List Int} (hts : tx s) (e31 : σ 31 0 = pk s) (e15 : σ 15 0 = Q) (e16 : σ 16 Q = I) (e30 : σ 30 0 = k) (hQ : 0 ≤ Q ∧ Q < 12) (hI : 0 ≤ I ∧ I < 100) : (∀ e, sWrd T n s p q = .inl e → ∃ τ : mS, jx_r (jz β) jw_M (d + 3) 234 (0, [some (.ref 15), some (.int (Int32.ofInt (p))), none, none, none, none], [], ml_mk h σ) (ml_mk h (τ), .inl none) ∧ τ 29 0 = -1 - e ∧ rdF σ τ (-1) (100 * Q + I) s0) ∧ (∀ st q2, sWrd T n s p q = .inr (st, q2) → ∃ τ : mS, jx_r (jz β) jw_M (d + 3) 234 (0, [some (.ref 15), some (.int (Int32.ofInt (p))), none, none, none, none], [], ml_mk h σ) (ml_mk h (τ), .inl none) ∧ wdP σ τ T n Q I s0 q2 k st) := by
  have hn160 := ht.2.1
  have rw0 := jn_wordOf (β := β) (d := d) (h := h) (σ := σ) hl hts
  have hw := wordS_r s
  unfold sWrd
  obtain ⟨w, hwe⟩ : ∃ w, w = wordS s := ⟨_, rfl⟩
  rw [← hwe] at rw0 hw ⊢
  have hP1 : rP (su σ 28 (0) (q + 1)) T n (q + 1) := rP_mv hP
  have hF1 : rdF σ (su σ 28 (0) (q + 1)) (-1) (100 * Q + I) s0 := rdF_su (rdF_refl _ _ _ _) (by omega)
  have hh := tH_r (p := q + 1) ht (by omega)
  have hmr : mr (tH T n (q + 1)) := ⟨by omega, by omega⟩
  by_cases h1 : w = -1
  · rw [if_pos h1]
    refine ⟨fun e' he => ?_, fun a q he => (by cases he)⟩
    cases he
    refine ⟨su σ 29 0 (-1 - p), ?_, su_eq _ _ _ _, rdF_su (rdF_refl _ _ _ _) (by omega)⟩
    refine jr_1 jm_234 (show jw_cd cd_234 0 = some (.aload_n 0) by decide +kernel) rfl ?_
    refine jr_1 jm_234 (show jw_cd cd_234 1 = some (.getfield 158) by decide +kernel) (mg_j hl (e := pk s) e31 (show jw_fld 34 158 16 = some 31 by decide +kernel) (by decide) (by decide)) ?_
    refine jr_c jm_234 (show jw_cd cd_234 4 = some (.invokestatic 229) by decide +kernel) (mc_s (n := 1) (m2 := 235) (bs := [.long (Int64.ofInt (pk s))]) (r := []) (by decide) (show jw_find jw_csT 34 229 = some (235, 1) by decide +kernel) rfl rfl rfl) jm_235 ⟨Nat.le_of_ble_eq_true rfl, by decide⟩ rw0 ?_
    refine jr_1 jm_234 (F2 := (8, [some (.ref 15), some (.int (Int32.ofInt (p))), some (.int (Int32.ofInt (w))), none, none, none], [], ml_mk h σ)) (show jw_cd cd_234 7 = some (.istore_n 2) by decide +kernel) rfl ?_
    refine jr_1 jm_234 (show jw_cd cd_234 8 = some (.iload_n 2) by decide +kernel) rfl ?_
    refine jr_1 jm_234 (show jw_cd cd_234 9 = some (.iconst (-1)) by decide +kernel) rfl ?_
    refine jr_1 jm_234 (show jw_cd cd_234 10 = some (.if_icmp .ne 9) by decide +kernel) (mb_f (q := .ne) (a := w) (b := -1) (by show ¬ (¬ (w = -1)); omega) ⟨by omega, by omega⟩ ⟨by omega, by omega⟩ (by decide)) ?_
    refine jr_1 jm_234 (show jw_cd cd_234 13 = some (.aload_n 0) by decide +kernel) rfl ?_
    refine jr_1 jm_234 (show jw_cd cd_234 14 = some (.iload_n 1) by decide +kernel) rfl ?_
    refine jr_c jm_234 (show jw_cd cd_234 15 = some (.invokevirtual 155) by decide +kernel) (mc_v hl (n := 1) (m2 := 216) (bs := [.int (Int32.ofInt (p))]) (r := []) (show jw_find jw_cvT 34 155 = some (1, [(16, 216)]) by decide +kernel) (by decide) rfl rfl rfl) jm_216 ⟨Nat.le_of_ble_eq_true rfl, by decide⟩ (jn_wrg hl hP) ?_
    exact jr_v jm_234 (show jw_cd cd_234 18 = some (.return_) by decide +kernel) rfl
  · rw [if_neg h1]
    by_cases h2 : pL (tH T n (q + 1)) = true
    · have hpl := pL_ne h2
      rw [if_pos h2]
      by_cases h3 : ¬ w = 3
      · rw [if_pos h3]
        refine ⟨fun e' he => ?_, fun a q he => (by cases he)⟩
        cases he
        refine ⟨su (su σ 28 (0) (q + 1)) 29 0 (-1 - (q + 1)), ?_, su_eq _ _ _ _, rdF_su hF1 (by omega)⟩
        refine jr_1 jm_234 (show jw_cd cd_234 0 = some (.aload_n 0) by decide +kernel) rfl ?_
        refine jr_1 jm_234 (show jw_cd cd_234 1 = some (.getfield 158) by decide +kernel) (mg_j hl (e := pk s) e31 (show jw_fld 34 158 16 = some 31 by decide +kernel) (by decide) (by decide)) ?_
        refine jr_c jm_234 (show jw_cd cd_234 4 = some (.invokestatic 229) by decide +kernel) (mc_s (n := 1) (m2 := 235) (bs := [.long (Int64.ofInt (pk s))]) (r := []) (by decide) (show jw_find jw_csT 34 229 = some (235, 1) by decide +kernel) rfl rfl rfl) jm_235 ⟨Nat.le_of_ble_eq_true rfl, by decide⟩ rw0 ?_
        refine jr_1 jm_234 (F2 := (8, [some (.ref 15), some (.int (Int32.ofInt (p))), some (.int (Int32.ofInt (w))), none, none, none], [], ml_mk h σ)) (show jw_cd cd_234 7 = some (.istore_n 2) by decide +kernel) rfl ?_
        refine jr_1 jm_234 (show jw_cd cd_234 8 = some (.iload_n 2) by decide +kernel) rfl ?_
        refine jr_1 jm_234 (show jw_cd cd_234 9 = some (.iconst (-1)) by decide +kernel) rfl ?_
        refine jr_1 jm_234 (show jw_cd cd_234 10 = some (.if_icmp .ne 9) by decide +kernel) (mb_t (q := .ne) (a := w) (b := -1) (t := 19) (by show ¬ (w = -1); omega) ⟨by omega, by omega⟩ ⟨by omega, by omega⟩ (by decide) (by decide)) ?_
        refine jr_1 jm_234 (show jw_cd cd_234 19 = some (.aload_n 0) by decide +kernel) rfl ?_
        refine jr_1 jm_234 (show jw_cd cd_234 20 = some (.dup) by decide +kernel) rfl ?_
        refine jr_1 jm_234 (show jw_cd cd_234 21 = some (.getfield 145) by decide +kernel) (mg_i hl (e := q) hP.2.2.1 (show jw_fld 34 145 16 = some 28 by decide +kernel) (by decide) (by decide)) ?_
        refine jr_1 jm_234 (show jw_cd cd_234 24 = some (.iconst 1) by decide +kernel) rfl ?_
        refine jr_1 jm_234 (show jw_cd cd_234 25 = some (.iadd) by decide +kernel) (mt_add (c := q + 1) rfl) ?_
        refine jr_1 jm_234 (show jw_cd cd_234 26 = some (.putfield 145) by decide +kernel) (mp_i hl (x := q + 1) (show jw_fld 34 145 16 = some 28 by decide +kernel) (by decide) (by decide) (show jw_ft 16 28 = some .int by decide +kernel) (show jw_fm 34 16 28 = some false by decide +kernel)) ?_
        refine jr_1 jm_234 (F2 := (30, [some (.ref 15), some (.int (Int32.ofInt (p))), some (.int (Int32.ofInt (w))), none, none, none], [.long (Int64.ofInt (0))], ml_mk h (su σ 28 (0) (q + 1)))) (show jw_cd cd_234 29 = some (.lconst 0) by decide +kernel) rfl ?_
        refine jr_1 jm_234 (F2 := (31, [some (.ref 15), some (.int (Int32.ofInt (p))), some (.int (Int32.ofInt (w))), some (.long (Int64.ofInt (0))), none, none], [], ml_mk h (su σ 28 (0) (q + 1)))) (show jw_cd cd_234 30 = some (.lstore_n 3) by decide +kernel) rfl ?_
        refine jr_1 jm_234 (show jw_cd cd_234 31 = some (.aload_n 0) by decide +kernel) rfl ?_
        refine jr_c jm_234 (show jw_cd cd_234 32 = some (.invokevirtual 151) by decide +kernel) (mc_v hl (n := 0) (m2 := 215) (bs := []) (r := []) (show jw_find jw_cvT 34 151 = some (0, [(16, 215)]) by decide +kernel) (by decide) rfl rfl rfl) jm_215 ⟨Nat.le_of_ble_eq_true rfl, by decide⟩ (jn_hr hl ht hP1 (by omega) hq) ?_
        refine jr_c jm_234 (show jw_cd cd_234 35 = some (.invokestatic 162) by decide +kernel) (mc_s (n := 1) (m2 := 219) (bs := [.int (Int32.ofInt (tH T n (q + 1)))]) (r := []) (by decide) (show jw_find jw_csT 34 162 = some (219, 1) by decide +kernel) rfl rfl rfl) jm_219 ⟨Nat.le_of_ble_eq_true rfl, by decide⟩ (jn_isL_t hl hpl) ?_
        refine jr_1 jm_234 (show jw_cd cd_234 38 = some (.ifCond .eq 34) by decide +kernel) (mz_f (q := .eq) (a := 1) (by show ¬ (1 = 0); omega) ⟨by omega, by omega⟩ (by decide)) ?_
        refine jr_1 jm_234 (show jw_cd cd_234 41 = some (.iload_n 2) by decide +kernel) rfl ?_
        refine jr_1 jm_234 (show jw_cd cd_234 42 = some (.iconst 3) by decide +kernel) rfl ?_
        refine jr_1 jm_234 (show jw_cd cd_234 43 = some (.if_icmp .eq 12) by decide +kernel) (mb_f (q := .eq) (a := w) (b := 3) (by show ¬ (w = 3); omega) ⟨by omega, by omega⟩ ⟨by omega, by omega⟩ (by decide)) ?_
        refine jr_1 jm_234 (show jw_cd cd_234 46 = some (.aload_n 0) by decide +kernel) rfl ?_
        refine jr_1 jm_234 (show jw_cd cd_234 47 = some (.aload_n 0) by decide +kernel) rfl ?_
        refine jr_1 jm_234 (show jw_cd cd_234 48 = some (.getfield 145) by decide +kernel) (mg_i hl (e := q + 1) (su_eq _ _ _ _) (show jw_fld 34 145 16 = some 28 by decide +kernel) (by decide) (by decide)) ?_
        refine jr_c jm_234 (show jw_cd cd_234 51 = some (.invokevirtual 155) by decide +kernel) (mc_v hl (n := 1) (m2 := 216) (bs := [.int (Int32.ofInt (q + 1))]) (r := []) (show jw_find jw_cvT 34 155 = some (1, [(16, 216)]) by decide +kernel) (by decide) rfl rfl rfl) jm_216 ⟨Nat.le_of_ble_eq_true rfl, by decide⟩ (jn_wrg hl hP1) ?_
        exact jr_v jm_234 (show jw_cd cd_234 54 = some (.return_) by decide +kernel) rfl
      · rw [if_neg h3]
        have hkR := sKey_R (T := T) (n := n) (p := q + 1) (by omega) hq
        cases hss : sKey T n (q + 1) with
        | inl e =>
          obtain ⟨τ, r1, r2, r3⟩ := jn_readKey_er (β := β) (d := d) (h := h) hl ht hP1.1 hP1.2.1 hP1.2.2.1 (by omega) hq (by rw [hP1.2.2.2]; exact mr0) hP1.2.2.2 hss
          refine ⟨fun e' he => ?_, fun a q he => (by cases he)⟩
          cases he
          refine ⟨τ, ?_, r2, rdF_trans hF1 (rdF_sd (dd := 2 * s0) (sdF_q (by decide) r3) (Int.le_refl _)) (Int.le_refl _) (Int.le_refl _)⟩
          refine jr_1 jm_234 (show jw_cd cd_234 0 = some (.aload_n 0) by decide +kernel) rfl ?_
          refine jr_1 jm_234 (show jw_cd cd_234 1 = some (.getfield 158) by decide +kernel) (mg_j hl (e := pk s) e31 (show jw_fld 34 158 16 = some 31 by decide +kernel) (by decide) (by decide)) ?_
          refine jr_c jm_234 (show jw_cd cd_234 4 = some (.invokestatic 229) by decide +kernel) (mc_s (n := 1) (m2 := 235) (bs := [.long (Int64.ofInt (pk s))]) (r := []) (by decide) (show jw_find jw_csT 34 229 = some (235, 1) by decide +kernel) rfl rfl rfl) jm_235 ⟨Nat.le_of_ble_eq_true rfl, by decide⟩ rw0 ?_
          refine jr_1 jm_234 (F2 := (8, [some (.ref 15), some (.int (Int32.ofInt (p))), some (.int (Int32.ofInt (w))), none, none, none], [], ml_mk h σ)) (show jw_cd cd_234 7 = some (.istore_n 2) by decide +kernel) rfl ?_
          refine jr_1 jm_234 (show jw_cd cd_234 8 = some (.iload_n 2) by decide +kernel) rfl ?_
          refine jr_1 jm_234 (show jw_cd cd_234 9 = some (.iconst (-1)) by decide +kernel) rfl ?_
          refine jr_1 jm_234 (show jw_cd cd_234 10 = some (.if_icmp .ne 9) by decide +kernel) (mb_t (q := .ne) (a := w) (b := -1) (t := 19) (by show ¬ (w = -1); omega) ⟨by omega, by omega⟩ ⟨by omega, by omega⟩ (by decide) (by decide)) ?_
          refine jr_1 jm_234 (show jw_cd cd_234 19 = some (.aload_n 0) by decide +kernel) rfl ?_
          refine jr_1 jm_234 (show jw_cd cd_234 20 = some (.dup) by decide +kernel) rfl ?_
          refine jr_1 jm_234 (show jw_cd cd_234 21 = some (.getfield 145) by decide +kernel) (mg_i hl (e := q) hP.2.2.1 (show jw_fld 34 145 16 = some 28 by decide +kernel) (by decide) (by decide)) ?_
          refine jr_1 jm_234 (show jw_cd cd_234 24 = some (.iconst 1) by decide +kernel) rfl ?_
          refine jr_1 jm_234 (show jw_cd cd_234 25 = some (.iadd) by decide +kernel) (mt_add (c := q + 1) rfl) ?_
          refine jr_1 jm_234 (show jw_cd cd_234 26 = some (.putfield 145) by decide +kernel) (mp_i hl (x := q + 1) (show jw_fld 34 145 16 = some 28 by decide +kernel) (by decide) (by decide) (show jw_ft 16 28 = some .int by decide +kernel) (show jw_fm 34 16 28 = some false by decide +kernel)) ?_
          refine jr_1 jm_234 (F2 := (30, [some (.ref 15), some (.int (Int32.ofInt (p))), some (.int (Int32.ofInt (w))), none, none, none], [.long (Int64.ofInt (0))], ml_mk h (su σ 28 (0) (q + 1)))) (show jw_cd cd_234 29 = some (.lconst 0) by decide +kernel) rfl ?_
          refine jr_1 jm_234 (F2 := (31, [some (.ref 15), some (.int (Int32.ofInt (p))), some (.int (Int32.ofInt (w))), some (.long (Int64.ofInt (0))), none, none], [], ml_mk h (su σ 28 (0) (q + 1)))) (show jw_cd cd_234 30 = some (.lstore_n 3) by decide +kernel) rfl ?_
          refine jr_1 jm_234 (show jw_cd cd_234 31 = some (.aload_n 0) by decide +kernel) rfl ?_
          refine jr_c jm_234 (show jw_cd cd_234 32 = some (.invokevirtual 151) by decide +kernel) (mc_v hl (n := 0) (m2 := 215) (bs := []) (r := []) (show jw_find jw_cvT 34 151 = some (0, [(16, 215)]) by decide +kernel) (by decide) rfl rfl rfl) jm_215 ⟨Nat.le_of_ble_eq_true rfl, by decide⟩ (jn_hr hl ht hP1 (by omega) hq) ?_
          refine jr_c jm_234 (show jw_cd cd_234 35 = some (.invokestatic 162) by decide +kernel) (mc_s (n := 1) (m2 := 219) (bs := [.int (Int32.ofInt (tH T n (q + 1)))]) (r := []) (by decide) (show jw_find jw_csT 34 162 = some (219, 1) by decide +kernel) rfl rfl rfl) jm_219 ⟨Nat.le_of_ble_eq_true rfl, by decide⟩ (jn_isL_t hl hpl) ?_
          refine jr_1 jm_234 (show jw_cd cd_234 38 = some (.ifCond .eq 34) by decide +kernel) (mz_f (q := .eq) (a := 1) (by show ¬ (1 = 0); omega) ⟨by omega, by omega⟩ (by decide)) ?_
          refine jr_1 jm_234 (show jw_cd cd_234 41 = some (.iload_n 2) by decide +kernel) rfl ?_
          refine jr_1 jm_234 (show jw_cd cd_234 42 = some (.iconst 3) by decide +kernel) rfl ?_
          refine jr_1 jm_234 (show jw_cd cd_234 43 = some (.if_icmp .eq 12) by decide +kernel) (mb_t (q := .eq) (a := w) (b := 3) (t := 55) (by show w = 3; omega) ⟨by omega, by omega⟩ ⟨by omega, by omega⟩ (by decide) (by decide)) ?_
          refine jr_1 jm_234 (show jw_cd cd_234 55 = some (.aload_n 0) by decide +kernel) rfl ?_
          refine jr_c jm_234 (show jw_cd cd_234 56 = some (.invokevirtual 192) by decide +kernel) (mc_v hl (n := 0) (m2 := 218) (bs := []) (r := []) (show jw_find jw_cvT 34 192 = some (0, [(16, 218)]) by decide +kernel) (by decide) rfl rfl rfl) jm_218 ⟨Nat.le_of_ble_eq_true rfl, by decide⟩ r1 ?_
          refine jr_1 jm_234 (F2 := (61, [some (.ref 15), some (.int (Int32.ofInt (p))), some (.int (Int32.ofInt (w))), some (.long (Int64.ofInt (0))), none, some (.int (Int32.ofInt (0)))], [], ml_mk h τ)) (show jw_cd cd_234 59 = some (.istore 5) by decide +kernel) rfl ?_
          refine jr_1 jm_234 (show jw_cd cd_234 61 = some (.aload_n 0) by decide +kernel) rfl ?_
          refine jr_1 jm_234 (show jw_cd cd_234 62 = some (.getfield 158) by decide +kernel) (mg_j hl (e := τ 31 0) rfl (show jw_fld 34 158 16 = some 31 by decide +kernel) (by decide) (by decide)) ?_
          refine jr_1 jm_234 (F2 := (66, [some (.ref 15), some (.int (Int32.ofInt (p))), some (.int (Int32.ofInt (w))), some (.long (Int64.ofInt (τ 31 0))), none, some (.int (Int32.ofInt (0)))], [], ml_mk h τ)) (show jw_cd cd_234 65 = some (.lstore_n 3) by decide +kernel) rfl ?_
          refine jr_1 jm_234 (show jw_cd cd_234 66 = some (.iload 5) by decide +kernel) rfl ?_
          refine jr_1 jm_234 (show jw_cd cd_234 68 = some (.ifCond .ne 4) by decide +kernel) (mz_f (q := .ne) (a := 0) (by show ¬ (¬ (0 = 0)); omega) ⟨by omega, by omega⟩ (by decide)) ?_
          exact jr_v jm_234 (show jw_cd cd_234 71 = some (.return_) by decide +kernel) rfl
        | inr x =>
          obtain ⟨r, q2⟩ := x
          obtain ⟨k1, k2, k3⟩ := hkR.2 r q2 hss
          have r1 := jn_readKey_ok (β := β) (d := d) (h := h) hl ht hP1.1 hP1.2.1 hP1.2.2.1 (by omega) hq (by rw [hP1.2.2.2]; exact mr0) hss
          obtain ⟨τ, hτ⟩ : ∃ τ, τ = su (su (su σ 28 (0) (q + 1)) 31 0 (pk r)) 28 0 q2 := ⟨_, rfl⟩
          rw [← hτ] at r1
          have hP2 : rP τ T n q2 := by rw [hτ]; exact rP_mv (rP_su hP1 (by decide) (by decide) (by decide))
          have hF2 : rdF σ τ (-1) (100 * Q + I) s0 := by rw [hτ]; exact rdF_su (rdF_su hF1 (by omega)) (by omega)
          have e31c : τ 31 0 = pk r := by rw [hτ, su_nf (by decide), su_eq]
          have qq : ∀ f, f ∉ [28, 31] → τ f = σ f := fun f hf => by
            simp only [List.mem_cons, List.mem_nil_iff, or_false, not_or] at hf
            rw [hτ, su_row (by omega), su_row (by omega), su_row (by omega)]
          dsimp only
          by_cases h41 : tH T n q2 = 41
          · have hl2 := tH_lt ht (by omega) h41 (by decide)
            rw [if_pos h41]
            refine ⟨fun e' he => (by cases he), fun a q he => ?_⟩
            cases he
            have e16c : su τ 28 0 (q2 + 1) 16 Q = I := by rw [su_nf (by decide), qq 16 (by decide)]; exact e16
            have e15c : su τ 28 0 (q2 + 1) 15 0 = Q := by rw [su_nf (by decide), qq 15 (by decide)]; exact e15
            refine ⟨mAdd (su τ 28 0 (q2 + 1)) Q I (20 + w) (pk r) 0, ?_, wd_add (rP_mv hP2) (rdF_w (rdF_su hF2 (by omega))) (by rw [su_nf (by decide), qq 30 (by decide)]; exact e30)⟩
            refine jr_1 jm_234 (show jw_cd cd_234 0 = some (.aload_n 0) by decide +kernel) rfl ?_
            refine jr_1 jm_234 (show jw_cd cd_234 1 = some (.getfield 158) by decide +kernel) (mg_j hl (e := pk s) e31 (show jw_fld 34 158 16 = some 31 by decide +kernel) (by decide) (by decide)) ?_
            refine jr_c jm_234 (show jw_cd cd_234 4 = some (.invokestatic 229) by decide +kernel) (mc_s (n := 1) (m2 := 235) (bs := [.long (Int64.ofInt (pk s))]) (r := []) (by decide) (show jw_find jw_csT 34 229 = some (235, 1) by decide +kernel) rfl rfl rfl) jm_235 ⟨Nat.le_of_ble_eq_true rfl, by decide⟩ rw0 ?_
            refine jr_1 jm_234 (F2 := (8, [some (.ref 15), some (.int (Int32.ofInt (p))), some (.int (Int32.ofInt (w))), none, none, none], [], ml_mk h σ)) (show jw_cd cd_234 7 = some (.istore_n 2) by decide +kernel) rfl ?_
            refine jr_1 jm_234 (show jw_cd cd_234 8 = some (.iload_n 2) by decide +kernel) rfl ?_
            refine jr_1 jm_234 (show jw_cd cd_234 9 = some (.iconst (-1)) by decide +kernel) rfl ?_
            refine jr_1 jm_234 (show jw_cd cd_234 10 = some (.if_icmp .ne 9) by decide +kernel) (mb_t (q := .ne) (a := w) (b := -1) (t := 19) (by show ¬ (w = -1); omega) ⟨by omega, by omega⟩ ⟨by omega, by omega⟩ (by decide) (by decide)) ?_
            refine jr_1 jm_234 (show jw_cd cd_234 19 = some (.aload_n 0) by decide +kernel) rfl ?_
            refine jr_1 jm_234 (show jw_cd cd_234 20 = some (.dup) by decide +kernel) rfl ?_
            refine jr_1 jm_234 (show jw_cd cd_234 21 = some (.getfield 145) by decide +kernel) (mg_i hl (e := q) hP.2.2.1 (show jw_fld 34 145 16 = some 28 by decide +kernel) (by decide) (by decide)) ?_
            refine jr_1 jm_234 (show jw_cd cd_234 24 = some (.iconst 1) by decide +kernel) rfl ?_
            refine jr_1 jm_234 (show jw_cd cd_234 25 = some (.iadd) by decide +kernel) (mt_add (c := q + 1) rfl) ?_
            refine jr_1 jm_234 (show jw_cd cd_234 26 = some (.putfield 145) by decide +kernel) (mp_i hl (x := q + 1) (show jw_fld 34 145 16 = some 28 by decide +kernel) (by decide) (by decide) (show jw_ft 16 28 = some .int by decide +kernel) (show jw_fm 34 16 28 = some false by decide +kernel)) ?_
            refine jr_1 jm_234 (F2 := (30, [some (.ref 15), some (.int (Int32.ofInt (p))), some (.int (Int32.ofInt (w))), none, none, none], [.long (Int64.ofInt (0))], ml_mk h (su σ 28 (0) (q + 1)))) (show jw_cd cd_234 29 = some (.lconst 0) by decide +kernel) rfl ?_
            refine jr_1 jm_234 (F2 := (31, [some (.ref 15), some (.int (Int32.ofInt (p))), some (.int (Int32.ofInt (w))), some (.long (Int64.ofInt (0))), none, none], [], ml_mk h (su σ 28 (0) (q + 1)))) (show jw_cd cd_234 30 = some (.lstore_n 3) by decide +kernel) rfl ?_
            refine jr_1 jm_234 (show jw_cd cd_234 31 = some (.aload_n 0) by decide +kernel) rfl ?_
            refine jr_c jm_234 (show jw_cd cd_234 32 = some (.invokevirtual 151) by decide +kernel) (mc_v hl (n := 0) (m2 := 215) (bs := []) (r := []) (show jw_find jw_cvT 34 151 = some (0, [(16, 215)]) by decide +kernel) (by decide) rfl rfl rfl) jm_215 ⟨Nat.le_of_ble_eq_true rfl, by decide⟩ (jn_hr hl ht hP1 (by omega) hq) ?_
            refine jr_c jm_234 (show jw_cd cd_234 35 = some (.invokestatic 162) by decide +kernel) (mc_s (n := 1) (m2 := 219) (bs := [.int (Int32.ofInt (tH T n (q + 1)))]) (r := []) (by decide) (show jw_find jw_csT 34 162 = some (219, 1) by decide +kernel) rfl rfl rfl) jm_219 ⟨Nat.le_of_ble_eq_true rfl, by decide⟩ (jn_isL_t hl hpl) ?_
            refine jr_1 jm_234 (show jw_cd cd_234 38 = some (.ifCond .eq 34) by decide +kernel) (mz_f (q := .eq) (a := 1) (by show ¬ (1 = 0); omega) ⟨by omega, by omega⟩ (by decide)) ?_
            refine jr_1 jm_234 (show jw_cd cd_234 41 = some (.iload_n 2) by decide +kernel) rfl ?_
            refine jr_1 jm_234 (show jw_cd cd_234 42 = some (.iconst 3) by decide +kernel) rfl ?_
            refine jr_1 jm_234 (show jw_cd cd_234 43 = some (.if_icmp .eq 12) by decide +kernel) (mb_t (q := .eq) (a := w) (b := 3) (t := 55) (by show w = 3; omega) ⟨by omega, by omega⟩ ⟨by omega, by omega⟩ (by decide) (by decide)) ?_
            refine jr_1 jm_234 (show jw_cd cd_234 55 = some (.aload_n 0) by decide +kernel) rfl ?_
            refine jr_c jm_234 (show jw_cd cd_234 56 = some (.invokevirtual 192) by decide +kernel) (mc_v hl (n := 0) (m2 := 218) (bs := []) (r := []) (show jw_find jw_cvT 34 192 = some (0, [(16, 218)]) by decide +kernel) (by decide) rfl rfl rfl) jm_218 ⟨Nat.le_of_ble_eq_true rfl, by decide⟩ r1 ?_
            refine jr_1 jm_234 (F2 := (61, [some (.ref 15), some (.int (Int32.ofInt (p))), some (.int (Int32.ofInt (w))), some (.long (Int64.ofInt (0))), none, some (.int (Int32.ofInt (1)))], [], ml_mk h τ)) (show jw_cd cd_234 59 = some (.istore 5) by decide +kernel) rfl ?_
            refine jr_1 jm_234 (show jw_cd cd_234 61 = some (.aload_n 0) by decide +kernel) rfl ?_
            refine jr_1 jm_234 (show jw_cd cd_234 62 = some (.getfield 158) by decide +kernel) (mg_j hl (e := pk r) e31c (show jw_fld 34 158 16 = some 31 by decide +kernel) (by decide) (by decide)) ?_
            refine jr_1 jm_234 (F2 := (66, [some (.ref 15), some (.int (Int32.ofInt (p))), some (.int (Int32.ofInt (w))), some (.long (Int64.ofInt (pk r))), none, some (.int (Int32.ofInt (1)))], [], ml_mk h τ)) (show jw_cd cd_234 65 = some (.lstore_n 3) by decide +kernel) rfl ?_
            refine jr_1 jm_234 (show jw_cd cd_234 66 = some (.iload 5) by decide +kernel) rfl ?_
            refine jr_1 jm_234 (show jw_cd cd_234 68 = some (.ifCond .ne 4) by decide +kernel) (mz_t (q := .ne) (a := 1) (t := 72) (by show ¬ (1 = 0); omega) ⟨by omega, by omega⟩ (by decide) (by decide)) ?_
            refine jr_1 jm_234 (show jw_cd cd_234 72 = some (.aload_n 0) by decide +kernel) rfl ?_
            refine jr_1 jm_234 (show jw_cd cd_234 73 = some (.bipush 41) by decide +kernel) (mt_bi (by decide)) ?_
            refine jr_c jm_234 (show jw_cd cd_234 75 = some (.invokevirtual 179) by decide +kernel) (mc_v hl (n := 1) (m2 := 221) (bs := [.int (Int32.ofInt (41))]) (r := []) (show jw_find jw_cvT 34 179 = some (1, [(16, 221)]) by decide +kernel) (by decide) rfl rfl rfl) jm_221 ⟨Nat.le_of_ble_eq_true rfl, by decide⟩ (jn_mustT hl ht hP2 (by omega) k2 ⟨by decide, by decide⟩ h41) ?_
            refine jr_1 jm_234 (show jw_cd cd_234 78 = some (.ifCond .eq 13) by decide +kernel) (mz_f (q := .eq) (a := 1) (by show ¬ (1 = 0); omega) ⟨by omega, by omega⟩ (by decide)) ?_
            refine jr_1 jm_234 (show jw_cd cd_234 81 = some (.aload_n 0) by decide +kernel) rfl ?_
            refine jr_1 jm_234 (show jw_cd cd_234 82 = some (.bipush 20) by decide +kernel) (mt_bi (by decide)) ?_
            refine jr_1 jm_234 (show jw_cd cd_234 84 = some (.iload_n 2) by decide +kernel) rfl ?_
            refine jr_1 jm_234 (show jw_cd cd_234 85 = some (.iadd) by decide +kernel) (mt_add (c := 20 + w) rfl) ?_
            refine jr_1 jm_234 (show jw_cd cd_234 86 = some (.lload_n 3) by decide +kernel) rfl ?_
            refine jr_1 jm_234 (show jw_cd cd_234 87 = some (.iconst 0) by decide +kernel) rfl ?_
            refine jr_c jm_234 (show jw_cd cd_234 88 = some (.invokevirtual 233) by decide +kernel) (mc_v hl (n := 3) (m2 := 237) (bs := [.int (Int32.ofInt (20 + w)), .long (Int64.ofInt (pk r)), .int (Int32.ofInt (0))]) (r := []) (show jw_find jw_cvT 34 233 = some (3, [(16, 237)]) by decide +kernel) (by decide) rfl rfl rfl) jm_237 ⟨Nat.le_of_ble_eq_true rfl, by decide⟩ (jn_add hl e15c e16c hQ hI) ?_
            exact jr_v jm_234 (show jw_cd cd_234 91 = some (.return_) by decide +kernel) rfl
          · rw [if_neg h41]
            refine ⟨fun e' he => ?_, fun a q he => (by cases he)⟩
            cases he
            refine ⟨su τ 29 0 (-1 - q2), ?_, su_eq _ _ _ _, rdF_su hF2 (by omega)⟩
            refine jr_1 jm_234 (show jw_cd cd_234 0 = some (.aload_n 0) by decide +kernel) rfl ?_
            refine jr_1 jm_234 (show jw_cd cd_234 1 = some (.getfield 158) by decide +kernel) (mg_j hl (e := pk s) e31 (show jw_fld 34 158 16 = some 31 by decide +kernel) (by decide) (by decide)) ?_
            refine jr_c jm_234 (show jw_cd cd_234 4 = some (.invokestatic 229) by decide +kernel) (mc_s (n := 1) (m2 := 235) (bs := [.long (Int64.ofInt (pk s))]) (r := []) (by decide) (show jw_find jw_csT 34 229 = some (235, 1) by decide +kernel) rfl rfl rfl) jm_235 ⟨Nat.le_of_ble_eq_true rfl, by decide⟩ rw0 ?_
            refine jr_1 jm_234 (F2 := (8, [some (.ref 15), some (.int (Int32.ofInt (p))), some (.int (Int32.ofInt (w))), none, none, none], [], ml_mk h σ)) (show jw_cd cd_234 7 = some (.istore_n 2) by decide +kernel) rfl ?_
            refine jr_1 jm_234 (show jw_cd cd_234 8 = some (.iload_n 2) by decide +kernel) rfl ?_
            refine jr_1 jm_234 (show jw_cd cd_234 9 = some (.iconst (-1)) by decide +kernel) rfl ?_
            refine jr_1 jm_234 (show jw_cd cd_234 10 = some (.if_icmp .ne 9) by decide +kernel) (mb_t (q := .ne) (a := w) (b := -1) (t := 19) (by show ¬ (w = -1); omega) ⟨by omega, by omega⟩ ⟨by omega, by omega⟩ (by decide) (by decide)) ?_
            refine jr_1 jm_234 (show jw_cd cd_234 19 = some (.aload_n 0) by decide +kernel) rfl ?_
            refine jr_1 jm_234 (show jw_cd cd_234 20 = some (.dup) by decide +kernel) rfl ?_
            refine jr_1 jm_234 (show jw_cd cd_234 21 = some (.getfield 145) by decide +kernel) (mg_i hl (e := q) hP.2.2.1 (show jw_fld 34 145 16 = some 28 by decide +kernel) (by decide) (by decide)) ?_
            refine jr_1 jm_234 (show jw_cd cd_234 24 = some (.iconst 1) by decide +kernel) rfl ?_
            refine jr_1 jm_234 (show jw_cd cd_234 25 = some (.iadd) by decide +kernel) (mt_add (c := q + 1) rfl) ?_
            refine jr_1 jm_234 (show jw_cd cd_234 26 = some (.putfield 145) by decide +kernel) (mp_i hl (x := q + 1) (show jw_fld 34 145 16 = some 28 by decide +kernel) (by decide) (by decide) (show jw_ft 16 28 = some .int by decide +kernel) (show jw_fm 34 16 28 = some false by decide +kernel)) ?_
            refine jr_1 jm_234 (F2 := (30, [some (.ref 15), some (.int (Int32.ofInt (p))), some (.int (Int32.ofInt (w))), none, none, none], [.long (Int64.ofInt (0))], ml_mk h (su σ 28 (0) (q + 1)))) (show jw_cd cd_234 29 = some (.lconst 0) by decide +kernel) rfl ?_
            refine jr_1 jm_234 (F2 := (31, [some (.ref 15), some (.int (Int32.ofInt (p))), some (.int (Int32.ofInt (w))), some (.long (Int64.ofInt (0))), none, none], [], ml_mk h (su σ 28 (0) (q + 1)))) (show jw_cd cd_234 30 = some (.lstore_n 3) by decide +kernel) rfl ?_
            refine jr_1 jm_234 (show jw_cd cd_234 31 = some (.aload_n 0) by decide +kernel) rfl ?_
            refine jr_c jm_234 (show jw_cd cd_234 32 = some (.invokevirtual 151) by decide +kernel) (mc_v hl (n := 0) (m2 := 215) (bs := []) (r := []) (show jw_find jw_cvT 34 151 = some (0, [(16, 215)]) by decide +kernel) (by decide) rfl rfl rfl) jm_215 ⟨Nat.le_of_ble_eq_true rfl, by decide⟩ (jn_hr hl ht hP1 (by omega) hq) ?_
            refine jr_c jm_234 (show jw_cd cd_234 35 = some (.invokestatic 162) by decide +kernel) (mc_s (n := 1) (m2 := 219) (bs := [.int (Int32.ofInt (tH T n (q + 1)))]) (r := []) (by decide) (show jw_find jw_csT 34 162 = some (219, 1) by decide +kernel) rfl rfl rfl) jm_219 ⟨Nat.le_of_ble_eq_true rfl, by decide⟩ (jn_isL_t hl hpl) ?_
            refine jr_1 jm_234 (show jw_cd cd_234 38 = some (.ifCond .eq 34) by decide +kernel) (mz_f (q := .eq) (a := 1) (by show ¬ (1 = 0); omega) ⟨by omega, by omega⟩ (by decide)) ?_
            refine jr_1 jm_234 (show jw_cd cd_234 41 = some (.iload_n 2) by decide +kernel) rfl ?_
            refine jr_1 jm_234 (show jw_cd cd_234 42 = some (.iconst 3) by decide +kernel) rfl ?_
            refine jr_1 jm_234 (show jw_cd cd_234 43 = some (.if_icmp .eq 12) by decide +kernel) (mb_t (q := .eq) (a := w) (b := 3) (t := 55) (by show w = 3; omega) ⟨by omega, by omega⟩ ⟨by omega, by omega⟩ (by decide) (by decide)) ?_
            refine jr_1 jm_234 (show jw_cd cd_234 55 = some (.aload_n 0) by decide +kernel) rfl ?_
            refine jr_c jm_234 (show jw_cd cd_234 56 = some (.invokevirtual 192) by decide +kernel) (mc_v hl (n := 0) (m2 := 218) (bs := []) (r := []) (show jw_find jw_cvT 34 192 = some (0, [(16, 218)]) by decide +kernel) (by decide) rfl rfl rfl) jm_218 ⟨Nat.le_of_ble_eq_true rfl, by decide⟩ r1 ?_
            refine jr_1 jm_234 (F2 := (61, [some (.ref 15), some (.int (Int32.ofInt (p))), some (.int (Int32.ofInt (w))), some (.long (Int64.ofInt (0))), none, some (.int (Int32.ofInt (1)))], [], ml_mk h τ)) (show jw_cd cd_234 59 = some (.istore 5) by decide +kernel) rfl ?_
            refine jr_1 jm_234 (show jw_cd cd_234 61 = some (.aload_n 0) by decide +kernel) rfl ?_
            refine jr_1 jm_234 (show jw_cd cd_234 62 = some (.getfield 158) by decide +kernel) (mg_j hl (e := pk r) e31c (show jw_fld 34 158 16 = some 31 by decide +kernel) (by decide) (by decide)) ?_
            refine jr_1 jm_234 (F2 := (66, [some (.ref 15), some (.int (Int32.ofInt (p))), some (.int (Int32.ofInt (w))), some (.long (Int64.ofInt (pk r))), none, some (.int (Int32.ofInt (1)))], [], ml_mk h τ)) (show jw_cd cd_234 65 = some (.lstore_n 3) by decide +kernel) rfl ?_
            refine jr_1 jm_234 (show jw_cd cd_234 66 = some (.iload 5) by decide +kernel) rfl ?_
            refine jr_1 jm_234 (show jw_cd cd_234 68 = some (.ifCond .ne 4) by decide +kernel) (mz_t (q := .ne) (a := 1) (t := 72) (by show ¬ (1 = 0); omega) ⟨by omega, by omega⟩ (by decide) (by decide)) ?_
            refine jr_1 jm_234 (show jw_cd cd_234 72 = some (.aload_n 0) by decide +kernel) rfl ?_
            refine jr_1 jm_234 (show jw_cd cd_234 73 = some (.bipush 41) by decide +kernel) (mt_bi (by decide)) ?_
            refine jr_c jm_234 (show jw_cd cd_234 75 = some (.invokevirtual 179) by decide +kernel) (mc_v hl (n := 1) (m2 := 221) (bs := [.int (Int32.ofInt (41))]) (r := []) (show jw_find jw_cvT 34 179 = some (1, [(16, 221)]) by decide +kernel) (by decide) rfl rfl rfl) jm_221 ⟨Nat.le_of_ble_eq_true rfl, by decide⟩ (jn_mustF hl ht hP2 (by omega) k2 ⟨by decide, by decide⟩ h41) ?_
            refine jr_1 jm_234 (show jw_cd cd_234 78 = some (.ifCond .eq 13) by decide +kernel) (mz_t (q := .eq) (a := 0) (t := 91) (by show 0 = 0; omega) ⟨by omega, by omega⟩ (by decide) (by decide)) ?_
            exact jr_v jm_234 (show jw_cd cd_234 91 = some (.return_) by decide +kernel) rfl
    · have hpl : ¬ (97 ≤ tH T n (q + 1) ∧ tH T n (q + 1) ≤ 122) := fun z => h2 (decide_eq_true z)
      rw [if_neg h2]
      by_cases h41 : tH T n (q + 1) = 41
      · have hl2 := tH_lt ht (by omega) h41 (by decide)
        rw [if_pos h41]
        refine ⟨fun e' he => (by cases he), fun a q he => ?_⟩
        cases he
        have e16c : su (su σ 28 (0) (q + 1)) 28 0 (q + 1 + 1) 16 Q = I := by rw [su_nf (by decide), su_nf (by decide)]; exact e16
        have e15c : su (su σ 28 (0) (q + 1)) 28 0 (q + 1 + 1) 15 0 = Q := by rw [su_nf (by decide), su_nf (by decide)]; exact e15
        refine ⟨mAdd (su (su σ 28 (0) (q + 1)) 28 0 (q + 1 + 1)) Q I (20 + w) (pk []) 0, ?_, wd_add (rP_mv hP1) (rdF_w (rdF_su hF1 (by omega))) (by rw [su_nf (by decide), su_nf (by decide)]; exact e30)⟩
        refine jr_1 jm_234 (show jw_cd cd_234 0 = some (.aload_n 0) by decide +kernel) rfl ?_
        refine jr_1 jm_234 (show jw_cd cd_234 1 = some (.getfield 158) by decide +kernel) (mg_j hl (e := pk s) e31 (show jw_fld 34 158 16 = some 31 by decide +kernel) (by decide) (by decide)) ?_
        refine jr_c jm_234 (show jw_cd cd_234 4 = some (.invokestatic 229) by decide +kernel) (mc_s (n := 1) (m2 := 235) (bs := [.long (Int64.ofInt (pk s))]) (r := []) (by decide) (show jw_find jw_csT 34 229 = some (235, 1) by decide +kernel) rfl rfl rfl) jm_235 ⟨Nat.le_of_ble_eq_true rfl, by decide⟩ rw0 ?_
        refine jr_1 jm_234 (F2 := (8, [some (.ref 15), some (.int (Int32.ofInt (p))), some (.int (Int32.ofInt (w))), none, none, none], [], ml_mk h σ)) (show jw_cd cd_234 7 = some (.istore_n 2) by decide +kernel) rfl ?_
        refine jr_1 jm_234 (show jw_cd cd_234 8 = some (.iload_n 2) by decide +kernel) rfl ?_
        refine jr_1 jm_234 (show jw_cd cd_234 9 = some (.iconst (-1)) by decide +kernel) rfl ?_
        refine jr_1 jm_234 (show jw_cd cd_234 10 = some (.if_icmp .ne 9) by decide +kernel) (mb_t (q := .ne) (a := w) (b := -1) (t := 19) (by show ¬ (w = -1); omega) ⟨by omega, by omega⟩ ⟨by omega, by omega⟩ (by decide) (by decide)) ?_
        refine jr_1 jm_234 (show jw_cd cd_234 19 = some (.aload_n 0) by decide +kernel) rfl ?_
        refine jr_1 jm_234 (show jw_cd cd_234 20 = some (.dup) by decide +kernel) rfl ?_
        refine jr_1 jm_234 (show jw_cd cd_234 21 = some (.getfield 145) by decide +kernel) (mg_i hl (e := q) hP.2.2.1 (show jw_fld 34 145 16 = some 28 by decide +kernel) (by decide) (by decide)) ?_
        refine jr_1 jm_234 (show jw_cd cd_234 24 = some (.iconst 1) by decide +kernel) rfl ?_
        refine jr_1 jm_234 (show jw_cd cd_234 25 = some (.iadd) by decide +kernel) (mt_add (c := q + 1) rfl) ?_
        refine jr_1 jm_234 (show jw_cd cd_234 26 = some (.putfield 145) by decide +kernel) (mp_i hl (x := q + 1) (show jw_fld 34 145 16 = some 28 by decide +kernel) (by decide) (by decide) (show jw_ft 16 28 = some .int by decide +kernel) (show jw_fm 34 16 28 = some false by decide +kernel)) ?_
        refine jr_1 jm_234 (F2 := (30, [some (.ref 15), some (.int (Int32.ofInt (p))), some (.int (Int32.ofInt (w))), none, none, none], [.long (Int64.ofInt (0))], ml_mk h (su σ 28 (0) (q + 1)))) (show jw_cd cd_234 29 = some (.lconst 0) by decide +kernel) rfl ?_
        refine jr_1 jm_234 (F2 := (31, [some (.ref 15), some (.int (Int32.ofInt (p))), some (.int (Int32.ofInt (w))), some (.long (Int64.ofInt (0))), none, none], [], ml_mk h (su σ 28 (0) (q + 1)))) (show jw_cd cd_234 30 = some (.lstore_n 3) by decide +kernel) rfl ?_
        refine jr_1 jm_234 (show jw_cd cd_234 31 = some (.aload_n 0) by decide +kernel) rfl ?_
        refine jr_c jm_234 (show jw_cd cd_234 32 = some (.invokevirtual 151) by decide +kernel) (mc_v hl (n := 0) (m2 := 215) (bs := []) (r := []) (show jw_find jw_cvT 34 151 = some (0, [(16, 215)]) by decide +kernel) (by decide) rfl rfl rfl) jm_215 ⟨Nat.le_of_ble_eq_true rfl, by decide⟩ (jn_hr hl ht hP1 (by omega) hq) ?_
        refine jr_c jm_234 (show jw_cd cd_234 35 = some (.invokestatic 162) by decide +kernel) (mc_s (n := 1) (m2 := 219) (bs := [.int (Int32.ofInt (tH T n (q + 1)))]) (r := []) (by decide) (show jw_find jw_csT 34 162 = some (219, 1) by decide +kernel) rfl rfl rfl) jm_219 ⟨Nat.le_of_ble_eq_true rfl, by decide⟩ (jn_isL_f hl hmr hpl) ?_
        refine jr_1 jm_234 (show jw_cd cd_234 38 = some (.ifCond .eq 34) by decide +kernel) (mz_t (q := .eq) (a := 0) (t := 72) (by show 0 = 0; omega) ⟨by omega, by omega⟩ (by decide) (by decide)) ?_
        refine jr_1 jm_234 (show jw_cd cd_234 72 = some (.aload_n 0) by decide +kernel) rfl ?_
        refine jr_1 jm_234 (show jw_cd cd_234 73 = some (.bipush 41) by decide +kernel) (mt_bi (by decide)) ?_
        refine jr_c jm_234 (show jw_cd cd_234 75 = some (.invokevirtual 179) by decide +kernel) (mc_v hl (n := 1) (m2 := 221) (bs := [.int (Int32.ofInt (41))]) (r := []) (show jw_find jw_cvT 34 179 = some (1, [(16, 221)]) by decide +kernel) (by decide) rfl rfl rfl) jm_221 ⟨Nat.le_of_ble_eq_true rfl, by decide⟩ (jn_mustT hl ht hP1 (by omega) hq ⟨by decide, by decide⟩ h41) ?_
        refine jr_1 jm_234 (show jw_cd cd_234 78 = some (.ifCond .eq 13) by decide +kernel) (mz_f (q := .eq) (a := 1) (by show ¬ (1 = 0); omega) ⟨by omega, by omega⟩ (by decide)) ?_
        refine jr_1 jm_234 (show jw_cd cd_234 81 = some (.aload_n 0) by decide +kernel) rfl ?_
        refine jr_1 jm_234 (show jw_cd cd_234 82 = some (.bipush 20) by decide +kernel) (mt_bi (by decide)) ?_
        refine jr_1 jm_234 (show jw_cd cd_234 84 = some (.iload_n 2) by decide +kernel) rfl ?_
        refine jr_1 jm_234 (show jw_cd cd_234 85 = some (.iadd) by decide +kernel) (mt_add (c := 20 + w) rfl) ?_
        refine jr_1 jm_234 (show jw_cd cd_234 86 = some (.lload_n 3) by decide +kernel) rfl ?_
        refine jr_1 jm_234 (show jw_cd cd_234 87 = some (.iconst 0) by decide +kernel) rfl ?_
        refine jr_c jm_234 (show jw_cd cd_234 88 = some (.invokevirtual 233) by decide +kernel) (mc_v hl (n := 3) (m2 := 237) (bs := [.int (Int32.ofInt (20 + w)), .long (Int64.ofInt (0)), .int (Int32.ofInt (0))]) (r := []) (show jw_find jw_cvT 34 233 = some (3, [(16, 237)]) by decide +kernel) (by decide) rfl rfl rfl) jm_237 ⟨Nat.le_of_ble_eq_true rfl, by decide⟩ (jn_add hl (t := 0) e15c e16c hQ hI) ?_
        exact jr_v jm_234 (show jw_cd cd_234 91 = some (.return_) by decide +kernel) rfl
      · rw [if_neg h41]
        refine ⟨fun e' he => ?_, fun a q he => (by cases he)⟩
        cases he
        refine ⟨su (su σ 28 (0) (q + 1)) 29 0 (-1 - (q + 1)), ?_, su_eq _ _ _ _, rdF_su hF1 (by omega)⟩
        refine jr_1 jm_234 (show jw_cd cd_234 0 = some (.aload_n 0) by decide +kernel) rfl ?_
        refine jr_1 jm_234 (show jw_cd cd_234 1 = some (.getfield 158) by decide +kernel) (mg_j hl (e := pk s) e31 (show jw_fld 34 158 16 = some 31 by decide +kernel) (by decide) (by decide)) ?_
        refine jr_c jm_234 (show jw_cd cd_234 4 = some (.invokestatic 229) by decide +kernel) (mc_s (n := 1) (m2 := 235) (bs := [.long (Int64.ofInt (pk s))]) (r := []) (by decide) (show jw_find jw_csT 34 229 = some (235, 1) by decide +kernel) rfl rfl rfl) jm_235 ⟨Nat.le_of_ble_eq_true rfl, by decide⟩ rw0 ?_
        refine jr_1 jm_234 (F2 := (8, [some (.ref 15), some (.int (Int32.ofInt (p))), some (.int (Int32.ofInt (w))), none, none, none], [], ml_mk h σ)) (show jw_cd cd_234 7 = some (.istore_n 2) by decide +kernel) rfl ?_
        refine jr_1 jm_234 (show jw_cd cd_234 8 = some (.iload_n 2) by decide +kernel) rfl ?_
        refine jr_1 jm_234 (show jw_cd cd_234 9 = some (.iconst (-1)) by decide +kernel) rfl ?_
        refine jr_1 jm_234 (show jw_cd cd_234 10 = some (.if_icmp .ne 9) by decide +kernel) (mb_t (q := .ne) (a := w) (b := -1) (t := 19) (by show ¬ (w = -1); omega) ⟨by omega, by omega⟩ ⟨by omega, by omega⟩ (by decide) (by decide)) ?_
        refine jr_1 jm_234 (show jw_cd cd_234 19 = some (.aload_n 0) by decide +kernel) rfl ?_
        refine jr_1 jm_234 (show jw_cd cd_234 20 = some (.dup) by decide +kernel) rfl ?_
        refine jr_1 jm_234 (show jw_cd cd_234 21 = some (.getfield 145) by decide +kernel) (mg_i hl (e := q) hP.2.2.1 (show jw_fld 34 145 16 = some 28 by decide +kernel) (by decide) (by decide)) ?_
        refine jr_1 jm_234 (show jw_cd cd_234 24 = some (.iconst 1) by decide +kernel) rfl ?_
        refine jr_1 jm_234 (show jw_cd cd_234 25 = some (.iadd) by decide +kernel) (mt_add (c := q + 1) rfl) ?_
        refine jr_1 jm_234 (show jw_cd cd_234 26 = some (.putfield 145) by decide +kernel) (mp_i hl (x := q + 1) (show jw_fld 34 145 16 = some 28 by decide +kernel) (by decide) (by decide) (show jw_ft 16 28 = some .int by decide +kernel) (show jw_fm 34 16 28 = some false by decide +kernel)) ?_
        refine jr_1 jm_234 (F2 := (30, [some (.ref 15), some (.int (Int32.ofInt (p))), some (.int (Int32.ofInt (w))), none, none, none], [.long (Int64.ofInt (0))], ml_mk h (su σ 28 (0) (q + 1)))) (show jw_cd cd_234 29 = some (.lconst 0) by decide +kernel) rfl ?_
        refine jr_1 jm_234 (F2 := (31, [some (.ref 15), some (.int (Int32.ofInt (p))), some (.int (Int32.ofInt (w))), some (.long (Int64.ofInt (0))), none, none], [], ml_mk h (su σ 28 (0) (q + 1)))) (show jw_cd cd_234 30 = some (.lstore_n 3) by decide +kernel) rfl ?_
        refine jr_1 jm_234 (show jw_cd cd_234 31 = some (.aload_n 0) by decide +kernel) rfl ?_
        refine jr_c jm_234 (show jw_cd cd_234 32 = some (.invokevirtual 151) by decide +kernel) (mc_v hl (n := 0) (m2 := 215) (bs := []) (r := []) (show jw_find jw_cvT 34 151 = some (0, [(16, 215)]) by decide +kernel) (by decide) rfl rfl rfl) jm_215 ⟨Nat.le_of_ble_eq_true rfl, by decide⟩ (jn_hr hl ht hP1 (by omega) hq) ?_
        refine jr_c jm_234 (show jw_cd cd_234 35 = some (.invokestatic 162) by decide +kernel) (mc_s (n := 1) (m2 := 219) (bs := [.int (Int32.ofInt (tH T n (q + 1)))]) (r := []) (by decide) (show jw_find jw_csT 34 162 = some (219, 1) by decide +kernel) rfl rfl rfl) jm_219 ⟨Nat.le_of_ble_eq_true rfl, by decide⟩ (jn_isL_f hl hmr hpl) ?_
        refine jr_1 jm_234 (show jw_cd cd_234 38 = some (.ifCond .eq 34) by decide +kernel) (mz_t (q := .eq) (a := 0) (t := 72) (by show 0 = 0; omega) ⟨by omega, by omega⟩ (by decide) (by decide)) ?_
        refine jr_1 jm_234 (show jw_cd cd_234 72 = some (.aload_n 0) by decide +kernel) rfl ?_
        refine jr_1 jm_234 (show jw_cd cd_234 73 = some (.bipush 41) by decide +kernel) (mt_bi (by decide)) ?_
        refine jr_c jm_234 (show jw_cd cd_234 75 = some (.invokevirtual 179) by decide +kernel) (mc_v hl (n := 1) (m2 := 221) (bs := [.int (Int32.ofInt (41))]) (r := []) (show jw_find jw_cvT 34 179 = some (1, [(16, 221)]) by decide +kernel) (by decide) rfl rfl rfl) jm_221 ⟨Nat.le_of_ble_eq_true rfl, by decide⟩ (jn_mustF hl ht hP1 (by omega) hq ⟨by decide, by decide⟩ h41) ?_
        refine jr_1 jm_234 (show jw_cd cd_234 78 = some (.ifCond .eq 13) by decide +kernel) (mz_t (q := .eq) (a := 0) (t := 91) (by show 0 = 0; omega) ⟨by omega, by omega⟩ (by decide) (by decide)) ?_
        exact jr_v jm_234 (show jw_cd cd_234 91 = some (.return_) by decide +kernel) rfl
