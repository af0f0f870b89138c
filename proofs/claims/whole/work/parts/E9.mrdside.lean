/-! ===== the model reads a side (printed by program: gen63.py) ===== -/
/-- what reading a side leaves alone -/
def sdF (σ τ : mS) (dd : Int) : Prop := (∀ f, f ∉ [23, 24, 25, 26, 27, 28, 29, 31, 32] → τ f = σ f) ∧ (∀ f v, 23 ≤ f → f ≤ 27 → ¬ f = 25 → ¬ v = dd → τ f v = σ f v) ∧ (∀ v, v < 3 * dd ∨ 3 * dd + 3 ≤ v → τ 25 v = σ 25 v)
theorem sdF_refl (σ : mS) (dd : Int) : sdF σ σ dd := ⟨fun _ _ => rfl, fun _ _ _ _ _ _ => rfl, fun _ _ => rfl⟩
theorem sdF_trans {σ τ υ : mS} {dd : Int} (h : sdF σ τ dd) (h2 : sdF τ υ dd) : sdF σ υ dd := ⟨fun f hf => (h2.1 f hf).trans (h.1 f hf), fun f v f1 f2 f5 hv => (h2.2.1 f v f1 f2 f5 hv).trans (h.2.1 f v f1 f2 f5 hv), fun v hv => (h2.2.2 v hv).trans (h.2.2 v hv)⟩
theorem sdF_su {σ τ : mS} {dd i x : Int} {f : Nat} (h : sdF σ τ dd) (hf : (f = 28 ∨ f = 29 ∨ f = 31 ∨ f = 32) ∨ ((23 ≤ f ∧ f ≤ 27 ∧ ¬ f = 25) ∧ i = dd) ∨ (f = 25 ∧ 3 * dd ≤ i ∧ i < 3 * dd + 3)) : sdF σ (su τ f i x) dd := by
  refine ⟨fun g hg => ?_, fun g v g1 g2 g5 hv => ?_, fun v hv => ?_⟩
  · simp only [List.mem_cons, List.mem_nil_iff, or_false, not_or] at hg
    rw [su_row (by omega)]
    exact h.1 g (by simp; omega)
  · by_cases e : g = f
    · subst e
      rw [su_ni (by omega)]
      exact h.2.1 g v g1 g2 g5 hv
    · rw [su_nf e]
      exact h.2.1 g v g1 g2 g5 hv
  · by_cases e : f = 25
    · rw [su_ni (by omega)]
      exact h.2.2 v hv
    · rw [su_nf (fun z => e z.symm)]
      exact h.2.2 v hv
theorem sdF_q {σ τ : mS} {dd : Int} {L : List Nat} (hL : ∀ g ∈ L, g = 28 ∨ g = 29 ∨ g = 31 ∨ g = 32) (h : mEq L σ τ) : sdF σ τ dd := ⟨fun f hf => h f (fun hh => by
    have := hL f hh
    simp only [List.mem_cons, List.mem_nil_iff, or_false, not_or] at hf
    omega), fun f v f1 f2 _ _ => by rw [h f (fun hh => by have := hL f hh; omega)], fun v _ => by rw [h 25 (fun hh => by have := hL 25 hh; omega)]⟩
theorem pthR_app {σ : mS} {dd : Int} {s : List Int} (hs : tx s) : ∀ (l : List (List Int)) (t : Int), pthR σ dd t l → σ 25 (3 * dd + (t + l.length)) = pk s → pthR σ dd t (l ++ [s])
  | [], t, _, h => by
    refine ⟨⟨?_, hs⟩, trivial⟩
    rw [← h]
    congr 1
    simp
  | a :: l, t, h, h2 => ⟨h.1, pthR_app hs l (t + 1) h.2 (by
      rw [← h2]
      congr 1
      simp
      omega)⟩
theorem pthR_fr {σ τ : mS} {dd : Int} : ∀ (l : List (List Int)) (t : Int), 0 ≤ t → (∀ v, 3 * dd ≤ v → v < 3 * dd + (t + l.length) → τ 25 v = σ 25 v) → pthR σ dd t l → pthR τ dd t l
  | [], _, _, _, _ => trivial
  | s :: l, t, h0, hq, h => ⟨⟨(hq _ (by omega) (by simp; omega)).trans h.1.1, h.1.2⟩, pthR_fr l (t + 1) (by omega) (fun v v1 v2 => hq v v1 (by simp; omega)) h.2⟩
theorem mSk_F {σ : mS} {T : Int → Int} {n p dd K q : Int} {s : List Int} (hP : rP σ T n p) (hK : 0 ≤ K ∧ K < 3) : sdF σ (mSk σ dd K q s) dd ∧ rP (mSk σ dd K q s) T n q ∧ mSk σ dd K q s 24 dd = K + 1 ∧ mSk σ dd K q s 25 (3 * dd + K) = pk s ∧ (∀ v, ¬ v = 3 * dd + K → mSk σ dd K q s 25 v = σ 25 v) ∧ mSk σ dd K q s 23 = σ 23 := by
  unfold mSk
  refine ⟨sdF_su (sdF_su (sdF_su (sdF_su (sdF_refl _ _) ?_) ?_) ?_) ?_, ?_, su_eq _ _ _ _, ?_, fun v hv => ?_, ?_⟩
  · omega
  · omega
  · omega
  · omega
  · exact rP_su (rP_su (rP_mv (rP_su hP (by decide) (by decide) (by decide))) (by decide) (by decide) (by decide)) (by decide) (by decide) (by decide)
  · rw [su_nf (by decide), su_eq]
  · rw [su_nf (by decide), su_ni hv, su_nf (by decide), su_nf (by decide)]
  · rw [su_row (by decide), su_row (by decide), su_row (by decide), su_row (by decide)]
theorem jn_sd_loop {β : Bool} {d : Nat} {h : jx_H} (hl : 49 ≤ h.length) {T : Int → Int} {n dd : Int} {c2 : Option Value} (ht : tOK T n) (hd : 0 ≤ dd ∧ dd < 288) : ∀ (f : Nat) (ks : List (List Int)) (p : Int) (σ : mS), ks.length + f = 4 → 1 ≤ f → (∀ s ∈ ks, tx s) → 0 ≤ p → p ≤ n → rP σ T n p → σ 24 dd = ks.length → pthR σ dd 0 ks → (∀ e, sPth T n f ks p = .inl e → ∃ τ : mS, jx_r (jz β) jw_M (d + 4) 241 (110, [some (.ref 15), some (.int (Int32.ofInt (dd))), c2], [], ml_mk h σ) (ml_mk h (τ), .inl none) ∧ τ 29 0 = -1 - e ∧ sdF σ τ dd) ∧ (∀ ks2 q, sPth T n f ks p = .inr (ks2, q) → ∃ τ : mS, jx_r (jz β) jw_M (d + 4) 241 (110, [some (.ref 15), some (.int (Int32.ofInt (dd))), c2], [], ml_mk h σ) (ml_mk h (τ), .inl none) ∧ rP τ T n q ∧ τ 24 dd = ks2.length ∧ pthR τ dd 0 ks2 ∧ ksO ks2 ∧ τ 23 = σ 23 ∧ sdF σ τ dd)
  | 0, ks, p, σ, hf, hf1, hk, h0, hp, hP, e24, hR => absurd hf1 (by decide)
  | f + 1, ks, p, σ, hf, hf1, hk, h0, hp, hP, e24, hR => by
    obtain ⟨d0, d1⟩ := id hd
    have hn160 := ht.2.1
    have hh := tH_r (p := p) ht h0
    unfold sPth
    by_cases h46 : tH T n p = 46
    · have hl1 := tH_lt ht h0 h46 (by decide)
      rw [if_pos h46]
      by_cases h3 : ks.length = 3
      · rw [if_pos h3]
        refine ⟨fun e he => ?_, fun a q he => (by cases he)⟩
        cases he
        refine ⟨su (su σ 28 0 (p + 1)) 29 0 (-1 - (p + 1)), ?_, su_eq _ _ _ _, sdF_su (sdF_su (sdF_refl _ _) (by omega)) (by omega)⟩
        refine jr_1 jm_241 (show jw_cd cd_241 110 = some (.aload_n 0) by decide +kernel) rfl ?_
        refine jr_1 jm_241 (show jw_cd cd_241 111 = some (.getfield 148) by decide +kernel) (mg_i hl (e := 0) hP.2.2.2 (show jw_fld 34 148 16 = some 29 by decide +kernel) (by decide) (by decide)) ?_
        refine jr_1 jm_241 (show jw_cd cd_241 114 = some (.ifCond .ne 55) by decide +kernel) (mz_f (q := .ne) (a := 0) (by show ¬ (¬ (0 = 0)); omega) ⟨by omega, by omega⟩ (by decide)) ?_
        refine jr_1 jm_241 (show jw_cd cd_241 117 = some (.aload_n 0) by decide +kernel) rfl ?_
        refine jr_c jm_241 (show jw_cd cd_241 118 = some (.invokevirtual 151) by decide +kernel) (mc_v hl (n := 0) (m2 := 215) (bs := []) (r := []) (show jw_find jw_cvT 34 151 = some (0, [(16, 215)]) by decide +kernel) (by decide) rfl rfl rfl) jm_215 ⟨Nat.le_of_ble_eq_true rfl, by decide⟩ (jn_hr hl ht hP h0 hp) ?_
        refine jr_1 jm_241 (show jw_cd cd_241 121 = some (.bipush 46) by decide +kernel) (mt_bi (by decide)) ?_
        refine jr_1 jm_241 (show jw_cd cd_241 123 = some (.if_icmp .ne 46) by decide +kernel) (mb_f (q := .ne) (a := tH T n p) (b := 46) (by show ¬ (¬ (tH T n p = 46)); omega) ⟨by omega, by omega⟩ ⟨by omega, by omega⟩ (by decide)) ?_
        refine jr_1 jm_241 (show jw_cd cd_241 126 = some (.aload_n 0) by decide +kernel) rfl ?_
        refine jr_1 jm_241 (show jw_cd cd_241 127 = some (.dup) by decide +kernel) rfl ?_
        refine jr_1 jm_241 (show jw_cd cd_241 128 = some (.getfield 145) by decide +kernel) (mg_i hl (e := p) hP.2.2.1 (show jw_fld 34 145 16 = some 28 by decide +kernel) (by decide) (by decide)) ?_
        refine jr_1 jm_241 (show jw_cd cd_241 131 = some (.iconst 1) by decide +kernel) rfl ?_
        refine jr_1 jm_241 (show jw_cd cd_241 132 = some (.iadd) by decide +kernel) (mt_add (c := p + 1) rfl) ?_
        refine jr_1 jm_241 (show jw_cd cd_241 133 = some (.putfield 145) by decide +kernel) (mp_i hl (x := p + 1) (show jw_fld 34 145 16 = some 28 by decide +kernel) (by decide) (by decide) (show jw_ft 16 28 = some .int by decide +kernel) (show jw_fm 34 16 28 = some false by decide +kernel)) ?_
        refine jr_1 jm_241 (show jw_cd cd_241 136 = some (.aload_n 0) by decide +kernel) rfl ?_
        refine jr_1 jm_241 (show jw_cd cd_241 137 = some (.getfield 68) by decide +kernel) (mg_a hl (a := 35) (show jw_fld 34 68 16 = some 24 by decide +kernel) (by decide) (by decide)) ?_
        refine jr_1 jm_241 (show jw_cd cd_241 140 = some (.iload_n 1) by decide +kernel) rfl ?_
        refine jr_1 jm_241 (show jw_cd cd_241 141 = some (.iaload) by decide +kernel) (ma_i hl (i := dd) (e := (ks.length : Int)) 24 (by omega) (by show _ < ((288 : Nat) : Int); omega) ((su_nf (by decide)).trans e24) (by decide) (by decide) (by decide)) ?_
        refine jr_1 jm_241 (show jw_cd cd_241 142 = some (.iconst 3) by decide +kernel) rfl ?_
        refine jr_1 jm_241 (show jw_cd cd_241 143 = some (.if_icmp .ne 11) by decide +kernel) (mb_f (q := .ne) (a := (ks.length : Int)) (b := 3) (by show ¬ (¬ ((ks.length : Int) = 3)); omega) ⟨by omega, by omega⟩ ⟨by omega, by omega⟩ (by decide)) ?_
        refine jr_1 jm_241 (show jw_cd cd_241 146 = some (.aload_n 0) by decide +kernel) rfl ?_
        refine jr_1 jm_241 (show jw_cd cd_241 147 = some (.aload_n 0) by decide +kernel) rfl ?_
        refine jr_1 jm_241 (show jw_cd cd_241 148 = some (.getfield 145) by decide +kernel) (mg_i hl (e := p + 1) (su_eq _ _ _ _) (show jw_fld 34 145 16 = some 28 by decide +kernel) (by decide) (by decide)) ?_
        refine jr_c jm_241 (show jw_cd cd_241 151 = some (.invokevirtual 155) by decide +kernel) (mc_v hl (n := 1) (m2 := 216) (bs := [.int (Int32.ofInt (p + 1))]) (r := []) (show jw_find jw_cvT 34 155 = some (1, [(16, 216)]) by decide +kernel) (by decide) rfl rfl rfl) jm_216 ⟨Nat.le_of_ble_eq_true rfl, by decide⟩ (jn_wrg hl (rP_mv hP)) ?_
        refine jr_1 jm_241 (show jw_cd cd_241 154 = some (.aload_n 0) by decide +kernel) rfl ?_
        refine jr_1 jm_241 (show jw_cd cd_241 155 = some (.getfield 148) by decide +kernel) (mg_i hl (e := -1 - (p + 1)) (su_eq _ _ _ _) (show jw_fld 34 148 16 = some 29 by decide +kernel) (by decide) (by decide)) ?_
        refine jr_1 jm_241 (show jw_cd cd_241 158 = some (.ifCond .ne (-48)) by decide +kernel) (mz_t (q := .ne) (a := -1 - (p + 1)) (t := 110) (by show ¬ (-1 - (p + 1) = 0); omega) ⟨by omega, by omega⟩ (by decide) (by decide)) ?_
        refine jr_1 jm_241 (show jw_cd cd_241 110 = some (.aload_n 0) by decide +kernel) rfl ?_
        refine jr_1 jm_241 (show jw_cd cd_241 111 = some (.getfield 148) by decide +kernel) (mg_i hl (e := -1 - (p + 1)) (su_eq _ _ _ _) (show jw_fld 34 148 16 = some 29 by decide +kernel) (by decide) (by decide)) ?_
        refine jr_1 jm_241 (show jw_cd cd_241 114 = some (.ifCond .ne 55) by decide +kernel) (mz_t (q := .ne) (a := -1 - (p + 1)) (t := 169) (by show ¬ (-1 - (p + 1) = 0); omega) ⟨by omega, by omega⟩ (by decide) (by decide)) ?_
        exact jr_v jm_241 (show jw_cd cd_241 169 = some (.return_) by decide +kernel) rfl
      · rw [if_neg h3]
        have hP1 : rP (su σ 28 0 (p + 1)) T n (p + 1) := rP_mv hP
        have hS1 : sdF σ (su σ 28 0 (p + 1)) dd := sdF_su (sdF_refl _ _) (by omega)
        have hkR := sKey_R (T := T) (n := n) (p := p + 1) (by omega) hl1
        cases hs : sKey T n (p + 1) with
        | inl e =>
          obtain ⟨τ, r1, r2, r3⟩ := jn_skF (β := β) (d := d) (h := h) (dd := dd) hl ht hP1 (by omega) hl1 hs
          refine ⟨fun e' he => ?_, fun a q he => (by cases he)⟩
          cases he
          have hke := hkR.1 e hs
          refine ⟨τ, ?_, r2, sdF_trans hS1 (sdF_q (by decide) r3)⟩
          refine jr_1 jm_241 (show jw_cd cd_241 110 = some (.aload_n 0) by decide +kernel) rfl ?_
          refine jr_1 jm_241 (show jw_cd cd_241 111 = some (.getfield 148) by decide +kernel) (mg_i hl (e := 0) hP.2.2.2 (show jw_fld 34 148 16 = some 29 by decide +kernel) (by decide) (by decide)) ?_
          refine jr_1 jm_241 (show jw_cd cd_241 114 = some (.ifCond .ne 55) by decide +kernel) (mz_f (q := .ne) (a := 0) (by show ¬ (¬ (0 = 0)); omega) ⟨by omega, by omega⟩ (by decide)) ?_
          refine jr_1 jm_241 (show jw_cd cd_241 117 = some (.aload_n 0) by decide +kernel) rfl ?_
          refine jr_c jm_241 (show jw_cd cd_241 118 = some (.invokevirtual 151) by decide +kernel) (mc_v hl (n := 0) (m2 := 215) (bs := []) (r := []) (show jw_find jw_cvT 34 151 = some (0, [(16, 215)]) by decide +kernel) (by decide) rfl rfl rfl) jm_215 ⟨Nat.le_of_ble_eq_true rfl, by decide⟩ (jn_hr hl ht hP h0 hp) ?_
          refine jr_1 jm_241 (show jw_cd cd_241 121 = some (.bipush 46) by decide +kernel) (mt_bi (by decide)) ?_
          refine jr_1 jm_241 (show jw_cd cd_241 123 = some (.if_icmp .ne 46) by decide +kernel) (mb_f (q := .ne) (a := tH T n p) (b := 46) (by show ¬ (¬ (tH T n p = 46)); omega) ⟨by omega, by omega⟩ ⟨by omega, by omega⟩ (by decide)) ?_
          refine jr_1 jm_241 (show jw_cd cd_241 126 = some (.aload_n 0) by decide +kernel) rfl ?_
          refine jr_1 jm_241 (show jw_cd cd_241 127 = some (.dup) by decide +kernel) rfl ?_
          refine jr_1 jm_241 (show jw_cd cd_241 128 = some (.getfield 145) by decide +kernel) (mg_i hl (e := p) hP.2.2.1 (show jw_fld 34 145 16 = some 28 by decide +kernel) (by decide) (by decide)) ?_
          refine jr_1 jm_241 (show jw_cd cd_241 131 = some (.iconst 1) by decide +kernel) rfl ?_
          refine jr_1 jm_241 (show jw_cd cd_241 132 = some (.iadd) by decide +kernel) (mt_add (c := p + 1) rfl) ?_
          refine jr_1 jm_241 (show jw_cd cd_241 133 = some (.putfield 145) by decide +kernel) (mp_i hl (x := p + 1) (show jw_fld 34 145 16 = some 28 by decide +kernel) (by decide) (by decide) (show jw_ft 16 28 = some .int by decide +kernel) (show jw_fm 34 16 28 = some false by decide +kernel)) ?_
          refine jr_1 jm_241 (show jw_cd cd_241 136 = some (.aload_n 0) by decide +kernel) rfl ?_
          refine jr_1 jm_241 (show jw_cd cd_241 137 = some (.getfield 68) by decide +kernel) (mg_a hl (a := 35) (show jw_fld 34 68 16 = some 24 by decide +kernel) (by decide) (by decide)) ?_
          refine jr_1 jm_241 (show jw_cd cd_241 140 = some (.iload_n 1) by decide +kernel) rfl ?_
          refine jr_1 jm_241 (show jw_cd cd_241 141 = some (.iaload) by decide +kernel) (ma_i hl (i := dd) (e := (ks.length : Int)) 24 (by omega) (by show _ < ((288 : Nat) : Int); omega) ((su_nf (by decide)).trans e24) (by decide) (by decide) (by decide)) ?_
          refine jr_1 jm_241 (show jw_cd cd_241 142 = some (.iconst 3) by decide +kernel) rfl ?_
          refine jr_1 jm_241 (show jw_cd cd_241 143 = some (.if_icmp .ne 11) by decide +kernel) (mb_t (q := .ne) (a := (ks.length : Int)) (b := 3) (t := 154) (by show ¬ ((ks.length : Int) = 3); omega) ⟨by omega, by omega⟩ ⟨by omega, by omega⟩ (by decide) (by decide)) ?_
          refine jr_1 jm_241 (show jw_cd cd_241 154 = some (.aload_n 0) by decide +kernel) rfl ?_
          refine jr_1 jm_241 (show jw_cd cd_241 155 = some (.getfield 148) by decide +kernel) (mg_i hl (e := 0) ((su_nf (by decide)).trans hP.2.2.2) (show jw_fld 34 148 16 = some 29 by decide +kernel) (by decide) (by decide)) ?_
          refine jr_1 jm_241 (show jw_cd cd_241 158 = some (.ifCond .ne (-48)) by decide +kernel) (mz_f (q := .ne) (a := 0) (by show ¬ (¬ (0 = 0)); omega) ⟨by omega, by omega⟩ (by decide)) ?_
          refine jr_1 jm_241 (show jw_cd cd_241 161 = some (.aload_n 0) by decide +kernel) rfl ?_
          refine jr_1 jm_241 (show jw_cd cd_241 162 = some (.iload_n 1) by decide +kernel) rfl ?_
          refine jr_c jm_241 (show jw_cd cd_241 163 = some (.invokevirtual 255) by decide +kernel) (mc_v hl (n := 1) (m2 := 242) (bs := [.int (Int32.ofInt (dd))]) (r := []) (show jw_find jw_cvT 34 255 = some (1, [(16, 242)]) by decide +kernel) (by decide) rfl rfl rfl) jm_242 ⟨Nat.le_of_ble_eq_true rfl, by decide⟩ r1 ?_
          refine jr_1 jm_241 (show jw_cd cd_241 166 = some (.goto (-56)) by decide +kernel) (ju_go (t := 110) (by decide)) ?_
          refine jr_1 jm_241 (show jw_cd cd_241 110 = some (.aload_n 0) by decide +kernel) rfl ?_
          refine jr_1 jm_241 (show jw_cd cd_241 111 = some (.getfield 148) by decide +kernel) (mg_i hl (e := -1 - e) r2 (show jw_fld 34 148 16 = some 29 by decide +kernel) (by decide) (by decide)) ?_
          refine jr_1 jm_241 (show jw_cd cd_241 114 = some (.ifCond .ne 55) by decide +kernel) (mz_t (q := .ne) (a := -1 - e) (t := 169) (by show ¬ (-1 - e = 0); omega) ⟨by omega, by omega⟩ (by decide) (by decide)) ?_
          exact jr_v jm_241 (show jw_cd cd_241 169 = some (.return_) by decide +kernel) rfl
        | inr x =>
          obtain ⟨s, q⟩ := x
          obtain ⟨k1, k2, k3⟩ := hkR.2 s q hs
          have r1 := jn_skT (β := β) (d := d) (h := h) (dd := dd) (K := ks.length) hl ht hP1 (by omega) hl1 hd (by rw [su_nf (by decide)]; exact e24) ⟨by omega, by omega⟩ hs
          obtain ⟨m1, m2, m3, m4, m5, m6⟩ := mSk_F (dd := dd) (K := ks.length) (q := q) (s := s) hP1 ⟨by omega, by omega⟩
          have hlen : (((ks ++ [s]).length : Nat) : Int) = ks.length + 1 := by rw [List.length_append]; simp
          have hln : (ks ++ [s]).length = ks.length + 1 := by rw [List.length_append]; rfl
          have ih := jn_sd_loop (β := β) (d := d) (h := h) (c2 := c2) hl ht hd f (ks ++ [s]) q (mSk (su σ 28 0 (p + 1)) dd ks.length q s) (by omega) (by omega) (fun t hh => by
            rcases List.mem_append.mp hh with hh | hh
            · exact hk t hh
            · rw [List.mem_singleton.mp hh]; exact k3) (by omega) k2 m2 (by rw [m3, hlen]) (pthR_app k3 ks 0 (pthR_fr ks 0 (Int.le_refl 0) (fun v v1 v2 => by rw [m5 v (by omega), su_nf (by decide)]) hR) (by rw [← m4]; congr 1; omega))
          have hm : sdF σ (mSk (su σ 28 0 (p + 1)) dd ks.length q s) dd := sdF_trans hS1 m1
          refine ⟨fun e' he => ?_, fun a q' he => ?_⟩
          · obtain ⟨τ, y1, y2, y3⟩ := ih.1 e' he
            refine ⟨τ, ?_, y2, sdF_trans hm y3⟩
            refine jr_1 jm_241 (show jw_cd cd_241 110 = some (.aload_n 0) by decide +kernel) rfl ?_
            refine jr_1 jm_241 (show jw_cd cd_241 111 = some (.getfield 148) by decide +kernel) (mg_i hl (e := 0) hP.2.2.2 (show jw_fld 34 148 16 = some 29 by decide +kernel) (by decide) (by decide)) ?_
            refine jr_1 jm_241 (show jw_cd cd_241 114 = some (.ifCond .ne 55) by decide +kernel) (mz_f (q := .ne) (a := 0) (by show ¬ (¬ (0 = 0)); omega) ⟨by omega, by omega⟩ (by decide)) ?_
            refine jr_1 jm_241 (show jw_cd cd_241 117 = some (.aload_n 0) by decide +kernel) rfl ?_
            refine jr_c jm_241 (show jw_cd cd_241 118 = some (.invokevirtual 151) by decide +kernel) (mc_v hl (n := 0) (m2 := 215) (bs := []) (r := []) (show jw_find jw_cvT 34 151 = some (0, [(16, 215)]) by decide +kernel) (by decide) rfl rfl rfl) jm_215 ⟨Nat.le_of_ble_eq_true rfl, by decide⟩ (jn_hr hl ht hP h0 hp) ?_
            refine jr_1 jm_241 (show jw_cd cd_241 121 = some (.bipush 46) by decide +kernel) (mt_bi (by decide)) ?_
            refine jr_1 jm_241 (show jw_cd cd_241 123 = some (.if_icmp .ne 46) by decide +kernel) (mb_f (q := .ne) (a := tH T n p) (b := 46) (by show ¬ (¬ (tH T n p = 46)); omega) ⟨by omega, by omega⟩ ⟨by omega, by omega⟩ (by decide)) ?_
            refine jr_1 jm_241 (show jw_cd cd_241 126 = some (.aload_n 0) by decide +kernel) rfl ?_
            refine jr_1 jm_241 (show jw_cd cd_241 127 = some (.dup) by decide +kernel) rfl ?_
            refine jr_1 jm_241 (show jw_cd cd_241 128 = some (.getfield 145) by decide +kernel) (mg_i hl (e := p) hP.2.2.1 (show jw_fld 34 145 16 = some 28 by decide +kernel) (by decide) (by decide)) ?_
            refine jr_1 jm_241 (show jw_cd cd_241 131 = some (.iconst 1) by decide +kernel) rfl ?_
            refine jr_1 jm_241 (show jw_cd cd_241 132 = some (.iadd) by decide +kernel) (mt_add (c := p + 1) rfl) ?_
            refine jr_1 jm_241 (show jw_cd cd_241 133 = some (.putfield 145) by decide +kernel) (mp_i hl (x := p + 1) (show jw_fld 34 145 16 = some 28 by decide +kernel) (by decide) (by decide) (show jw_ft 16 28 = some .int by decide +kernel) (show jw_fm 34 16 28 = some false by decide +kernel)) ?_
            refine jr_1 jm_241 (show jw_cd cd_241 136 = some (.aload_n 0) by decide +kernel) rfl ?_
            refine jr_1 jm_241 (show jw_cd cd_241 137 = some (.getfield 68) by decide +kernel) (mg_a hl (a := 35) (show jw_fld 34 68 16 = some 24 by decide +kernel) (by decide) (by decide)) ?_
            refine jr_1 jm_241 (show jw_cd cd_241 140 = some (.iload_n 1) by decide +kernel) rfl ?_
            refine jr_1 jm_241 (show jw_cd cd_241 141 = some (.iaload) by decide +kernel) (ma_i hl (i := dd) (e := (ks.length : Int)) 24 (by omega) (by show _ < ((288 : Nat) : Int); omega) ((su_nf (by decide)).trans e24) (by decide) (by decide) (by decide)) ?_
            refine jr_1 jm_241 (show jw_cd cd_241 142 = some (.iconst 3) by decide +kernel) rfl ?_
            refine jr_1 jm_241 (show jw_cd cd_241 143 = some (.if_icmp .ne 11) by decide +kernel) (mb_t (q := .ne) (a := (ks.length : Int)) (b := 3) (t := 154) (by show ¬ ((ks.length : Int) = 3); omega) ⟨by omega, by omega⟩ ⟨by omega, by omega⟩ (by decide) (by decide)) ?_
            refine jr_1 jm_241 (show jw_cd cd_241 154 = some (.aload_n 0) by decide +kernel) rfl ?_
            refine jr_1 jm_241 (show jw_cd cd_241 155 = some (.getfield 148) by decide +kernel) (mg_i hl (e := 0) ((su_nf (by decide)).trans hP.2.2.2) (show jw_fld 34 148 16 = some 29 by decide +kernel) (by decide) (by decide)) ?_
            refine jr_1 jm_241 (show jw_cd cd_241 158 = some (.ifCond .ne (-48)) by decide +kernel) (mz_f (q := .ne) (a := 0) (by show ¬ (¬ (0 = 0)); omega) ⟨by omega, by omega⟩ (by decide)) ?_
            refine jr_1 jm_241 (show jw_cd cd_241 161 = some (.aload_n 0) by decide +kernel) rfl ?_
            refine jr_1 jm_241 (show jw_cd cd_241 162 = some (.iload_n 1) by decide +kernel) rfl ?_
            refine jr_c jm_241 (show jw_cd cd_241 163 = some (.invokevirtual 255) by decide +kernel) (mc_v hl (n := 1) (m2 := 242) (bs := [.int (Int32.ofInt (dd))]) (r := []) (show jw_find jw_cvT 34 255 = some (1, [(16, 242)]) by decide +kernel) (by decide) rfl rfl rfl) jm_242 ⟨Nat.le_of_ble_eq_true rfl, by decide⟩ r1 ?_
            refine jr_1 jm_241 (show jw_cd cd_241 166 = some (.goto (-56)) by decide +kernel) (ju_go (t := 110) (by decide)) ?_
            exact y1
          · obtain ⟨τ, y1, y2, y3, y4, y5, y6, y7⟩ := ih.2 a q' he
            refine ⟨τ, ?_, y2, y3, y4, y5, by rw [y6, m6, su_row (by decide)], sdF_trans hm y7⟩
            refine jr_1 jm_241 (show jw_cd cd_241 110 = some (.aload_n 0) by decide +kernel) rfl ?_
            refine jr_1 jm_241 (show jw_cd cd_241 111 = some (.getfield 148) by decide +kernel) (mg_i hl (e := 0) hP.2.2.2 (show jw_fld 34 148 16 = some 29 by decide +kernel) (by decide) (by decide)) ?_
            refine jr_1 jm_241 (show jw_cd cd_241 114 = some (.ifCond .ne 55) by decide +kernel) (mz_f (q := .ne) (a := 0) (by show ¬ (¬ (0 = 0)); omega) ⟨by omega, by omega⟩ (by decide)) ?_
            refine jr_1 jm_241 (show jw_cd cd_241 117 = some (.aload_n 0) by decide +kernel) rfl ?_
            refine jr_c jm_241 (show jw_cd cd_241 118 = some (.invokevirtual 151) by decide +kernel) (mc_v hl (n := 0) (m2 := 215) (bs := []) (r := []) (show jw_find jw_cvT 34 151 = some (0, [(16, 215)]) by decide +kernel) (by decide) rfl rfl rfl) jm_215 ⟨Nat.le_of_ble_eq_true rfl, by decide⟩ (jn_hr hl ht hP h0 hp) ?_
            refine jr_1 jm_241 (show jw_cd cd_241 121 = some (.bipush 46) by decide +kernel) (mt_bi (by decide)) ?_
            refine jr_1 jm_241 (show jw_cd cd_241 123 = some (.if_icmp .ne 46) by decide +kernel) (mb_f (q := .ne) (a := tH T n p) (b := 46) (by show ¬ (¬ (tH T n p = 46)); omega) ⟨by omega, by omega⟩ ⟨by omega, by omega⟩ (by decide)) ?_
            refine jr_1 jm_241 (show jw_cd cd_241 126 = some (.aload_n 0) by decide +kernel) rfl ?_
            refine jr_1 jm_241 (show jw_cd cd_241 127 = some (.dup) by decide +kernel) rfl ?_
            refine jr_1 jm_241 (show jw_cd cd_241 128 = some (.getfield 145) by decide +kernel) (mg_i hl (e := p) hP.2.2.1 (show jw_fld 34 145 16 = some 28 by decide +kernel) (by decide) (by decide)) ?_
            refine jr_1 jm_241 (show jw_cd cd_241 131 = some (.iconst 1) by decide +kernel) rfl ?_
            refine jr_1 jm_241 (show jw_cd cd_241 132 = some (.iadd) by decide +kernel) (mt_add (c := p + 1) rfl) ?_
            refine jr_1 jm_241 (show jw_cd cd_241 133 = some (.putfield 145) by decide +kernel) (mp_i hl (x := p + 1) (show jw_fld 34 145 16 = some 28 by decide +kernel) (by decide) (by decide) (show jw_ft 16 28 = some .int by decide +kernel) (show jw_fm 34 16 28 = some false by decide +kernel)) ?_
            refine jr_1 jm_241 (show jw_cd cd_241 136 = some (.aload_n 0) by decide +kernel) rfl ?_
            refine jr_1 jm_241 (show jw_cd cd_241 137 = some (.getfield 68) by decide +kernel) (mg_a hl (a := 35) (show jw_fld 34 68 16 = some 24 by decide +kernel) (by decide) (by decide)) ?_
            refine jr_1 jm_241 (show jw_cd cd_241 140 = some (.iload_n 1) by decide +kernel) rfl ?_
            refine jr_1 jm_241 (show jw_cd cd_241 141 = some (.iaload) by decide +kernel) (ma_i hl (i := dd) (e := (ks.length : Int)) 24 (by omega) (by show _ < ((288 : Nat) : Int); omega) ((su_nf (by decide)).trans e24) (by decide) (by decide) (by decide)) ?_
            refine jr_1 jm_241 (show jw_cd cd_241 142 = some (.iconst 3) by decide +kernel) rfl ?_
            refine jr_1 jm_241 (show jw_cd cd_241 143 = some (.if_icmp .ne 11) by decide +kernel) (mb_t (q := .ne) (a := (ks.length : Int)) (b := 3) (t := 154) (by show ¬ ((ks.length : Int) = 3); omega) ⟨by omega, by omega⟩ ⟨by omega, by omega⟩ (by decide) (by decide)) ?_
            refine jr_1 jm_241 (show jw_cd cd_241 154 = some (.aload_n 0) by decide +kernel) rfl ?_
            refine jr_1 jm_241 (show jw_cd cd_241 155 = some (.getfield 148) by decide +kernel) (mg_i hl (e := 0) ((su_nf (by decide)).trans hP.2.2.2) (show jw_fld 34 148 16 = some 29 by decide +kernel) (by decide) (by decide)) ?_
            refine jr_1 jm_241 (show jw_cd cd_241 158 = some (.ifCond .ne (-48)) by decide +kernel) (mz_f (q := .ne) (a := 0) (by show ¬ (¬ (0 = 0)); omega) ⟨by omega, by omega⟩ (by decide)) ?_
            refine jr_1 jm_241 (show jw_cd cd_241 161 = some (.aload_n 0) by decide +kernel) rfl ?_
            refine jr_1 jm_241 (show jw_cd cd_241 162 = some (.iload_n 1) by decide +kernel) rfl ?_
            refine jr_c jm_241 (show jw_cd cd_241 163 = some (.invokevirtual 255) by decide +kernel) (mc_v hl (n := 1) (m2 := 242) (bs := [.int (Int32.ofInt (dd))]) (r := []) (show jw_find jw_cvT 34 255 = some (1, [(16, 242)]) by decide +kernel) (by decide) rfl rfl rfl) jm_242 ⟨Nat.le_of_ble_eq_true rfl, by decide⟩ r1 ?_
            refine jr_1 jm_241 (show jw_cd cd_241 166 = some (.goto (-56)) by decide +kernel) (ju_go (t := 110) (by decide)) ?_
            exact y1
    · rw [if_neg h46]
      refine ⟨fun e he => (by cases he), fun a q he => ?_⟩
      cases he
      refine ⟨σ, ?_, hP, e24, hR, ⟨by omega, hk⟩, rfl, sdF_refl _ _⟩
      refine jr_1 jm_241 (show jw_cd cd_241 110 = some (.aload_n 0) by decide +kernel) rfl ?_
      refine jr_1 jm_241 (show jw_cd cd_241 111 = some (.getfield 148) by decide +kernel) (mg_i hl (e := 0) hP.2.2.2 (show jw_fld 34 148 16 = some 29 by decide +kernel) (by decide) (by decide)) ?_
      refine jr_1 jm_241 (show jw_cd cd_241 114 = some (.ifCond .ne 55) by decide +kernel) (mz_f (q := .ne) (a := 0) (by show ¬ (¬ (0 = 0)); omega) ⟨by omega, by omega⟩ (by decide)) ?_
      refine jr_1 jm_241 (show jw_cd cd_241 117 = some (.aload_n 0) by decide +kernel) rfl ?_
      refine jr_c jm_241 (show jw_cd cd_241 118 = some (.invokevirtual 151) by decide +kernel) (mc_v hl (n := 0) (m2 := 215) (bs := []) (r := []) (show jw_find jw_cvT 34 151 = some (0, [(16, 215)]) by decide +kernel) (by decide) rfl rfl rfl) jm_215 ⟨Nat.le_of_ble_eq_true rfl, by decide⟩ (jn_hr hl ht hP h0 hp) ?_
      refine jr_1 jm_241 (show jw_cd cd_241 121 = some (.bipush 46) by decide +kernel) (mt_bi (by decide)) ?_
      refine jr_1 jm_241 (show jw_cd cd_241 123 = some (.if_icmp .ne 46) by decide +kernel) (mb_t (q := .ne) (a := tH T n p) (b := 46) (t := 169) (by show ¬ (tH T n p = 46); omega) ⟨by omega, by omega⟩ ⟨by omega, by omega⟩ (by decide) (by decide)) ?_
      exact jr_v jm_241 (show jw_cd cd_241 169 = some (.return_) by decide +kernel) rfl
theorem jn_readSide {β : Bool} {d : Nat} {h : jx_H} {σ : mS} (hl : 49 ≤ h.length) {T : Int → Int} {n p : Int} (ht : tOK T n) (hP : rP σ T n p) (h0 : 0 ≤ p) (hp : p ≤ n) {dd : Int} (hd : 0 ≤ dd ∧ dd < 288) : (∀ e, sSide T n p = .inl e → ∃ τ : mS, jx_r (jz β) jw_M (d + 4) 241 (0, [some (.ref 15), some (.int (Int32.ofInt (dd))), none], [], ml_mk h σ) (ml_mk h (τ), .inl none) ∧ τ 29 0 = -1 - e ∧ sdF σ τ dd) ∧ (∀ s q, sSide T n p = .inr (s, q) → ∃ τ : mS, jx_r (jz β) jw_M (d + 4) 241 (0, [some (.ref 15), some (.int (Int32.ofInt (dd))), none], [], ml_mk h σ) (ml_mk h (τ), .inl none) ∧ rP τ T n q ∧ sdR τ dd s ∧ sdF σ τ dd) := by
  obtain ⟨d0, d1⟩ := id hd
  have hn160 := ht.2.1
  have hh := tH_r (p := p) ht h0
  have hPz : rP (su σ 24 dd 0) T n p := rP_su hP (by decide) (by decide) (by decide)
  have hSz : sdF σ (su σ 24 dd 0) dd := sdF_su (sdF_refl _ _) (by omega)
  have hPw : ∀ x, rP (su (su σ 24 dd 0) 23 dd x) T n p := fun x => rP_su hPz (by decide) (by decide) (by decide)
  have hSw : ∀ x, sdF σ (su (su σ 24 dd 0) 23 dd x) dd := fun x => sdF_su hSz (by omega)
  have hPz1 := hPw 1
  have hPz2 := hPw 2
  have hPz3 := hPw 3
  have r0 := jn_nb (β := β) (d := d + 2) (h := h) hl ht hPz.1 hPz.2.1 hPz.2.2.1 h0 hp
  unfold sSide
  by_cases h1 : pN (tH T n p) = true
  · rw [if_pos h1] at r0
    rw [if_pos h1]
    have hk := sNum_R ht h0 hp
    cases hs : sNum T n p with
    | inl e =>
      obtain ⟨τ, r1, r2, r3⟩ := jn_readNumber_er (β := β) (d := d + 1) (h := h) hl ht hPz2.1 hPz2.2.1 hPz2.2.2.1 h0 hp (by rw [hPz2.2.2.2]; exact mr0) hPz2.2.2.2 hs
      refine ⟨fun e' he => ?_, fun a q he => (by cases he)⟩
      cases he
      refine ⟨su τ 26 dd 0, ?_, by rw [su_nf (by decide)]; exact r2, sdF_su (sdF_trans (hSw 2) (sdF_q (by decide) r3)) (by omega)⟩
      · skip
        refine jr_1 jm_241 (show jw_cd cd_241 0 = some (.aload_n 0) by decide +kernel) rfl ?_
        refine jr_1 jm_241 (show jw_cd cd_241 1 = some (.getfield 68) by decide +kernel) (mg_a hl (a := 35) (show jw_fld 34 68 16 = some 24 by decide +kernel) (by decide) (by decide)) ?_
        refine jr_1 jm_241 (show jw_cd cd_241 4 = some (.iload_n 1) by decide +kernel) rfl ?_
        refine jr_1 jm_241 (show jw_cd cd_241 5 = some (.iconst 0) by decide +kernel) rfl ?_
        refine jr_1 jm_241 (show jw_cd cd_241 6 = some (.iastore) by decide +kernel) (ms_i hl (i := dd) (x := 0) 24 (by omega) (by show _ < ((288 : Nat) : Int); omega) (by decide) (by decide) (by decide)) ?_
        refine jr_1 jm_241 (show jw_cd cd_241 7 = some (.aload_n 0) by decide +kernel) rfl ?_
        refine jr_c jm_241 (show jw_cd cd_241 8 = some (.invokevirtual 182) by decide +kernel) (mc_v hl (n := 0) (m2 := 223) (bs := []) (r := []) (show jw_find jw_cvT 34 182 = some (0, [(16, 223)]) by decide +kernel) (by decide) rfl rfl rfl) jm_223 ⟨Nat.le_of_ble_eq_true rfl, by decide⟩ r0 ?_
        refine jr_1 jm_241 (show jw_cd cd_241 11 = some (.ifCond .eq 36) by decide +kernel) (mz_f (q := .eq) (a := 1) (by show ¬ (1 = 0); omega) ⟨by omega, by omega⟩ (by decide)) ?_
        refine jr_1 jm_241 (show jw_cd cd_241 14 = some (.aload_n 0) by decide +kernel) rfl ?_
        refine jr_1 jm_241 (show jw_cd cd_241 15 = some (.getfield 65) by decide +kernel) (mg_a hl (a := 34) (show jw_fld 34 65 16 = some 23 by decide +kernel) (by decide) (by decide)) ?_
        refine jr_1 jm_241 (show jw_cd cd_241 18 = some (.iload_n 1) by decide +kernel) rfl ?_
        refine jr_1 jm_241 (show jw_cd cd_241 19 = some (.iconst 2) by decide +kernel) rfl ?_
        refine jr_1 jm_241 (show jw_cd cd_241 20 = some (.iastore) by decide +kernel) (ms_i hl (i := dd) (x := 2) 23 (by omega) (by show _ < ((288 : Nat) : Int); omega) (by decide) (by decide) (by decide)) ?_
        refine jr_1 jm_241 (show jw_cd cd_241 21 = some (.aload_n 0) by decide +kernel) rfl ?_
        refine jr_c jm_241 (show jw_cd cd_241 22 = some (.invokevirtual 186) by decide +kernel) (mc_v hl (n := 0) (m2 := 225) (bs := []) (r := []) (show jw_find jw_cvT 34 186 = some (0, [(16, 225)]) by decide +kernel) (by decide) rfl rfl rfl) jm_225 ⟨Nat.le_of_ble_eq_true rfl, by decide⟩ r1 ?_
        refine jr_1 jm_241 (F2 := (26, [some (.ref 15), some (.int (Int32.ofInt (dd))), some (.int (Int32.ofInt (0)))], [], ml_mk h τ)) (show jw_cd cd_241 25 = some (.istore_n 2) by decide +kernel) rfl ?_
        refine jr_1 jm_241 (show jw_cd cd_241 26 = some (.aload_n 0) by decide +kernel) rfl ?_
        refine jr_1 jm_241 (show jw_cd cd_241 27 = some (.getfield 74) by decide +kernel) (mg_a hl (a := 37) (show jw_fld 34 74 16 = some 26 by decide +kernel) (by decide) (by decide)) ?_
        refine jr_1 jm_241 (show jw_cd cd_241 30 = some (.iload_n 1) by decide +kernel) rfl ?_
        refine jr_1 jm_241 (show jw_cd cd_241 31 = some (.iload_n 2) by decide +kernel) rfl ?_
        refine jr_1 jm_241 (show jw_cd cd_241 32 = some (.ifCond .eq 10) by decide +kernel) (mz_t (q := .eq) (a := 0) (t := 42) (by show 0 = 0; omega) ⟨by omega, by omega⟩ (by decide) (by decide)) ?_
        refine jr_1 jm_241 (show jw_cd cd_241 42 = some (.iconst 0) by decide +kernel) rfl ?_
        refine jr_1 jm_241 (show jw_cd cd_241 43 = some (.iastore) by decide +kernel) (ms_i hl (i := dd) (x := 0) 26 (by omega) (by show _ < ((288 : Nat) : Int); omega) (by decide) (by decide) (by decide)) ?_
        refine jr_1 jm_241 (show jw_cd cd_241 44 = some (.goto 125) by decide +kernel) (ju_go (t := 169) (by decide)) ?_
        exact jr_v jm_241 (show jw_cd cd_241 169 = some (.return_) by decide +kernel) rfl
    | inr x =>
      obtain ⟨x, q⟩ := x
      obtain ⟨k1, k2, k3⟩ := hk.2 x q hs
      refine ⟨fun e' he => (by cases he), fun a q he => ?_⟩
      cases he
      refine ⟨su (su (su (su (su σ 24 dd 0) 23 dd 2) 32 0 x) 28 0 q) 26 dd x, ?_, rP_su (rP_mv (rP_su hPz2 (by decide) (by decide) (by decide))) (by decide) (by decide) (by decide), ?_, sdF_su (sdF_su (sdF_su (hSw 2) (by omega)) (by omega)) (by omega)⟩
      · skip
        refine jr_1 jm_241 (show jw_cd cd_241 0 = some (.aload_n 0) by decide +kernel) rfl ?_
        refine jr_1 jm_241 (show jw_cd cd_241 1 = some (.getfield 68) by decide +kernel) (mg_a hl (a := 35) (show jw_fld 34 68 16 = some 24 by decide +kernel) (by decide) (by decide)) ?_
        refine jr_1 jm_241 (show jw_cd cd_241 4 = some (.iload_n 1) by decide +kernel) rfl ?_
        refine jr_1 jm_241 (show jw_cd cd_241 5 = some (.iconst 0) by decide +kernel) rfl ?_
        refine jr_1 jm_241 (show jw_cd cd_241 6 = some (.iastore) by decide +kernel) (ms_i hl (i := dd) (x := 0) 24 (by omega) (by show _ < ((288 : Nat) : Int); omega) (by decide) (by decide) (by decide)) ?_
        refine jr_1 jm_241 (show jw_cd cd_241 7 = some (.aload_n 0) by decide +kernel) rfl ?_
        refine jr_c jm_241 (show jw_cd cd_241 8 = some (.invokevirtual 182) by decide +kernel) (mc_v hl (n := 0) (m2 := 223) (bs := []) (r := []) (show jw_find jw_cvT 34 182 = some (0, [(16, 223)]) by decide +kernel) (by decide) rfl rfl rfl) jm_223 ⟨Nat.le_of_ble_eq_true rfl, by decide⟩ r0 ?_
        refine jr_1 jm_241 (show jw_cd cd_241 11 = some (.ifCond .eq 36) by decide +kernel) (mz_f (q := .eq) (a := 1) (by show ¬ (1 = 0); omega) ⟨by omega, by omega⟩ (by decide)) ?_
        refine jr_1 jm_241 (show jw_cd cd_241 14 = some (.aload_n 0) by decide +kernel) rfl ?_
        refine jr_1 jm_241 (show jw_cd cd_241 15 = some (.getfield 65) by decide +kernel) (mg_a hl (a := 34) (show jw_fld 34 65 16 = some 23 by decide +kernel) (by decide) (by decide)) ?_
        refine jr_1 jm_241 (show jw_cd cd_241 18 = some (.iload_n 1) by decide +kernel) rfl ?_
        refine jr_1 jm_241 (show jw_cd cd_241 19 = some (.iconst 2) by decide +kernel) rfl ?_
        refine jr_1 jm_241 (show jw_cd cd_241 20 = some (.iastore) by decide +kernel) (ms_i hl (i := dd) (x := 2) 23 (by omega) (by show _ < ((288 : Nat) : Int); omega) (by decide) (by decide) (by decide)) ?_
        refine jr_1 jm_241 (show jw_cd cd_241 21 = some (.aload_n 0) by decide +kernel) rfl ?_
        refine jr_c jm_241 (show jw_cd cd_241 22 = some (.invokevirtual 186) by decide +kernel) (mc_v hl (n := 0) (m2 := 225) (bs := []) (r := []) (show jw_find jw_cvT 34 186 = some (0, [(16, 225)]) by decide +kernel) (by decide) rfl rfl rfl) jm_225 ⟨Nat.le_of_ble_eq_true rfl, by decide⟩ (jn_readNumber_ok hl ht hPz2.1 hPz2.2.1 hPz2.2.2.1 h0 hp (by rw [hPz2.2.2.2]; exact mr0) hs) ?_
        refine jr_1 jm_241 (F2 := (26, [some (.ref 15), some (.int (Int32.ofInt (dd))), some (.int (Int32.ofInt (1)))], [], ml_mk h (su (su (su (su σ 24 dd 0) 23 dd 2) 32 0 x) 28 0 q))) (show jw_cd cd_241 25 = some (.istore_n 2) by decide +kernel) rfl ?_
        refine jr_1 jm_241 (show jw_cd cd_241 26 = some (.aload_n 0) by decide +kernel) rfl ?_
        refine jr_1 jm_241 (show jw_cd cd_241 27 = some (.getfield 74) by decide +kernel) (mg_a hl (a := 37) (show jw_fld 34 74 16 = some 26 by decide +kernel) (by decide) (by decide)) ?_
        refine jr_1 jm_241 (show jw_cd cd_241 30 = some (.iload_n 1) by decide +kernel) rfl ?_
        refine jr_1 jm_241 (show jw_cd cd_241 31 = some (.iload_n 2) by decide +kernel) rfl ?_
        refine jr_1 jm_241 (show jw_cd cd_241 32 = some (.ifCond .eq 10) by decide +kernel) (mz_f (q := .eq) (a := 1) (by show ¬ (1 = 0); omega) ⟨by omega, by omega⟩ (by decide)) ?_
        refine jr_1 jm_241 (show jw_cd cd_241 35 = some (.aload_n 0) by decide +kernel) rfl ?_
        refine jr_1 jm_241 (show jw_cd cd_241 36 = some (.getfield 173) by decide +kernel) (mg_i hl (e := x) ((su_nf (by decide)).trans (su_eq _ _ _ _)) (show jw_fld 34 173 16 = some 32 by decide +kernel) (by decide) (by decide)) ?_
        refine jr_1 jm_241 (show jw_cd cd_241 39 = some (.goto 4) by decide +kernel) (ju_go (t := 43) (by decide)) ?_
        refine jr_1 jm_241 (show jw_cd cd_241 43 = some (.iastore) by decide +kernel) (ms_i hl (i := dd) (x := x) 26 (by omega) (by show _ < ((288 : Nat) : Int); omega) (by decide) (by decide) (by decide)) ?_
        refine jr_1 jm_241 (show jw_cd cd_241 44 = some (.goto 125) by decide +kernel) (ju_go (t := 169) (by decide)) ?_
        exact jr_v jm_241 (show jw_cd cd_241 169 = some (.return_) by decide +kernel) rfl
      · refine ⟨?_, ⟨by show (1 : Int) ≤ 2; decide, by show (2 : Int) ≤ 3; decide⟩, fun z => absurd z (by show ¬ (2 : Int) = 1; decide), fun _ => ⟨su_eq _ _ _ _, ⟨by show -2147483648 ≤ x; omega, by show x ≤ 2147483647; omega⟩⟩, fun z => absurd z (by show ¬ (2 : Int) = 3; decide)⟩
        rw [su_nf (by decide), su_nf (by decide), su_nf (by decide), su_eq]
  · rw [if_neg h1] at r0
    rw [if_neg h1]
    by_cases h39 : tH T n p = 39
    · rw [if_pos h39]
      have hl1 := tH_lt ht h0 h39 (by decide)
      have hk := sText_R (T := T) (n := n) (p := p) ht h0 (by omega)
      cases hs : sText T n p with
      | inl e =>
        obtain ⟨τ, r1, r2, r3⟩ := jn_readText_er (β := β) (d := d) (h := h) hl ht hPz3.1 hPz3.2.1 hPz3.2.2.1 h0 (by omega) (by rw [hPz3.2.2.2]; exact mr0) hPz3.2.2.2 hs
        refine ⟨fun e' he => ?_, fun a q he => (by cases he)⟩
        cases he
        refine ⟨su τ 27 dd 0, ?_, by rw [su_nf (by decide)]; exact r2, sdF_su (sdF_trans (hSw 3) (sdF_q (by decide) r3)) (by omega)⟩
        · skip
          refine jr_1 jm_241 (show jw_cd cd_241 0 = some (.aload_n 0) by decide +kernel) rfl ?_
          refine jr_1 jm_241 (show jw_cd cd_241 1 = some (.getfield 68) by decide +kernel) (mg_a hl (a := 35) (show jw_fld 34 68 16 = some 24 by decide +kernel) (by decide) (by decide)) ?_
          refine jr_1 jm_241 (show jw_cd cd_241 4 = some (.iload_n 1) by decide +kernel) rfl ?_
          refine jr_1 jm_241 (show jw_cd cd_241 5 = some (.iconst 0) by decide +kernel) rfl ?_
          refine jr_1 jm_241 (show jw_cd cd_241 6 = some (.iastore) by decide +kernel) (ms_i hl (i := dd) (x := 0) 24 (by omega) (by show _ < ((288 : Nat) : Int); omega) (by decide) (by decide) (by decide)) ?_
          refine jr_1 jm_241 (show jw_cd cd_241 7 = some (.aload_n 0) by decide +kernel) rfl ?_
          refine jr_c jm_241 (show jw_cd cd_241 8 = some (.invokevirtual 182) by decide +kernel) (mc_v hl (n := 0) (m2 := 223) (bs := []) (r := []) (show jw_find jw_cvT 34 182 = some (0, [(16, 223)]) by decide +kernel) (by decide) rfl rfl rfl) jm_223 ⟨Nat.le_of_ble_eq_true rfl, by decide⟩ r0 ?_
          refine jr_1 jm_241 (show jw_cd cd_241 11 = some (.ifCond .eq 36) by decide +kernel) (mz_t (q := .eq) (a := 0) (t := 47) (by show 0 = 0; omega) ⟨by omega, by omega⟩ (by decide) (by decide)) ?_
          refine jr_1 jm_241 (show jw_cd cd_241 47 = some (.aload_n 0) by decide +kernel) rfl ?_
          refine jr_c jm_241 (show jw_cd cd_241 48 = some (.invokevirtual 151) by decide +kernel) (mc_v hl (n := 0) (m2 := 215) (bs := []) (r := []) (show jw_find jw_cvT 34 151 = some (0, [(16, 215)]) by decide +kernel) (by decide) rfl rfl rfl) jm_215 ⟨Nat.le_of_ble_eq_true rfl, by decide⟩ (jn_hr hl ht hPz h0 hp) ?_
          refine jr_1 jm_241 (show jw_cd cd_241 51 = some (.bipush 39) by decide +kernel) (mt_bi (by decide)) ?_
          refine jr_1 jm_241 (show jw_cd cd_241 53 = some (.if_icmp .ne 36) by decide +kernel) (mb_f (q := .ne) (a := tH T n p) (b := 39) (by show ¬ (¬ (tH T n p = 39)); omega) ⟨by omega, by omega⟩ ⟨by omega, by omega⟩ (by decide)) ?_
          refine jr_1 jm_241 (show jw_cd cd_241 56 = some (.aload_n 0) by decide +kernel) rfl ?_
          refine jr_1 jm_241 (show jw_cd cd_241 57 = some (.getfield 65) by decide +kernel) (mg_a hl (a := 34) (show jw_fld 34 65 16 = some 23 by decide +kernel) (by decide) (by decide)) ?_
          refine jr_1 jm_241 (show jw_cd cd_241 60 = some (.iload_n 1) by decide +kernel) rfl ?_
          refine jr_1 jm_241 (show jw_cd cd_241 61 = some (.iconst 3) by decide +kernel) rfl ?_
          refine jr_1 jm_241 (show jw_cd cd_241 62 = some (.iastore) by decide +kernel) (ms_i hl (i := dd) (x := 3) 23 (by omega) (by show _ < ((288 : Nat) : Int); omega) (by decide) (by decide) (by decide)) ?_
          refine jr_1 jm_241 (show jw_cd cd_241 63 = some (.aload_n 0) by decide +kernel) rfl ?_
          refine jr_c jm_241 (show jw_cd cd_241 64 = some (.invokevirtual 189) by decide +kernel) (mc_v hl (n := 0) (m2 := 227) (bs := []) (r := []) (show jw_find jw_cvT 34 189 = some (0, [(16, 227)]) by decide +kernel) (by decide) rfl rfl rfl) jm_227 ⟨Nat.le_of_ble_eq_true rfl, by decide⟩ r1 ?_
          refine jr_1 jm_241 (F2 := (68, [some (.ref 15), some (.int (Int32.ofInt (dd))), some (.int (Int32.ofInt (0)))], [], ml_mk h τ)) (show jw_cd cd_241 67 = some (.istore_n 2) by decide +kernel) rfl ?_
          refine jr_1 jm_241 (show jw_cd cd_241 68 = some (.aload_n 0) by decide +kernel) rfl ?_
          refine jr_1 jm_241 (show jw_cd cd_241 69 = some (.getfield 77) by decide +kernel) (mg_a hl (a := 38) (show jw_fld 34 77 16 = some 27 by decide +kernel) (by decide) (by decide)) ?_
          refine jr_1 jm_241 (show jw_cd cd_241 72 = some (.iload_n 1) by decide +kernel) rfl ?_
          refine jr_1 jm_241 (show jw_cd cd_241 73 = some (.iload_n 2) by decide +kernel) rfl ?_
          refine jr_1 jm_241 (show jw_cd cd_241 74 = some (.ifCond .eq 10) by decide +kernel) (mz_t (q := .eq) (a := 0) (t := 84) (by show 0 = 0; omega) ⟨by omega, by omega⟩ (by decide) (by decide)) ?_
          refine jr_1 jm_241 (F2 := (85, [some (.ref 15), some (.int (Int32.ofInt (dd))), some (.int (Int32.ofInt (0)))], [.long (Int64.ofInt (0)), .int (Int32.ofInt (dd)), .ref 38], ml_mk h τ)) (show jw_cd cd_241 84 = some (.lconst 0) by decide +kernel) rfl ?_
          refine jr_1 jm_241 (show jw_cd cd_241 85 = some (.lastore) by decide +kernel) (ms_j hl (i := dd) (x := 0) 27 (by omega) (by show _ < ((288 : Nat) : Int); omega) (by decide) (by decide) (by decide)) ?_
          refine jr_1 jm_241 (show jw_cd cd_241 86 = some (.goto 83) by decide +kernel) (ju_go (t := 169) (by decide)) ?_
          exact jr_v jm_241 (show jw_cd cd_241 169 = some (.return_) by decide +kernel) rfl
      | inr x =>
        obtain ⟨s, q⟩ := x
        obtain ⟨k1, k2, k3⟩ := hk.2 s q hs
        refine ⟨fun e' he => (by cases he), fun a q he => ?_⟩
        cases he
        refine ⟨su (su (su (su (su σ 24 dd 0) 23 dd 3) 31 0 (pk s)) 28 0 q) 27 dd (pk s), ?_, rP_su (rP_mv (rP_su hPz3 (by decide) (by decide) (by decide))) (by decide) (by decide) (by decide), ?_, sdF_su (sdF_su (sdF_su (hSw 3) (by omega)) (by omega)) (by omega)⟩
        · skip
          refine jr_1 jm_241 (show jw_cd cd_241 0 = some (.aload_n 0) by decide +kernel) rfl ?_
          refine jr_1 jm_241 (show jw_cd cd_241 1 = some (.getfield 68) by decide +kernel) (mg_a hl (a := 35) (show jw_fld 34 68 16 = some 24 by decide +kernel) (by decide) (by decide)) ?_
          refine jr_1 jm_241 (show jw_cd cd_241 4 = some (.iload_n 1) by decide +kernel) rfl ?_
          refine jr_1 jm_241 (show jw_cd cd_241 5 = some (.iconst 0) by decide +kernel) rfl ?_
          refine jr_1 jm_241 (show jw_cd cd_241 6 = some (.iastore) by decide +kernel) (ms_i hl (i := dd) (x := 0) 24 (by omega) (by show _ < ((288 : Nat) : Int); omega) (by decide) (by decide) (by decide)) ?_
          refine jr_1 jm_241 (show jw_cd cd_241 7 = some (.aload_n 0) by decide +kernel) rfl ?_
          refine jr_c jm_241 (show jw_cd cd_241 8 = some (.invokevirtual 182) by decide +kernel) (mc_v hl (n := 0) (m2 := 223) (bs := []) (r := []) (show jw_find jw_cvT 34 182 = some (0, [(16, 223)]) by decide +kernel) (by decide) rfl rfl rfl) jm_223 ⟨Nat.le_of_ble_eq_true rfl, by decide⟩ r0 ?_
          refine jr_1 jm_241 (show jw_cd cd_241 11 = some (.ifCond .eq 36) by decide +kernel) (mz_t (q := .eq) (a := 0) (t := 47) (by show 0 = 0; omega) ⟨by omega, by omega⟩ (by decide) (by decide)) ?_
          refine jr_1 jm_241 (show jw_cd cd_241 47 = some (.aload_n 0) by decide +kernel) rfl ?_
          refine jr_c jm_241 (show jw_cd cd_241 48 = some (.invokevirtual 151) by decide +kernel) (mc_v hl (n := 0) (m2 := 215) (bs := []) (r := []) (show jw_find jw_cvT 34 151 = some (0, [(16, 215)]) by decide +kernel) (by decide) rfl rfl rfl) jm_215 ⟨Nat.le_of_ble_eq_true rfl, by decide⟩ (jn_hr hl ht hPz h0 hp) ?_
          refine jr_1 jm_241 (show jw_cd cd_241 51 = some (.bipush 39) by decide +kernel) (mt_bi (by decide)) ?_
          refine jr_1 jm_241 (show jw_cd cd_241 53 = some (.if_icmp .ne 36) by decide +kernel) (mb_f (q := .ne) (a := tH T n p) (b := 39) (by show ¬ (¬ (tH T n p = 39)); omega) ⟨by omega, by omega⟩ ⟨by omega, by omega⟩ (by decide)) ?_
          refine jr_1 jm_241 (show jw_cd cd_241 56 = some (.aload_n 0) by decide +kernel) rfl ?_
          refine jr_1 jm_241 (show jw_cd cd_241 57 = some (.getfield 65) by decide +kernel) (mg_a hl (a := 34) (show jw_fld 34 65 16 = some 23 by decide +kernel) (by decide) (by decide)) ?_
          refine jr_1 jm_241 (show jw_cd cd_241 60 = some (.iload_n 1) by decide +kernel) rfl ?_
          refine jr_1 jm_241 (show jw_cd cd_241 61 = some (.iconst 3) by decide +kernel) rfl ?_
          refine jr_1 jm_241 (show jw_cd cd_241 62 = some (.iastore) by decide +kernel) (ms_i hl (i := dd) (x := 3) 23 (by omega) (by show _ < ((288 : Nat) : Int); omega) (by decide) (by decide) (by decide)) ?_
          refine jr_1 jm_241 (show jw_cd cd_241 63 = some (.aload_n 0) by decide +kernel) rfl ?_
          refine jr_c jm_241 (show jw_cd cd_241 64 = some (.invokevirtual 189) by decide +kernel) (mc_v hl (n := 0) (m2 := 227) (bs := []) (r := []) (show jw_find jw_cvT 34 189 = some (0, [(16, 227)]) by decide +kernel) (by decide) rfl rfl rfl) jm_227 ⟨Nat.le_of_ble_eq_true rfl, by decide⟩ (jn_readText_ok hl ht hPz3.1 hPz3.2.1 hPz3.2.2.1 h0 (by omega) (by rw [hPz3.2.2.2]; exact mr0) hs) ?_
          refine jr_1 jm_241 (F2 := (68, [some (.ref 15), some (.int (Int32.ofInt (dd))), some (.int (Int32.ofInt (1)))], [], ml_mk h (su (su (su (su σ 24 dd 0) 23 dd 3) 31 0 (pk s)) 28 0 q))) (show jw_cd cd_241 67 = some (.istore_n 2) by decide +kernel) rfl ?_
          refine jr_1 jm_241 (show jw_cd cd_241 68 = some (.aload_n 0) by decide +kernel) rfl ?_
          refine jr_1 jm_241 (show jw_cd cd_241 69 = some (.getfield 77) by decide +kernel) (mg_a hl (a := 38) (show jw_fld 34 77 16 = some 27 by decide +kernel) (by decide) (by decide)) ?_
          refine jr_1 jm_241 (show jw_cd cd_241 72 = some (.iload_n 1) by decide +kernel) rfl ?_
          refine jr_1 jm_241 (show jw_cd cd_241 73 = some (.iload_n 2) by decide +kernel) rfl ?_
          refine jr_1 jm_241 (show jw_cd cd_241 74 = some (.ifCond .eq 10) by decide +kernel) (mz_f (q := .eq) (a := 1) (by show ¬ (1 = 0); omega) ⟨by omega, by omega⟩ (by decide)) ?_
          refine jr_1 jm_241 (show jw_cd cd_241 77 = some (.aload_n 0) by decide +kernel) rfl ?_
          refine jr_1 jm_241 (show jw_cd cd_241 78 = some (.getfield 158) by decide +kernel) (mg_j hl (e := pk s) ((su_nf (by decide)).trans (su_eq _ _ _ _)) (show jw_fld 34 158 16 = some 31 by decide +kernel) (by decide) (by decide)) ?_
          refine jr_1 jm_241 (show jw_cd cd_241 81 = some (.goto 4) by decide +kernel) (ju_go (t := 85) (by decide)) ?_
          refine jr_1 jm_241 (show jw_cd cd_241 85 = some (.lastore) by decide +kernel) (ms_j hl (i := dd) (x := pk s) 27 (by omega) (by show _ < ((288 : Nat) : Int); omega) (by decide) (by decide) (by decide)) ?_
          refine jr_1 jm_241 (show jw_cd cd_241 86 = some (.goto 83) by decide +kernel) (ju_go (t := 169) (by decide)) ?_
          exact jr_v jm_241 (show jw_cd cd_241 169 = some (.return_) by decide +kernel) rfl
        · refine ⟨?_, ⟨by show (1 : Int) ≤ 3; decide, by show (3 : Int) ≤ 3; decide⟩, fun z => absurd z (by show ¬ (3 : Int) = 1; decide), fun z => absurd z (by show ¬ (3 : Int) = 2; decide), fun _ => ⟨su_eq _ _ _ _, k3⟩⟩
          rw [su_nf (by decide), su_nf (by decide), su_nf (by decide), su_eq]
    · rw [if_neg h39]
      have hfin : ∀ (τ : mS) (ks : List (List Int)), τ 23 dd = 1 → τ 24 dd = ks.length → pthR τ dd 0 ks → ksO ks → sdR τ dd (1, 0, [], ks) := fun τ ks a b c e => ⟨a, ⟨Int.le_refl 1, by show (1 : Int) ≤ 3; decide⟩, fun _ => ⟨b, e.1, c⟩, fun z => absurd z (by show ¬ (1 : Int) = 2; decide), fun z => absurd z (by show ¬ (1 : Int) = 3; decide)⟩
      by_cases h64 : tH T n p = 64
      · have hl1 := tH_lt ht h0 h64 (by decide)
        rw [if_pos h64]
        have hPa : rP (su (su (su σ 24 dd 0) 23 dd 1) 28 0 (p + 1)) T n (p + 1) := rP_mv hPz1
        have hSa : sdF σ (su (su (su σ 24 dd 0) 23 dd 1) 28 0 (p + 1)) dd := sdF_su (hSw 1) (by omega)
        have hL := jn_sd_loop (β := β) (d := d) (h := h) (c2 := none) hl ht hd 4 [] (p + 1) (su (su (su σ 24 dd 0) 23 dd 1) 28 0 (p + 1)) rfl (by decide) (fun s h => absurd h List.not_mem_nil) (by omega) hl1 hPa (by rw [su_nf (by decide), su_nf (by decide), su_eq]; rfl) trivial
        cases hs : sPth T n 4 [] (p + 1) with
        | inl e =>
          obtain ⟨τ, y1, y2, y3⟩ := hL.1 e hs
          refine ⟨fun e' he => ?_, fun a q he => (by cases he)⟩
          cases he
          refine ⟨τ, ?_, y2, sdF_trans hSa y3⟩
          refine jr_1 jm_241 (show jw_cd cd_241 0 = some (.aload_n 0) by decide +kernel) rfl ?_
          refine jr_1 jm_241 (show jw_cd cd_241 1 = some (.getfield 68) by decide +kernel) (mg_a hl (a := 35) (show jw_fld 34 68 16 = some 24 by decide +kernel) (by decide) (by decide)) ?_
          refine jr_1 jm_241 (show jw_cd cd_241 4 = some (.iload_n 1) by decide +kernel) rfl ?_
          refine jr_1 jm_241 (show jw_cd cd_241 5 = some (.iconst 0) by decide +kernel) rfl ?_
          refine jr_1 jm_241 (show jw_cd cd_241 6 = some (.iastore) by decide +kernel) (ms_i hl (i := dd) (x := 0) 24 (by omega) (by show _ < ((288 : Nat) : Int); omega) (by decide) (by decide) (by decide)) ?_
          refine jr_1 jm_241 (show jw_cd cd_241 7 = some (.aload_n 0) by decide +kernel) rfl ?_
          refine jr_c jm_241 (show jw_cd cd_241 8 = some (.invokevirtual 182) by decide +kernel) (mc_v hl (n := 0) (m2 := 223) (bs := []) (r := []) (show jw_find jw_cvT 34 182 = some (0, [(16, 223)]) by decide +kernel) (by decide) rfl rfl rfl) jm_223 ⟨Nat.le_of_ble_eq_true rfl, by decide⟩ r0 ?_
          refine jr_1 jm_241 (show jw_cd cd_241 11 = some (.ifCond .eq 36) by decide +kernel) (mz_t (q := .eq) (a := 0) (t := 47) (by show 0 = 0; omega) ⟨by omega, by omega⟩ (by decide) (by decide)) ?_
          refine jr_1 jm_241 (show jw_cd cd_241 47 = some (.aload_n 0) by decide +kernel) rfl ?_
          refine jr_c jm_241 (show jw_cd cd_241 48 = some (.invokevirtual 151) by decide +kernel) (mc_v hl (n := 0) (m2 := 215) (bs := []) (r := []) (show jw_find jw_cvT 34 151 = some (0, [(16, 215)]) by decide +kernel) (by decide) rfl rfl rfl) jm_215 ⟨Nat.le_of_ble_eq_true rfl, by decide⟩ (jn_hr hl ht hPz h0 hp) ?_
          refine jr_1 jm_241 (show jw_cd cd_241 51 = some (.bipush 39) by decide +kernel) (mt_bi (by decide)) ?_
          refine jr_1 jm_241 (show jw_cd cd_241 53 = some (.if_icmp .ne 36) by decide +kernel) (mb_t (q := .ne) (a := tH T n p) (b := 39) (t := 89) (by show ¬ (tH T n p = 39); omega) ⟨by omega, by omega⟩ ⟨by omega, by omega⟩ (by decide) (by decide)) ?_
          refine jr_1 jm_241 (show jw_cd cd_241 89 = some (.aload_n 0) by decide +kernel) rfl ?_
          refine jr_1 jm_241 (show jw_cd cd_241 90 = some (.getfield 65) by decide +kernel) (mg_a hl (a := 34) (show jw_fld 34 65 16 = some 23 by decide +kernel) (by decide) (by decide)) ?_
          refine jr_1 jm_241 (show jw_cd cd_241 93 = some (.iload_n 1) by decide +kernel) rfl ?_
          refine jr_1 jm_241 (show jw_cd cd_241 94 = some (.iconst 1) by decide +kernel) rfl ?_
          refine jr_1 jm_241 (show jw_cd cd_241 95 = some (.iastore) by decide +kernel) (ms_i hl (i := dd) (x := 1) 23 (by omega) (by show _ < ((288 : Nat) : Int); omega) (by decide) (by decide) (by decide)) ?_
          refine jr_1 jm_241 (show jw_cd cd_241 96 = some (.aload_n 0) by decide +kernel) rfl ?_
          refine jr_1 jm_241 (show jw_cd cd_241 97 = some (.bipush 64) by decide +kernel) (mt_bi (by decide)) ?_
          refine jr_c jm_241 (show jw_cd cd_241 99 = some (.invokevirtual 170) by decide +kernel) (mc_v hl (n := 1) (m2 := 226) (bs := [.int (Int32.ofInt (64))]) (r := []) (show jw_find jw_cvT 34 170 = some (1, [(16, 226)]) by decide +kernel) (by decide) rfl rfl rfl) jm_226 ⟨Nat.le_of_ble_eq_true rfl, by decide⟩ (jn_takT hl ht hPz1 h0 hp ⟨by decide, by decide⟩ h64) ?_
          refine jr_1 jm_241 (show jw_cd cd_241 102 = some (.ifCond .ne 8) by decide +kernel) (mz_t (q := .ne) (a := 1) (t := 110) (by show ¬ (1 = 0); omega) ⟨by omega, by omega⟩ (by decide) (by decide)) ?_
          exact y1
        | inr x =>
          obtain ⟨ks, q⟩ := x
          obtain ⟨τ, y1, y2, y3, y4, y5, y6, y7⟩ := hL.2 ks q hs
          refine ⟨fun e' he => (by cases he), fun a q he => ?_⟩
          cases he
          refine ⟨τ, ?_, y2, hfin τ ks (by rw [y6, su_nf (by decide), su_eq]) y3 y4 y5, sdF_trans hSa y7⟩
          refine jr_1 jm_241 (show jw_cd cd_241 0 = some (.aload_n 0) by decide +kernel) rfl ?_
          refine jr_1 jm_241 (show jw_cd cd_241 1 = some (.getfield 68) by decide +kernel) (mg_a hl (a := 35) (show jw_fld 34 68 16 = some 24 by decide +kernel) (by decide) (by decide)) ?_
          refine jr_1 jm_241 (show jw_cd cd_241 4 = some (.iload_n 1) by decide +kernel) rfl ?_
          refine jr_1 jm_241 (show jw_cd cd_241 5 = some (.iconst 0) by decide +kernel) rfl ?_
          refine jr_1 jm_241 (show jw_cd cd_241 6 = some (.iastore) by decide +kernel) (ms_i hl (i := dd) (x := 0) 24 (by omega) (by show _ < ((288 : Nat) : Int); omega) (by decide) (by decide) (by decide)) ?_
          refine jr_1 jm_241 (show jw_cd cd_241 7 = some (.aload_n 0) by decide +kernel) rfl ?_
          refine jr_c jm_241 (show jw_cd cd_241 8 = some (.invokevirtual 182) by decide +kernel) (mc_v hl (n := 0) (m2 := 223) (bs := []) (r := []) (show jw_find jw_cvT 34 182 = some (0, [(16, 223)]) by decide +kernel) (by decide) rfl rfl rfl) jm_223 ⟨Nat.le_of_ble_eq_true rfl, by decide⟩ r0 ?_
          refine jr_1 jm_241 (show jw_cd cd_241 11 = some (.ifCond .eq 36) by decide +kernel) (mz_t (q := .eq) (a := 0) (t := 47) (by show 0 = 0; omega) ⟨by omega, by omega⟩ (by decide) (by decide)) ?_
          refine jr_1 jm_241 (show jw_cd cd_241 47 = some (.aload_n 0) by decide +kernel) rfl ?_
          refine jr_c jm_241 (show jw_cd cd_241 48 = some (.invokevirtual 151) by decide +kernel) (mc_v hl (n := 0) (m2 := 215) (bs := []) (r := []) (show jw_find jw_cvT 34 151 = some (0, [(16, 215)]) by decide +kernel) (by decide) rfl rfl rfl) jm_215 ⟨Nat.le_of_ble_eq_true rfl, by decide⟩ (jn_hr hl ht hPz h0 hp) ?_
          refine jr_1 jm_241 (show jw_cd cd_241 51 = some (.bipush 39) by decide +kernel) (mt_bi (by decide)) ?_
          refine jr_1 jm_241 (show jw_cd cd_241 53 = some (.if_icmp .ne 36) by decide +kernel) (mb_t (q := .ne) (a := tH T n p) (b := 39) (t := 89) (by show ¬ (tH T n p = 39); omega) ⟨by omega, by omega⟩ ⟨by omega, by omega⟩ (by decide) (by decide)) ?_
          refine jr_1 jm_241 (show jw_cd cd_241 89 = some (.aload_n 0) by decide +kernel) rfl ?_
          refine jr_1 jm_241 (show jw_cd cd_241 90 = some (.getfield 65) by decide +kernel) (mg_a hl (a := 34) (show jw_fld 34 65 16 = some 23 by decide +kernel) (by decide) (by decide)) ?_
          refine jr_1 jm_241 (show jw_cd cd_241 93 = some (.iload_n 1) by decide +kernel) rfl ?_
          refine jr_1 jm_241 (show jw_cd cd_241 94 = some (.iconst 1) by decide +kernel) rfl ?_
          refine jr_1 jm_241 (show jw_cd cd_241 95 = some (.iastore) by decide +kernel) (ms_i hl (i := dd) (x := 1) 23 (by omega) (by show _ < ((288 : Nat) : Int); omega) (by decide) (by decide) (by decide)) ?_
          refine jr_1 jm_241 (show jw_cd cd_241 96 = some (.aload_n 0) by decide +kernel) rfl ?_
          refine jr_1 jm_241 (show jw_cd cd_241 97 = some (.bipush 64) by decide +kernel) (mt_bi (by decide)) ?_
          refine jr_c jm_241 (show jw_cd cd_241 99 = some (.invokevirtual 170) by decide +kernel) (mc_v hl (n := 1) (m2 := 226) (bs := [.int (Int32.ofInt (64))]) (r := []) (show jw_find jw_cvT 34 170 = some (1, [(16, 226)]) by decide +kernel) (by decide) rfl rfl rfl) jm_226 ⟨Nat.le_of_ble_eq_true rfl, by decide⟩ (jn_takT hl ht hPz1 h0 hp ⟨by decide, by decide⟩ h64) ?_
          refine jr_1 jm_241 (show jw_cd cd_241 102 = some (.ifCond .ne 8) by decide +kernel) (mz_t (q := .ne) (a := 1) (t := 110) (by show ¬ (1 = 0); omega) ⟨by omega, by omega⟩ (by decide) (by decide)) ?_
          exact y1
      · rw [if_neg h64]
        have hkR := sKey_R (T := T) (n := n) (p := p) h0 hp
        cases hs : sKey T n p with
        | inl e =>
          obtain ⟨τ, r1, r2, r3⟩ := jn_skF (β := β) (d := d) (h := h) (dd := dd) hl ht hPz1 h0 hp hs
          have hke := hkR.1 e hs
          refine ⟨fun e' he => ?_, fun a q he => (by cases he)⟩
          cases he
          refine ⟨τ, ?_, r2, sdF_trans (hSw 1) (sdF_q (by decide) r3)⟩
          · skip
            refine jr_1 jm_241 (show jw_cd cd_241 0 = some (.aload_n 0) by decide +kernel) rfl ?_
            refine jr_1 jm_241 (show jw_cd cd_241 1 = some (.getfield 68) by decide +kernel) (mg_a hl (a := 35) (show jw_fld 34 68 16 = some 24 by decide +kernel) (by decide) (by decide)) ?_
            refine jr_1 jm_241 (show jw_cd cd_241 4 = some (.iload_n 1) by decide +kernel) rfl ?_
            refine jr_1 jm_241 (show jw_cd cd_241 5 = some (.iconst 0) by decide +kernel) rfl ?_
            refine jr_1 jm_241 (show jw_cd cd_241 6 = some (.iastore) by decide +kernel) (ms_i hl (i := dd) (x := 0) 24 (by omega) (by show _ < ((288 : Nat) : Int); omega) (by decide) (by decide) (by decide)) ?_
            refine jr_1 jm_241 (show jw_cd cd_241 7 = some (.aload_n 0) by decide +kernel) rfl ?_
            refine jr_c jm_241 (show jw_cd cd_241 8 = some (.invokevirtual 182) by decide +kernel) (mc_v hl (n := 0) (m2 := 223) (bs := []) (r := []) (show jw_find jw_cvT 34 182 = some (0, [(16, 223)]) by decide +kernel) (by decide) rfl rfl rfl) jm_223 ⟨Nat.le_of_ble_eq_true rfl, by decide⟩ r0 ?_
            refine jr_1 jm_241 (show jw_cd cd_241 11 = some (.ifCond .eq 36) by decide +kernel) (mz_t (q := .eq) (a := 0) (t := 47) (by show 0 = 0; omega) ⟨by omega, by omega⟩ (by decide) (by decide)) ?_
            refine jr_1 jm_241 (show jw_cd cd_241 47 = some (.aload_n 0) by decide +kernel) rfl ?_
            refine jr_c jm_241 (show jw_cd cd_241 48 = some (.invokevirtual 151) by decide +kernel) (mc_v hl (n := 0) (m2 := 215) (bs := []) (r := []) (show jw_find jw_cvT 34 151 = some (0, [(16, 215)]) by decide +kernel) (by decide) rfl rfl rfl) jm_215 ⟨Nat.le_of_ble_eq_true rfl, by decide⟩ (jn_hr hl ht hPz h0 hp) ?_
            refine jr_1 jm_241 (show jw_cd cd_241 51 = some (.bipush 39) by decide +kernel) (mt_bi (by decide)) ?_
            refine jr_1 jm_241 (show jw_cd cd_241 53 = some (.if_icmp .ne 36) by decide +kernel) (mb_t (q := .ne) (a := tH T n p) (b := 39) (t := 89) (by show ¬ (tH T n p = 39); omega) ⟨by omega, by omega⟩ ⟨by omega, by omega⟩ (by decide) (by decide)) ?_
            refine jr_1 jm_241 (show jw_cd cd_241 89 = some (.aload_n 0) by decide +kernel) rfl ?_
            refine jr_1 jm_241 (show jw_cd cd_241 90 = some (.getfield 65) by decide +kernel) (mg_a hl (a := 34) (show jw_fld 34 65 16 = some 23 by decide +kernel) (by decide) (by decide)) ?_
            refine jr_1 jm_241 (show jw_cd cd_241 93 = some (.iload_n 1) by decide +kernel) rfl ?_
            refine jr_1 jm_241 (show jw_cd cd_241 94 = some (.iconst 1) by decide +kernel) rfl ?_
            refine jr_1 jm_241 (show jw_cd cd_241 95 = some (.iastore) by decide +kernel) (ms_i hl (i := dd) (x := 1) 23 (by omega) (by show _ < ((288 : Nat) : Int); omega) (by decide) (by decide) (by decide)) ?_
            refine jr_1 jm_241 (show jw_cd cd_241 96 = some (.aload_n 0) by decide +kernel) rfl ?_
            refine jr_1 jm_241 (show jw_cd cd_241 97 = some (.bipush 64) by decide +kernel) (mt_bi (by decide)) ?_
            refine jr_c jm_241 (show jw_cd cd_241 99 = some (.invokevirtual 170) by decide +kernel) (mc_v hl (n := 1) (m2 := 226) (bs := [.int (Int32.ofInt (64))]) (r := []) (show jw_find jw_cvT 34 170 = some (1, [(16, 226)]) by decide +kernel) (by decide) rfl rfl rfl) jm_226 ⟨Nat.le_of_ble_eq_true rfl, by decide⟩ (jn_takF hl ht hPz1 h0 hp ⟨by decide, by decide⟩ h64) ?_
            refine jr_1 jm_241 (show jw_cd cd_241 102 = some (.ifCond .ne 8) by decide +kernel) (mz_f (q := .ne) (a := 0) (by show ¬ (¬ (0 = 0)); omega) ⟨by omega, by omega⟩ (by decide)) ?_
            refine jr_1 jm_241 (show jw_cd cd_241 105 = some (.aload_n 0) by decide +kernel) rfl ?_
            refine jr_1 jm_241 (show jw_cd cd_241 106 = some (.iload_n 1) by decide +kernel) rfl ?_
            refine jr_c jm_241 (show jw_cd cd_241 107 = some (.invokevirtual 255) by decide +kernel) (mc_v hl (n := 1) (m2 := 242) (bs := [.int (Int32.ofInt (dd))]) (r := []) (show jw_find jw_cvT 34 255 = some (1, [(16, 242)]) by decide +kernel) (by decide) rfl rfl rfl) jm_242 ⟨Nat.le_of_ble_eq_true rfl, by decide⟩ r1 ?_
            refine jr_1 jm_241 (show jw_cd cd_241 110 = some (.aload_n 0) by decide +kernel) rfl ?_
            refine jr_1 jm_241 (show jw_cd cd_241 111 = some (.getfield 148) by decide +kernel) (mg_i hl (e := -1 - e) r2 (show jw_fld 34 148 16 = some 29 by decide +kernel) (by decide) (by decide)) ?_
            refine jr_1 jm_241 (show jw_cd cd_241 114 = some (.ifCond .ne 55) by decide +kernel) (mz_t (q := .ne) (a := -1 - e) (t := 169) (by show ¬ (-1 - e = 0); omega) ⟨by omega, by omega⟩ (by decide) (by decide)) ?_
            exact jr_v jm_241 (show jw_cd cd_241 169 = some (.return_) by decide +kernel) rfl
        | inr x =>
          obtain ⟨s, q⟩ := x
          obtain ⟨k1, k2, k3⟩ := hkR.2 s q hs
          have r1 := jn_skT (β := β) (d := d) (h := h) (dd := dd) (K := 0) hl ht hPz1 h0 hp hd (by rw [su_nf (by decide), su_eq]) ⟨by decide, by decide⟩ hs
          obtain ⟨m1, m2, m3, m4, m5, m6⟩ := mSk_F (dd := dd) (K := 0) (q := q) (s := s) hPz1 ⟨by decide, by decide⟩
          have hSa := sdF_trans (hSw 1) m1
          have hL := jn_sd_loop (β := β) (d := d) (h := h) (c2 := none) hl ht hd 3 [s] q (mSk (su (su σ 24 dd 0) 23 dd 1) dd 0 q s) rfl (by decide) (fun t h => by rw [List.mem_singleton.mp h]; exact k3) (by omega) k2 m2 (by rw [m3]; rfl) ⟨⟨m4, k3⟩, trivial⟩
          dsimp only
          cases hs2 : sPth T n 3 [s] q with
          | inl e =>
            obtain ⟨τ, y1, y2, y3⟩ := hL.1 e hs2
            refine ⟨fun e' he => ?_, fun a q he => (by cases he)⟩
            cases he
            refine ⟨τ, ?_, y2, sdF_trans hSa y3⟩
            refine jr_1 jm_241 (show jw_cd cd_241 0 = some (.aload_n 0) by decide +kernel) rfl ?_
            refine jr_1 jm_241 (show jw_cd cd_241 1 = some (.getfield 68) by decide +kernel) (mg_a hl (a := 35) (show jw_fld 34 68 16 = some 24 by decide +kernel) (by decide) (by decide)) ?_
            refine jr_1 jm_241 (show jw_cd cd_241 4 = some (.iload_n 1) by decide +kernel) rfl ?_
            refine jr_1 jm_241 (show jw_cd cd_241 5 = some (.iconst 0) by decide +kernel) rfl ?_
            refine jr_1 jm_241 (show jw_cd cd_241 6 = some (.iastore) by decide +kernel) (ms_i hl (i := dd) (x := 0) 24 (by omega) (by show _ < ((288 : Nat) : Int); omega) (by decide) (by decide) (by decide)) ?_
            refine jr_1 jm_241 (show jw_cd cd_241 7 = some (.aload_n 0) by decide +kernel) rfl ?_
            refine jr_c jm_241 (show jw_cd cd_241 8 = some (.invokevirtual 182) by decide +kernel) (mc_v hl (n := 0) (m2 := 223) (bs := []) (r := []) (show jw_find jw_cvT 34 182 = some (0, [(16, 223)]) by decide +kernel) (by decide) rfl rfl rfl) jm_223 ⟨Nat.le_of_ble_eq_true rfl, by decide⟩ r0 ?_
            refine jr_1 jm_241 (show jw_cd cd_241 11 = some (.ifCond .eq 36) by decide +kernel) (mz_t (q := .eq) (a := 0) (t := 47) (by show 0 = 0; omega) ⟨by omega, by omega⟩ (by decide) (by decide)) ?_
            refine jr_1 jm_241 (show jw_cd cd_241 47 = some (.aload_n 0) by decide +kernel) rfl ?_
            refine jr_c jm_241 (show jw_cd cd_241 48 = some (.invokevirtual 151) by decide +kernel) (mc_v hl (n := 0) (m2 := 215) (bs := []) (r := []) (show jw_find jw_cvT 34 151 = some (0, [(16, 215)]) by decide +kernel) (by decide) rfl rfl rfl) jm_215 ⟨Nat.le_of_ble_eq_true rfl, by decide⟩ (jn_hr hl ht hPz h0 hp) ?_
            refine jr_1 jm_241 (show jw_cd cd_241 51 = some (.bipush 39) by decide +kernel) (mt_bi (by decide)) ?_
            refine jr_1 jm_241 (show jw_cd cd_241 53 = some (.if_icmp .ne 36) by decide +kernel) (mb_t (q := .ne) (a := tH T n p) (b := 39) (t := 89) (by show ¬ (tH T n p = 39); omega) ⟨by omega, by omega⟩ ⟨by omega, by omega⟩ (by decide) (by decide)) ?_
            refine jr_1 jm_241 (show jw_cd cd_241 89 = some (.aload_n 0) by decide +kernel) rfl ?_
            refine jr_1 jm_241 (show jw_cd cd_241 90 = some (.getfield 65) by decide +kernel) (mg_a hl (a := 34) (show jw_fld 34 65 16 = some 23 by decide +kernel) (by decide) (by decide)) ?_
            refine jr_1 jm_241 (show jw_cd cd_241 93 = some (.iload_n 1) by decide +kernel) rfl ?_
            refine jr_1 jm_241 (show jw_cd cd_241 94 = some (.iconst 1) by decide +kernel) rfl ?_
            refine jr_1 jm_241 (show jw_cd cd_241 95 = some (.iastore) by decide +kernel) (ms_i hl (i := dd) (x := 1) 23 (by omega) (by show _ < ((288 : Nat) : Int); omega) (by decide) (by decide) (by decide)) ?_
            refine jr_1 jm_241 (show jw_cd cd_241 96 = some (.aload_n 0) by decide +kernel) rfl ?_
            refine jr_1 jm_241 (show jw_cd cd_241 97 = some (.bipush 64) by decide +kernel) (mt_bi (by decide)) ?_
            refine jr_c jm_241 (show jw_cd cd_241 99 = some (.invokevirtual 170) by decide +kernel) (mc_v hl (n := 1) (m2 := 226) (bs := [.int (Int32.ofInt (64))]) (r := []) (show jw_find jw_cvT 34 170 = some (1, [(16, 226)]) by decide +kernel) (by decide) rfl rfl rfl) jm_226 ⟨Nat.le_of_ble_eq_true rfl, by decide⟩ (jn_takF hl ht hPz1 h0 hp ⟨by decide, by decide⟩ h64) ?_
            refine jr_1 jm_241 (show jw_cd cd_241 102 = some (.ifCond .ne 8) by decide +kernel) (mz_f (q := .ne) (a := 0) (by show ¬ (¬ (0 = 0)); omega) ⟨by omega, by omega⟩ (by decide)) ?_
            refine jr_1 jm_241 (show jw_cd cd_241 105 = some (.aload_n 0) by decide +kernel) rfl ?_
            refine jr_1 jm_241 (show jw_cd cd_241 106 = some (.iload_n 1) by decide +kernel) rfl ?_
            refine jr_c jm_241 (show jw_cd cd_241 107 = some (.invokevirtual 255) by decide +kernel) (mc_v hl (n := 1) (m2 := 242) (bs := [.int (Int32.ofInt (dd))]) (r := []) (show jw_find jw_cvT 34 255 = some (1, [(16, 242)]) by decide +kernel) (by decide) rfl rfl rfl) jm_242 ⟨Nat.le_of_ble_eq_true rfl, by decide⟩ r1 ?_
            exact y1
          | inr x =>
            obtain ⟨ks, q2⟩ := x
            obtain ⟨τ, y1, y2, y3, y4, y5, y6, y7⟩ := hL.2 ks q2 hs2
            refine ⟨fun e' he => (by cases he), fun a q he => ?_⟩
            cases he
            refine ⟨τ, ?_, y2, hfin τ ks (by rw [y6, m6, su_eq]) y3 y4 y5, sdF_trans hSa y7⟩
            refine jr_1 jm_241 (show jw_cd cd_241 0 = some (.aload_n 0) by decide +kernel) rfl ?_
            refine jr_1 jm_241 (show jw_cd cd_241 1 = some (.getfield 68) by decide +kernel) (mg_a hl (a := 35) (show jw_fld 34 68 16 = some 24 by decide +kernel) (by decide) (by decide)) ?_
            refine jr_1 jm_241 (show jw_cd cd_241 4 = some (.iload_n 1) by decide +kernel) rfl ?_
            refine jr_1 jm_241 (show jw_cd cd_241 5 = some (.iconst 0) by decide +kernel) rfl ?_
            refine jr_1 jm_241 (show jw_cd cd_241 6 = some (.iastore) by decide +kernel) (ms_i hl (i := dd) (x := 0) 24 (by omega) (by show _ < ((288 : Nat) : Int); omega) (by decide) (by decide) (by decide)) ?_
            refine jr_1 jm_241 (show jw_cd cd_241 7 = some (.aload_n 0) by decide +kernel) rfl ?_
            refine jr_c jm_241 (show jw_cd cd_241 8 = some (.invokevirtual 182) by decide +kernel) (mc_v hl (n := 0) (m2 := 223) (bs := []) (r := []) (show jw_find jw_cvT 34 182 = some (0, [(16, 223)]) by decide +kernel) (by decide) rfl rfl rfl) jm_223 ⟨Nat.le_of_ble_eq_true rfl, by decide⟩ r0 ?_
            refine jr_1 jm_241 (show jw_cd cd_241 11 = some (.ifCond .eq 36) by decide +kernel) (mz_t (q := .eq) (a := 0) (t := 47) (by show 0 = 0; omega) ⟨by omega, by omega⟩ (by decide) (by decide)) ?_
            refine jr_1 jm_241 (show jw_cd cd_241 47 = some (.aload_n 0) by decide +kernel) rfl ?_
            refine jr_c jm_241 (show jw_cd cd_241 48 = some (.invokevirtual 151) by decide +kernel) (mc_v hl (n := 0) (m2 := 215) (bs := []) (r := []) (show jw_find jw_cvT 34 151 = some (0, [(16, 215)]) by decide +kernel) (by decide) rfl rfl rfl) jm_215 ⟨Nat.le_of_ble_eq_true rfl, by decide⟩ (jn_hr hl ht hPz h0 hp) ?_
            refine jr_1 jm_241 (show jw_cd cd_241 51 = some (.bipush 39) by decide +kernel) (mt_bi (by decide)) ?_
            refine jr_1 jm_241 (show jw_cd cd_241 53 = some (.if_icmp .ne 36) by decide +kernel) (mb_t (q := .ne) (a := tH T n p) (b := 39) (t := 89) (by show ¬ (tH T n p = 39); omega) ⟨by omega, by omega⟩ ⟨by omega, by omega⟩ (by decide) (by decide)) ?_
            refine jr_1 jm_241 (show jw_cd cd_241 89 = some (.aload_n 0) by decide +kernel) rfl ?_
            refine jr_1 jm_241 (show jw_cd cd_241 90 = some (.getfield 65) by decide +kernel) (mg_a hl (a := 34) (show jw_fld 34 65 16 = some 23 by decide +kernel) (by decide) (by decide)) ?_
            refine jr_1 jm_241 (show jw_cd cd_241 93 = some (.iload_n 1) by decide +kernel) rfl ?_
            refine jr_1 jm_241 (show jw_cd cd_241 94 = some (.iconst 1) by decide +kernel) rfl ?_
            refine jr_1 jm_241 (show jw_cd cd_241 95 = some (.iastore) by decide +kernel) (ms_i hl (i := dd) (x := 1) 23 (by omega) (by show _ < ((288 : Nat) : Int); omega) (by decide) (by decide) (by decide)) ?_
            refine jr_1 jm_241 (show jw_cd cd_241 96 = some (.aload_n 0) by decide +kernel) rfl ?_
            refine jr_1 jm_241 (show jw_cd cd_241 97 = some (.bipush 64) by decide +kernel) (mt_bi (by decide)) ?_
            refine jr_c jm_241 (show jw_cd cd_241 99 = some (.invokevirtual 170) by decide +kernel) (mc_v hl (n := 1) (m2 := 226) (bs := [.int (Int32.ofInt (64))]) (r := []) (show jw_find jw_cvT 34 170 = some (1, [(16, 226)]) by decide +kernel) (by decide) rfl rfl rfl) jm_226 ⟨Nat.le_of_ble_eq_true rfl, by decide⟩ (jn_takF hl ht hPz1 h0 hp ⟨by decide, by decide⟩ h64) ?_
            refine jr_1 jm_241 (show jw_cd cd_241 102 = some (.ifCond .ne 8) by decide +kernel) (mz_f (q := .ne) (a := 0) (by show ¬ (¬ (0 = 0)); omega) ⟨by omega, by omega⟩ (by decide)) ?_
            refine jr_1 jm_241 (show jw_cd cd_241 105 = some (.aload_n 0) by decide +kernel) rfl ?_
            refine jr_1 jm_241 (show jw_cd cd_241 106 = some (.iload_n 1) by decide +kernel) rfl ?_
            refine jr_c jm_241 (show jw_cd cd_241 107 = some (.invokevirtual 255) by decide +kernel) (mc_v hl (n := 1) (m2 := 242) (bs := [.int (Int32.ofInt (dd))]) (r := []) (show jw_find jw_cvT 34 255 = some (1, [(16, 242)]) by decide +kernel) (by decide) rfl rfl rfl) jm_242 ⟨Nat.le_of_ble_eq_true rfl, by decide⟩ r1 ?_
            exact y1
