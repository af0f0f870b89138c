/-! ===== the model's load (printed by program: gen33.py) ===== -/
/-- the text read as a value: where it is wrong, or the value -/
def sLoad (T : Int → Int) (n : Int) : Int ⊕ (tI × FT) := match sP T n 400 (.inl (0, 0)) with
  | .inl e => .inl e
  | .inr (i, F, q) => if q < n then .inl q else .inr (i, F)
theorem sLoad_ok {T : Int → Int} {n : Int} (ht : tOK T n) {i : tI} {F : FT} (h : sLoad T n = .inr (i, F)) : iok i ∧ i.2.2.2 = [] ∧ fwf F ∧ (fct F : Int) + 1 ≤ n := by
  unfold sLoad at h
  cases hx : sP T n 400 (.inl (0, 0)) with
  | inl e => rw [hx] at h; cases h
  | inr y =>
    obtain ⟨i2, F2, q⟩ := y
    rw [hx] at h
    dsimp only at h
    obtain ⟨k1, k2, k3, k4, k5, k6⟩ := ((sP_ok ht 400).1 0 0 (by omega) ht.1).1 i2 F2 q hx
    split at h
    · cases h
    · cases h
      exact ⟨k3, k4, k5, by omega⟩
theorem sLoad_er {T : Int → Int} {n : Int} (ht : tOK T n) {e : Int} (h : sLoad T n = .inl e) : 0 ≤ e ∧ e ≤ n := by
  unfold sLoad at h
  have ok := (sP_ok ht 400).1 0 0 (by omega) ht.1
  cases hx : sP T n 400 (.inl (0, 0)) with
  | inl e2 =>
    rw [hx] at h
    obtain rfl : e2 = e := by cases h; rfl
    exact ok.2 e2 hx
  | inr y =>
    obtain ⟨i2, F2, q⟩ := y
    rw [hx] at h
    dsimp only at h
    have := ok.1 i2 F2 q hx
    split at h
    · cases h
      omega
    · cases h
theorem jn_readValue_ok {β : Bool} {d : Nat} {h : jx_H} (hl : 49 ≤ h.length) {T : Int → Int} {n : Int} (ht : tOK T n) {τ : mS} (hr : rs T n τ 0 680 680) {i : tI} {F : FT} (hs : sLoad T n = .inr (i, F)) : ∃ (τ' : mS) (v : Int), jx_r (jz β) jw_M (d + 6) 214 (0, [some (.ref 15), none, none, none, none], [], ml_mk h τ) (ml_mk h (τ'), .inl (some (.int (Int32.ofInt (v))))) ∧ τ' 29 0 = 0 ∧ mV τ' (In 680 1740) (In 680 1740) v i F ∧ fe τ τ' := by
  unfold sLoad at hs
  cases hx : sP T n 400 (.inl (0, 0)) with
  | inl e => rw [hx] at hs; cases hs
  | inr y =>
    obtain ⟨i2, F2, q⟩ := y
    rw [hx] at hs
    dsimp only at hs
    split at hs
    · cases hs
    rename_i hq
    obtain ⟨rfl, rfl⟩ : i2 = i ∧ F2 = F := by cases hs; exact ⟨rfl, rfl⟩
    obtain ⟨t0, t1, t2⟩ := id ht
    obtain ⟨τ', v, c4', N', C', z1, z2, z3, z4, z5, z6, z7⟩ := ((jn_VJ (β := β) (d := d) hl ht 400).1 0 0 680 680 τ (some (.int (Int32.ofInt (-1)))) none (by decide) hr (by omega)).1 i2 F2 q hx
    obtain ⟨r1, r2, r3, r4, r5, r6, r7, r8, r9, r10, r11⟩ := id z2
    obtain ⟨⟨v0, v1⟩, zN, zF⟩ := z6
    refine ⟨τ', v, ?_, r4, ⟨⟨v0, by omega⟩, zN, mF_mono (fun x hx => ⟨hx.1, by have := hx.2; omega⟩) (fun x hx => ⟨hx.1, by have := hx.2; omega⟩) _ _ zF⟩, fe_of z7 (Int.le_refl _) (Int.le_refl _)⟩
    refine jr_1 jm_214 (show jw_cd cd_214 0 = some (.iconst (-1)) by decide +kernel) rfl ?_
    refine jr_1 jm_214 (F2 := (2, [some (.ref 15), some (.int (Int32.ofInt (-1))), none, none, none], [], ml_mk h τ)) (show jw_cd cd_214 1 = some (.istore_n 1) by decide +kernel) rfl ?_
    refine jr_1 jm_214 (show jw_cd cd_214 2 = some (.iconst (-1)) by decide +kernel) rfl ?_
    refine jr_1 jm_214 (F2 := (4, [some (.ref 15), some (.int (Int32.ofInt (-1))), some (.int (Int32.ofInt (-1))), none, none], [], ml_mk h τ)) (show jw_cd cd_214 3 = some (.istore_n 2) by decide +kernel) rfl ?_
    refine jr_1 jm_214 (show jw_cd cd_214 4 = some (.iconst (-1)) by decide +kernel) rfl ?_
    refine jr_1 jm_214 (F2 := (6, [some (.ref 15), some (.int (Int32.ofInt (-1))), some (.int (Int32.ofInt (-1))), some (.int (Int32.ofInt (-1))), none], [], ml_mk h τ)) (show jw_cd cd_214 5 = some (.istore_n 3) by decide +kernel) rfl ?_
    exact z1 _ (jr_fin hl ht r1 r2 r3 r10 r11 r4 ⟨by omega, by omega⟩ (by omega))
theorem jn_readValue_er {β : Bool} {d : Nat} {h : jx_H} (hl : 49 ≤ h.length) {T : Int → Int} {n : Int} (ht : tOK T n) {τ : mS} (hr : rs T n τ 0 680 680) {e : Int} (hs : sLoad T n = .inl e) : ∃ (τ' : mS) (v : Int), jx_r (jz β) jw_M (d + 6) 214 (0, [some (.ref 15), none, none, none, none], [], ml_mk h τ) (ml_mk h (τ'), .inl (some (.int (Int32.ofInt (v))))) ∧ τ' 29 0 = -1 - e ∧ fe τ τ' := by
  unfold sLoad at hs
  obtain ⟨t0, t1, t2⟩ := id ht
  have key := (jn_VJ (β := β) (d := d) hl ht 400).1 0 0 680 680 τ (some (.int (Int32.ofInt (-1)))) none (by decide) hr (by omega)
  cases hx : sP T n 400 (.inl (0, 0)) with
  | inl e2 =>
    rw [hx] at hs
    obtain rfl : e2 = e := by cases hs; rfl
    obtain ⟨τ', r, z1, z2, z3⟩ := key.2 e2 hx
    refine ⟨τ', r, ?_, z2, z3⟩
    refine jr_1 jm_214 (show jw_cd cd_214 0 = some (.iconst (-1)) by decide +kernel) rfl ?_
    refine jr_1 jm_214 (F2 := (2, [some (.ref 15), some (.int (Int32.ofInt (-1))), none, none, none], [], ml_mk h τ)) (show jw_cd cd_214 1 = some (.istore_n 1) by decide +kernel) rfl ?_
    refine jr_1 jm_214 (show jw_cd cd_214 2 = some (.iconst (-1)) by decide +kernel) rfl ?_
    refine jr_1 jm_214 (F2 := (4, [some (.ref 15), some (.int (Int32.ofInt (-1))), some (.int (Int32.ofInt (-1))), none, none], [], ml_mk h τ)) (show jw_cd cd_214 3 = some (.istore_n 2) by decide +kernel) rfl ?_
    refine jr_1 jm_214 (show jw_cd cd_214 4 = some (.iconst (-1)) by decide +kernel) rfl ?_
    refine jr_1 jm_214 (F2 := (6, [some (.ref 15), some (.int (Int32.ofInt (-1))), some (.int (Int32.ofInt (-1))), some (.int (Int32.ofInt (-1))), none], [], ml_mk h τ)) (show jw_cd cd_214 5 = some (.istore_n 3) by decide +kernel) rfl ?_
    exact z1
  | inr y =>
    obtain ⟨i2, F2, q⟩ := y
    rw [hx] at hs
    dsimp only at hs
    split at hs
    · rename_i hq
      obtain rfl : q = e := by cases hs; rfl
      obtain ⟨τ', v, c4', N', C', z1, z2, z3, z4, z5, z6, z7⟩ := key.1 i2 F2 q hx
      obtain ⟨r1, r2, r3, r4, r5, r6, r7, r8, r9, r10, r11⟩ := id z2
      obtain ⟨⟨v0, v1⟩, zN, zF⟩ := z6
      refine ⟨mWrong τ' q, v, ?_, mWrong_0 r4, fe_trans (fe_of z7 (Int.le_refl _) (Int.le_refl _)) (fe_eq (mEq_wrong (mEq_refl [29] _) (by decide)) (by decide))⟩
      refine jr_1 jm_214 (show jw_cd cd_214 0 = some (.iconst (-1)) by decide +kernel) rfl ?_
      refine jr_1 jm_214 (F2 := (2, [some (.ref 15), some (.int (Int32.ofInt (-1))), none, none, none], [], ml_mk h τ)) (show jw_cd cd_214 1 = some (.istore_n 1) by decide +kernel) rfl ?_
      refine jr_1 jm_214 (show jw_cd cd_214 2 = some (.iconst (-1)) by decide +kernel) rfl ?_
      refine jr_1 jm_214 (F2 := (4, [some (.ref 15), some (.int (Int32.ofInt (-1))), some (.int (Int32.ofInt (-1))), none, none], [], ml_mk h τ)) (show jw_cd cd_214 3 = some (.istore_n 2) by decide +kernel) rfl ?_
      refine jr_1 jm_214 (show jw_cd cd_214 4 = some (.iconst (-1)) by decide +kernel) rfl ?_
      refine jr_1 jm_214 (F2 := (6, [some (.ref 15), some (.int (Int32.ofInt (-1))), some (.int (Int32.ofInt (-1))), some (.int (Int32.ofInt (-1))), none], [], ml_mk h τ)) (show jw_cd cd_214 5 = some (.istore_n 3) by decide +kernel) rfl ?_
      exact z1 _ (jr_more hl ht r1 r2 r3 r10 r11 r4 ⟨by omega, by omega⟩ hq)
    · cases hs
theorem jn_load_er {β : Bool} {d : Nat} {h : jx_H} {σ : mS} (hl : 49 ≤ h.length) {T : Int → Int} {n : Int} (ht : tOK T n) (e1 : σ 1 = T) (e2 : σ 2 0 = n) {e : Int} (hs : sLoad T n = .inl e) : ∃ τ, jx_r (jz β) jw_M (d + 6 + 1) 211 (0, [some (.ref 15), none], [], ml_mk h σ) (ml_mk h (τ), .inl (some (.int (Int32.ofInt (-1 - e))))) ∧ τ 0 0 = 0 ∧ τ 2 0 = 0 ∧ (∀ f v, 3 ≤ f → f ≤ 10 → v < 680 → τ f v = σ f v) ∧ (∀ f, f ∈ [1, 13, 14, 15, 16, 17, 18, 19, 20, 21, 22, 23, 24, 25, 26, 27] → τ f = σ f) := by
  have hr : rs T n (mEmpty (mBegin (su σ 0 (0) (0))) (4)) 0 680 680 := by
    refine ⟨?_, ?_, ?_, ?_, ?_, ?_, by decide, by decide, by decide, by decide, ht.1⟩
    · show su (su (su (su (su σ 0 0 0) 28 0 0) 29 0 0) 11 4 0) 12 4 0 1 = T
      rw [su_row (by decide), su_row (by decide), su_row (by decide), su_row (by decide), su_row (by decide)]
      exact e1
    · show su (su (su (su (su σ 0 0 0) 28 0 0) 29 0 0) 11 4 0) 12 4 0 2 0 = n
      rw [su_nf (by decide), su_nf (by decide), su_nf (by decide), su_nf (by decide), su_nf (by decide)]
      exact e2
    · show su (su (su (su (su σ 0 0 0) 28 0 0) 29 0 0) 11 4 0) 12 4 0 28 0 = 0
      rw [su_nf (by decide), su_nf (by decide), su_nf (by decide), su_eq]
    · show su (su (su (su (su σ 0 0 0) 28 0 0) 29 0 0) 11 4 0) 12 4 0 29 0 = 0
      rw [su_nf (by decide), su_nf (by decide), su_eq]
    · show su (su (su (su (su σ 0 0 0) 28 0 0) 29 0 0) 11 4 0) 12 4 0 11 4 = _
      rw [su_nf (by decide), su_eq]
      rfl
    · show su (su (su (su (su σ 0 0 0) 28 0 0) 29 0 0) 11 4 0) 12 4 0 12 4 = _
      rw [su_eq]
      rfl
  have hf0 : ∀ g, g ∉ [0, 11, 12, 28, 29] → (mEmpty (mBegin (su σ 0 (0) (0))) (4)) g = σ g := fun g hg => by
    simp only [List.mem_cons, List.mem_nil_iff, or_false, not_or] at hg
    show su (su (su (su (su σ 0 0 0) 28 0 0) 29 0 0) 11 4 0) 12 4 0 g = σ g
    rw [su_row hg.2.2.1, su_row hg.2.1, su_row hg.2.2.2.2, su_row hg.2.2.2.1, su_row hg.1]
  have hf00 : (mEmpty (mBegin (su σ 0 (0) (0))) (4)) 0 0 = 0 := by
    show su (su (su (su (su σ 0 0 0) 28 0 0) 29 0 0) 11 4 0) 12 4 0 0 0 = 0
    rw [su_nf (by decide), su_nf (by decide), su_nf (by decide), su_nf (by decide), su_eq]
  obtain ⟨τ', v, z1, z2, z3⟩ := jn_readValue_er (β := β) (d := d) hl ht hr hs
  have hee := sLoad_er ht hs
  obtain ⟨t0, t1, t2⟩ := id ht
  refine ⟨(su τ' 2 (0) (0)), ?_, ?_, su_eq _ _ _ _, fun f v f1 f2 hv => ?_, fun f hf => ?_⟩
  · skip
    refine jr_1 jm_211 (show jw_cd cd_211 0 = some (.aload_n 0) by decide +kernel) rfl ?_
    refine jr_1 jm_211 (show jw_cd cd_211 1 = some (.iconst 0) by decide +kernel) rfl ?_
    refine jr_1 jm_211 (show jw_cd cd_211 2 = some (.putfield 121) by decide +kernel) (mp_i hl (x := 0) (show jw_fld 34 121 16 = some 0 by decide +kernel) (by decide) (by decide) (show jw_ft 16 0 = some .int by decide +kernel) (show jw_fm 34 16 0 = some false by decide +kernel)) ?_
    refine jr_1 jm_211 (show jw_cd cd_211 5 = some (.aload_n 0) by decide +kernel) rfl ?_
    refine jr_c jm_211 (show jw_cd cd_211 6 = some (.invokevirtual 205) by decide +kernel) (mc_v hl (n := 0) (m2 := 212) (bs := []) (r := []) (show jw_find jw_cvT 34 205 = some (0, [(16, 212)]) by decide +kernel) (by decide) rfl rfl rfl) jm_212 ⟨Nat.le_of_ble_eq_true rfl, by decide⟩ (jn_begin hl) ?_
    refine jr_1 jm_211 (show jw_cd cd_211 9 = some (.aload_n 0) by decide +kernel) rfl ?_
    refine jr_1 jm_211 (show jw_cd cd_211 10 = some (.iconst 4) by decide +kernel) rfl ?_
    refine jr_c jm_211 (show jw_cd cd_211 11 = some (.invokevirtual 124) by decide +kernel) (mc_v hl (n := 1) (m2 := 213) (bs := [.int (Int32.ofInt (4))]) (r := []) (show jw_find jw_cvT 34 124 = some (1, [(16, 213)]) by decide +kernel) (by decide) rfl rfl rfl) jm_213 ⟨Nat.le_of_ble_eq_true rfl, by decide⟩ (jn_empty hl ⟨by decide, by decide⟩) ?_
    refine jr_1 jm_211 (show jw_cd cd_211 14 = some (.aload_n 0) by decide +kernel) rfl ?_
    refine jr_c jm_211 (show jw_cd cd_211 15 = some (.invokevirtual 208) by decide +kernel) (mc_v hl (n := 0) (m2 := 214) (bs := []) (r := []) (show jw_find jw_cvT 34 208 = some (0, [(16, 214)]) by decide +kernel) (by decide) rfl rfl rfl) jm_214 ⟨Nat.le_of_ble_eq_true rfl, by decide⟩ z1 ?_
    refine jr_1 jm_211 (F2 := (19, [some (.ref 15), some (.int (Int32.ofInt (v)))], [], ml_mk h τ')) (show jw_cd cd_211 18 = some (.istore_n 1) by decide +kernel) rfl ?_
    refine jr_1 jm_211 (show jw_cd cd_211 19 = some (.aload_n 0) by decide +kernel) rfl ?_
    refine jr_1 jm_211 (show jw_cd cd_211 20 = some (.iconst 0) by decide +kernel) rfl ?_
    refine jr_1 jm_211 (show jw_cd cd_211 21 = some (.putfield 142) by decide +kernel) (mp_i hl (x := 0) (show jw_fld 34 142 16 = some 2 by decide +kernel) (by decide) (by decide) (show jw_ft 16 2 = some .int by decide +kernel) (show jw_fm 34 16 2 = some false by decide +kernel)) ?_
    refine jr_1 jm_211 (show jw_cd cd_211 24 = some (.aload_n 0) by decide +kernel) rfl ?_
    refine jr_1 jm_211 (show jw_cd cd_211 25 = some (.getfield 148) by decide +kernel) (mg_i hl (e := -1 - e) ((su_nf (by decide)).trans z2) (show jw_fld 34 148 16 = some 29 by decide +kernel) (by decide) (by decide)) ?_
    refine jr_1 jm_211 (show jw_cd cd_211 28 = some (.ifCond .ge 8) by decide +kernel) (mz_f (q := .ge) (a := -1 - e) (by show ¬ (0 ≤ -1 - e); omega) ⟨by omega, by omega⟩ (by decide)) ?_
    refine jr_1 jm_211 (show jw_cd cd_211 31 = some (.aload_n 0) by decide +kernel) rfl ?_
    refine jr_1 jm_211 (show jw_cd cd_211 32 = some (.getfield 148) by decide +kernel) (mg_i hl (e := -1 - e) ((su_nf (by decide)).trans z2) (show jw_fld 34 148 16 = some 29 by decide +kernel) (by decide) (by decide)) ?_
    exact jr_v jm_211 (show jw_cd cd_211 35 = some (.ireturn) by decide +kernel) rfl
  · rw [su_nf (by decide), z3.2.2 0 (by decide)]
    exact hf00
  · rw [su_nf (by omega), z3.1 f v f1 f2 hv, hf0 f (by simp; omega)]
  · have hf2 : f ∉ frL ∧ f ∉ [0, 11, 12, 28, 29] ∧ ¬ f = 2 := by
      revert f
      decide
    rw [su_row hf2.2.2, z3.2.2 f hf2.1, hf0 f hf2.2.1]
theorem jn_load_ok {β : Bool} {d : Nat} {h : jx_H} {σ : mS} (hl : 49 ≤ h.length) {T : Int → Int} {n : Int} (ht : tOK T n) (e1 : σ 1 = T) (e2 : σ 2 0 = n) {i : tI} {F : FT} (hs : sLoad T n = .inr (i, F)) : ∃ τ, jx_r (jz β) jw_M (d + 6 + 1) 211 (0, [some (.ref 15), none], [], ml_mk h σ) (ml_mk h (τ), .inl (some (.int (Int32.ofInt (1 + (fct F : Int)))))) ∧ τ 0 0 = 0 ∧ τ 2 0 = 0 ∧ τ 13 0 = 170 * 0 ∧ mV τ (Zn 0) (Zn 0) (170 * 0) i F ∧ (∀ f v, 3 ≤ f → f ≤ 10 → 170 ≤ v → v < 680 → τ f v = σ f v) ∧ (∀ f, f ∈ [1, 13, 14, 15, 16, 17, 18, 19, 20, 21, 22, 23, 24, 25, 26, 27] → ¬ f = 13 → τ f = σ f) := by
  have hr : rs T n (mEmpty (mBegin (su σ 0 (0) (0))) (4)) 0 680 680 := by
    refine ⟨?_, ?_, ?_, ?_, ?_, ?_, by decide, by decide, by decide, by decide, ht.1⟩
    · show su (su (su (su (su σ 0 0 0) 28 0 0) 29 0 0) 11 4 0) 12 4 0 1 = T
      rw [su_row (by decide), su_row (by decide), su_row (by decide), su_row (by decide), su_row (by decide)]
      exact e1
    · show su (su (su (su (su σ 0 0 0) 28 0 0) 29 0 0) 11 4 0) 12 4 0 2 0 = n
      rw [su_nf (by decide), su_nf (by decide), su_nf (by decide), su_nf (by decide), su_nf (by decide)]
      exact e2
    · show su (su (su (su (su σ 0 0 0) 28 0 0) 29 0 0) 11 4 0) 12 4 0 28 0 = 0
      rw [su_nf (by decide), su_nf (by decide), su_nf (by decide), su_eq]
    · show su (su (su (su (su σ 0 0 0) 28 0 0) 29 0 0) 11 4 0) 12 4 0 29 0 = 0
      rw [su_nf (by decide), su_nf (by decide), su_eq]
    · show su (su (su (su (su σ 0 0 0) 28 0 0) 29 0 0) 11 4 0) 12 4 0 11 4 = _
      rw [su_nf (by decide), su_eq]
      rfl
    · show su (su (su (su (su σ 0 0 0) 28 0 0) 29 0 0) 11 4 0) 12 4 0 12 4 = _
      rw [su_eq]
      rfl
  have hf0 : ∀ g, g ∉ [0, 11, 12, 28, 29] → (mEmpty (mBegin (su σ 0 (0) (0))) (4)) g = σ g := fun g hg => by
    simp only [List.mem_cons, List.mem_nil_iff, or_false, not_or] at hg
    show su (su (su (su (su σ 0 0 0) 28 0 0) 29 0 0) 11 4 0) 12 4 0 g = σ g
    rw [su_row hg.2.2.1, su_row hg.2.1, su_row hg.2.2.2.2, su_row hg.2.2.2.1, su_row hg.1]
  have hf00 : (mEmpty (mBegin (su σ 0 (0) (0))) (4)) 0 0 = 0 := by
    show su (su (su (su (su σ 0 0 0) 28 0 0) 29 0 0) 11 4 0) 12 4 0 0 0 = 0
    rw [su_nf (by decide), su_nf (by decide), su_nf (by decide), su_nf (by decide), su_eq]
  obtain ⟨τ', v, z1, z2, z3, z4⟩ := jn_readValue_ok (β := β) (d := d) hl ht hr hs
  obtain ⟨k1, k2, k3, k4⟩ := sLoad_ok ht hs
  obtain ⟨t0, t1, t2⟩ := id ht
  have hV : mV (su τ' 2 (0) (0)) (In 680 1740) (In 680 1740) v i F := by
    obtain ⟨a1, ⟨n3, n4, n5, n7⟩, a3⟩ := z3
    refine ⟨a1, ⟨(su_nf (by decide)).trans n3, (su_nf (by decide)).trans n4, (su_nf (by decide)).trans n5, (su_nf (by decide)).trans n7⟩, ?_⟩
    rw [show (su τ' 2 (0) (0)) 6 v = τ' 6 v from su_nf (by decide)]
    exact mF_frame (fun _ _ => ⟨su_nf (by decide), su_nf (by decide), su_nf (by decide), su_nf (by decide), su_nf (by decide)⟩) (fun _ _ => ⟨su_nf (by decide), su_nf (by decide), su_nf (by decide)⟩) _ _ a3
  have hIx : mIx (In 680 1740) := fun v hv => ⟨by have := hv.1; omega, hv.2⟩
  have hZ : ∀ v, In 680 1740 v → ¬ Zn 0 v := fun v hv hz => by
    have := hv.1
    have := hz.2
    omega
  obtain ⟨τ2, c1, c2, c3, c4, c5⟩ := jn_copy (β := β) (d := d + 5) (σ := (su τ' 2 (0) (0))) hl hIx hIx (z := 0) ⟨by decide, by decide⟩ hZ hZ hV (by omega)
  have hV2 : mV (su τ2 13 (0) (170 * 0)) (Zn 0) (Zn 0) (170 * 0) i F := by
    obtain ⟨a1, ⟨n3, n4, n5, n7⟩, a3⟩ := c2
    refine ⟨a1, ⟨(su_nf (by decide)).trans n3, (su_nf (by decide)).trans n4, (su_nf (by decide)).trans n5, (su_nf (by decide)).trans n7⟩, ?_⟩
    rw [show (su τ2 13 (0) (170 * 0)) 6 (170 * 0) = τ2 6 (170 * 0) from su_nf (by decide)]
    exact mF_frame (fun _ _ => ⟨su_nf (by decide), su_nf (by decide), su_nf (by decide), su_nf (by decide), su_nf (by decide)⟩) (fun _ _ => ⟨su_nf (by decide), su_nf (by decide), su_nf (by decide)⟩) _ _ a3
  have hZx : mIx (Zn 0) := fun v hv => ⟨by have := hv.1; omega, by have := hv.2; omega⟩
  obtain ⟨τ3, s1, s2⟩ := jn_sizeOf (β := β) (d := d + 6) (σ := (su τ2 13 (0) (170 * 0))) hl hZx hZx hV2 (by omega)
  have eo : ∀ f, ¬ f = 43 → ¬ f = 13 → f < 3 ∨ 12 < f → ¬ f = 44 → τ3 f = (su τ' 2 (0) (0)) f := fun f f43 f13 hf f44 => by
    rw [s2 f (by simp; omega), su_row f13, c5 f hf f43 f44]
  refine ⟨τ3, ?_, ?_, ?_, ?_, ?_, fun f v f1 f2 hv1 hv2 => ?_, fun f hf hf13 => ?_⟩
  · skip
    refine jr_1 jm_211 (show jw_cd cd_211 0 = some (.aload_n 0) by decide +kernel) rfl ?_
    refine jr_1 jm_211 (show jw_cd cd_211 1 = some (.iconst 0) by decide +kernel) rfl ?_
    refine jr_1 jm_211 (show jw_cd cd_211 2 = some (.putfield 121) by decide +kernel) (mp_i hl (x := 0) (show jw_fld 34 121 16 = some 0 by decide +kernel) (by decide) (by decide) (show jw_ft 16 0 = some .int by decide +kernel) (show jw_fm 34 16 0 = some false by decide +kernel)) ?_
    refine jr_1 jm_211 (show jw_cd cd_211 5 = some (.aload_n 0) by decide +kernel) rfl ?_
    refine jr_c jm_211 (show jw_cd cd_211 6 = some (.invokevirtual 205) by decide +kernel) (mc_v hl (n := 0) (m2 := 212) (bs := []) (r := []) (show jw_find jw_cvT 34 205 = some (0, [(16, 212)]) by decide +kernel) (by decide) rfl rfl rfl) jm_212 ⟨Nat.le_of_ble_eq_true rfl, by decide⟩ (jn_begin hl) ?_
    refine jr_1 jm_211 (show jw_cd cd_211 9 = some (.aload_n 0) by decide +kernel) rfl ?_
    refine jr_1 jm_211 (show jw_cd cd_211 10 = some (.iconst 4) by decide +kernel) rfl ?_
    refine jr_c jm_211 (show jw_cd cd_211 11 = some (.invokevirtual 124) by decide +kernel) (mc_v hl (n := 1) (m2 := 213) (bs := [.int (Int32.ofInt (4))]) (r := []) (show jw_find jw_cvT 34 124 = some (1, [(16, 213)]) by decide +kernel) (by decide) rfl rfl rfl) jm_213 ⟨Nat.le_of_ble_eq_true rfl, by decide⟩ (jn_empty hl ⟨by decide, by decide⟩) ?_
    refine jr_1 jm_211 (show jw_cd cd_211 14 = some (.aload_n 0) by decide +kernel) rfl ?_
    refine jr_c jm_211 (show jw_cd cd_211 15 = some (.invokevirtual 208) by decide +kernel) (mc_v hl (n := 0) (m2 := 214) (bs := []) (r := []) (show jw_find jw_cvT 34 208 = some (0, [(16, 214)]) by decide +kernel) (by decide) rfl rfl rfl) jm_214 ⟨Nat.le_of_ble_eq_true rfl, by decide⟩ z1 ?_
    refine jr_1 jm_211 (F2 := (19, [some (.ref 15), some (.int (Int32.ofInt (v)))], [], ml_mk h τ')) (show jw_cd cd_211 18 = some (.istore_n 1) by decide +kernel) rfl ?_
    refine jr_1 jm_211 (show jw_cd cd_211 19 = some (.aload_n 0) by decide +kernel) rfl ?_
    refine jr_1 jm_211 (show jw_cd cd_211 20 = some (.iconst 0) by decide +kernel) rfl ?_
    refine jr_1 jm_211 (show jw_cd cd_211 21 = some (.putfield 142) by decide +kernel) (mp_i hl (x := 0) (show jw_fld 34 142 16 = some 2 by decide +kernel) (by decide) (by decide) (show jw_ft 16 2 = some .int by decide +kernel) (show jw_fm 34 16 2 = some false by decide +kernel)) ?_
    refine jr_1 jm_211 (show jw_cd cd_211 24 = some (.aload_n 0) by decide +kernel) rfl ?_
    refine jr_1 jm_211 (show jw_cd cd_211 25 = some (.getfield 148) by decide +kernel) (mg_i hl (e := 0) ((su_nf (by decide)).trans z2) (show jw_fld 34 148 16 = some 29 by decide +kernel) (by decide) (by decide)) ?_
    refine jr_1 jm_211 (show jw_cd cd_211 28 = some (.ifCond .ge 8) by decide +kernel) (mz_t (q := .ge) (a := 0) (t := 36) (by show 0 ≤ 0; omega) ⟨by omega, by omega⟩ (by decide) (by decide)) ?_
    refine jr_1 jm_211 (show jw_cd cd_211 36 = some (.aload_n 0) by decide +kernel) rfl ?_
    refine jr_1 jm_211 (show jw_cd cd_211 37 = some (.aload_n 0) by decide +kernel) rfl ?_
    refine jr_1 jm_211 (show jw_cd cd_211 38 = some (.iload_n 1) by decide +kernel) rfl ?_
    refine jr_1 jm_211 (show jw_cd cd_211 39 = some (.iconst 0) by decide +kernel) rfl ?_
    refine jr_c jm_211 (show jw_cd cd_211 40 = some (.invokevirtual 211) by decide +kernel) (mc_v hl (n := 2) (m2 := 230) (bs := [.int (Int32.ofInt (v)), .int (Int32.ofInt (0))]) (r := [.ref 15]) (show jw_find jw_cvT 34 211 = some (2, [(16, 230)]) by decide +kernel) (by decide) rfl rfl rfl) jm_230 ⟨Nat.le_of_ble_eq_true rfl, by decide⟩ c1 ?_
    refine jr_1 jm_211 (show jw_cd cd_211 43 = some (.putfield 114) by decide +kernel) (mp_i hl (x := 170 * 0) (show jw_fld 34 114 16 = some 13 by decide +kernel) (by decide) (by decide) (show jw_ft 16 13 = some .int by decide +kernel) (show jw_fm 34 16 13 = some false by decide +kernel)) ?_
    refine jr_1 jm_211 (show jw_cd cd_211 46 = some (.aload_n 0) by decide +kernel) rfl ?_
    refine jr_1 jm_211 (show jw_cd cd_211 47 = some (.aload_n 0) by decide +kernel) rfl ?_
    refine jr_1 jm_211 (show jw_cd cd_211 48 = some (.getfield 114) by decide +kernel) (mg_i hl (e := 170 * 0) (su_eq _ _ _ _) (show jw_fld 34 114 16 = some 13 by decide +kernel) (by decide) (by decide)) ?_
    refine jr_c jm_211 (show jw_cd cd_211 51 = some (.invokevirtual 215) by decide +kernel) (mc_v hl (n := 1) (m2 := 231) (bs := [.int (Int32.ofInt (170 * 0))]) (r := []) (show jw_find jw_cvT 34 215 = some (1, [(16, 231)]) by decide +kernel) (by decide) rfl rfl rfl) jm_231 ⟨Nat.le_of_ble_eq_true rfl, by decide⟩ s1 ?_
    exact jr_v jm_211 (show jw_cd cd_211 54 = some (.ireturn) by decide +kernel) rfl
  · rw [eo 0 (by decide) (by decide) (by decide) (by decide), su_nf (by decide), z4.2.2 0 (by decide)]
    exact hf00
  · rw [eo 2 (by decide) (by decide) (by decide) (by decide), su_eq]
  · rw [s2 13 (by decide), su_eq]
  · obtain ⟨a1, ⟨n3, n4, n5, n7⟩, a3⟩ := hV2
    refine ⟨a1, ⟨by rw [s2 3 (by decide)]; exact n3, by rw [s2 4 (by decide)]; exact n4, by rw [s2 5 (by decide)]; exact n5, by rw [s2 7 (by decide)]; exact n7⟩, ?_⟩
    rw [s2 6 (by decide)]
    exact mF_frame (fun _ _ => ⟨by rw [s2 3 (by decide)], by rw [s2 4 (by decide)], by rw [s2 5 (by decide)], by rw [s2 6 (by decide)], by rw [s2 7 (by decide)]⟩) (fun _ _ => ⟨by rw [s2 8 (by decide)], by rw [s2 9 (by decide)], by rw [s2 10 (by decide)]⟩) _ _ a3
  · rw [s2 f (by simp; omega), su_nf (by omega), c3 f v (fun hz => by have := hz.2; omega) f1 f2, su_nf (by omega), z4.1 f v f1 f2 hv2, hf0 f (by simp; omega)]
  · have hf2 : f ∉ frL ∧ f ∉ [0, 11, 12, 28, 29] ∧ ¬ f = 2 ∧ ¬ f = 43 ∧ ¬ f = 44 ∧ (f < 3 ∨ 12 < f) := by
      clear hf13
      revert f
      decide
    rw [eo f hf2.2.2.2.1 hf13 hf2.2.2.2.2.2 hf2.2.2.2.2.1, su_row hf2.2.2.1, z4.2.2 f hf2.1, hf0 f hf2.2.1]
