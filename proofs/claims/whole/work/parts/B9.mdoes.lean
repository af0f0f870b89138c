/-! ===== the model's sorted, whole; does, word by word (printed by program: gen42.py) ===== -/
theorem fsorted_len (s : List Int) : ∀ (F : FT) (R : List eT), allR s F → (fsorted s F R).length = R.length + fsz F
  | .leaf, R, _ => rfl
  | .inner s0 i u0 c n, R, h => by
    unfold fsorted
    cases hv : vrank s i c with
    | none =>
      have h1 := h.1
      rw [hv] at h1
      cases h1
    | some r =>
      dsimp only
      rw [fsorted_len s n _ h.2, insR_len]
      show R.length + 1 + fsz n = R.length + (fsz n + 1)
      omega
def srt (s : List Int) (F : FT) : List (tI × FT) := (fsorted s F []).reverse.map fun e => e.2
theorem jn_sorted {β : Bool} {d : Nat} {h : jx_H} {σ : mS} (hl : 49 ≤ h.length) {A B : Int → Prop} (hA : mIx A) (hB : mIx B) {v nn cc : Int} {s : List Int} (hs : tx s) {i0 : tI} {F : FT} (hw : fwf F) (hr : allR s F) (hV : mV σ A B v i0 F) (e11 : σ 11 4 = nn) (hn0 : 0 ≤ nn) (hn1 : 170 * 4 + nn < 1740) (e12 : σ 12 4 = cc) (hc0 : 0 ≤ cc) (hm4 : fsz F ≤ 400) (hc1 : 170 * 4 + cc + fsz F ≤ 1740) (hAn : ¬ A (170 * 4 + nn)) (hBn : ∀ x, B x → ¬ In (170 * 4 + cc) (170 * 4 + cc + fsz F) x) : ∃ τ2, jx_r (jz β) jw_M (d + 1 + 1) 257 (0, [some (.ref 15), some (.int (Int32.ofInt (v))), some (.long (Int64.ofInt (pk s))), none, none, none, none, none], [], ml_mk h σ) (ml_mk h (τ2), .inl (some (.int (Int32.ofInt (170 * 4 + nn))))) ∧ mV τ2 (fun v => A v ∨ v = 170 * 4 + nn) (fun x => B x ∨ In (170 * 4 + cc) (170 * 4 + cc + fsz F) x) (170 * 4 + nn) (5, 0, [], []) (fl (srt s F)) ∧ τ2 11 4 = nn + 1 ∧ τ2 12 4 = cc + fsz F ∧ ldG σ τ2 (170 * 4 + nn) (170 * 4 + nn + 1) (170 * 4 + cc) (170 * 4 + cc + fsz F) := by
  obtain ⟨a0, hN0, hF⟩ := hV
  obtain ⟨av0, av1⟩ := hA _ a0
  obtain ⟨τ', c6', c7', r1, r2, r3⟩ := jn_sd_out (β := β) (d := d) (v := v) hl hA hB hs F (σ 6 v) 0 [] σ none none hw hr hF (fun y hy => absurd hy List.not_mem_nil) (mEq_refl _ _) rfl (by omega)
  have r3' : qV τ' A B (τ' 43) 0 (srt s F) := qV_fr (fun f v f1 f2 _ => by rw [r2 f (by simp; omega)]) (fun f x f1 f2 _ => by rw [r2 f (by simp; omega)]) (fun _ h => h) (fun _ h => h) _ _ (dn_qV _ _ r3)
  have hlen : (srt s F).length = fsz F := by
    unfold srt
    rw [List.length_map, List.length_reverse, fsorted_len s F [] hr]
    simp
  obtain ⟨τ2, l1, l2, l3, l4, l5, l6, l7, l8⟩ := jn_listed (β := β) (d := d) hl (A := A) (B := B) (τ := τ') (m := 0 + (fsz F : Int)) ((congrFun (r2 11 (by decide)) 4).trans e11) hn0 hn1 ((congrFun (r2 12 (by decide)) 4).trans e12) hc0 (by rw [hlen]; omega) (by omega) (by omega) hAn (by rw [Int.zero_add]; exact hBn) r3'
  rw [Int.zero_add] at l2 l4 l6
  refine ⟨τ2, ?_, l2, l3, l4, fun f v f1 f2 hv => ?_, fun f x f1 f2 hx => ?_, fun f hf => ?_, fun v hv => ?_⟩
  · skip
    refine jr_1 jm_257 (show jw_cd cd_257 0 = some (.iconst 0) by decide +kernel) rfl ?_
    refine jr_1 jm_257 (F2 := (3, [some (.ref 15), some (.int (Int32.ofInt (v))), some (.long (Int64.ofInt (pk s))), none, some (.int (Int32.ofInt (0))), none, none, none], [], ml_mk h σ)) (show jw_cd cd_257 1 = some (.istore 4) by decide +kernel) rfl ?_
    refine jr_1 jm_257 (show jw_cd cd_257 3 = some (.aload_n 0) by decide +kernel) rfl ?_
    refine jr_1 jm_257 (show jw_cd cd_257 4 = some (.getfield 23) by decide +kernel) (mg_a hl (a := 20) (show jw_fld 34 23 16 = some 6 by decide +kernel) (by decide) (by decide)) ?_
    refine jr_1 jm_257 (show jw_cd cd_257 7 = some (.iload_n 1) by decide +kernel) rfl ?_
    refine jr_1 jm_257 (show jw_cd cd_257 8 = some (.iaload) by decide +kernel) (ma_i hl (i := v) (e := σ 6 (v)) 6 (by omega) (by show _ < ((1740 : Nat) : Int); omega) rfl (by decide) (by decide) (by decide)) ?_
    refine jr_1 jm_257 (F2 := (11, [some (.ref 15), some (.int (Int32.ofInt (v))), some (.long (Int64.ofInt (pk s))), none, some (.int (Int32.ofInt (0))), some (.int (Int32.ofInt (σ 6 (v)))), none, none], [], ml_mk h σ)) (show jw_cd cd_257 9 = some (.istore 5) by decide +kernel) rfl ?_
    refine r1 _ ?_
    refine jr_1 jm_257 (show jw_cd cd_257 150 = some (.aload_n 0) by decide +kernel) rfl ?_
    refine jr_1 jm_257 (show jw_cd cd_257 151 = some (.iload 4) by decide +kernel) rfl ?_
    refine jr_c jm_257 (show jw_cd cd_257 153 = some (.invokevirtual 311) by decide +kernel) (mc_v hl (n := 1) (m2 := 252) (bs := [.int (Int32.ofInt (0 + (fsz F : Int)))]) (r := []) (show jw_find jw_cvT 34 311 = some (1, [(16, 252)]) by decide +kernel) (by decide) rfl rfl rfl) jm_252 ⟨Nat.le_of_ble_eq_true rfl, by decide⟩ l1 ?_
    exact jr_v jm_257 (show jw_cd cd_257 156 = some (.ireturn) by decide +kernel) rfl
  · rw [l5 f v f1 f2 (fun e => hv ⟨by omega, by omega⟩), r2 f (by simp; omega)]
  · rw [l6 f x f1 f2 hx, r2 f (by simp; omega)]
  · simp only [List.mem_cons, List.mem_nil_iff, or_false, not_or] at hf
    rw [l7 f (by simp; omega), r2 f (by simp; omega)]
  · rw [(l8 v hv).1, (l8 v hv).2, r2 11 (by decide), r2 12 (by decide)]
    exact ⟨rfl, rfl⟩
theorem fsort_all {s : List Int} : ∀ (F : FT) (k : Int), ¬ fsort s k F = -1 → allR s F
  | .leaf, _, _ => trivial
  | .inner s0 i u0 c n, k, h => by
    have h : ¬ (if (¬ rkind s i c = 3 ∧ ¬ rkind s i c = 4) ∨ (¬ k = 0 ∧ ¬ k = rkind s i c) then -1 else fsort s (rkind s i c) n) = -1 := h
    by_cases hb : (¬ rkind s i c = 3 ∧ ¬ rkind s i c = 4) ∨ (¬ k = 0 ∧ ¬ k = rkind s i c)
    · rw [if_pos hb] at h
      exact absurd rfl h
    · rw [if_neg hb] at h
      refine ⟨?_, fsort_all n _ h⟩
      cases hv : vrank s i c with
      | some r => rfl
      | none =>
        have : rkind s i c = 0 := by
          unfold rkind
          rw [hv]
        omega
theorem fsort_r {s : List Int} : ∀ (F : FT) (k : Int), 0 ≤ k ∧ k ≤ 6 → -1 ≤ fsort s k F ∧ fsort s k F ≤ 6
  | .leaf, k, h => by
    show -1 ≤ k ∧ k ≤ 6
    omega
  | .inner s0 i u0 c n, k, h => by
    show -1 ≤ (if (¬ rkind s i c = 3 ∧ ¬ rkind s i c = 4) ∨ (¬ k = 0 ∧ ¬ k = rkind s i c) then -1 else fsort s (rkind s i c) n) ∧ (if (¬ rkind s i c = 3 ∧ ¬ rkind s i c = 4) ∨ (¬ k = 0 ∧ ¬ k = rkind s i c) then -1 else fsort s (rkind s i c) n) ≤ 6
    split
    · omega
    · rename_i hb
      exact fsort_r n _ (by omega)
theorem jn_do0_no {β : Bool} {d : Nat} {h : jx_H} {σ : mS} (hl : 49 ≤ h.length) {A B : Int → Prop} (hA : mIx A) (hB : mIx B) {v nn cc : Int} {s : List Int} (hs : tx s) {i0 : tI} {F : FT} (hi : iok i0) (hw : fwf F) (hV : mV σ A B v i0 F) (hfit : ¬ fitS 0 i0.1 = true) : jx_r (jz β) jw_M (d + 1 + 1 + 1) 246 (0, [some (.ref 15), some (.int (Int32.ofInt (0))), some (.long (Int64.ofInt (pk s))), none, some (.int (Int32.ofInt (v))), none], [], ml_mk h σ) (ml_mk h (su σ 42 (0) (1)), .inl (some (.int (Int32.ofInt (-1))))) := by
  obtain ⟨a0, ⟨p3, p4, p5, p7⟩, hF⟩ := id hV
  obtain ⟨av0, av1⟩ := hA _ a0
  obtain ⟨i1, i2, i3, i4, i5⟩ := id hi
  have hk6 : 0 ≤ i0.1 ∧ i0.1 ≤ 6 := ⟨i1, i2⟩
  refine jr_1 jm_246 (show jw_cd cd_246 0 = some (.iload_n 1) by decide +kernel) rfl ?_
  refine jr_1 jm_246 (show jw_cd cd_246 1 = some (.aload_n 0) by decide +kernel) rfl ?_
  refine jr_1 jm_246 (show jw_cd cd_246 2 = some (.getfield 13) by decide +kernel) (mg_a hl (a := 17) (show jw_fld 34 13 16 = some 3 by decide +kernel) (by decide) (by decide)) ?_
  refine jr_1 jm_246 (show jw_cd cd_246 5 = some (.iload 4) by decide +kernel) rfl ?_
  refine jr_1 jm_246 (show jw_cd cd_246 7 = some (.iaload) by decide +kernel) (ma_i hl (i := v) (e := i0.1) 3 (by omega) (by show _ < ((1740 : Nat) : Int); omega) p3 (by decide) (by decide) (by decide)) ?_
  refine jr_c jm_246 (show jw_cd cd_246 8 = some (.invokestatic 320) by decide +kernel) (mc_s (n := 2) (m2 := 247) (bs := [.int (Int32.ofInt (0)), .int (Int32.ofInt (i0.1))]) (r := []) (by decide) (show jw_find jw_csT 34 320 = some (247, 2) by decide +kernel) rfl rfl rfl) jm_247 ⟨Nat.le_of_ble_eq_true rfl, by decide⟩ (by have e := jn_fits (β := β) (d := d + 1 + 1) (σ := σ) hl (w := 0) (k := i0.1) ⟨by decide, by decide⟩ hk6; rw [if_neg hfit] at e; exact e) ?_
  refine jr_1 jm_246 (show jw_cd cd_246 11 = some (.ifCond .ne 10) by decide +kernel) (mz_f (q := .ne) (a := 0) (by show ¬ (¬ (0 = 0)); omega) ⟨by omega, by omega⟩ (by decide)) ?_
  refine jr_1 jm_246 (show jw_cd cd_246 14 = some (.aload_n 0) by decide +kernel) rfl ?_
  refine jr_1 jm_246 (show jw_cd cd_246 15 = some (.iconst 1) by decide +kernel) rfl ?_
  refine jr_1 jm_246 (show jw_cd cd_246 16 = some (.putfield 317) by decide +kernel) (mp_i hl (x := 1) (show jw_fld 34 317 16 = some 42 by decide +kernel) (by decide) (by decide) (show jw_ft 16 42 = some .int by decide +kernel) (show jw_fm 34 16 42 = some false by decide +kernel)) ?_
  refine jr_1 jm_246 (show jw_cd cd_246 19 = some (.iconst (-1)) by decide +kernel) rfl ?_
  exact jr_v jm_246 (show jw_cd cd_246 20 = some (.ireturn) by decide +kernel) rfl
theorem jn_do1_no {β : Bool} {d : Nat} {h : jx_H} {σ : mS} (hl : 49 ≤ h.length) {A B : Int → Prop} (hA : mIx A) (hB : mIx B) {v nn cc : Int} {s : List Int} (hs : tx s) {i0 : tI} {F : FT} (hi : iok i0) (hw : fwf F) (hV : mV σ A B v i0 F) (hfit : ¬ fitS 1 i0.1 = true) : jx_r (jz β) jw_M (d + 1 + 1 + 1) 246 (0, [some (.ref 15), some (.int (Int32.ofInt (1))), some (.long (Int64.ofInt (pk s))), none, some (.int (Int32.ofInt (v))), none], [], ml_mk h σ) (ml_mk h (su σ 42 (0) (1)), .inl (some (.int (Int32.ofInt (-1))))) := by
  obtain ⟨a0, ⟨p3, p4, p5, p7⟩, hF⟩ := id hV
  obtain ⟨av0, av1⟩ := hA _ a0
  obtain ⟨i1, i2, i3, i4, i5⟩ := id hi
  have hk6 : 0 ≤ i0.1 ∧ i0.1 ≤ 6 := ⟨i1, i2⟩
  refine jr_1 jm_246 (show jw_cd cd_246 0 = some (.iload_n 1) by decide +kernel) rfl ?_
  refine jr_1 jm_246 (show jw_cd cd_246 1 = some (.aload_n 0) by decide +kernel) rfl ?_
  refine jr_1 jm_246 (show jw_cd cd_246 2 = some (.getfield 13) by decide +kernel) (mg_a hl (a := 17) (show jw_fld 34 13 16 = some 3 by decide +kernel) (by decide) (by decide)) ?_
  refine jr_1 jm_246 (show jw_cd cd_246 5 = some (.iload 4) by decide +kernel) rfl ?_
  refine jr_1 jm_246 (show jw_cd cd_246 7 = some (.iaload) by decide +kernel) (ma_i hl (i := v) (e := i0.1) 3 (by omega) (by show _ < ((1740 : Nat) : Int); omega) p3 (by decide) (by decide) (by decide)) ?_
  refine jr_c jm_246 (show jw_cd cd_246 8 = some (.invokestatic 320) by decide +kernel) (mc_s (n := 2) (m2 := 247) (bs := [.int (Int32.ofInt (1)), .int (Int32.ofInt (i0.1))]) (r := []) (by decide) (show jw_find jw_csT 34 320 = some (247, 2) by decide +kernel) rfl rfl rfl) jm_247 ⟨Nat.le_of_ble_eq_true rfl, by decide⟩ (by have e := jn_fits (β := β) (d := d + 1 + 1) (σ := σ) hl (w := 1) (k := i0.1) ⟨by decide, by decide⟩ hk6; rw [if_neg hfit] at e; exact e) ?_
  refine jr_1 jm_246 (show jw_cd cd_246 11 = some (.ifCond .ne 10) by decide +kernel) (mz_f (q := .ne) (a := 0) (by show ¬ (¬ (0 = 0)); omega) ⟨by omega, by omega⟩ (by decide)) ?_
  refine jr_1 jm_246 (show jw_cd cd_246 14 = some (.aload_n 0) by decide +kernel) rfl ?_
  refine jr_1 jm_246 (show jw_cd cd_246 15 = some (.iconst 1) by decide +kernel) rfl ?_
  refine jr_1 jm_246 (show jw_cd cd_246 16 = some (.putfield 317) by decide +kernel) (mp_i hl (x := 1) (show jw_fld 34 317 16 = some 42 by decide +kernel) (by decide) (by decide) (show jw_ft 16 42 = some .int by decide +kernel) (show jw_fm 34 16 42 = some false by decide +kernel)) ?_
  refine jr_1 jm_246 (show jw_cd cd_246 19 = some (.iconst (-1)) by decide +kernel) rfl ?_
  exact jr_v jm_246 (show jw_cd cd_246 20 = some (.ireturn) by decide +kernel) rfl
theorem jn_do2_no {β : Bool} {d : Nat} {h : jx_H} {σ : mS} (hl : 49 ≤ h.length) {A B : Int → Prop} (hA : mIx A) (hB : mIx B) {v nn cc : Int} {s : List Int} (hs : tx s) {i0 : tI} {F : FT} (hi : iok i0) (hw : fwf F) (hV : mV σ A B v i0 F) (hfit : ¬ fitS 2 i0.1 = true) : jx_r (jz β) jw_M (d + 1 + 1 + 1) 246 (0, [some (.ref 15), some (.int (Int32.ofInt (2))), some (.long (Int64.ofInt (pk s))), none, some (.int (Int32.ofInt (v))), none], [], ml_mk h σ) (ml_mk h (su σ 42 (0) (1)), .inl (some (.int (Int32.ofInt (-1))))) := by
  obtain ⟨a0, ⟨p3, p4, p5, p7⟩, hF⟩ := id hV
  obtain ⟨av0, av1⟩ := hA _ a0
  obtain ⟨i1, i2, i3, i4, i5⟩ := id hi
  have hk6 : 0 ≤ i0.1 ∧ i0.1 ≤ 6 := ⟨i1, i2⟩
  refine jr_1 jm_246 (show jw_cd cd_246 0 = some (.iload_n 1) by decide +kernel) rfl ?_
  refine jr_1 jm_246 (show jw_cd cd_246 1 = some (.aload_n 0) by decide +kernel) rfl ?_
  refine jr_1 jm_246 (show jw_cd cd_246 2 = some (.getfield 13) by decide +kernel) (mg_a hl (a := 17) (show jw_fld 34 13 16 = some 3 by decide +kernel) (by decide) (by decide)) ?_
  refine jr_1 jm_246 (show jw_cd cd_246 5 = some (.iload 4) by decide +kernel) rfl ?_
  refine jr_1 jm_246 (show jw_cd cd_246 7 = some (.iaload) by decide +kernel) (ma_i hl (i := v) (e := i0.1) 3 (by omega) (by show _ < ((1740 : Nat) : Int); omega) p3 (by decide) (by decide) (by decide)) ?_
  refine jr_c jm_246 (show jw_cd cd_246 8 = some (.invokestatic 320) by decide +kernel) (mc_s (n := 2) (m2 := 247) (bs := [.int (Int32.ofInt (2)), .int (Int32.ofInt (i0.1))]) (r := []) (by decide) (show jw_find jw_csT 34 320 = some (247, 2) by decide +kernel) rfl rfl rfl) jm_247 ⟨Nat.le_of_ble_eq_true rfl, by decide⟩ (by have e := jn_fits (β := β) (d := d + 1 + 1) (σ := σ) hl (w := 2) (k := i0.1) ⟨by decide, by decide⟩ hk6; rw [if_neg hfit] at e; exact e) ?_
  refine jr_1 jm_246 (show jw_cd cd_246 11 = some (.ifCond .ne 10) by decide +kernel) (mz_f (q := .ne) (a := 0) (by show ¬ (¬ (0 = 0)); omega) ⟨by omega, by omega⟩ (by decide)) ?_
  refine jr_1 jm_246 (show jw_cd cd_246 14 = some (.aload_n 0) by decide +kernel) rfl ?_
  refine jr_1 jm_246 (show jw_cd cd_246 15 = some (.iconst 1) by decide +kernel) rfl ?_
  refine jr_1 jm_246 (show jw_cd cd_246 16 = some (.putfield 317) by decide +kernel) (mp_i hl (x := 1) (show jw_fld 34 317 16 = some 42 by decide +kernel) (by decide) (by decide) (show jw_ft 16 42 = some .int by decide +kernel) (show jw_fm 34 16 42 = some false by decide +kernel)) ?_
  refine jr_1 jm_246 (show jw_cd cd_246 19 = some (.iconst (-1)) by decide +kernel) rfl ?_
  exact jr_v jm_246 (show jw_cd cd_246 20 = some (.ireturn) by decide +kernel) rfl
theorem jn_do3_no {β : Bool} {d : Nat} {h : jx_H} {σ : mS} (hl : 49 ≤ h.length) {A B : Int → Prop} (hA : mIx A) (hB : mIx B) {v nn cc : Int} {s : List Int} (hs : tx s) {i0 : tI} {F : FT} (hi : iok i0) (hw : fwf F) (hV : mV σ A B v i0 F) (hfit : ¬ fitS 3 i0.1 = true) : jx_r (jz β) jw_M (d + 1 + 1 + 1) 246 (0, [some (.ref 15), some (.int (Int32.ofInt (3))), some (.long (Int64.ofInt (pk s))), none, some (.int (Int32.ofInt (v))), none], [], ml_mk h σ) (ml_mk h (su σ 42 (0) (1)), .inl (some (.int (Int32.ofInt (-1))))) := by
  obtain ⟨a0, ⟨p3, p4, p5, p7⟩, hF⟩ := id hV
  obtain ⟨av0, av1⟩ := hA _ a0
  obtain ⟨i1, i2, i3, i4, i5⟩ := id hi
  have hk6 : 0 ≤ i0.1 ∧ i0.1 ≤ 6 := ⟨i1, i2⟩
  refine jr_1 jm_246 (show jw_cd cd_246 0 = some (.iload_n 1) by decide +kernel) rfl ?_
  refine jr_1 jm_246 (show jw_cd cd_246 1 = some (.aload_n 0) by decide +kernel) rfl ?_
  refine jr_1 jm_246 (show jw_cd cd_246 2 = some (.getfield 13) by decide +kernel) (mg_a hl (a := 17) (show jw_fld 34 13 16 = some 3 by decide +kernel) (by decide) (by decide)) ?_
  refine jr_1 jm_246 (show jw_cd cd_246 5 = some (.iload 4) by decide +kernel) rfl ?_
  refine jr_1 jm_246 (show jw_cd cd_246 7 = some (.iaload) by decide +kernel) (ma_i hl (i := v) (e := i0.1) 3 (by omega) (by show _ < ((1740 : Nat) : Int); omega) p3 (by decide) (by decide) (by decide)) ?_
  refine jr_c jm_246 (show jw_cd cd_246 8 = some (.invokestatic 320) by decide +kernel) (mc_s (n := 2) (m2 := 247) (bs := [.int (Int32.ofInt (3)), .int (Int32.ofInt (i0.1))]) (r := []) (by decide) (show jw_find jw_csT 34 320 = some (247, 2) by decide +kernel) rfl rfl rfl) jm_247 ⟨Nat.le_of_ble_eq_true rfl, by decide⟩ (by have e := jn_fits (β := β) (d := d + 1 + 1) (σ := σ) hl (w := 3) (k := i0.1) ⟨by decide, by decide⟩ hk6; rw [if_neg hfit] at e; exact e) ?_
  refine jr_1 jm_246 (show jw_cd cd_246 11 = some (.ifCond .ne 10) by decide +kernel) (mz_f (q := .ne) (a := 0) (by show ¬ (¬ (0 = 0)); omega) ⟨by omega, by omega⟩ (by decide)) ?_
  refine jr_1 jm_246 (show jw_cd cd_246 14 = some (.aload_n 0) by decide +kernel) rfl ?_
  refine jr_1 jm_246 (show jw_cd cd_246 15 = some (.iconst 1) by decide +kernel) rfl ?_
  refine jr_1 jm_246 (show jw_cd cd_246 16 = some (.putfield 317) by decide +kernel) (mp_i hl (x := 1) (show jw_fld 34 317 16 = some 42 by decide +kernel) (by decide) (by decide) (show jw_ft 16 42 = some .int by decide +kernel) (show jw_fm 34 16 42 = some false by decide +kernel)) ?_
  refine jr_1 jm_246 (show jw_cd cd_246 19 = some (.iconst (-1)) by decide +kernel) rfl ?_
  exact jr_v jm_246 (show jw_cd cd_246 20 = some (.ireturn) by decide +kernel) rfl
theorem jn_do4_no {β : Bool} {d : Nat} {h : jx_H} {σ : mS} (hl : 49 ≤ h.length) {A B : Int → Prop} (hA : mIx A) (hB : mIx B) {v nn cc : Int} {s : List Int} (hs : tx s) {i0 : tI} {F : FT} (hi : iok i0) (hw : fwf F) (hV : mV σ A B v i0 F) (hfit : ¬ fitS 4 i0.1 = true) : jx_r (jz β) jw_M (d + 1 + 1 + 1) 246 (0, [some (.ref 15), some (.int (Int32.ofInt (4))), some (.long (Int64.ofInt (pk s))), none, some (.int (Int32.ofInt (v))), none], [], ml_mk h σ) (ml_mk h (su σ 42 (0) (1)), .inl (some (.int (Int32.ofInt (-1))))) := by
  obtain ⟨a0, ⟨p3, p4, p5, p7⟩, hF⟩ := id hV
  obtain ⟨av0, av1⟩ := hA _ a0
  obtain ⟨i1, i2, i3, i4, i5⟩ := id hi
  have hk6 : 0 ≤ i0.1 ∧ i0.1 ≤ 6 := ⟨i1, i2⟩
  refine jr_1 jm_246 (show jw_cd cd_246 0 = some (.iload_n 1) by decide +kernel) rfl ?_
  refine jr_1 jm_246 (show jw_cd cd_246 1 = some (.aload_n 0) by decide +kernel) rfl ?_
  refine jr_1 jm_246 (show jw_cd cd_246 2 = some (.getfield 13) by decide +kernel) (mg_a hl (a := 17) (show jw_fld 34 13 16 = some 3 by decide +kernel) (by decide) (by decide)) ?_
  refine jr_1 jm_246 (show jw_cd cd_246 5 = some (.iload 4) by decide +kernel) rfl ?_
  refine jr_1 jm_246 (show jw_cd cd_246 7 = some (.iaload) by decide +kernel) (ma_i hl (i := v) (e := i0.1) 3 (by omega) (by show _ < ((1740 : Nat) : Int); omega) p3 (by decide) (by decide) (by decide)) ?_
  refine jr_c jm_246 (show jw_cd cd_246 8 = some (.invokestatic 320) by decide +kernel) (mc_s (n := 2) (m2 := 247) (bs := [.int (Int32.ofInt (4)), .int (Int32.ofInt (i0.1))]) (r := []) (by decide) (show jw_find jw_csT 34 320 = some (247, 2) by decide +kernel) rfl rfl rfl) jm_247 ⟨Nat.le_of_ble_eq_true rfl, by decide⟩ (by have e := jn_fits (β := β) (d := d + 1 + 1) (σ := σ) hl (w := 4) (k := i0.1) ⟨by decide, by decide⟩ hk6; rw [if_neg hfit] at e; exact e) ?_
  refine jr_1 jm_246 (show jw_cd cd_246 11 = some (.ifCond .ne 10) by decide +kernel) (mz_f (q := .ne) (a := 0) (by show ¬ (¬ (0 = 0)); omega) ⟨by omega, by omega⟩ (by decide)) ?_
  refine jr_1 jm_246 (show jw_cd cd_246 14 = some (.aload_n 0) by decide +kernel) rfl ?_
  refine jr_1 jm_246 (show jw_cd cd_246 15 = some (.iconst 1) by decide +kernel) rfl ?_
  refine jr_1 jm_246 (show jw_cd cd_246 16 = some (.putfield 317) by decide +kernel) (mp_i hl (x := 1) (show jw_fld 34 317 16 = some 42 by decide +kernel) (by decide) (by decide) (show jw_ft 16 42 = some .int by decide +kernel) (show jw_fm 34 16 42 = some false by decide +kernel)) ?_
  refine jr_1 jm_246 (show jw_cd cd_246 19 = some (.iconst (-1)) by decide +kernel) rfl ?_
  exact jr_v jm_246 (show jw_cd cd_246 20 = some (.ireturn) by decide +kernel) rfl
theorem jn_do5_no {β : Bool} {d : Nat} {h : jx_H} {σ : mS} (hl : 49 ≤ h.length) {A B : Int → Prop} (hA : mIx A) (hB : mIx B) {v nn cc : Int} {s : List Int} (hs : tx s) {i0 : tI} {F : FT} (hi : iok i0) (hw : fwf F) (hV : mV σ A B v i0 F) (hfit : ¬ fitS 5 i0.1 = true) : jx_r (jz β) jw_M (d + 1 + 1 + 1) 246 (0, [some (.ref 15), some (.int (Int32.ofInt (5))), some (.long (Int64.ofInt (pk s))), none, some (.int (Int32.ofInt (v))), none], [], ml_mk h σ) (ml_mk h (su σ 42 (0) (1)), .inl (some (.int (Int32.ofInt (-1))))) := by
  obtain ⟨a0, ⟨p3, p4, p5, p7⟩, hF⟩ := id hV
  obtain ⟨av0, av1⟩ := hA _ a0
  obtain ⟨i1, i2, i3, i4, i5⟩ := id hi
  have hk6 : 0 ≤ i0.1 ∧ i0.1 ≤ 6 := ⟨i1, i2⟩
  refine jr_1 jm_246 (show jw_cd cd_246 0 = some (.iload_n 1) by decide +kernel) rfl ?_
  refine jr_1 jm_246 (show jw_cd cd_246 1 = some (.aload_n 0) by decide +kernel) rfl ?_
  refine jr_1 jm_246 (show jw_cd cd_246 2 = some (.getfield 13) by decide +kernel) (mg_a hl (a := 17) (show jw_fld 34 13 16 = some 3 by decide +kernel) (by decide) (by decide)) ?_
  refine jr_1 jm_246 (show jw_cd cd_246 5 = some (.iload 4) by decide +kernel) rfl ?_
  refine jr_1 jm_246 (show jw_cd cd_246 7 = some (.iaload) by decide +kernel) (ma_i hl (i := v) (e := i0.1) 3 (by omega) (by show _ < ((1740 : Nat) : Int); omega) p3 (by decide) (by decide) (by decide)) ?_
  refine jr_c jm_246 (show jw_cd cd_246 8 = some (.invokestatic 320) by decide +kernel) (mc_s (n := 2) (m2 := 247) (bs := [.int (Int32.ofInt (5)), .int (Int32.ofInt (i0.1))]) (r := []) (by decide) (show jw_find jw_csT 34 320 = some (247, 2) by decide +kernel) rfl rfl rfl) jm_247 ⟨Nat.le_of_ble_eq_true rfl, by decide⟩ (by have e := jn_fits (β := β) (d := d + 1 + 1) (σ := σ) hl (w := 5) (k := i0.1) ⟨by decide, by decide⟩ hk6; rw [if_neg hfit] at e; exact e) ?_
  refine jr_1 jm_246 (show jw_cd cd_246 11 = some (.ifCond .ne 10) by decide +kernel) (mz_f (q := .ne) (a := 0) (by show ¬ (¬ (0 = 0)); omega) ⟨by omega, by omega⟩ (by decide)) ?_
  refine jr_1 jm_246 (show jw_cd cd_246 14 = some (.aload_n 0) by decide +kernel) rfl ?_
  refine jr_1 jm_246 (show jw_cd cd_246 15 = some (.iconst 1) by decide +kernel) rfl ?_
  refine jr_1 jm_246 (show jw_cd cd_246 16 = some (.putfield 317) by decide +kernel) (mp_i hl (x := 1) (show jw_fld 34 317 16 = some 42 by decide +kernel) (by decide) (by decide) (show jw_ft 16 42 = some .int by decide +kernel) (show jw_fm 34 16 42 = some false by decide +kernel)) ?_
  refine jr_1 jm_246 (show jw_cd cd_246 19 = some (.iconst (-1)) by decide +kernel) rfl ?_
  exact jr_v jm_246 (show jw_cd cd_246 20 = some (.ireturn) by decide +kernel) rfl
theorem jn_do6_no {β : Bool} {d : Nat} {h : jx_H} {σ : mS} (hl : 49 ≤ h.length) {A B : Int → Prop} (hA : mIx A) (hB : mIx B) {v nn cc : Int} {s : List Int} (hs : tx s) {i0 : tI} {F : FT} (hi : iok i0) (hw : fwf F) (hV : mV σ A B v i0 F) (hfit : ¬ fitS 6 i0.1 = true) : jx_r (jz β) jw_M (d + 1 + 1 + 1) 246 (0, [some (.ref 15), some (.int (Int32.ofInt (6))), some (.long (Int64.ofInt (pk s))), none, some (.int (Int32.ofInt (v))), none], [], ml_mk h σ) (ml_mk h (su σ 42 (0) (1)), .inl (some (.int (Int32.ofInt (-1))))) := by
  obtain ⟨a0, ⟨p3, p4, p5, p7⟩, hF⟩ := id hV
  obtain ⟨av0, av1⟩ := hA _ a0
  obtain ⟨i1, i2, i3, i4, i5⟩ := id hi
  have hk6 : 0 ≤ i0.1 ∧ i0.1 ≤ 6 := ⟨i1, i2⟩
  refine jr_1 jm_246 (show jw_cd cd_246 0 = some (.iload_n 1) by decide +kernel) rfl ?_
  refine jr_1 jm_246 (show jw_cd cd_246 1 = some (.aload_n 0) by decide +kernel) rfl ?_
  refine jr_1 jm_246 (show jw_cd cd_246 2 = some (.getfield 13) by decide +kernel) (mg_a hl (a := 17) (show jw_fld 34 13 16 = some 3 by decide +kernel) (by decide) (by decide)) ?_
  refine jr_1 jm_246 (show jw_cd cd_246 5 = some (.iload 4) by decide +kernel) rfl ?_
  refine jr_1 jm_246 (show jw_cd cd_246 7 = some (.iaload) by decide +kernel) (ma_i hl (i := v) (e := i0.1) 3 (by omega) (by show _ < ((1740 : Nat) : Int); omega) p3 (by decide) (by decide) (by decide)) ?_
  refine jr_c jm_246 (show jw_cd cd_246 8 = some (.invokestatic 320) by decide +kernel) (mc_s (n := 2) (m2 := 247) (bs := [.int (Int32.ofInt (6)), .int (Int32.ofInt (i0.1))]) (r := []) (by decide) (show jw_find jw_csT 34 320 = some (247, 2) by decide +kernel) rfl rfl rfl) jm_247 ⟨Nat.le_of_ble_eq_true rfl, by decide⟩ (by have e := jn_fits (β := β) (d := d + 1 + 1) (σ := σ) hl (w := 6) (k := i0.1) ⟨by decide, by decide⟩ hk6; rw [if_neg hfit] at e; exact e) ?_
  refine jr_1 jm_246 (show jw_cd cd_246 11 = some (.ifCond .ne 10) by decide +kernel) (mz_f (q := .ne) (a := 0) (by show ¬ (¬ (0 = 0)); omega) ⟨by omega, by omega⟩ (by decide)) ?_
  refine jr_1 jm_246 (show jw_cd cd_246 14 = some (.aload_n 0) by decide +kernel) rfl ?_
  refine jr_1 jm_246 (show jw_cd cd_246 15 = some (.iconst 1) by decide +kernel) rfl ?_
  refine jr_1 jm_246 (show jw_cd cd_246 16 = some (.putfield 317) by decide +kernel) (mp_i hl (x := 1) (show jw_fld 34 317 16 = some 42 by decide +kernel) (by decide) (by decide) (show jw_ft 16 42 = some .int by decide +kernel) (show jw_fm 34 16 42 = some false by decide +kernel)) ?_
  refine jr_1 jm_246 (show jw_cd cd_246 19 = some (.iconst (-1)) by decide +kernel) rfl ?_
  exact jr_v jm_246 (show jw_cd cd_246 20 = some (.ireturn) by decide +kernel) rfl
theorem jn_do7_no {β : Bool} {d : Nat} {h : jx_H} {σ : mS} (hl : 49 ≤ h.length) {A B : Int → Prop} (hA : mIx A) (hB : mIx B) {v nn cc : Int} {s : List Int} (hs : tx s) {i0 : tI} {F : FT} (hi : iok i0) (hw : fwf F) (hV : mV σ A B v i0 F) (hfit : ¬ fitS 7 i0.1 = true) : jx_r (jz β) jw_M (d + 1 + 1 + 1) 246 (0, [some (.ref 15), some (.int (Int32.ofInt (7))), some (.long (Int64.ofInt (pk s))), none, some (.int (Int32.ofInt (v))), none], [], ml_mk h σ) (ml_mk h (su σ 42 (0) (1)), .inl (some (.int (Int32.ofInt (-1))))) := by
  obtain ⟨a0, ⟨p3, p4, p5, p7⟩, hF⟩ := id hV
  obtain ⟨av0, av1⟩ := hA _ a0
  obtain ⟨i1, i2, i3, i4, i5⟩ := id hi
  have hk6 : 0 ≤ i0.1 ∧ i0.1 ≤ 6 := ⟨i1, i2⟩
  refine jr_1 jm_246 (show jw_cd cd_246 0 = some (.iload_n 1) by decide +kernel) rfl ?_
  refine jr_1 jm_246 (show jw_cd cd_246 1 = some (.aload_n 0) by decide +kernel) rfl ?_
  refine jr_1 jm_246 (show jw_cd cd_246 2 = some (.getfield 13) by decide +kernel) (mg_a hl (a := 17) (show jw_fld 34 13 16 = some 3 by decide +kernel) (by decide) (by decide)) ?_
  refine jr_1 jm_246 (show jw_cd cd_246 5 = some (.iload 4) by decide +kernel) rfl ?_
  refine jr_1 jm_246 (show jw_cd cd_246 7 = some (.iaload) by decide +kernel) (ma_i hl (i := v) (e := i0.1) 3 (by omega) (by show _ < ((1740 : Nat) : Int); omega) p3 (by decide) (by decide) (by decide)) ?_
  refine jr_c jm_246 (show jw_cd cd_246 8 = some (.invokestatic 320) by decide +kernel) (mc_s (n := 2) (m2 := 247) (bs := [.int (Int32.ofInt (7)), .int (Int32.ofInt (i0.1))]) (r := []) (by decide) (show jw_find jw_csT 34 320 = some (247, 2) by decide +kernel) rfl rfl rfl) jm_247 ⟨Nat.le_of_ble_eq_true rfl, by decide⟩ (by have e := jn_fits (β := β) (d := d + 1 + 1) (σ := σ) hl (w := 7) (k := i0.1) ⟨by decide, by decide⟩ hk6; rw [if_neg hfit] at e; exact e) ?_
  refine jr_1 jm_246 (show jw_cd cd_246 11 = some (.ifCond .ne 10) by decide +kernel) (mz_f (q := .ne) (a := 0) (by show ¬ (¬ (0 = 0)); omega) ⟨by omega, by omega⟩ (by decide)) ?_
  refine jr_1 jm_246 (show jw_cd cd_246 14 = some (.aload_n 0) by decide +kernel) rfl ?_
  refine jr_1 jm_246 (show jw_cd cd_246 15 = some (.iconst 1) by decide +kernel) rfl ?_
  refine jr_1 jm_246 (show jw_cd cd_246 16 = some (.putfield 317) by decide +kernel) (mp_i hl (x := 1) (show jw_fld 34 317 16 = some 42 by decide +kernel) (by decide) (by decide) (show jw_ft 16 42 = some .int by decide +kernel) (show jw_fm 34 16 42 = some false by decide +kernel)) ?_
  refine jr_1 jm_246 (show jw_cd cd_246 19 = some (.iconst (-1)) by decide +kernel) rfl ?_
  exact jr_v jm_246 (show jw_cd cd_246 20 = some (.ireturn) by decide +kernel) rfl
theorem jn_do8_no {β : Bool} {d : Nat} {h : jx_H} {σ : mS} (hl : 49 ≤ h.length) {A B : Int → Prop} (hA : mIx A) (hB : mIx B) {v nn cc : Int} {s : List Int} (hs : tx s) {i0 : tI} {F : FT} (hi : iok i0) (hw : fwf F) (hV : mV σ A B v i0 F) (hfit : ¬ fitS 8 i0.1 = true) : jx_r (jz β) jw_M (d + 1 + 1 + 1) 246 (0, [some (.ref 15), some (.int (Int32.ofInt (8))), some (.long (Int64.ofInt (pk s))), none, some (.int (Int32.ofInt (v))), none], [], ml_mk h σ) (ml_mk h (su σ 42 (0) (1)), .inl (some (.int (Int32.ofInt (-1))))) := by
  obtain ⟨a0, ⟨p3, p4, p5, p7⟩, hF⟩ := id hV
  obtain ⟨av0, av1⟩ := hA _ a0
  obtain ⟨i1, i2, i3, i4, i5⟩ := id hi
  have hk6 : 0 ≤ i0.1 ∧ i0.1 ≤ 6 := ⟨i1, i2⟩
  refine jr_1 jm_246 (show jw_cd cd_246 0 = some (.iload_n 1) by decide +kernel) rfl ?_
  refine jr_1 jm_246 (show jw_cd cd_246 1 = some (.aload_n 0) by decide +kernel) rfl ?_
  refine jr_1 jm_246 (show jw_cd cd_246 2 = some (.getfield 13) by decide +kernel) (mg_a hl (a := 17) (show jw_fld 34 13 16 = some 3 by decide +kernel) (by decide) (by decide)) ?_
  refine jr_1 jm_246 (show jw_cd cd_246 5 = some (.iload 4) by decide +kernel) rfl ?_
  refine jr_1 jm_246 (show jw_cd cd_246 7 = some (.iaload) by decide +kernel) (ma_i hl (i := v) (e := i0.1) 3 (by omega) (by show _ < ((1740 : Nat) : Int); omega) p3 (by decide) (by decide) (by decide)) ?_
  refine jr_c jm_246 (show jw_cd cd_246 8 = some (.invokestatic 320) by decide +kernel) (mc_s (n := 2) (m2 := 247) (bs := [.int (Int32.ofInt (8)), .int (Int32.ofInt (i0.1))]) (r := []) (by decide) (show jw_find jw_csT 34 320 = some (247, 2) by decide +kernel) rfl rfl rfl) jm_247 ⟨Nat.le_of_ble_eq_true rfl, by decide⟩ (by have e := jn_fits (β := β) (d := d + 1 + 1) (σ := σ) hl (w := 8) (k := i0.1) ⟨by decide, by decide⟩ hk6; rw [if_neg hfit] at e; exact e) ?_
  refine jr_1 jm_246 (show jw_cd cd_246 11 = some (.ifCond .ne 10) by decide +kernel) (mz_f (q := .ne) (a := 0) (by show ¬ (¬ (0 = 0)); omega) ⟨by omega, by omega⟩ (by decide)) ?_
  refine jr_1 jm_246 (show jw_cd cd_246 14 = some (.aload_n 0) by decide +kernel) rfl ?_
  refine jr_1 jm_246 (show jw_cd cd_246 15 = some (.iconst 1) by decide +kernel) rfl ?_
  refine jr_1 jm_246 (show jw_cd cd_246 16 = some (.putfield 317) by decide +kernel) (mp_i hl (x := 1) (show jw_fld 34 317 16 = some 42 by decide +kernel) (by decide) (by decide) (show jw_ft 16 42 = some .int by decide +kernel) (show jw_fm 34 16 42 = some false by decide +kernel)) ?_
  refine jr_1 jm_246 (show jw_cd cd_246 19 = some (.iconst (-1)) by decide +kernel) rfl ?_
  exact jr_v jm_246 (show jw_cd cd_246 20 = some (.ireturn) by decide +kernel) rfl
theorem jn_do8 {β : Bool} {d : Nat} {h : jx_H} {σ : mS} (hl : 49 ≤ h.length) {A B : Int → Prop} (hA : mIx A) (hB : mIx B) {v nn cc : Int} {s : List Int} (hs : tx s) {i0 : tI} {F : FT} (hi : iok i0) (hw : fwf F) (hV : mV σ A B v i0 F) (hfit : fitS 8 i0.1 = true) (e11 : σ 11 4 = nn) (hn0 : 0 ≤ nn) (hn1 : 170 * 4 + nn < 1740) : jx_r (jz β) jw_M (d + 1 + 1 + 1) 246 (0, [some (.ref 15), some (.int (Int32.ofInt (8))), some (.long (Int64.ofInt (pk s))), none, some (.int (Int32.ofInt (v))), none], [], ml_mk h σ) (ml_mk h (mNode σ 4 4 0 (pk (tyS i0.1))), .inl (some (.int (Int32.ofInt (170 * 4 + nn))))) := by
  obtain ⟨a0, ⟨p3, p4, p5, p7⟩, hF⟩ := id hV
  obtain ⟨av0, av1⟩ := hA _ a0
  obtain ⟨i1, i2, i3, i4, i5⟩ := id hi
  have hk6 : 0 ≤ i0.1 ∧ i0.1 ≤ 6 := ⟨i1, i2⟩
  refine jr_1 jm_246 (show jw_cd cd_246 0 = some (.iload_n 1) by decide +kernel) rfl ?_
  refine jr_1 jm_246 (show jw_cd cd_246 1 = some (.aload_n 0) by decide +kernel) rfl ?_
  refine jr_1 jm_246 (show jw_cd cd_246 2 = some (.getfield 13) by decide +kernel) (mg_a hl (a := 17) (show jw_fld 34 13 16 = some 3 by decide +kernel) (by decide) (by decide)) ?_
  refine jr_1 jm_246 (show jw_cd cd_246 5 = some (.iload 4) by decide +kernel) rfl ?_
  refine jr_1 jm_246 (show jw_cd cd_246 7 = some (.iaload) by decide +kernel) (ma_i hl (i := v) (e := i0.1) 3 (by omega) (by show _ < ((1740 : Nat) : Int); omega) p3 (by decide) (by decide) (by decide)) ?_
  refine jr_c jm_246 (show jw_cd cd_246 8 = some (.invokestatic 320) by decide +kernel) (mc_s (n := 2) (m2 := 247) (bs := [.int (Int32.ofInt (8)), .int (Int32.ofInt (i0.1))]) (r := []) (by decide) (show jw_find jw_csT 34 320 = some (247, 2) by decide +kernel) rfl rfl rfl) jm_247 ⟨Nat.le_of_ble_eq_true rfl, by decide⟩ (by have e := jn_fits (β := β) (d := d + 1 + 1) (σ := σ) hl (w := 8) (k := i0.1) ⟨by decide, by decide⟩ hk6; rw [if_pos hfit] at e; exact e) ?_
  refine jr_1 jm_246 (show jw_cd cd_246 11 = some (.ifCond .ne 10) by decide +kernel) (mz_t (q := .ne) (a := 1) (t := 21) (by show ¬ (1 = 0); omega) ⟨by omega, by omega⟩ (by decide) (by decide)) ?_
  refine jr_1 jm_246 (show jw_cd cd_246 21 = some (.iload_n 1) by decide +kernel) rfl ?_
  refine jr_1 jm_246 (show jw_cd cd_246 22 = some (.bipush 8) by decide +kernel) (mt_bi (by decide)) ?_
  refine jr_1 jm_246 (show jw_cd cd_246 24 = some (.if_icmp .ne 15) by decide +kernel) (mb_f (q := .ne) (a := 8) (b := 8) (by show ¬ (¬ (8 = 8)); omega) ⟨by omega, by omega⟩ ⟨by omega, by omega⟩ (by decide)) ?_
  refine jr_1 jm_246 (show jw_cd cd_246 27 = some (.aload_n 0) by decide +kernel) rfl ?_
  refine jr_1 jm_246 (show jw_cd cd_246 28 = some (.aload_n 0) by decide +kernel) rfl ?_
  refine jr_1 jm_246 (show jw_cd cd_246 29 = some (.getfield 13) by decide +kernel) (mg_a hl (a := 17) (show jw_fld 34 13 16 = some 3 by decide +kernel) (by decide) (by decide)) ?_
  refine jr_1 jm_246 (show jw_cd cd_246 32 = some (.iload 4) by decide +kernel) rfl ?_
  refine jr_1 jm_246 (show jw_cd cd_246 34 = some (.iaload) by decide +kernel) (ma_i hl (i := v) (e := i0.1) 3 (by omega) (by show _ < ((1740 : Nat) : Int); omega) p3 (by decide) (by decide) (by decide)) ?_
  refine jr_c jm_246 (show jw_cd cd_246 35 = some (.invokevirtual 323) by decide +kernel) (mc_v hl (n := 1) (m2 := 248) (bs := [.int (Int32.ofInt (i0.1))]) (r := []) (show jw_find jw_cvT 34 323 = some (1, [(16, 248)]) by decide +kernel) (by decide) rfl rfl rfl) jm_248 ⟨Nat.le_of_ble_eq_true rfl, by decide⟩ (jn_typeOf hl hk6 e11 hn0 hn1) ?_
  exact jr_v jm_246 (show jw_cd cd_246 38 = some (.ireturn) by decide +kernel) rfl
def lenS (i : tI) (F : FT) : Int := if i.1 = 4 then (i.2.2.1.length : Int) else (fsz F : Int)
theorem jn_do0 {β : Bool} {d : Nat} {h : jx_H} {σ : mS} (hl : 49 ≤ h.length) {A B : Int → Prop} (hA : mIx A) (hB : mIx B) {v nn cc : Int} {s : List Int} (hs : tx s) {i0 : tI} {F : FT} (hi : iok i0) (hw : fwf F) (hV : mV σ A B v i0 F) (hfit : fitS 0 i0.1 = true) (e11 : σ 11 4 = nn) (hn0 : 0 ≤ nn) (hn1 : 170 * 4 + nn < 1740) : jx_r (jz β) jw_M (d + 1 + 1 + 1) 246 (0, [some (.ref 15), some (.int (Int32.ofInt (0))), some (.long (Int64.ofInt (pk s))), none, some (.int (Int32.ofInt (v))), none], [], ml_mk h σ) (ml_mk h (mNode σ 4 3 (lenS i0 F) 0), .inl (some (.int (Int32.ofInt (170 * 4 + nn))))) := by
  obtain ⟨a0, ⟨p3, p4, p5, p7⟩, hF⟩ := id hV
  obtain ⟨av0, av1⟩ := hA _ a0
  obtain ⟨i1, i2, i3, i4, i5⟩ := id hi
  have hk6 : 0 ≤ i0.1 ∧ i0.1 ≤ 6 := ⟨i1, i2⟩
  refine jr_1 jm_246 (show jw_cd cd_246 0 = some (.iload_n 1) by decide +kernel) rfl ?_
  refine jr_1 jm_246 (show jw_cd cd_246 1 = some (.aload_n 0) by decide +kernel) rfl ?_
  refine jr_1 jm_246 (show jw_cd cd_246 2 = some (.getfield 13) by decide +kernel) (mg_a hl (a := 17) (show jw_fld 34 13 16 = some 3 by decide +kernel) (by decide) (by decide)) ?_
  refine jr_1 jm_246 (show jw_cd cd_246 5 = some (.iload 4) by decide +kernel) rfl ?_
  refine jr_1 jm_246 (show jw_cd cd_246 7 = some (.iaload) by decide +kernel) (ma_i hl (i := v) (e := i0.1) 3 (by omega) (by show _ < ((1740 : Nat) : Int); omega) p3 (by decide) (by decide) (by decide)) ?_
  refine jr_c jm_246 (show jw_cd cd_246 8 = some (.invokestatic 320) by decide +kernel) (mc_s (n := 2) (m2 := 247) (bs := [.int (Int32.ofInt (0)), .int (Int32.ofInt (i0.1))]) (r := []) (by decide) (show jw_find jw_csT 34 320 = some (247, 2) by decide +kernel) rfl rfl rfl) jm_247 ⟨Nat.le_of_ble_eq_true rfl, by decide⟩ (by have e := jn_fits (β := β) (d := d + 1 + 1) (σ := σ) hl (w := 0) (k := i0.1) ⟨by decide, by decide⟩ hk6; rw [if_pos hfit] at e; exact e) ?_
  refine jr_1 jm_246 (show jw_cd cd_246 11 = some (.ifCond .ne 10) by decide +kernel) (mz_t (q := .ne) (a := 1) (t := 21) (by show ¬ (1 = 0); omega) ⟨by omega, by omega⟩ (by decide) (by decide)) ?_
  refine jr_1 jm_246 (show jw_cd cd_246 21 = some (.iload_n 1) by decide +kernel) rfl ?_
  refine jr_1 jm_246 (show jw_cd cd_246 22 = some (.bipush 8) by decide +kernel) (mt_bi (by decide)) ?_
  refine jr_1 jm_246 (show jw_cd cd_246 24 = some (.if_icmp .ne 15) by decide +kernel) (mb_t (q := .ne) (a := 0) (b := 8) (t := 39) (by show ¬ (0 = 8); omega) ⟨by omega, by omega⟩ ⟨by omega, by omega⟩ (by decide) (by decide)) ?_
  refine jr_1 jm_246 (show jw_cd cd_246 39 = some (.iload_n 1) by decide +kernel) rfl ?_
  refine jr_1 jm_246 (show jw_cd cd_246 40 = some (.ifCond .ne 42) by decide +kernel) (mz_f (q := .ne) (a := 0) (by show ¬ (¬ (0 = 0)); omega) ⟨by omega, by omega⟩ (by decide)) ?_
  refine jr_1 jm_246 (show jw_cd cd_246 43 = some (.aload_n 0) by decide +kernel) rfl ?_
  refine jr_1 jm_246 (show jw_cd cd_246 44 = some (.iconst 4) by decide +kernel) rfl ?_
  refine jr_1 jm_246 (show jw_cd cd_246 45 = some (.iconst 3) by decide +kernel) rfl ?_
  refine jr_1 jm_246 (show jw_cd cd_246 46 = some (.aload_n 0) by decide +kernel) rfl ?_
  refine jr_1 jm_246 (show jw_cd cd_246 47 = some (.getfield 13) by decide +kernel) (mg_a hl (a := 17) (show jw_fld 34 13 16 = some 3 by decide +kernel) (by decide) (by decide)) ?_
  refine jr_1 jm_246 (show jw_cd cd_246 50 = some (.iload 4) by decide +kernel) rfl ?_
  refine jr_1 jm_246 (show jw_cd cd_246 52 = some (.iaload) by decide +kernel) (ma_i hl (i := v) (e := i0.1) 3 (by omega) (by show _ < ((1740 : Nat) : Int); omega) p3 (by decide) (by decide) (by decide)) ?_
  refine jr_1 jm_246 (show jw_cd cd_246 53 = some (.iconst 4) by decide +kernel) rfl ?_
  by_cases h4 : i0.1 = 4
  · rw [show lenS i0 F = (i0.2.2.1.length : Int) from if_pos h4]
    refine jr_1 jm_246 (show jw_cd cd_246 54 = some (.if_icmp .ne 16) by decide +kernel) (mb_f (q := .ne) (a := i0.1) (b := 4) (fun z => z h4) ⟨by omega, by omega⟩ ⟨by omega, by omega⟩ (by decide)) ?_
    refine jr_1 jm_246 (show jw_cd cd_246 57 = some (.aload_n 0) by decide +kernel) rfl ?_
    refine jr_1 jm_246 (show jw_cd cd_246 58 = some (.getfield 19) by decide +kernel) (mg_a hl (a := 19) (show jw_fld 34 19 16 = some 5 by decide +kernel) (by decide) (by decide)) ?_
    refine jr_1 jm_246 (show jw_cd cd_246 61 = some (.iload 4) by decide +kernel) rfl ?_
    refine jr_1 jm_246 (show jw_cd cd_246 63 = some (.laload) by decide +kernel) (ma_j hl (i := v) (e := pk i0.2.2.1) 5 (by omega) (by show _ < ((1740 : Nat) : Int); omega) p5 (by decide) (by decide) (by decide)) ?_
    refine jr_c jm_246 (show jw_cd cd_246 64 = some (.invokestatic 314) by decide +kernel) (mc_s (n := 1) (m2 := 249) (bs := [.long (Int64.ofInt (pk i0.2.2.1))]) (r := [.int (Int32.ofInt (3)), .int (Int32.ofInt (4)), .ref 15]) (by decide) (show jw_find jw_csT 34 314 = some (249, 1) by decide +kernel) rfl rfl rfl) jm_249 ⟨Nat.le_of_ble_eq_true rfl, by decide⟩ (jn_lengthOf hl i4) ?_
    refine jr_1 jm_246 (show jw_cd cd_246 67 = some (.goto 10) by decide +kernel) (ju_go (t := 77) (by decide)) ?_
    refine jr_1 jm_246 (F2 := (78, [some (.ref 15), some (.int (Int32.ofInt (0))), some (.long (Int64.ofInt (pk s))), none, some (.int (Int32.ofInt (v))), none], [.long (Int64.ofInt (0)), .int (Int32.ofInt ((i0.2.2.1.length : Int))), .int (Int32.ofInt (3)), .int (Int32.ofInt (4)), .ref 15], ml_mk h σ)) (show jw_cd cd_246 77 = some (.lconst 0) by decide +kernel) rfl ?_
    refine jr_c jm_246 (show jw_cd cd_246 78 = some (.invokevirtual 110) by decide +kernel) (mc_v hl (n := 4) (m2 := 208) (bs := [.int (Int32.ofInt (4)), .int (Int32.ofInt (3)), .int (Int32.ofInt ((i0.2.2.1.length : Int))), .long (Int64.ofInt (0))]) (r := []) (show jw_find jw_cvT 34 110 = some (4, [(16, 208)]) by decide +kernel) (by decide) rfl rfl rfl) jm_208 ⟨Nat.le_of_ble_eq_true rfl, by decide⟩ (jn_nodeM hl ⟨by decide, by decide⟩ (m := nn) e11 hn0 hn1) ?_
    exact jr_v jm_246 (show jw_cd cd_246 81 = some (.ireturn) by decide +kernel) rfl
  · rw [show lenS i0 F = (fsz F : Int) from if_neg h4]
    refine jr_1 jm_246 (show jw_cd cd_246 54 = some (.if_icmp .ne 16) by decide +kernel) (mb_t (q := .ne) (a := i0.1) (b := 4) (t := 70) h4 ⟨by omega, by omega⟩ ⟨by omega, by omega⟩ (by decide) (by decide)) ?_
    refine jr_1 jm_246 (show jw_cd cd_246 70 = some (.aload_n 0) by decide +kernel) rfl ?_
    refine jr_1 jm_246 (show jw_cd cd_246 71 = some (.getfield 26) by decide +kernel) (mg_a hl (a := 21) (show jw_fld 34 26 16 = some 7 by decide +kernel) (by decide) (by decide)) ?_
    refine jr_1 jm_246 (show jw_cd cd_246 74 = some (.iload 4) by decide +kernel) rfl ?_
    refine jr_1 jm_246 (show jw_cd cd_246 76 = some (.iaload) by decide +kernel) (ma_i hl (i := v) (e := (fsz F : Int)) 7 (by omega) (by show _ < ((1740 : Nat) : Int); omega) p7 (by decide) (by decide) (by decide)) ?_
    refine jr_1 jm_246 (F2 := (78, [some (.ref 15), some (.int (Int32.ofInt (0))), some (.long (Int64.ofInt (pk s))), none, some (.int (Int32.ofInt (v))), none], [.long (Int64.ofInt (0)), .int (Int32.ofInt ((fsz F : Int))), .int (Int32.ofInt (3)), .int (Int32.ofInt (4)), .ref 15], ml_mk h σ)) (show jw_cd cd_246 77 = some (.lconst 0) by decide +kernel) rfl ?_
    refine jr_c jm_246 (show jw_cd cd_246 78 = some (.invokevirtual 110) by decide +kernel) (mc_v hl (n := 4) (m2 := 208) (bs := [.int (Int32.ofInt (4)), .int (Int32.ofInt (3)), .int (Int32.ofInt ((fsz F : Int))), .long (Int64.ofInt (0))]) (r := []) (show jw_find jw_cvT 34 110 = some (4, [(16, 208)]) by decide +kernel) (by decide) rfl rfl rfl) jm_208 ⟨Nat.le_of_ble_eq_true rfl, by decide⟩ (jn_nodeM hl ⟨by decide, by decide⟩ (m := nn) e11 hn0 hn1) ?_
    exact jr_v jm_246 (show jw_cd cd_246 81 = some (.ireturn) by decide +kernel) rfl
theorem jn_do2 {β : Bool} {d : Nat} {h : jx_H} {σ : mS} (hl : 49 ≤ h.length) {A B : Int → Prop} (hA : mIx A) (hB : mIx B) {v nn cc : Int} {s : List Int} (hs : tx s) {i0 : tI} {F : FT} (hi : iok i0) (hw : fwf F) (hV : mV σ A B v i0 F) (hfit : fitS 2 i0.1 = true) (e11 : σ 11 4 = nn) (hn0 : 0 ≤ nn) (hn1 : 170 * 4 + nn < 1740) (e12 : σ 12 4 = cc) (hc0 : 0 ≤ cc) (hm4 : fsz F ≤ 400) (hc1 : 170 * 4 + cc + fsz F ≤ 1740) (hAn : ¬ A (170 * 4 + nn)) (hBn : ∀ x, B x → ¬ In (170 * 4 + cc) (170 * 4 + cc + fsz F) x) : ∃ τ2, jx_r (jz β) jw_M (d + 1 + 1 + 1) 246 (0, [some (.ref 15), some (.int (Int32.ofInt (2))), some (.long (Int64.ofInt (pk s))), none, some (.int (Int32.ofInt (v))), none], [], ml_mk h σ) (ml_mk h (τ2), .inl (some (.int (Int32.ofInt (170 * 4 + nn))))) ∧ mV τ2 (fun v => A v ∨ v = 170 * 4 + nn) (fun x => B x ∨ In (170 * 4 + cc) (170 * 4 + cc + fsz F) x) (170 * 4 + nn) (5, 0, [], []) (fl (sib F)) ∧ τ2 11 4 = nn + 1 ∧ τ2 12 4 = cc + fsz F ∧ ldG σ τ2 (170 * 4 + nn) (170 * 4 + nn + 1) (170 * 4 + cc) (170 * 4 + cc + fsz F) := by
  obtain ⟨a0, ⟨p3, p4, p5, p7⟩, hF⟩ := id hV
  obtain ⟨av0, av1⟩ := hA _ a0
  obtain ⟨i1, i2, i3, i4, i5⟩ := id hi
  have hk6 : 0 ≤ i0.1 ∧ i0.1 ≤ 6 := ⟨i1, i2⟩
  obtain ⟨τ2, r1, r2⟩ := jn_values (β := β) (d := d) hl hA hB hV e11 hn0 hn1 e12 hc0 hm4 hc1 hAn hBn
  refine ⟨τ2, ?_, r2⟩
  refine jr_1 jm_246 (show jw_cd cd_246 0 = some (.iload_n 1) by decide +kernel) rfl ?_
  refine jr_1 jm_246 (show jw_cd cd_246 1 = some (.aload_n 0) by decide +kernel) rfl ?_
  refine jr_1 jm_246 (show jw_cd cd_246 2 = some (.getfield 13) by decide +kernel) (mg_a hl (a := 17) (show jw_fld 34 13 16 = some 3 by decide +kernel) (by decide) (by decide)) ?_
  refine jr_1 jm_246 (show jw_cd cd_246 5 = some (.iload 4) by decide +kernel) rfl ?_
  refine jr_1 jm_246 (show jw_cd cd_246 7 = some (.iaload) by decide +kernel) (ma_i hl (i := v) (e := i0.1) 3 (by omega) (by show _ < ((1740 : Nat) : Int); omega) p3 (by decide) (by decide) (by decide)) ?_
  refine jr_c jm_246 (show jw_cd cd_246 8 = some (.invokestatic 320) by decide +kernel) (mc_s (n := 2) (m2 := 247) (bs := [.int (Int32.ofInt (2)), .int (Int32.ofInt (i0.1))]) (r := []) (by decide) (show jw_find jw_csT 34 320 = some (247, 2) by decide +kernel) rfl rfl rfl) jm_247 ⟨Nat.le_of_ble_eq_true rfl, by decide⟩ (by have e := jn_fits (β := β) (d := d + 1 + 1) (σ := σ) hl (w := 2) (k := i0.1) ⟨by decide, by decide⟩ hk6; rw [if_pos hfit] at e; exact e) ?_
  refine jr_1 jm_246 (show jw_cd cd_246 11 = some (.ifCond .ne 10) by decide +kernel) (mz_t (q := .ne) (a := 1) (t := 21) (by show ¬ (1 = 0); omega) ⟨by omega, by omega⟩ (by decide) (by decide)) ?_
  refine jr_1 jm_246 (show jw_cd cd_246 21 = some (.iload_n 1) by decide +kernel) rfl ?_
  refine jr_1 jm_246 (show jw_cd cd_246 22 = some (.bipush 8) by decide +kernel) (mt_bi (by decide)) ?_
  refine jr_1 jm_246 (show jw_cd cd_246 24 = some (.if_icmp .ne 15) by decide +kernel) (mb_t (q := .ne) (a := 2) (b := 8) (t := 39) (by show ¬ (2 = 8); omega) ⟨by omega, by omega⟩ ⟨by omega, by omega⟩ (by decide) (by decide)) ?_
  refine jr_1 jm_246 (show jw_cd cd_246 39 = some (.iload_n 1) by decide +kernel) rfl ?_
  refine jr_1 jm_246 (show jw_cd cd_246 40 = some (.ifCond .ne 42) by decide +kernel) (mz_t (q := .ne) (a := 2) (t := 82) (by show ¬ (2 = 0); omega) ⟨by omega, by omega⟩ (by decide) (by decide)) ?_
  refine jr_1 jm_246 (show jw_cd cd_246 82 = some (.iload_n 1) by decide +kernel) rfl ?_
  refine jr_1 jm_246 (show jw_cd cd_246 83 = some (.iconst 3) by decide +kernel) rfl ?_
  refine jr_1 jm_246 (show jw_cd cd_246 84 = some (.if_icmp .ge 20) by decide +kernel) (mb_f (q := .ge) (a := 2) (b := 3) (by show ¬ (3 ≤ 2); omega) ⟨by omega, by omega⟩ ⟨by omega, by omega⟩ (by decide)) ?_
  refine jr_1 jm_246 (show jw_cd cd_246 87 = some (.aload_n 0) by decide +kernel) rfl ?_
  refine jr_1 jm_246 (show jw_cd cd_246 88 = some (.iload 4) by decide +kernel) rfl ?_
  refine jr_1 jm_246 (show jw_cd cd_246 90 = some (.iload_n 1) by decide +kernel) rfl ?_
  refine jr_1 jm_246 (show jw_cd cd_246 91 = some (.iconst 1) by decide +kernel) rfl ?_
  refine jr_1 jm_246 (show jw_cd cd_246 92 = some (.if_icmp .ne 7) by decide +kernel) (mb_t (q := .ne) (a := 2) (b := 1) (t := 99) (by show ¬ (2 = 1); omega) ⟨by omega, by omega⟩ ⟨by omega, by omega⟩ (by decide) (by decide)) ?_
  refine jr_1 jm_246 (show jw_cd cd_246 99 = some (.iconst 0) by decide +kernel) rfl ?_
  refine jr_c jm_246 (show jw_cd cd_246 100 = some (.invokevirtual 326) by decide +kernel) (mc_v hl (n := 2) (m2 := 251) (bs := [.int (Int32.ofInt (v)), .int (Int32.ofInt (0))]) (r := []) (show jw_find jw_cvT 34 326 = some (2, [(16, 251)]) by decide +kernel) (by decide) rfl rfl rfl) jm_251 ⟨Nat.le_of_ble_eq_true rfl, by decide⟩ r1 ?_
  exact jr_v jm_246 (show jw_cd cd_246 103 = some (.ireturn) by decide +kernel) rfl
theorem jn_do1 {β : Bool} {d : Nat} {h : jx_H} {σ : mS} (hl : 49 ≤ h.length) {A B : Int → Prop} (hA : mIx A) (hB : mIx B) {v nn cc : Int} {s : List Int} (hs : tx s) {i0 : tI} {F : FT} (hi : iok i0) (hw : fwf F) (hV : mV σ A B v i0 F) (hfit : fitS 1 i0.1 = true) (e11 : σ 11 4 = nn) (hn0 : 0 ≤ nn) (e12 : σ 12 4 = cc) (hc0 : 0 ≤ cc) (hm4 : fsz F ≤ 400) (hc1 : 170 * 4 + cc + fsz F ≤ 1740) (hn1 : 170 * 4 + nn + fsz F + 1 ≤ 1740) (hAn : ∀ w, A w → w < 170 * 4 + nn) : ∃ τ2, jx_r (jz β) jw_M (d + 1 + 1 + 1) 246 (0, [some (.ref 15), some (.int (Int32.ofInt (1))), some (.long (Int64.ofInt (pk s))), none, some (.int (Int32.ofInt (v))), none], [], ml_mk h σ) (ml_mk h (τ2), .inl (some (.int (Int32.ofInt (170 * 4 + (nn + (0 + (fsz F : Int)))))))) ∧ mV τ2 (In (170 * 4 + nn) (170 * 4 + nn + fsz F + 1)) (In (170 * 4 + cc) (170 * 4 + cc + fsz F)) (170 * 4 + (nn + (0 + (fsz F : Int)))) (5, 0, [], []) (fl (kys F)) ∧ τ2 11 4 = nn + fsz F + 1 ∧ τ2 12 4 = cc + fsz F ∧ ldG σ τ2 (170 * 4 + nn) (170 * 4 + nn + fsz F + 1) (170 * 4 + cc) (170 * 4 + cc + fsz F) := by
  obtain ⟨a0, ⟨p3, p4, p5, p7⟩, hF⟩ := id hV
  obtain ⟨av0, av1⟩ := hA _ a0
  obtain ⟨i1, i2, i3, i4, i5⟩ := id hi
  have hk6 : 0 ≤ i0.1 ∧ i0.1 ≤ 6 := ⟨i1, i2⟩
  obtain ⟨τ2, r1, r2⟩ := jn_keys (β := β) (d := d) hl hA hB hV e11 hn0 e12 hc0 hm4 hc1 hn1 hAn
  refine ⟨τ2, ?_, r2⟩
  refine jr_1 jm_246 (show jw_cd cd_246 0 = some (.iload_n 1) by decide +kernel) rfl ?_
  refine jr_1 jm_246 (show jw_cd cd_246 1 = some (.aload_n 0) by decide +kernel) rfl ?_
  refine jr_1 jm_246 (show jw_cd cd_246 2 = some (.getfield 13) by decide +kernel) (mg_a hl (a := 17) (show jw_fld 34 13 16 = some 3 by decide +kernel) (by decide) (by decide)) ?_
  refine jr_1 jm_246 (show jw_cd cd_246 5 = some (.iload 4) by decide +kernel) rfl ?_
  refine jr_1 jm_246 (show jw_cd cd_246 7 = some (.iaload) by decide +kernel) (ma_i hl (i := v) (e := i0.1) 3 (by omega) (by show _ < ((1740 : Nat) : Int); omega) p3 (by decide) (by decide) (by decide)) ?_
  refine jr_c jm_246 (show jw_cd cd_246 8 = some (.invokestatic 320) by decide +kernel) (mc_s (n := 2) (m2 := 247) (bs := [.int (Int32.ofInt (1)), .int (Int32.ofInt (i0.1))]) (r := []) (by decide) (show jw_find jw_csT 34 320 = some (247, 2) by decide +kernel) rfl rfl rfl) jm_247 ⟨Nat.le_of_ble_eq_true rfl, by decide⟩ (by have e := jn_fits (β := β) (d := d + 1 + 1) (σ := σ) hl (w := 1) (k := i0.1) ⟨by decide, by decide⟩ hk6; rw [if_pos hfit] at e; exact e) ?_
  refine jr_1 jm_246 (show jw_cd cd_246 11 = some (.ifCond .ne 10) by decide +kernel) (mz_t (q := .ne) (a := 1) (t := 21) (by show ¬ (1 = 0); omega) ⟨by omega, by omega⟩ (by decide) (by decide)) ?_
  refine jr_1 jm_246 (show jw_cd cd_246 21 = some (.iload_n 1) by decide +kernel) rfl ?_
  refine jr_1 jm_246 (show jw_cd cd_246 22 = some (.bipush 8) by decide +kernel) (mt_bi (by decide)) ?_
  refine jr_1 jm_246 (show jw_cd cd_246 24 = some (.if_icmp .ne 15) by decide +kernel) (mb_t (q := .ne) (a := 1) (b := 8) (t := 39) (by show ¬ (1 = 8); omega) ⟨by omega, by omega⟩ ⟨by omega, by omega⟩ (by decide) (by decide)) ?_
  refine jr_1 jm_246 (show jw_cd cd_246 39 = some (.iload_n 1) by decide +kernel) rfl ?_
  refine jr_1 jm_246 (show jw_cd cd_246 40 = some (.ifCond .ne 42) by decide +kernel) (mz_t (q := .ne) (a := 1) (t := 82) (by show ¬ (1 = 0); omega) ⟨by omega, by omega⟩ (by decide) (by decide)) ?_
  refine jr_1 jm_246 (show jw_cd cd_246 82 = some (.iload_n 1) by decide +kernel) rfl ?_
  refine jr_1 jm_246 (show jw_cd cd_246 83 = some (.iconst 3) by decide +kernel) rfl ?_
  refine jr_1 jm_246 (show jw_cd cd_246 84 = some (.if_icmp .ge 20) by decide +kernel) (mb_f (q := .ge) (a := 1) (b := 3) (by show ¬ (3 ≤ 1); omega) ⟨by omega, by omega⟩ ⟨by omega, by omega⟩ (by decide)) ?_
  refine jr_1 jm_246 (show jw_cd cd_246 87 = some (.aload_n 0) by decide +kernel) rfl ?_
  refine jr_1 jm_246 (show jw_cd cd_246 88 = some (.iload 4) by decide +kernel) rfl ?_
  refine jr_1 jm_246 (show jw_cd cd_246 90 = some (.iload_n 1) by decide +kernel) rfl ?_
  refine jr_1 jm_246 (show jw_cd cd_246 91 = some (.iconst 1) by decide +kernel) rfl ?_
  refine jr_1 jm_246 (show jw_cd cd_246 92 = some (.if_icmp .ne 7) by decide +kernel) (mb_f (q := .ne) (a := 1) (b := 1) (by show ¬ (¬ (1 = 1)); omega) ⟨by omega, by omega⟩ ⟨by omega, by omega⟩ (by decide)) ?_
  refine jr_1 jm_246 (show jw_cd cd_246 95 = some (.iconst 1) by decide +kernel) rfl ?_
  refine jr_1 jm_246 (show jw_cd cd_246 96 = some (.goto 4) by decide +kernel) (ju_go (t := 100) (by decide)) ?_
  refine jr_c jm_246 (show jw_cd cd_246 100 = some (.invokevirtual 326) by decide +kernel) (mc_v hl (n := 2) (m2 := 251) (bs := [.int (Int32.ofInt (v)), .int (Int32.ofInt (1))]) (r := []) (show jw_find jw_cvT 34 326 = some (2, [(16, 251)]) by decide +kernel) (by decide) rfl rfl rfl) jm_251 ⟨Nat.le_of_ble_eq_true rfl, by decide⟩ r1 ?_
  exact jr_v jm_246 (show jw_cd cd_246 103 = some (.ireturn) by decide +kernel) rfl
theorem jn_do4L {β : Bool} {d : Nat} {h : jx_H} {σ : mS} (hl : 49 ≤ h.length) {A B : Int → Prop} (hA : mIx A) (hB : mIx B) {v nn cc : Int} {s : List Int} (hs : tx s) {i0 : tI} {F : FT} (hi : iok i0) (hw : fwf F) (hV : mV σ A B v i0 F) (hfit : fitS 4 i0.1 = true) (h4 : ¬ i0.1 = 4) (e11 : σ 11 4 = nn) (hn0 : 0 ≤ nn) (hn1 : 170 * 4 + nn < 1740) (e12 : σ 12 4 = cc) (hc0 : 0 ≤ cc) (hm4 : fsz F ≤ 400) (hc1 : 170 * 4 + cc + fsz F ≤ 1740) (hAn : ¬ A (170 * 4 + nn)) (hBn : ∀ x, B x → ¬ In (170 * 4 + cc) (170 * 4 + cc + fsz F) x) : ∃ τ2, jx_r (jz β) jw_M (d + 1 + 1 + 1) 246 (0, [some (.ref 15), some (.int (Int32.ofInt (4))), some (.long (Int64.ofInt (pk s))), none, some (.int (Int32.ofInt (v))), none], [], ml_mk h σ) (ml_mk h (τ2), .inl (some (.int (Int32.ofInt (170 * 4 + nn))))) ∧ mV τ2 (fun v => A v ∨ v = 170 * 4 + nn) (fun x => B x ∨ In (170 * 4 + cc) (170 * 4 + cc + fsz F) x) (170 * 4 + nn) (5, 0, [], []) (fl (sib F).reverse) ∧ τ2 11 4 = nn + 1 ∧ τ2 12 4 = cc + fsz F ∧ ldG σ τ2 (170 * 4 + nn) (170 * 4 + nn + 1) (170 * 4 + cc) (170 * 4 + cc + fsz F) := by
  obtain ⟨a0, ⟨p3, p4, p5, p7⟩, hF⟩ := id hV
  obtain ⟨av0, av1⟩ := hA _ a0
  obtain ⟨i1, i2, i3, i4, i5⟩ := id hi
  have hk6 : 0 ≤ i0.1 ∧ i0.1 ≤ 6 := ⟨i1, i2⟩
  obtain ⟨τ2, r1, r2⟩ := jn_turnL (β := β) (d := d) hl hA hB hV e11 hn0 e12 hc0 hm4 hc1 ⟨by omega, by omega⟩ h4 hn1 hAn hBn
  refine ⟨τ2, ?_, r2⟩
  refine jr_1 jm_246 (show jw_cd cd_246 0 = some (.iload_n 1) by decide +kernel) rfl ?_
  refine jr_1 jm_246 (show jw_cd cd_246 1 = some (.aload_n 0) by decide +kernel) rfl ?_
  refine jr_1 jm_246 (show jw_cd cd_246 2 = some (.getfield 13) by decide +kernel) (mg_a hl (a := 17) (show jw_fld 34 13 16 = some 3 by decide +kernel) (by decide) (by decide)) ?_
  refine jr_1 jm_246 (show jw_cd cd_246 5 = some (.iload 4) by decide +kernel) rfl ?_
  refine jr_1 jm_246 (show jw_cd cd_246 7 = some (.iaload) by decide +kernel) (ma_i hl (i := v) (e := i0.1) 3 (by omega) (by show _ < ((1740 : Nat) : Int); omega) p3 (by decide) (by decide) (by decide)) ?_
  refine jr_c jm_246 (show jw_cd cd_246 8 = some (.invokestatic 320) by decide +kernel) (mc_s (n := 2) (m2 := 247) (bs := [.int (Int32.ofInt (4)), .int (Int32.ofInt (i0.1))]) (r := []) (by decide) (show jw_find jw_csT 34 320 = some (247, 2) by decide +kernel) rfl rfl rfl) jm_247 ⟨Nat.le_of_ble_eq_true rfl, by decide⟩ (by have e := jn_fits (β := β) (d := d + 1 + 1) (σ := σ) hl (w := 4) (k := i0.1) ⟨by decide, by decide⟩ hk6; rw [if_pos hfit] at e; exact e) ?_
  refine jr_1 jm_246 (show jw_cd cd_246 11 = some (.ifCond .ne 10) by decide +kernel) (mz_t (q := .ne) (a := 1) (t := 21) (by show ¬ (1 = 0); omega) ⟨by omega, by omega⟩ (by decide) (by decide)) ?_
  refine jr_1 jm_246 (show jw_cd cd_246 21 = some (.iload_n 1) by decide +kernel) rfl ?_
  refine jr_1 jm_246 (show jw_cd cd_246 22 = some (.bipush 8) by decide +kernel) (mt_bi (by decide)) ?_
  refine jr_1 jm_246 (show jw_cd cd_246 24 = some (.if_icmp .ne 15) by decide +kernel) (mb_t (q := .ne) (a := 4) (b := 8) (t := 39) (by show ¬ (4 = 8); omega) ⟨by omega, by omega⟩ ⟨by omega, by omega⟩ (by decide) (by decide)) ?_
  refine jr_1 jm_246 (show jw_cd cd_246 39 = some (.iload_n 1) by decide +kernel) rfl ?_
  refine jr_1 jm_246 (show jw_cd cd_246 40 = some (.ifCond .ne 42) by decide +kernel) (mz_t (q := .ne) (a := 4) (t := 82) (by show ¬ (4 = 0); omega) ⟨by omega, by omega⟩ (by decide) (by decide)) ?_
  refine jr_1 jm_246 (show jw_cd cd_246 82 = some (.iload_n 1) by decide +kernel) rfl ?_
  refine jr_1 jm_246 (show jw_cd cd_246 83 = some (.iconst 3) by decide +kernel) rfl ?_
  refine jr_1 jm_246 (show jw_cd cd_246 84 = some (.if_icmp .ge 20) by decide +kernel) (mb_t (q := .ge) (a := 4) (b := 3) (t := 104) (by show 3 ≤ 4; omega) ⟨by omega, by omega⟩ ⟨by omega, by omega⟩ (by decide) (by decide)) ?_
  refine jr_1 jm_246 (show jw_cd cd_246 104 = some (.iload_n 1) by decide +kernel) rfl ?_
  refine jr_1 jm_246 (show jw_cd cd_246 105 = some (.iconst 4) by decide +kernel) rfl ?_
  refine jr_1 jm_246 (show jw_cd cd_246 106 = some (.if_icmp .ne 10) by decide +kernel) (mb_f (q := .ne) (a := 4) (b := 4) (by show ¬ (¬ (4 = 4)); omega) ⟨by omega, by omega⟩ ⟨by omega, by omega⟩ (by decide)) ?_
  refine jr_1 jm_246 (show jw_cd cd_246 109 = some (.aload_n 0) by decide +kernel) rfl ?_
  refine jr_1 jm_246 (show jw_cd cd_246 110 = some (.iload 4) by decide +kernel) rfl ?_
  refine jr_c jm_246 (show jw_cd cd_246 112 = some (.invokevirtual 330) by decide +kernel) (mc_v hl (n := 1) (m2 := 253) (bs := [.int (Int32.ofInt (v))]) (r := []) (show jw_find jw_cvT 34 330 = some (1, [(16, 253)]) by decide +kernel) (by decide) rfl rfl rfl) jm_253 ⟨Nat.le_of_ble_eq_true rfl, by decide⟩ r1 ?_
  exact jr_v jm_246 (show jw_cd cd_246 115 = some (.ireturn) by decide +kernel) rfl
theorem jn_do4T {β : Bool} {d : Nat} {h : jx_H} {σ : mS} (hl : 49 ≤ h.length) {A B : Int → Prop} (hA : mIx A) (hB : mIx B) {v nn cc : Int} {s : List Int} (hs : tx s) {i0 : tI} {F : FT} (hi : iok i0) (hw : fwf F) (hV : mV σ A B v i0 F) (hfit : fitS 4 i0.1 = true) (h4 : i0.1 = 4) (e11 : σ 11 4 = nn) (hn0 : 0 ≤ nn) (hn1 : 170 * 4 + nn < 1740) : jx_r (jz β) jw_M (d + 1 + 1 + 1) 246 (0, [some (.ref 15), some (.int (Int32.ofInt (4))), some (.long (Int64.ofInt (pk s))), none, some (.int (Int32.ofInt (v))), none], [], ml_mk h σ) (ml_mk h (mNode σ 4 4 0 (pk i0.2.2.1.reverse)), .inl (some (.int (Int32.ofInt (170 * 4 + nn))))) := by
  obtain ⟨a0, ⟨p3, p4, p5, p7⟩, hF⟩ := id hV
  obtain ⟨av0, av1⟩ := hA _ a0
  obtain ⟨i1, i2, i3, i4, i5⟩ := id hi
  have hk6 : 0 ≤ i0.1 ∧ i0.1 ≤ 6 := ⟨i1, i2⟩
  refine jr_1 jm_246 (show jw_cd cd_246 0 = some (.iload_n 1) by decide +kernel) rfl ?_
  refine jr_1 jm_246 (show jw_cd cd_246 1 = some (.aload_n 0) by decide +kernel) rfl ?_
  refine jr_1 jm_246 (show jw_cd cd_246 2 = some (.getfield 13) by decide +kernel) (mg_a hl (a := 17) (show jw_fld 34 13 16 = some 3 by decide +kernel) (by decide) (by decide)) ?_
  refine jr_1 jm_246 (show jw_cd cd_246 5 = some (.iload 4) by decide +kernel) rfl ?_
  refine jr_1 jm_246 (show jw_cd cd_246 7 = some (.iaload) by decide +kernel) (ma_i hl (i := v) (e := i0.1) 3 (by omega) (by show _ < ((1740 : Nat) : Int); omega) p3 (by decide) (by decide) (by decide)) ?_
  refine jr_c jm_246 (show jw_cd cd_246 8 = some (.invokestatic 320) by decide +kernel) (mc_s (n := 2) (m2 := 247) (bs := [.int (Int32.ofInt (4)), .int (Int32.ofInt (i0.1))]) (r := []) (by decide) (show jw_find jw_csT 34 320 = some (247, 2) by decide +kernel) rfl rfl rfl) jm_247 ⟨Nat.le_of_ble_eq_true rfl, by decide⟩ (by have e := jn_fits (β := β) (d := d + 1 + 1) (σ := σ) hl (w := 4) (k := i0.1) ⟨by decide, by decide⟩ hk6; rw [if_pos hfit] at e; exact e) ?_
  refine jr_1 jm_246 (show jw_cd cd_246 11 = some (.ifCond .ne 10) by decide +kernel) (mz_t (q := .ne) (a := 1) (t := 21) (by show ¬ (1 = 0); omega) ⟨by omega, by omega⟩ (by decide) (by decide)) ?_
  refine jr_1 jm_246 (show jw_cd cd_246 21 = some (.iload_n 1) by decide +kernel) rfl ?_
  refine jr_1 jm_246 (show jw_cd cd_246 22 = some (.bipush 8) by decide +kernel) (mt_bi (by decide)) ?_
  refine jr_1 jm_246 (show jw_cd cd_246 24 = some (.if_icmp .ne 15) by decide +kernel) (mb_t (q := .ne) (a := 4) (b := 8) (t := 39) (by show ¬ (4 = 8); omega) ⟨by omega, by omega⟩ ⟨by omega, by omega⟩ (by decide) (by decide)) ?_
  refine jr_1 jm_246 (show jw_cd cd_246 39 = some (.iload_n 1) by decide +kernel) rfl ?_
  refine jr_1 jm_246 (show jw_cd cd_246 40 = some (.ifCond .ne 42) by decide +kernel) (mz_t (q := .ne) (a := 4) (t := 82) (by show ¬ (4 = 0); omega) ⟨by omega, by omega⟩ (by decide) (by decide)) ?_
  refine jr_1 jm_246 (show jw_cd cd_246 82 = some (.iload_n 1) by decide +kernel) rfl ?_
  refine jr_1 jm_246 (show jw_cd cd_246 83 = some (.iconst 3) by decide +kernel) rfl ?_
  refine jr_1 jm_246 (show jw_cd cd_246 84 = some (.if_icmp .ge 20) by decide +kernel) (mb_t (q := .ge) (a := 4) (b := 3) (t := 104) (by show 3 ≤ 4; omega) ⟨by omega, by omega⟩ ⟨by omega, by omega⟩ (by decide) (by decide)) ?_
  refine jr_1 jm_246 (show jw_cd cd_246 104 = some (.iload_n 1) by decide +kernel) rfl ?_
  refine jr_1 jm_246 (show jw_cd cd_246 105 = some (.iconst 4) by decide +kernel) rfl ?_
  refine jr_1 jm_246 (show jw_cd cd_246 106 = some (.if_icmp .ne 10) by decide +kernel) (mb_f (q := .ne) (a := 4) (b := 4) (by show ¬ (¬ (4 = 4)); omega) ⟨by omega, by omega⟩ ⟨by omega, by omega⟩ (by decide)) ?_
  refine jr_1 jm_246 (show jw_cd cd_246 109 = some (.aload_n 0) by decide +kernel) rfl ?_
  refine jr_1 jm_246 (show jw_cd cd_246 110 = some (.iload 4) by decide +kernel) rfl ?_
  refine jr_c jm_246 (show jw_cd cd_246 112 = some (.invokevirtual 330) by decide +kernel) (mc_v hl (n := 1) (m2 := 253) (bs := [.int (Int32.ofInt (v))]) (r := []) (show jw_find jw_cvT 34 330 = some (1, [(16, 253)]) by decide +kernel) (by decide) rfl rfl rfl) jm_253 ⟨Nat.le_of_ble_eq_true rfl, by decide⟩ (jn_turnT hl hA hV h4 i4 e11 hn0 hn1) ?_
  exact jr_v jm_246 (show jw_cd cd_246 115 = some (.ireturn) by decide +kernel) rfl
theorem jn_do5 {β : Bool} {d : Nat} {h : jx_H} {σ : mS} (hl : 49 ≤ h.length) {A B : Int → Prop} (hA : mIx A) (hB : mIx B) {v nn cc : Int} {s : List Int} (hs : tx s) {i0 : tI} {F : FT} (hi : iok i0) (hw : fwf F) (hV : mV σ A B v i0 F) (hfit : fitS 5 i0.1 = true) (e11 : σ 11 4 = nn) (hn0 : 0 ≤ nn) (hn1 : 170 * 4 + nn < 1740) : ∃ τ', jx_r (jz β) jw_M (d + 1 + 1 + 1) 246 (0, [some (.ref 15), some (.int (Int32.ofInt (5))), some (.long (Int64.ofInt (pk s))), none, some (.int (Int32.ofInt (v))), none], [], ml_mk h σ) (ml_mk h (mNode τ' 4 3 (ftot 0 F) 0), .inl (some (.int (Int32.ofInt (170 * 4 + nn))))) ∧ mEq [42] σ τ' ∧ τ' 42 0 = (if fnum F = true then σ 42 0 else 2) := by
  obtain ⟨a0, ⟨p3, p4, p5, p7⟩, hF⟩ := id hV
  obtain ⟨av0, av1⟩ := hA _ a0
  obtain ⟨i1, i2, i3, i4, i5⟩ := id hi
  have hk6 : 0 ≤ i0.1 ∧ i0.1 ≤ 6 := ⟨i1, i2⟩
  obtain ⟨τ', r1, r2, r3⟩ := jn_total (β := β) (d := d + 1) hl hA hB (fwf_ok F hw) hV e11 hn0 hn1
  refine ⟨τ', ?_, r2, r3⟩
  refine jr_1 jm_246 (show jw_cd cd_246 0 = some (.iload_n 1) by decide +kernel) rfl ?_
  refine jr_1 jm_246 (show jw_cd cd_246 1 = some (.aload_n 0) by decide +kernel) rfl ?_
  refine jr_1 jm_246 (show jw_cd cd_246 2 = some (.getfield 13) by decide +kernel) (mg_a hl (a := 17) (show jw_fld 34 13 16 = some 3 by decide +kernel) (by decide) (by decide)) ?_
  refine jr_1 jm_246 (show jw_cd cd_246 5 = some (.iload 4) by decide +kernel) rfl ?_
  refine jr_1 jm_246 (show jw_cd cd_246 7 = some (.iaload) by decide +kernel) (ma_i hl (i := v) (e := i0.1) 3 (by omega) (by show _ < ((1740 : Nat) : Int); omega) p3 (by decide) (by decide) (by decide)) ?_
  refine jr_c jm_246 (show jw_cd cd_246 8 = some (.invokestatic 320) by decide +kernel) (mc_s (n := 2) (m2 := 247) (bs := [.int (Int32.ofInt (5)), .int (Int32.ofInt (i0.1))]) (r := []) (by decide) (show jw_find jw_csT 34 320 = some (247, 2) by decide +kernel) rfl rfl rfl) jm_247 ⟨Nat.le_of_ble_eq_true rfl, by decide⟩ (by have e := jn_fits (β := β) (d := d + 1 + 1) (σ := σ) hl (w := 5) (k := i0.1) ⟨by decide, by decide⟩ hk6; rw [if_pos hfit] at e; exact e) ?_
  refine jr_1 jm_246 (show jw_cd cd_246 11 = some (.ifCond .ne 10) by decide +kernel) (mz_t (q := .ne) (a := 1) (t := 21) (by show ¬ (1 = 0); omega) ⟨by omega, by omega⟩ (by decide) (by decide)) ?_
  refine jr_1 jm_246 (show jw_cd cd_246 21 = some (.iload_n 1) by decide +kernel) rfl ?_
  refine jr_1 jm_246 (show jw_cd cd_246 22 = some (.bipush 8) by decide +kernel) (mt_bi (by decide)) ?_
  refine jr_1 jm_246 (show jw_cd cd_246 24 = some (.if_icmp .ne 15) by decide +kernel) (mb_t (q := .ne) (a := 5) (b := 8) (t := 39) (by show ¬ (5 = 8); omega) ⟨by omega, by omega⟩ ⟨by omega, by omega⟩ (by decide) (by decide)) ?_
  refine jr_1 jm_246 (show jw_cd cd_246 39 = some (.iload_n 1) by decide +kernel) rfl ?_
  refine jr_1 jm_246 (show jw_cd cd_246 40 = some (.ifCond .ne 42) by decide +kernel) (mz_t (q := .ne) (a := 5) (t := 82) (by show ¬ (5 = 0); omega) ⟨by omega, by omega⟩ (by decide) (by decide)) ?_
  refine jr_1 jm_246 (show jw_cd cd_246 82 = some (.iload_n 1) by decide +kernel) rfl ?_
  refine jr_1 jm_246 (show jw_cd cd_246 83 = some (.iconst 3) by decide +kernel) rfl ?_
  refine jr_1 jm_246 (show jw_cd cd_246 84 = some (.if_icmp .ge 20) by decide +kernel) (mb_t (q := .ge) (a := 5) (b := 3) (t := 104) (by show 3 ≤ 5; omega) ⟨by omega, by omega⟩ ⟨by omega, by omega⟩ (by decide) (by decide)) ?_
  refine jr_1 jm_246 (show jw_cd cd_246 104 = some (.iload_n 1) by decide +kernel) rfl ?_
  refine jr_1 jm_246 (show jw_cd cd_246 105 = some (.iconst 4) by decide +kernel) rfl ?_
  refine jr_1 jm_246 (show jw_cd cd_246 106 = some (.if_icmp .ne 10) by decide +kernel) (mb_t (q := .ne) (a := 5) (b := 4) (t := 116) (by show ¬ (5 = 4); omega) ⟨by omega, by omega⟩ ⟨by omega, by omega⟩ (by decide) (by decide)) ?_
  refine jr_1 jm_246 (show jw_cd cd_246 116 = some (.iload_n 1) by decide +kernel) rfl ?_
  refine jr_1 jm_246 (show jw_cd cd_246 117 = some (.iconst 5) by decide +kernel) rfl ?_
  refine jr_1 jm_246 (show jw_cd cd_246 118 = some (.if_icmp .ne 10) by decide +kernel) (mb_f (q := .ne) (a := 5) (b := 5) (by show ¬ (¬ (5 = 5)); omega) ⟨by omega, by omega⟩ ⟨by omega, by omega⟩ (by decide)) ?_
  refine jr_1 jm_246 (show jw_cd cd_246 121 = some (.aload_n 0) by decide +kernel) rfl ?_
  refine jr_1 jm_246 (show jw_cd cd_246 122 = some (.iload 4) by decide +kernel) rfl ?_
  refine jr_c jm_246 (show jw_cd cd_246 124 = some (.invokevirtual 333) by decide +kernel) (mc_v hl (n := 1) (m2 := 254) (bs := [.int (Int32.ofInt (v))]) (r := []) (show jw_find jw_cvT 34 333 = some (1, [(16, 254)]) by decide +kernel) (by decide) rfl rfl rfl) jm_254 ⟨Nat.le_of_ble_eq_true rfl, by decide⟩ r1 ?_
  exact jr_v jm_246 (show jw_cd cd_246 127 = some (.ireturn) by decide +kernel) rfl
theorem jn_do3_bad {β : Bool} {d : Nat} {h : jx_H} {σ : mS} (hl : 49 ≤ h.length) {A B : Int → Prop} (hA : mIx A) (hB : mIx B) {v nn cc : Int} {s : List Int} (hs : tx s) {i0 : tI} {F : FT} (hi : iok i0) (hw : fwf F) (hV : mV σ A B v i0 F) (hfit : fitS 3 i0.1 = true) (hb : fsort s 0 F = -1) : jx_r (jz β) jw_M (d + 1 + 1 + 1) 246 (0, [some (.ref 15), some (.int (Int32.ofInt (3))), some (.long (Int64.ofInt (pk s))), none, some (.int (Int32.ofInt (v))), none], [], ml_mk h σ) (ml_mk h (su σ 42 (0) (2)), .inl (some (.int (Int32.ofInt (-1))))) := by
  obtain ⟨a0, ⟨p3, p4, p5, p7⟩, hF⟩ := id hV
  obtain ⟨av0, av1⟩ := hA _ a0
  obtain ⟨i1, i2, i3, i4, i5⟩ := id hi
  have hk6 : 0 ≤ i0.1 ∧ i0.1 ≤ 6 := ⟨i1, i2⟩
  have hfs := fsort_r (s := s) F 0 ⟨by decide, by decide⟩
  refine jr_1 jm_246 (show jw_cd cd_246 0 = some (.iload_n 1) by decide +kernel) rfl ?_
  refine jr_1 jm_246 (show jw_cd cd_246 1 = some (.aload_n 0) by decide +kernel) rfl ?_
  refine jr_1 jm_246 (show jw_cd cd_246 2 = some (.getfield 13) by decide +kernel) (mg_a hl (a := 17) (show jw_fld 34 13 16 = some 3 by decide +kernel) (by decide) (by decide)) ?_
  refine jr_1 jm_246 (show jw_cd cd_246 5 = some (.iload 4) by decide +kernel) rfl ?_
  refine jr_1 jm_246 (show jw_cd cd_246 7 = some (.iaload) by decide +kernel) (ma_i hl (i := v) (e := i0.1) 3 (by omega) (by show _ < ((1740 : Nat) : Int); omega) p3 (by decide) (by decide) (by decide)) ?_
  refine jr_c jm_246 (show jw_cd cd_246 8 = some (.invokestatic 320) by decide +kernel) (mc_s (n := 2) (m2 := 247) (bs := [.int (Int32.ofInt (3)), .int (Int32.ofInt (i0.1))]) (r := []) (by decide) (show jw_find jw_csT 34 320 = some (247, 2) by decide +kernel) rfl rfl rfl) jm_247 ⟨Nat.le_of_ble_eq_true rfl, by decide⟩ (by have e := jn_fits (β := β) (d := d + 1 + 1) (σ := σ) hl (w := 3) (k := i0.1) ⟨by decide, by decide⟩ hk6; rw [if_pos hfit] at e; exact e) ?_
  refine jr_1 jm_246 (show jw_cd cd_246 11 = some (.ifCond .ne 10) by decide +kernel) (mz_t (q := .ne) (a := 1) (t := 21) (by show ¬ (1 = 0); omega) ⟨by omega, by omega⟩ (by decide) (by decide)) ?_
  refine jr_1 jm_246 (show jw_cd cd_246 21 = some (.iload_n 1) by decide +kernel) rfl ?_
  refine jr_1 jm_246 (show jw_cd cd_246 22 = some (.bipush 8) by decide +kernel) (mt_bi (by decide)) ?_
  refine jr_1 jm_246 (show jw_cd cd_246 24 = some (.if_icmp .ne 15) by decide +kernel) (mb_t (q := .ne) (a := 3) (b := 8) (t := 39) (by show ¬ (3 = 8); omega) ⟨by omega, by omega⟩ ⟨by omega, by omega⟩ (by decide) (by decide)) ?_
  refine jr_1 jm_246 (show jw_cd cd_246 39 = some (.iload_n 1) by decide +kernel) rfl ?_
  refine jr_1 jm_246 (show jw_cd cd_246 40 = some (.ifCond .ne 42) by decide +kernel) (mz_t (q := .ne) (a := 3) (t := 82) (by show ¬ (3 = 0); omega) ⟨by omega, by omega⟩ (by decide) (by decide)) ?_
  refine jr_1 jm_246 (show jw_cd cd_246 82 = some (.iload_n 1) by decide +kernel) rfl ?_
  refine jr_1 jm_246 (show jw_cd cd_246 83 = some (.iconst 3) by decide +kernel) rfl ?_
  refine jr_1 jm_246 (show jw_cd cd_246 84 = some (.if_icmp .ge 20) by decide +kernel) (mb_t (q := .ge) (a := 3) (b := 3) (t := 104) (by show 3 ≤ 3; omega) ⟨by omega, by omega⟩ ⟨by omega, by omega⟩ (by decide) (by decide)) ?_
  refine jr_1 jm_246 (show jw_cd cd_246 104 = some (.iload_n 1) by decide +kernel) rfl ?_
  refine jr_1 jm_246 (show jw_cd cd_246 105 = some (.iconst 4) by decide +kernel) rfl ?_
  refine jr_1 jm_246 (show jw_cd cd_246 106 = some (.if_icmp .ne 10) by decide +kernel) (mb_t (q := .ne) (a := 3) (b := 4) (t := 116) (by show ¬ (3 = 4); omega) ⟨by omega, by omega⟩ ⟨by omega, by omega⟩ (by decide) (by decide)) ?_
  refine jr_1 jm_246 (show jw_cd cd_246 116 = some (.iload_n 1) by decide +kernel) rfl ?_
  refine jr_1 jm_246 (show jw_cd cd_246 117 = some (.iconst 5) by decide +kernel) rfl ?_
  refine jr_1 jm_246 (show jw_cd cd_246 118 = some (.if_icmp .ne 10) by decide +kernel) (mb_t (q := .ne) (a := 3) (b := 5) (t := 128) (by show ¬ (3 = 5); omega) ⟨by omega, by omega⟩ ⟨by omega, by omega⟩ (by decide) (by decide)) ?_
  refine jr_1 jm_246 (show jw_cd cd_246 128 = some (.aload_n 0) by decide +kernel) rfl ?_
  refine jr_1 jm_246 (show jw_cd cd_246 129 = some (.iload 4) by decide +kernel) rfl ?_
  refine jr_1 jm_246 (show jw_cd cd_246 131 = some (.lload_n 2) by decide +kernel) rfl ?_
  refine jr_c jm_246 (show jw_cd cd_246 132 = some (.invokevirtual 336) by decide +kernel) (mc_v hl (n := 2) (m2 := 255) (bs := [.int (Int32.ofInt (v)), .long (Int64.ofInt (pk s))]) (r := []) (show jw_find jw_cvT 34 336 = some (2, [(16, 255)]) by decide +kernel) (by decide) rfl rfl rfl) jm_255 ⟨Nat.le_of_ble_eq_true rfl, by decide⟩ (jn_sort hl hA hB hs hw hV) ?_
  refine jr_1 jm_246 (F2 := (137, [some (.ref 15), some (.int (Int32.ofInt (3))), some (.long (Int64.ofInt (pk s))), none, some (.int (Int32.ofInt (v))), some (.int (Int32.ofInt (fsort s 0 F)))], [], ml_mk h σ)) (show jw_cd cd_246 135 = some (.istore 5) by decide +kernel) rfl ?_
  refine jr_1 jm_246 (show jw_cd cd_246 137 = some (.aload_n 0) by decide +kernel) rfl ?_
  refine jr_1 jm_246 (show jw_cd cd_246 138 = some (.iload 5) by decide +kernel) rfl ?_
  refine jr_1 jm_246 (show jw_cd cd_246 140 = some (.iconst (-1)) by decide +kernel) rfl ?_
  refine jr_1 jm_246 (show jw_cd cd_246 141 = some (.if_icmp .ne 7) by decide +kernel) (mb_f (q := .ne) (a := fsort s 0 F) (b := -1) (fun z => z hb) ⟨by omega, by omega⟩ ⟨by omega, by omega⟩ (by decide)) ?_
  refine jr_1 jm_246 (show jw_cd cd_246 144 = some (.iconst 2) by decide +kernel) rfl ?_
  refine jr_1 jm_246 (show jw_cd cd_246 145 = some (.goto 4) by decide +kernel) (ju_go (t := 149) (by decide)) ?_
  refine jr_1 jm_246 (show jw_cd cd_246 149 = some (.putfield 317) by decide +kernel) (mp_i hl (x := 2) (show jw_fld 34 317 16 = some 42 by decide +kernel) (by decide) (by decide) (show jw_ft 16 42 = some .int by decide +kernel) (show jw_fm 34 16 42 = some false by decide +kernel)) ?_
  refine jr_1 jm_246 (show jw_cd cd_246 152 = some (.aload_n 0) by decide +kernel) rfl ?_
  refine jr_1 jm_246 (show jw_cd cd_246 153 = some (.getfield 317) by decide +kernel) (mg_i hl (e := 2) (su_eq _ _ _ _) (show jw_fld 34 317 16 = some 42 by decide +kernel) (by decide) (by decide)) ?_
  refine jr_1 jm_246 (show jw_cd cd_246 156 = some (.ifCond .le 7) by decide +kernel) (mz_f (q := .le) (a := 2) (by show ¬ (2 ≤ 0); omega) ⟨by omega, by omega⟩ (by decide)) ?_
  refine jr_1 jm_246 (show jw_cd cd_246 159 = some (.iconst (-1)) by decide +kernel) rfl ?_
  refine jr_1 jm_246 (show jw_cd cd_246 160 = some (.goto 35) by decide +kernel) (ju_go (t := 195) (by decide)) ?_
  exact jr_v jm_246 (show jw_cd cd_246 195 = some (.ireturn) by decide +kernel) rfl
theorem jn_do3 {β : Bool} {d : Nat} {h : jx_H} {σ : mS} (hl : 49 ≤ h.length) {A B : Int → Prop} (hA : mIx A) (hB : mIx B) {v nn cc : Int} {s : List Int} (hs : tx s) {i0 : tI} {F : FT} (hi : iok i0) (hw : fwf F) (hV : mV σ A B v i0 F) (hfit : fitS 3 i0.1 = true) (hb : ¬ fsort s 0 F = -1) (e11 : σ 11 4 = nn) (hn0 : 0 ≤ nn) (hn1 : 170 * 4 + nn < 1740) (e12 : σ 12 4 = cc) (hc0 : 0 ≤ cc) (hm4 : fsz F ≤ 400) (hc1 : 170 * 4 + cc + fsz F ≤ 1740) (hAn : ¬ A (170 * 4 + nn)) (hBn : ∀ x, B x → ¬ In (170 * 4 + cc) (170 * 4 + cc + fsz F) x) : ∃ τ2, jx_r (jz β) jw_M (d + 1 + 1 + 1) 246 (0, [some (.ref 15), some (.int (Int32.ofInt (3))), some (.long (Int64.ofInt (pk s))), none, some (.int (Int32.ofInt (v))), none], [], ml_mk h σ) (ml_mk h (τ2), .inl (some (.int (Int32.ofInt (170 * 4 + nn))))) ∧ mV τ2 (fun v => A v ∨ v = 170 * 4 + nn) (fun x => B x ∨ In (170 * 4 + cc) (170 * 4 + cc + fsz F) x) (170 * 4 + nn) (5, 0, [], []) (fl (srt s F)) ∧ τ2 11 4 = nn + 1 ∧ τ2 12 4 = cc + fsz F ∧ ldG (su σ 42 (0) (0)) τ2 (170 * 4 + nn) (170 * 4 + nn + 1) (170 * 4 + cc) (170 * 4 + cc + fsz F) := by
  obtain ⟨a0, ⟨p3, p4, p5, p7⟩, hF⟩ := id hV
  obtain ⟨av0, av1⟩ := hA _ a0
  obtain ⟨i1, i2, i3, i4, i5⟩ := id hi
  have hk6 : 0 ≤ i0.1 ∧ i0.1 ≤ 6 := ⟨i1, i2⟩
  have hfs := fsort_r (s := s) F 0 ⟨by decide, by decide⟩
  have hV2 : mV (su σ 42 (0) (0)) A B v i0 F := mV_fr (fun f v f1 f2 _ => su_nf (by omega)) (fun f x f1 f2 _ => su_nf (by omega)) (fun _ h => h) (fun _ h => h) hV
  obtain ⟨τ2, r1, r2⟩ := jn_sorted (β := β) (d := d) (σ := (su σ 42 (0) (0))) hl hA hB hs hw (fsort_all F 0 hb) hV2 ((su_nf (by decide)).trans e11) hn0 hn1 ((su_nf (by decide)).trans e12) hc0 hm4 hc1 hAn hBn
  refine ⟨τ2, ?_, r2⟩
  refine jr_1 jm_246 (show jw_cd cd_246 0 = some (.iload_n 1) by decide +kernel) rfl ?_
  refine jr_1 jm_246 (show jw_cd cd_246 1 = some (.aload_n 0) by decide +kernel) rfl ?_
  refine jr_1 jm_246 (show jw_cd cd_246 2 = some (.getfield 13) by decide +kernel) (mg_a hl (a := 17) (show jw_fld 34 13 16 = some 3 by decide +kernel) (by decide) (by decide)) ?_
  refine jr_1 jm_246 (show jw_cd cd_246 5 = some (.iload 4) by decide +kernel) rfl ?_
  refine jr_1 jm_246 (show jw_cd cd_246 7 = some (.iaload) by decide +kernel) (ma_i hl (i := v) (e := i0.1) 3 (by omega) (by show _ < ((1740 : Nat) : Int); omega) p3 (by decide) (by decide) (by decide)) ?_
  refine jr_c jm_246 (show jw_cd cd_246 8 = some (.invokestatic 320) by decide +kernel) (mc_s (n := 2) (m2 := 247) (bs := [.int (Int32.ofInt (3)), .int (Int32.ofInt (i0.1))]) (r := []) (by decide) (show jw_find jw_csT 34 320 = some (247, 2) by decide +kernel) rfl rfl rfl) jm_247 ⟨Nat.le_of_ble_eq_true rfl, by decide⟩ (by have e := jn_fits (β := β) (d := d + 1 + 1) (σ := σ) hl (w := 3) (k := i0.1) ⟨by decide, by decide⟩ hk6; rw [if_pos hfit] at e; exact e) ?_
  refine jr_1 jm_246 (show jw_cd cd_246 11 = some (.ifCond .ne 10) by decide +kernel) (mz_t (q := .ne) (a := 1) (t := 21) (by show ¬ (1 = 0); omega) ⟨by omega, by omega⟩ (by decide) (by decide)) ?_
  refine jr_1 jm_246 (show jw_cd cd_246 21 = some (.iload_n 1) by decide +kernel) rfl ?_
  refine jr_1 jm_246 (show jw_cd cd_246 22 = some (.bipush 8) by decide +kernel) (mt_bi (by decide)) ?_
  refine jr_1 jm_246 (show jw_cd cd_246 24 = some (.if_icmp .ne 15) by decide +kernel) (mb_t (q := .ne) (a := 3) (b := 8) (t := 39) (by show ¬ (3 = 8); omega) ⟨by omega, by omega⟩ ⟨by omega, by omega⟩ (by decide) (by decide)) ?_
  refine jr_1 jm_246 (show jw_cd cd_246 39 = some (.iload_n 1) by decide +kernel) rfl ?_
  refine jr_1 jm_246 (show jw_cd cd_246 40 = some (.ifCond .ne 42) by decide +kernel) (mz_t (q := .ne) (a := 3) (t := 82) (by show ¬ (3 = 0); omega) ⟨by omega, by omega⟩ (by decide) (by decide)) ?_
  refine jr_1 jm_246 (show jw_cd cd_246 82 = some (.iload_n 1) by decide +kernel) rfl ?_
  refine jr_1 jm_246 (show jw_cd cd_246 83 = some (.iconst 3) by decide +kernel) rfl ?_
  refine jr_1 jm_246 (show jw_cd cd_246 84 = some (.if_icmp .ge 20) by decide +kernel) (mb_t (q := .ge) (a := 3) (b := 3) (t := 104) (by show 3 ≤ 3; omega) ⟨by omega, by omega⟩ ⟨by omega, by omega⟩ (by decide) (by decide)) ?_
  refine jr_1 jm_246 (show jw_cd cd_246 104 = some (.iload_n 1) by decide +kernel) rfl ?_
  refine jr_1 jm_246 (show jw_cd cd_246 105 = some (.iconst 4) by decide +kernel) rfl ?_
  refine jr_1 jm_246 (show jw_cd cd_246 106 = some (.if_icmp .ne 10) by decide +kernel) (mb_t (q := .ne) (a := 3) (b := 4) (t := 116) (by show ¬ (3 = 4); omega) ⟨by omega, by omega⟩ ⟨by omega, by omega⟩ (by decide) (by decide)) ?_
  refine jr_1 jm_246 (show jw_cd cd_246 116 = some (.iload_n 1) by decide +kernel) rfl ?_
  refine jr_1 jm_246 (show jw_cd cd_246 117 = some (.iconst 5) by decide +kernel) rfl ?_
  refine jr_1 jm_246 (show jw_cd cd_246 118 = some (.if_icmp .ne 10) by decide +kernel) (mb_t (q := .ne) (a := 3) (b := 5) (t := 128) (by show ¬ (3 = 5); omega) ⟨by omega, by omega⟩ ⟨by omega, by omega⟩ (by decide) (by decide)) ?_
  refine jr_1 jm_246 (show jw_cd cd_246 128 = some (.aload_n 0) by decide +kernel) rfl ?_
  refine jr_1 jm_246 (show jw_cd cd_246 129 = some (.iload 4) by decide +kernel) rfl ?_
  refine jr_1 jm_246 (show jw_cd cd_246 131 = some (.lload_n 2) by decide +kernel) rfl ?_
  refine jr_c jm_246 (show jw_cd cd_246 132 = some (.invokevirtual 336) by decide +kernel) (mc_v hl (n := 2) (m2 := 255) (bs := [.int (Int32.ofInt (v)), .long (Int64.ofInt (pk s))]) (r := []) (show jw_find jw_cvT 34 336 = some (2, [(16, 255)]) by decide +kernel) (by decide) rfl rfl rfl) jm_255 ⟨Nat.le_of_ble_eq_true rfl, by decide⟩ (jn_sort hl hA hB hs hw hV) ?_
  refine jr_1 jm_246 (F2 := (137, [some (.ref 15), some (.int (Int32.ofInt (3))), some (.long (Int64.ofInt (pk s))), none, some (.int (Int32.ofInt (v))), some (.int (Int32.ofInt (fsort s 0 F)))], [], ml_mk h σ)) (show jw_cd cd_246 135 = some (.istore 5) by decide +kernel) rfl ?_
  refine jr_1 jm_246 (show jw_cd cd_246 137 = some (.aload_n 0) by decide +kernel) rfl ?_
  refine jr_1 jm_246 (show jw_cd cd_246 138 = some (.iload 5) by decide +kernel) rfl ?_
  refine jr_1 jm_246 (show jw_cd cd_246 140 = some (.iconst (-1)) by decide +kernel) rfl ?_
  refine jr_1 jm_246 (show jw_cd cd_246 141 = some (.if_icmp .ne 7) by decide +kernel) (mb_t (q := .ne) (a := fsort s 0 F) (b := -1) (t := 148) hb ⟨by omega, by omega⟩ ⟨by omega, by omega⟩ (by decide) (by decide)) ?_
  refine jr_1 jm_246 (show jw_cd cd_246 148 = some (.iconst 0) by decide +kernel) rfl ?_
  refine jr_1 jm_246 (show jw_cd cd_246 149 = some (.putfield 317) by decide +kernel) (mp_i hl (x := 0) (show jw_fld 34 317 16 = some 42 by decide +kernel) (by decide) (by decide) (show jw_ft 16 42 = some .int by decide +kernel) (show jw_fm 34 16 42 = some false by decide +kernel)) ?_
  refine jr_1 jm_246 (show jw_cd cd_246 152 = some (.aload_n 0) by decide +kernel) rfl ?_
  refine jr_1 jm_246 (show jw_cd cd_246 153 = some (.getfield 317) by decide +kernel) (mg_i hl (e := 0) (su_eq _ _ _ _) (show jw_fld 34 317 16 = some 42 by decide +kernel) (by decide) (by decide)) ?_
  refine jr_1 jm_246 (show jw_cd cd_246 156 = some (.ifCond .le 7) by decide +kernel) (mz_t (q := .le) (a := 0) (t := 163) (by show 0 ≤ 0; omega) ⟨by omega, by omega⟩ (by decide) (by decide)) ?_
  refine jr_1 jm_246 (show jw_cd cd_246 163 = some (.iload_n 1) by decide +kernel) rfl ?_
  refine jr_1 jm_246 (show jw_cd cd_246 164 = some (.iconst 3) by decide +kernel) rfl ?_
  refine jr_1 jm_246 (show jw_cd cd_246 165 = some (.if_icmp .ne 13) by decide +kernel) (mb_f (q := .ne) (a := 3) (b := 3) (by show ¬ (¬ (3 = 3)); omega) ⟨by omega, by omega⟩ ⟨by omega, by omega⟩ (by decide)) ?_
  refine jr_1 jm_246 (show jw_cd cd_246 168 = some (.aload_n 0) by decide +kernel) rfl ?_
  refine jr_1 jm_246 (show jw_cd cd_246 169 = some (.iload 4) by decide +kernel) rfl ?_
  refine jr_1 jm_246 (show jw_cd cd_246 171 = some (.lload_n 2) by decide +kernel) rfl ?_
  refine jr_c jm_246 (show jw_cd cd_246 172 = some (.invokevirtual 339) by decide +kernel) (mc_v hl (n := 2) (m2 := 257) (bs := [.int (Int32.ofInt (v)), .long (Int64.ofInt (pk s))]) (r := []) (show jw_find jw_cvT 34 339 = some (2, [(16, 257)]) by decide +kernel) (by decide) rfl rfl rfl) jm_257 ⟨Nat.le_of_ble_eq_true rfl, by decide⟩ r1 ?_
  refine jr_1 jm_246 (show jw_cd cd_246 175 = some (.goto 20) by decide +kernel) (ju_go (t := 195) (by decide)) ?_
  exact jr_v jm_246 (show jw_cd cd_246 195 = some (.ireturn) by decide +kernel) rfl
theorem jn_do6_bad {β : Bool} {d : Nat} {h : jx_H} {σ : mS} (hl : 49 ≤ h.length) {A B : Int → Prop} (hA : mIx A) (hB : mIx B) {v nn cc : Int} {s : List Int} (hs : tx s) {i0 : tI} {F : FT} (hi : iok i0) (hw : fwf F) (hV : mV σ A B v i0 F) (hfit : fitS 6 i0.1 = true) (hb : fsort s 0 F = -1) : jx_r (jz β) jw_M (d + 1 + 1 + 1) 246 (0, [some (.ref 15), some (.int (Int32.ofInt (6))), some (.long (Int64.ofInt (pk s))), none, some (.int (Int32.ofInt (v))), none], [], ml_mk h σ) (ml_mk h (su σ 42 (0) (2)), .inl (some (.int (Int32.ofInt (-1))))) := by
  obtain ⟨a0, ⟨p3, p4, p5, p7⟩, hF⟩ := id hV
  obtain ⟨av0, av1⟩ := hA _ a0
  obtain ⟨i1, i2, i3, i4, i5⟩ := id hi
  have hk6 : 0 ≤ i0.1 ∧ i0.1 ≤ 6 := ⟨i1, i2⟩
  have hfs := fsort_r (s := s) F 0 ⟨by decide, by decide⟩
  refine jr_1 jm_246 (show jw_cd cd_246 0 = some (.iload_n 1) by decide +kernel) rfl ?_
  refine jr_1 jm_246 (show jw_cd cd_246 1 = some (.aload_n 0) by decide +kernel) rfl ?_
  refine jr_1 jm_246 (show jw_cd cd_246 2 = some (.getfield 13) by decide +kernel) (mg_a hl (a := 17) (show jw_fld 34 13 16 = some 3 by decide +kernel) (by decide) (by decide)) ?_
  refine jr_1 jm_246 (show jw_cd cd_246 5 = some (.iload 4) by decide +kernel) rfl ?_
  refine jr_1 jm_246 (show jw_cd cd_246 7 = some (.iaload) by decide +kernel) (ma_i hl (i := v) (e := i0.1) 3 (by omega) (by show _ < ((1740 : Nat) : Int); omega) p3 (by decide) (by decide) (by decide)) ?_
  refine jr_c jm_246 (show jw_cd cd_246 8 = some (.invokestatic 320) by decide +kernel) (mc_s (n := 2) (m2 := 247) (bs := [.int (Int32.ofInt (6)), .int (Int32.ofInt (i0.1))]) (r := []) (by decide) (show jw_find jw_csT 34 320 = some (247, 2) by decide +kernel) rfl rfl rfl) jm_247 ⟨Nat.le_of_ble_eq_true rfl, by decide⟩ (by have e := jn_fits (β := β) (d := d + 1 + 1) (σ := σ) hl (w := 6) (k := i0.1) ⟨by decide, by decide⟩ hk6; rw [if_pos hfit] at e; exact e) ?_
  refine jr_1 jm_246 (show jw_cd cd_246 11 = some (.ifCond .ne 10) by decide +kernel) (mz_t (q := .ne) (a := 1) (t := 21) (by show ¬ (1 = 0); omega) ⟨by omega, by omega⟩ (by decide) (by decide)) ?_
  refine jr_1 jm_246 (show jw_cd cd_246 21 = some (.iload_n 1) by decide +kernel) rfl ?_
  refine jr_1 jm_246 (show jw_cd cd_246 22 = some (.bipush 8) by decide +kernel) (mt_bi (by decide)) ?_
  refine jr_1 jm_246 (show jw_cd cd_246 24 = some (.if_icmp .ne 15) by decide +kernel) (mb_t (q := .ne) (a := 6) (b := 8) (t := 39) (by show ¬ (6 = 8); omega) ⟨by omega, by omega⟩ ⟨by omega, by omega⟩ (by decide) (by decide)) ?_
  refine jr_1 jm_246 (show jw_cd cd_246 39 = some (.iload_n 1) by decide +kernel) rfl ?_
  refine jr_1 jm_246 (show jw_cd cd_246 40 = some (.ifCond .ne 42) by decide +kernel) (mz_t (q := .ne) (a := 6) (t := 82) (by show ¬ (6 = 0); omega) ⟨by omega, by omega⟩ (by decide) (by decide)) ?_
  refine jr_1 jm_246 (show jw_cd cd_246 82 = some (.iload_n 1) by decide +kernel) rfl ?_
  refine jr_1 jm_246 (show jw_cd cd_246 83 = some (.iconst 3) by decide +kernel) rfl ?_
  refine jr_1 jm_246 (show jw_cd cd_246 84 = some (.if_icmp .ge 20) by decide +kernel) (mb_t (q := .ge) (a := 6) (b := 3) (t := 104) (by show 3 ≤ 6; omega) ⟨by omega, by omega⟩ ⟨by omega, by omega⟩ (by decide) (by decide)) ?_
  refine jr_1 jm_246 (show jw_cd cd_246 104 = some (.iload_n 1) by decide +kernel) rfl ?_
  refine jr_1 jm_246 (show jw_cd cd_246 105 = some (.iconst 4) by decide +kernel) rfl ?_
  refine jr_1 jm_246 (show jw_cd cd_246 106 = some (.if_icmp .ne 10) by decide +kernel) (mb_t (q := .ne) (a := 6) (b := 4) (t := 116) (by show ¬ (6 = 4); omega) ⟨by omega, by omega⟩ ⟨by omega, by omega⟩ (by decide) (by decide)) ?_
  refine jr_1 jm_246 (show jw_cd cd_246 116 = some (.iload_n 1) by decide +kernel) rfl ?_
  refine jr_1 jm_246 (show jw_cd cd_246 117 = some (.iconst 5) by decide +kernel) rfl ?_
  refine jr_1 jm_246 (show jw_cd cd_246 118 = some (.if_icmp .ne 10) by decide +kernel) (mb_t (q := .ne) (a := 6) (b := 5) (t := 128) (by show ¬ (6 = 5); omega) ⟨by omega, by omega⟩ ⟨by omega, by omega⟩ (by decide) (by decide)) ?_
  refine jr_1 jm_246 (show jw_cd cd_246 128 = some (.aload_n 0) by decide +kernel) rfl ?_
  refine jr_1 jm_246 (show jw_cd cd_246 129 = some (.iload 4) by decide +kernel) rfl ?_
  refine jr_1 jm_246 (show jw_cd cd_246 131 = some (.lload_n 2) by decide +kernel) rfl ?_
  refine jr_c jm_246 (show jw_cd cd_246 132 = some (.invokevirtual 336) by decide +kernel) (mc_v hl (n := 2) (m2 := 255) (bs := [.int (Int32.ofInt (v)), .long (Int64.ofInt (pk s))]) (r := []) (show jw_find jw_cvT 34 336 = some (2, [(16, 255)]) by decide +kernel) (by decide) rfl rfl rfl) jm_255 ⟨Nat.le_of_ble_eq_true rfl, by decide⟩ (jn_sort hl hA hB hs hw hV) ?_
  refine jr_1 jm_246 (F2 := (137, [some (.ref 15), some (.int (Int32.ofInt (6))), some (.long (Int64.ofInt (pk s))), none, some (.int (Int32.ofInt (v))), some (.int (Int32.ofInt (fsort s 0 F)))], [], ml_mk h σ)) (show jw_cd cd_246 135 = some (.istore 5) by decide +kernel) rfl ?_
  refine jr_1 jm_246 (show jw_cd cd_246 137 = some (.aload_n 0) by decide +kernel) rfl ?_
  refine jr_1 jm_246 (show jw_cd cd_246 138 = some (.iload 5) by decide +kernel) rfl ?_
  refine jr_1 jm_246 (show jw_cd cd_246 140 = some (.iconst (-1)) by decide +kernel) rfl ?_
  refine jr_1 jm_246 (show jw_cd cd_246 141 = some (.if_icmp .ne 7) by decide +kernel) (mb_f (q := .ne) (a := fsort s 0 F) (b := -1) (fun z => z hb) ⟨by omega, by omega⟩ ⟨by omega, by omega⟩ (by decide)) ?_
  refine jr_1 jm_246 (show jw_cd cd_246 144 = some (.iconst 2) by decide +kernel) rfl ?_
  refine jr_1 jm_246 (show jw_cd cd_246 145 = some (.goto 4) by decide +kernel) (ju_go (t := 149) (by decide)) ?_
  refine jr_1 jm_246 (show jw_cd cd_246 149 = some (.putfield 317) by decide +kernel) (mp_i hl (x := 2) (show jw_fld 34 317 16 = some 42 by decide +kernel) (by decide) (by decide) (show jw_ft 16 42 = some .int by decide +kernel) (show jw_fm 34 16 42 = some false by decide +kernel)) ?_
  refine jr_1 jm_246 (show jw_cd cd_246 152 = some (.aload_n 0) by decide +kernel) rfl ?_
  refine jr_1 jm_246 (show jw_cd cd_246 153 = some (.getfield 317) by decide +kernel) (mg_i hl (e := 2) (su_eq _ _ _ _) (show jw_fld 34 317 16 = some 42 by decide +kernel) (by decide) (by decide)) ?_
  refine jr_1 jm_246 (show jw_cd cd_246 156 = some (.ifCond .le 7) by decide +kernel) (mz_f (q := .le) (a := 2) (by show ¬ (2 ≤ 0); omega) ⟨by omega, by omega⟩ (by decide)) ?_
  refine jr_1 jm_246 (show jw_cd cd_246 159 = some (.iconst (-1)) by decide +kernel) rfl ?_
  refine jr_1 jm_246 (show jw_cd cd_246 160 = some (.goto 35) by decide +kernel) (ju_go (t := 195) (by decide)) ?_
  exact jr_v jm_246 (show jw_cd cd_246 195 = some (.ireturn) by decide +kernel) rfl
theorem jn_do6 {β : Bool} {d : Nat} {h : jx_H} {σ : mS} (hl : 49 ≤ h.length) {A B : Int → Prop} (hA : mIx A) (hB : mIx B) {v nn cc : Int} {s : List Int} (hs : tx s) {i0 : tI} {F : FT} (hi : iok i0) (hw : fwf F) (hV : mV σ A B v i0 F) (hfit : fitS 6 i0.1 = true) (hb : ¬ fsort s 0 F = -1) : ∃ r, jx_r (jz β) jw_M (d + 1 + 1 + 1) 246 (0, [some (.ref 15), some (.int (Int32.ofInt (6))), some (.long (Int64.ofInt (pk s))), none, some (.int (Int32.ofInt (v))), none], [], ml_mk h σ) (ml_mk h ((su σ 42 (0) (0))), .inl (some (.int (Int32.ofInt (r))))) ∧ mO (su σ 42 (0) (0)) A B r (fbest0 true F) := by
  obtain ⟨a0, ⟨p3, p4, p5, p7⟩, hF⟩ := id hV
  obtain ⟨av0, av1⟩ := hA _ a0
  obtain ⟨i1, i2, i3, i4, i5⟩ := id hi
  have hk6 : 0 ≤ i0.1 ∧ i0.1 ≤ 6 := ⟨i1, i2⟩
  have hfs := fsort_r (s := s) F 0 ⟨by decide, by decide⟩
  have hV2 : mV (su σ 42 (0) (0)) A B v i0 F := mV_fr (fun f v f1 f2 _ => su_nf (by omega)) (fun f x f1 f2 _ => su_nf (by omega)) (fun _ h => h) (fun _ h => h) hV
  obtain ⟨r, r1, r2⟩ := jn_bestV_1 (β := β) (d := d + 1) (σ := (su σ 42 (0) (0))) hl hA hB (fwf_ok F hw) hV2
  refine ⟨r, ?_, r2⟩
  refine jr_1 jm_246 (show jw_cd cd_246 0 = some (.iload_n 1) by decide +kernel) rfl ?_
  refine jr_1 jm_246 (show jw_cd cd_246 1 = some (.aload_n 0) by decide +kernel) rfl ?_
  refine jr_1 jm_246 (show jw_cd cd_246 2 = some (.getfield 13) by decide +kernel) (mg_a hl (a := 17) (show jw_fld 34 13 16 = some 3 by decide +kernel) (by decide) (by decide)) ?_
  refine jr_1 jm_246 (show jw_cd cd_246 5 = some (.iload 4) by decide +kernel) rfl ?_
  refine jr_1 jm_246 (show jw_cd cd_246 7 = some (.iaload) by decide +kernel) (ma_i hl (i := v) (e := i0.1) 3 (by omega) (by show _ < ((1740 : Nat) : Int); omega) p3 (by decide) (by decide) (by decide)) ?_
  refine jr_c jm_246 (show jw_cd cd_246 8 = some (.invokestatic 320) by decide +kernel) (mc_s (n := 2) (m2 := 247) (bs := [.int (Int32.ofInt (6)), .int (Int32.ofInt (i0.1))]) (r := []) (by decide) (show jw_find jw_csT 34 320 = some (247, 2) by decide +kernel) rfl rfl rfl) jm_247 ⟨Nat.le_of_ble_eq_true rfl, by decide⟩ (by have e := jn_fits (β := β) (d := d + 1 + 1) (σ := σ) hl (w := 6) (k := i0.1) ⟨by decide, by decide⟩ hk6; rw [if_pos hfit] at e; exact e) ?_
  refine jr_1 jm_246 (show jw_cd cd_246 11 = some (.ifCond .ne 10) by decide +kernel) (mz_t (q := .ne) (a := 1) (t := 21) (by show ¬ (1 = 0); omega) ⟨by omega, by omega⟩ (by decide) (by decide)) ?_
  refine jr_1 jm_246 (show jw_cd cd_246 21 = some (.iload_n 1) by decide +kernel) rfl ?_
  refine jr_1 jm_246 (show jw_cd cd_246 22 = some (.bipush 8) by decide +kernel) (mt_bi (by decide)) ?_
  refine jr_1 jm_246 (show jw_cd cd_246 24 = some (.if_icmp .ne 15) by decide +kernel) (mb_t (q := .ne) (a := 6) (b := 8) (t := 39) (by show ¬ (6 = 8); omega) ⟨by omega, by omega⟩ ⟨by omega, by omega⟩ (by decide) (by decide)) ?_
  refine jr_1 jm_246 (show jw_cd cd_246 39 = some (.iload_n 1) by decide +kernel) rfl ?_
  refine jr_1 jm_246 (show jw_cd cd_246 40 = some (.ifCond .ne 42) by decide +kernel) (mz_t (q := .ne) (a := 6) (t := 82) (by show ¬ (6 = 0); omega) ⟨by omega, by omega⟩ (by decide) (by decide)) ?_
  refine jr_1 jm_246 (show jw_cd cd_246 82 = some (.iload_n 1) by decide +kernel) rfl ?_
  refine jr_1 jm_246 (show jw_cd cd_246 83 = some (.iconst 3) by decide +kernel) rfl ?_
  refine jr_1 jm_246 (show jw_cd cd_246 84 = some (.if_icmp .ge 20) by decide +kernel) (mb_t (q := .ge) (a := 6) (b := 3) (t := 104) (by show 3 ≤ 6; omega) ⟨by omega, by omega⟩ ⟨by omega, by omega⟩ (by decide) (by decide)) ?_
  refine jr_1 jm_246 (show jw_cd cd_246 104 = some (.iload_n 1) by decide +kernel) rfl ?_
  refine jr_1 jm_246 (show jw_cd cd_246 105 = some (.iconst 4) by decide +kernel) rfl ?_
  refine jr_1 jm_246 (show jw_cd cd_246 106 = some (.if_icmp .ne 10) by decide +kernel) (mb_t (q := .ne) (a := 6) (b := 4) (t := 116) (by show ¬ (6 = 4); omega) ⟨by omega, by omega⟩ ⟨by omega, by omega⟩ (by decide) (by decide)) ?_
  refine jr_1 jm_246 (show jw_cd cd_246 116 = some (.iload_n 1) by decide +kernel) rfl ?_
  refine jr_1 jm_246 (show jw_cd cd_246 117 = some (.iconst 5) by decide +kernel) rfl ?_
  refine jr_1 jm_246 (show jw_cd cd_246 118 = some (.if_icmp .ne 10) by decide +kernel) (mb_t (q := .ne) (a := 6) (b := 5) (t := 128) (by show ¬ (6 = 5); omega) ⟨by omega, by omega⟩ ⟨by omega, by omega⟩ (by decide) (by decide)) ?_
  refine jr_1 jm_246 (show jw_cd cd_246 128 = some (.aload_n 0) by decide +kernel) rfl ?_
  refine jr_1 jm_246 (show jw_cd cd_246 129 = some (.iload 4) by decide +kernel) rfl ?_
  refine jr_1 jm_246 (show jw_cd cd_246 131 = some (.lload_n 2) by decide +kernel) rfl ?_
  refine jr_c jm_246 (show jw_cd cd_246 132 = some (.invokevirtual 336) by decide +kernel) (mc_v hl (n := 2) (m2 := 255) (bs := [.int (Int32.ofInt (v)), .long (Int64.ofInt (pk s))]) (r := []) (show jw_find jw_cvT 34 336 = some (2, [(16, 255)]) by decide +kernel) (by decide) rfl rfl rfl) jm_255 ⟨Nat.le_of_ble_eq_true rfl, by decide⟩ (jn_sort hl hA hB hs hw hV) ?_
  refine jr_1 jm_246 (F2 := (137, [some (.ref 15), some (.int (Int32.ofInt (6))), some (.long (Int64.ofInt (pk s))), none, some (.int (Int32.ofInt (v))), some (.int (Int32.ofInt (fsort s 0 F)))], [], ml_mk h σ)) (show jw_cd cd_246 135 = some (.istore 5) by decide +kernel) rfl ?_
  refine jr_1 jm_246 (show jw_cd cd_246 137 = some (.aload_n 0) by decide +kernel) rfl ?_
  refine jr_1 jm_246 (show jw_cd cd_246 138 = some (.iload 5) by decide +kernel) rfl ?_
  refine jr_1 jm_246 (show jw_cd cd_246 140 = some (.iconst (-1)) by decide +kernel) rfl ?_
  refine jr_1 jm_246 (show jw_cd cd_246 141 = some (.if_icmp .ne 7) by decide +kernel) (mb_t (q := .ne) (a := fsort s 0 F) (b := -1) (t := 148) hb ⟨by omega, by omega⟩ ⟨by omega, by omega⟩ (by decide) (by decide)) ?_
  refine jr_1 jm_246 (show jw_cd cd_246 148 = some (.iconst 0) by decide +kernel) rfl ?_
  refine jr_1 jm_246 (show jw_cd cd_246 149 = some (.putfield 317) by decide +kernel) (mp_i hl (x := 0) (show jw_fld 34 317 16 = some 42 by decide +kernel) (by decide) (by decide) (show jw_ft 16 42 = some .int by decide +kernel) (show jw_fm 34 16 42 = some false by decide +kernel)) ?_
  refine jr_1 jm_246 (show jw_cd cd_246 152 = some (.aload_n 0) by decide +kernel) rfl ?_
  refine jr_1 jm_246 (show jw_cd cd_246 153 = some (.getfield 317) by decide +kernel) (mg_i hl (e := 0) (su_eq _ _ _ _) (show jw_fld 34 317 16 = some 42 by decide +kernel) (by decide) (by decide)) ?_
  refine jr_1 jm_246 (show jw_cd cd_246 156 = some (.ifCond .le 7) by decide +kernel) (mz_t (q := .le) (a := 0) (t := 163) (by show 0 ≤ 0; omega) ⟨by omega, by omega⟩ (by decide) (by decide)) ?_
  refine jr_1 jm_246 (show jw_cd cd_246 163 = some (.iload_n 1) by decide +kernel) rfl ?_
  refine jr_1 jm_246 (show jw_cd cd_246 164 = some (.iconst 3) by decide +kernel) rfl ?_
  refine jr_1 jm_246 (show jw_cd cd_246 165 = some (.if_icmp .ne 13) by decide +kernel) (mb_t (q := .ne) (a := 6) (b := 3) (t := 178) (by show ¬ (6 = 3); omega) ⟨by omega, by omega⟩ ⟨by omega, by omega⟩ (by decide) (by decide)) ?_
  refine jr_1 jm_246 (show jw_cd cd_246 178 = some (.aload_n 0) by decide +kernel) rfl ?_
  refine jr_1 jm_246 (show jw_cd cd_246 179 = some (.iload 4) by decide +kernel) rfl ?_
  refine jr_1 jm_246 (show jw_cd cd_246 181 = some (.iload_n 1) by decide +kernel) rfl ?_
  refine jr_1 jm_246 (show jw_cd cd_246 182 = some (.bipush 6) by decide +kernel) (mt_bi (by decide)) ?_
  refine jr_1 jm_246 (show jw_cd cd_246 184 = some (.if_icmp .ne 7) by decide +kernel) (mb_f (q := .ne) (a := 6) (b := 6) (by show ¬ (¬ (6 = 6)); omega) ⟨by omega, by omega⟩ ⟨by omega, by omega⟩ (by decide)) ?_
  refine jr_1 jm_246 (show jw_cd cd_246 187 = some (.iconst 1) by decide +kernel) rfl ?_
  refine jr_1 jm_246 (show jw_cd cd_246 188 = some (.goto 4) by decide +kernel) (ju_go (t := 192) (by decide)) ?_
  refine jr_c jm_246 (show jw_cd cd_246 192 = some (.invokevirtual 342) by decide +kernel) (mc_v hl (n := 2) (m2 := 259) (bs := [.int (Int32.ofInt (v)), .int (Int32.ofInt (1))]) (r := []) (show jw_find jw_cvT 34 342 = some (2, [(16, 259)]) by decide +kernel) (by decide) rfl rfl rfl) jm_259 ⟨Nat.le_of_ble_eq_true rfl, by decide⟩ r1 ?_
  exact jr_v jm_246 (show jw_cd cd_246 195 = some (.ireturn) by decide +kernel) rfl
theorem jn_do7_bad {β : Bool} {d : Nat} {h : jx_H} {σ : mS} (hl : 49 ≤ h.length) {A B : Int → Prop} (hA : mIx A) (hB : mIx B) {v nn cc : Int} {s : List Int} (hs : tx s) {i0 : tI} {F : FT} (hi : iok i0) (hw : fwf F) (hV : mV σ A B v i0 F) (hfit : fitS 7 i0.1 = true) (hb : fsort s 0 F = -1) : jx_r (jz β) jw_M (d + 1 + 1 + 1) 246 (0, [some (.ref 15), some (.int (Int32.ofInt (7))), some (.long (Int64.ofInt (pk s))), none, some (.int (Int32.ofInt (v))), none], [], ml_mk h σ) (ml_mk h (su σ 42 (0) (2)), .inl (some (.int (Int32.ofInt (-1))))) := by
  obtain ⟨a0, ⟨p3, p4, p5, p7⟩, hF⟩ := id hV
  obtain ⟨av0, av1⟩ := hA _ a0
  obtain ⟨i1, i2, i3, i4, i5⟩ := id hi
  have hk6 : 0 ≤ i0.1 ∧ i0.1 ≤ 6 := ⟨i1, i2⟩
  have hfs := fsort_r (s := s) F 0 ⟨by decide, by decide⟩
  refine jr_1 jm_246 (show jw_cd cd_246 0 = some (.iload_n 1) by decide +kernel) rfl ?_
  refine jr_1 jm_246 (show jw_cd cd_246 1 = some (.aload_n 0) by decide +kernel) rfl ?_
  refine jr_1 jm_246 (show jw_cd cd_246 2 = some (.getfield 13) by decide +kernel) (mg_a hl (a := 17) (show jw_fld 34 13 16 = some 3 by decide +kernel) (by decide) (by decide)) ?_
  refine jr_1 jm_246 (show jw_cd cd_246 5 = some (.iload 4) by decide +kernel) rfl ?_
  refine jr_1 jm_246 (show jw_cd cd_246 7 = some (.iaload) by decide +kernel) (ma_i hl (i := v) (e := i0.1) 3 (by omega) (by show _ < ((1740 : Nat) : Int); omega) p3 (by decide) (by decide) (by decide)) ?_
  refine jr_c jm_246 (show jw_cd cd_246 8 = some (.invokestatic 320) by decide +kernel) (mc_s (n := 2) (m2 := 247) (bs := [.int (Int32.ofInt (7)), .int (Int32.ofInt (i0.1))]) (r := []) (by decide) (show jw_find jw_csT 34 320 = some (247, 2) by decide +kernel) rfl rfl rfl) jm_247 ⟨Nat.le_of_ble_eq_true rfl, by decide⟩ (by have e := jn_fits (β := β) (d := d + 1 + 1) (σ := σ) hl (w := 7) (k := i0.1) ⟨by decide, by decide⟩ hk6; rw [if_pos hfit] at e; exact e) ?_
  refine jr_1 jm_246 (show jw_cd cd_246 11 = some (.ifCond .ne 10) by decide +kernel) (mz_t (q := .ne) (a := 1) (t := 21) (by show ¬ (1 = 0); omega) ⟨by omega, by omega⟩ (by decide) (by decide)) ?_
  refine jr_1 jm_246 (show jw_cd cd_246 21 = some (.iload_n 1) by decide +kernel) rfl ?_
  refine jr_1 jm_246 (show jw_cd cd_246 22 = some (.bipush 8) by decide +kernel) (mt_bi (by decide)) ?_
  refine jr_1 jm_246 (show jw_cd cd_246 24 = some (.if_icmp .ne 15) by decide +kernel) (mb_t (q := .ne) (a := 7) (b := 8) (t := 39) (by show ¬ (7 = 8); omega) ⟨by omega, by omega⟩ ⟨by omega, by omega⟩ (by decide) (by decide)) ?_
  refine jr_1 jm_246 (show jw_cd cd_246 39 = some (.iload_n 1) by decide +kernel) rfl ?_
  refine jr_1 jm_246 (show jw_cd cd_246 40 = some (.ifCond .ne 42) by decide +kernel) (mz_t (q := .ne) (a := 7) (t := 82) (by show ¬ (7 = 0); omega) ⟨by omega, by omega⟩ (by decide) (by decide)) ?_
  refine jr_1 jm_246 (show jw_cd cd_246 82 = some (.iload_n 1) by decide +kernel) rfl ?_
  refine jr_1 jm_246 (show jw_cd cd_246 83 = some (.iconst 3) by decide +kernel) rfl ?_
  refine jr_1 jm_246 (show jw_cd cd_246 84 = some (.if_icmp .ge 20) by decide +kernel) (mb_t (q := .ge) (a := 7) (b := 3) (t := 104) (by show 3 ≤ 7; omega) ⟨by omega, by omega⟩ ⟨by omega, by omega⟩ (by decide) (by decide)) ?_
  refine jr_1 jm_246 (show jw_cd cd_246 104 = some (.iload_n 1) by decide +kernel) rfl ?_
  refine jr_1 jm_246 (show jw_cd cd_246 105 = some (.iconst 4) by decide +kernel) rfl ?_
  refine jr_1 jm_246 (show jw_cd cd_246 106 = some (.if_icmp .ne 10) by decide +kernel) (mb_t (q := .ne) (a := 7) (b := 4) (t := 116) (by show ¬ (7 = 4); omega) ⟨by omega, by omega⟩ ⟨by omega, by omega⟩ (by decide) (by decide)) ?_
  refine jr_1 jm_246 (show jw_cd cd_246 116 = some (.iload_n 1) by decide +kernel) rfl ?_
  refine jr_1 jm_246 (show jw_cd cd_246 117 = some (.iconst 5) by decide +kernel) rfl ?_
  refine jr_1 jm_246 (show jw_cd cd_246 118 = some (.if_icmp .ne 10) by decide +kernel) (mb_t (q := .ne) (a := 7) (b := 5) (t := 128) (by show ¬ (7 = 5); omega) ⟨by omega, by omega⟩ ⟨by omega, by omega⟩ (by decide) (by decide)) ?_
  refine jr_1 jm_246 (show jw_cd cd_246 128 = some (.aload_n 0) by decide +kernel) rfl ?_
  refine jr_1 jm_246 (show jw_cd cd_246 129 = some (.iload 4) by decide +kernel) rfl ?_
  refine jr_1 jm_246 (show jw_cd cd_246 131 = some (.lload_n 2) by decide +kernel) rfl ?_
  refine jr_c jm_246 (show jw_cd cd_246 132 = some (.invokevirtual 336) by decide +kernel) (mc_v hl (n := 2) (m2 := 255) (bs := [.int (Int32.ofInt (v)), .long (Int64.ofInt (pk s))]) (r := []) (show jw_find jw_cvT 34 336 = some (2, [(16, 255)]) by decide +kernel) (by decide) rfl rfl rfl) jm_255 ⟨Nat.le_of_ble_eq_true rfl, by decide⟩ (jn_sort hl hA hB hs hw hV) ?_
  refine jr_1 jm_246 (F2 := (137, [some (.ref 15), some (.int (Int32.ofInt (7))), some (.long (Int64.ofInt (pk s))), none, some (.int (Int32.ofInt (v))), some (.int (Int32.ofInt (fsort s 0 F)))], [], ml_mk h σ)) (show jw_cd cd_246 135 = some (.istore 5) by decide +kernel) rfl ?_
  refine jr_1 jm_246 (show jw_cd cd_246 137 = some (.aload_n 0) by decide +kernel) rfl ?_
  refine jr_1 jm_246 (show jw_cd cd_246 138 = some (.iload 5) by decide +kernel) rfl ?_
  refine jr_1 jm_246 (show jw_cd cd_246 140 = some (.iconst (-1)) by decide +kernel) rfl ?_
  refine jr_1 jm_246 (show jw_cd cd_246 141 = some (.if_icmp .ne 7) by decide +kernel) (mb_f (q := .ne) (a := fsort s 0 F) (b := -1) (fun z => z hb) ⟨by omega, by omega⟩ ⟨by omega, by omega⟩ (by decide)) ?_
  refine jr_1 jm_246 (show jw_cd cd_246 144 = some (.iconst 2) by decide +kernel) rfl ?_
  refine jr_1 jm_246 (show jw_cd cd_246 145 = some (.goto 4) by decide +kernel) (ju_go (t := 149) (by decide)) ?_
  refine jr_1 jm_246 (show jw_cd cd_246 149 = some (.putfield 317) by decide +kernel) (mp_i hl (x := 2) (show jw_fld 34 317 16 = some 42 by decide +kernel) (by decide) (by decide) (show jw_ft 16 42 = some .int by decide +kernel) (show jw_fm 34 16 42 = some false by decide +kernel)) ?_
  refine jr_1 jm_246 (show jw_cd cd_246 152 = some (.aload_n 0) by decide +kernel) rfl ?_
  refine jr_1 jm_246 (show jw_cd cd_246 153 = some (.getfield 317) by decide +kernel) (mg_i hl (e := 2) (su_eq _ _ _ _) (show jw_fld 34 317 16 = some 42 by decide +kernel) (by decide) (by decide)) ?_
  refine jr_1 jm_246 (show jw_cd cd_246 156 = some (.ifCond .le 7) by decide +kernel) (mz_f (q := .le) (a := 2) (by show ¬ (2 ≤ 0); omega) ⟨by omega, by omega⟩ (by decide)) ?_
  refine jr_1 jm_246 (show jw_cd cd_246 159 = some (.iconst (-1)) by decide +kernel) rfl ?_
  refine jr_1 jm_246 (show jw_cd cd_246 160 = some (.goto 35) by decide +kernel) (ju_go (t := 195) (by decide)) ?_
  exact jr_v jm_246 (show jw_cd cd_246 195 = some (.ireturn) by decide +kernel) rfl
theorem jn_do7 {β : Bool} {d : Nat} {h : jx_H} {σ : mS} (hl : 49 ≤ h.length) {A B : Int → Prop} (hA : mIx A) (hB : mIx B) {v nn cc : Int} {s : List Int} (hs : tx s) {i0 : tI} {F : FT} (hi : iok i0) (hw : fwf F) (hV : mV σ A B v i0 F) (hfit : fitS 7 i0.1 = true) (hb : ¬ fsort s 0 F = -1) : ∃ r, jx_r (jz β) jw_M (d + 1 + 1 + 1) 246 (0, [some (.ref 15), some (.int (Int32.ofInt (7))), some (.long (Int64.ofInt (pk s))), none, some (.int (Int32.ofInt (v))), none], [], ml_mk h σ) (ml_mk h ((su σ 42 (0) (0))), .inl (some (.int (Int32.ofInt (r))))) ∧ mO (su σ 42 (0) (0)) A B r (fbest0 false F) := by
  obtain ⟨a0, ⟨p3, p4, p5, p7⟩, hF⟩ := id hV
  obtain ⟨av0, av1⟩ := hA _ a0
  obtain ⟨i1, i2, i3, i4, i5⟩ := id hi
  have hk6 : 0 ≤ i0.1 ∧ i0.1 ≤ 6 := ⟨i1, i2⟩
  have hfs := fsort_r (s := s) F 0 ⟨by decide, by decide⟩
  have hV2 : mV (su σ 42 (0) (0)) A B v i0 F := mV_fr (fun f v f1 f2 _ => su_nf (by omega)) (fun f x f1 f2 _ => su_nf (by omega)) (fun _ h => h) (fun _ h => h) hV
  obtain ⟨r, r1, r2⟩ := jn_bestV_0 (β := β) (d := d + 1) (σ := (su σ 42 (0) (0))) hl hA hB (fwf_ok F hw) hV2
  refine ⟨r, ?_, r2⟩
  refine jr_1 jm_246 (show jw_cd cd_246 0 = some (.iload_n 1) by decide +kernel) rfl ?_
  refine jr_1 jm_246 (show jw_cd cd_246 1 = some (.aload_n 0) by decide +kernel) rfl ?_
  refine jr_1 jm_246 (show jw_cd cd_246 2 = some (.getfield 13) by decide +kernel) (mg_a hl (a := 17) (show jw_fld 34 13 16 = some 3 by decide +kernel) (by decide) (by decide)) ?_
  refine jr_1 jm_246 (show jw_cd cd_246 5 = some (.iload 4) by decide +kernel) rfl ?_
  refine jr_1 jm_246 (show jw_cd cd_246 7 = some (.iaload) by decide +kernel) (ma_i hl (i := v) (e := i0.1) 3 (by omega) (by show _ < ((1740 : Nat) : Int); omega) p3 (by decide) (by decide) (by decide)) ?_
  refine jr_c jm_246 (show jw_cd cd_246 8 = some (.invokestatic 320) by decide +kernel) (mc_s (n := 2) (m2 := 247) (bs := [.int (Int32.ofInt (7)), .int (Int32.ofInt (i0.1))]) (r := []) (by decide) (show jw_find jw_csT 34 320 = some (247, 2) by decide +kernel) rfl rfl rfl) jm_247 ⟨Nat.le_of_ble_eq_true rfl, by decide⟩ (by have e := jn_fits (β := β) (d := d + 1 + 1) (σ := σ) hl (w := 7) (k := i0.1) ⟨by decide, by decide⟩ hk6; rw [if_pos hfit] at e; exact e) ?_
  refine jr_1 jm_246 (show jw_cd cd_246 11 = some (.ifCond .ne 10) by decide +kernel) (mz_t (q := .ne) (a := 1) (t := 21) (by show ¬ (1 = 0); omega) ⟨by omega, by omega⟩ (by decide) (by decide)) ?_
  refine jr_1 jm_246 (show jw_cd cd_246 21 = some (.iload_n 1) by decide +kernel) rfl ?_
  refine jr_1 jm_246 (show jw_cd cd_246 22 = some (.bipush 8) by decide +kernel) (mt_bi (by decide)) ?_
  refine jr_1 jm_246 (show jw_cd cd_246 24 = some (.if_icmp .ne 15) by decide +kernel) (mb_t (q := .ne) (a := 7) (b := 8) (t := 39) (by show ¬ (7 = 8); omega) ⟨by omega, by omega⟩ ⟨by omega, by omega⟩ (by decide) (by decide)) ?_
  refine jr_1 jm_246 (show jw_cd cd_246 39 = some (.iload_n 1) by decide +kernel) rfl ?_
  refine jr_1 jm_246 (show jw_cd cd_246 40 = some (.ifCond .ne 42) by decide +kernel) (mz_t (q := .ne) (a := 7) (t := 82) (by show ¬ (7 = 0); omega) ⟨by omega, by omega⟩ (by decide) (by decide)) ?_
  refine jr_1 jm_246 (show jw_cd cd_246 82 = some (.iload_n 1) by decide +kernel) rfl ?_
  refine jr_1 jm_246 (show jw_cd cd_246 83 = some (.iconst 3) by decide +kernel) rfl ?_
  refine jr_1 jm_246 (show jw_cd cd_246 84 = some (.if_icmp .ge 20) by decide +kernel) (mb_t (q := .ge) (a := 7) (b := 3) (t := 104) (by show 3 ≤ 7; omega) ⟨by omega, by omega⟩ ⟨by omega, by omega⟩ (by decide) (by decide)) ?_
  refine jr_1 jm_246 (show jw_cd cd_246 104 = some (.iload_n 1) by decide +kernel) rfl ?_
  refine jr_1 jm_246 (show jw_cd cd_246 105 = some (.iconst 4) by decide +kernel) rfl ?_
  refine jr_1 jm_246 (show jw_cd cd_246 106 = some (.if_icmp .ne 10) by decide +kernel) (mb_t (q := .ne) (a := 7) (b := 4) (t := 116) (by show ¬ (7 = 4); omega) ⟨by omega, by omega⟩ ⟨by omega, by omega⟩ (by decide) (by decide)) ?_
  refine jr_1 jm_246 (show jw_cd cd_246 116 = some (.iload_n 1) by decide +kernel) rfl ?_
  refine jr_1 jm_246 (show jw_cd cd_246 117 = some (.iconst 5) by decide +kernel) rfl ?_
  refine jr_1 jm_246 (show jw_cd cd_246 118 = some (.if_icmp .ne 10) by decide +kernel) (mb_t (q := .ne) (a := 7) (b := 5) (t := 128) (by show ¬ (7 = 5); omega) ⟨by omega, by omega⟩ ⟨by omega, by omega⟩ (by decide) (by decide)) ?_
  refine jr_1 jm_246 (show jw_cd cd_246 128 = some (.aload_n 0) by decide +kernel) rfl ?_
  refine jr_1 jm_246 (show jw_cd cd_246 129 = some (.iload 4) by decide +kernel) rfl ?_
  refine jr_1 jm_246 (show jw_cd cd_246 131 = some (.lload_n 2) by decide +kernel) rfl ?_
  refine jr_c jm_246 (show jw_cd cd_246 132 = some (.invokevirtual 336) by decide +kernel) (mc_v hl (n := 2) (m2 := 255) (bs := [.int (Int32.ofInt (v)), .long (Int64.ofInt (pk s))]) (r := []) (show jw_find jw_cvT 34 336 = some (2, [(16, 255)]) by decide +kernel) (by decide) rfl rfl rfl) jm_255 ⟨Nat.le_of_ble_eq_true rfl, by decide⟩ (jn_sort hl hA hB hs hw hV) ?_
  refine jr_1 jm_246 (F2 := (137, [some (.ref 15), some (.int (Int32.ofInt (7))), some (.long (Int64.ofInt (pk s))), none, some (.int (Int32.ofInt (v))), some (.int (Int32.ofInt (fsort s 0 F)))], [], ml_mk h σ)) (show jw_cd cd_246 135 = some (.istore 5) by decide +kernel) rfl ?_
  refine jr_1 jm_246 (show jw_cd cd_246 137 = some (.aload_n 0) by decide +kernel) rfl ?_
  refine jr_1 jm_246 (show jw_cd cd_246 138 = some (.iload 5) by decide +kernel) rfl ?_
  refine jr_1 jm_246 (show jw_cd cd_246 140 = some (.iconst (-1)) by decide +kernel) rfl ?_
  refine jr_1 jm_246 (show jw_cd cd_246 141 = some (.if_icmp .ne 7) by decide +kernel) (mb_t (q := .ne) (a := fsort s 0 F) (b := -1) (t := 148) hb ⟨by omega, by omega⟩ ⟨by omega, by omega⟩ (by decide) (by decide)) ?_
  refine jr_1 jm_246 (show jw_cd cd_246 148 = some (.iconst 0) by decide +kernel) rfl ?_
  refine jr_1 jm_246 (show jw_cd cd_246 149 = some (.putfield 317) by decide +kernel) (mp_i hl (x := 0) (show jw_fld 34 317 16 = some 42 by decide +kernel) (by decide) (by decide) (show jw_ft 16 42 = some .int by decide +kernel) (show jw_fm 34 16 42 = some false by decide +kernel)) ?_
  refine jr_1 jm_246 (show jw_cd cd_246 152 = some (.aload_n 0) by decide +kernel) rfl ?_
  refine jr_1 jm_246 (show jw_cd cd_246 153 = some (.getfield 317) by decide +kernel) (mg_i hl (e := 0) (su_eq _ _ _ _) (show jw_fld 34 317 16 = some 42 by decide +kernel) (by decide) (by decide)) ?_
  refine jr_1 jm_246 (show jw_cd cd_246 156 = some (.ifCond .le 7) by decide +kernel) (mz_t (q := .le) (a := 0) (t := 163) (by show 0 ≤ 0; omega) ⟨by omega, by omega⟩ (by decide) (by decide)) ?_
  refine jr_1 jm_246 (show jw_cd cd_246 163 = some (.iload_n 1) by decide +kernel) rfl ?_
  refine jr_1 jm_246 (show jw_cd cd_246 164 = some (.iconst 3) by decide +kernel) rfl ?_
  refine jr_1 jm_246 (show jw_cd cd_246 165 = some (.if_icmp .ne 13) by decide +kernel) (mb_t (q := .ne) (a := 7) (b := 3) (t := 178) (by show ¬ (7 = 3); omega) ⟨by omega, by omega⟩ ⟨by omega, by omega⟩ (by decide) (by decide)) ?_
  refine jr_1 jm_246 (show jw_cd cd_246 178 = some (.aload_n 0) by decide +kernel) rfl ?_
  refine jr_1 jm_246 (show jw_cd cd_246 179 = some (.iload 4) by decide +kernel) rfl ?_
  refine jr_1 jm_246 (show jw_cd cd_246 181 = some (.iload_n 1) by decide +kernel) rfl ?_
  refine jr_1 jm_246 (show jw_cd cd_246 182 = some (.bipush 6) by decide +kernel) (mt_bi (by decide)) ?_
  refine jr_1 jm_246 (show jw_cd cd_246 184 = some (.if_icmp .ne 7) by decide +kernel) (mb_t (q := .ne) (a := 7) (b := 6) (t := 191) (by show ¬ (7 = 6); omega) ⟨by omega, by omega⟩ ⟨by omega, by omega⟩ (by decide) (by decide)) ?_
  refine jr_1 jm_246 (show jw_cd cd_246 191 = some (.iconst 0) by decide +kernel) rfl ?_
  refine jr_c jm_246 (show jw_cd cd_246 192 = some (.invokevirtual 342) by decide +kernel) (mc_v hl (n := 2) (m2 := 259) (bs := [.int (Int32.ofInt (v)), .int (Int32.ofInt (0))]) (r := []) (show jw_find jw_cvT 34 342 = some (2, [(16, 259)]) by decide +kernel) (by decide) rfl rfl rfl) jm_259 ⟨Nat.le_of_ble_eq_true rfl, by decide⟩ r1 ?_
  exact jr_v jm_246 (show jw_cd cd_246 195 = some (.ireturn) by decide +kernel) rfl
