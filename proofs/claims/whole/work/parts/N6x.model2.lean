/-! ===== the model's calls once more: the letters stay ===== -/
theorem mp_run {β : Bool} {d : Nat} {h : jx_H} {σ : mS} (hl : 49 ≤ h.length) {n q : Int} {doc res : vT} {qs : List (List sT)} (hm : mdR σ n doc res qs) (hq : mr q) : (q < 0 ∨ (qs.length : Int) ≤ q → jx_r (jz β) jw_M (d + 5) 245 (0, [some (.ref 15), some (.int (Int32.ofInt (q))), none, none, none, none, none, none], [], ml_mk h σ) (ml_mk h (su σ 0 0 1), .inl (some (.int (Int32.ofInt (0)))))) ∧ (∀ l, 0 ≤ q → qs[q.toNat]? = some l → ∃ τ : mS, jx_r (jz β) jw_M (d + 5) 245 (0, [some (.ref 15), some (.int (Int32.ofInt (q))), none, none, none, none, none, none], [], ml_mk h σ) (ml_mk h (τ), .inl (some (.int (Int32.ofInt ((runS l doc).1))))) ∧ τ 0 0 = 0 ∧ mdR τ n doc (runS l doc).2 qs ∧ τ 1 = σ 1) := by
  obtain ⟨a1, a2, ⟨a3, a4, a5⟩, ⟨a6, a7, a8⟩, a9, a10, a11⟩ := id hm
  refine ⟨fun h => jn_run_no (d := d + 5) hl hq ⟨by omega, by omega⟩ a9 h, fun l h0 hl2 => ?_⟩
  have hlt := (List.getElem?_eq_some_iff.mp hl2).1
  obtain ⟨b1, b2, b3, b4, b5⟩ := a11 q.toNat l hl2
  rw [show ((q.toNat : Nat) : Int) = q by omega] at b1 b2 b3
  obtain ⟨τ, r1, r2, r3, r4, r5⟩ := jn_run_ok (β := β) (d := d) (h := h) hl ⟨h0, by omega⟩ (by omega) a9 a3 a4 a5.1 (vI_ct a5) b1 b3 (by omega)
  have hk : ∀ f, f ∈ [1, 2, 13, 15, 16, 17, 18, 19, 20, 21, 22, 23, 24, 25, 26, 27] → τ f = σ f := fun f hf => by
    simp only [List.mem_cons, List.mem_nil_iff, or_false] at hf
    rw [r5.2 f (by simp; omega), su_row (by omega)]
  exact ⟨τ, r1, r2, ⟨by rw [hk 2 (by decide)]; exact a1, by rw [hk 1 (by decide)]; exact a2, ⟨by rw [hk 13 (by decide)]; exact a3, mV_z (fun f v hv f1 f2 => by rw [r5.1 f v hv f1 f2, su_nf (by omega)]) a4, a5⟩, ⟨r3, r4, runS_I l doc b5 a5⟩, by rw [hk 15 (by decide)]; exact a9, a10, qsR_fr (fun f f1 f2 => hk f (by simp; omega)) a11⟩, hk 1 (by decide)⟩
theorem mp_keep {β : Bool} {d : Nat} {h : jx_H} {σ : mS} (hl : 49 ≤ h.length) {n : Int} {doc res : vT} {qs : List (List sT)} (hm : mdR σ n doc res qs) : ∃ τ : mS, jx_r (jz β) jw_M (d + 2) 273 (0, [some (.ref 15)], [], ml_mk h σ) (ml_mk h (τ), .inl (some (.int (Int32.ofInt (res.1.1))))) ∧ mdR τ n res res qs ∧ τ 1 = σ 1 := by
  obtain ⟨a1, a2, ⟨a3, a4, a5⟩, ⟨a6, a7, a8⟩, a9, a10, a11⟩ := id hm
  have hd : ∀ v, Zn 1 v → ¬ Zn 0 v := fun v hv h => by
    have h1 := hv.1
    have h2 := h.2
    omega
  obtain ⟨τ, r1, r2, r3, r4, r5⟩ := jn_keep (β := β) (d := d) (h := h) hl (Zn_ix ⟨by decide, by decide⟩) (Zn_ix ⟨by decide, by decide⟩) a6 a7 a8.1.1 hd hd (by have := vI_ct a8; omega)
  have hk : ∀ f, f ∈ [1, 2, 14, 15, 16, 17, 18, 19, 20, 21, 22, 23, 24, 25, 26, 27] → su τ 13 0 (170 * 0) f = σ f := fun f hf => by
    simp only [List.mem_cons, List.mem_nil_iff, or_false] at hf
    rw [su_row (by omega), r5 f (by omega) (by omega) (by omega), su_row (by omega)]
  refine ⟨su τ 13 0 (170 * 0), r1, ⟨by rw [hk 2 (by decide)]; exact a1, by rw [hk 1 (by decide)]; exact a2, ⟨su_eq _ _ _ _, mV_eq (fun f f1 f2 => su_row (by omega)) r2, a8⟩, ⟨by rw [hk 14 (by decide)]; exact a6, mV_z (fun f v hv f1 f2 => ?_) a7, a8⟩, by rw [hk 15 (by decide)]; exact a9, a10, qsR_fr (fun f f1 f2 => hk f (by simp; omega)) a11⟩, hk 1 (by decide)⟩
  rw [su_nf (by omega), r3 f v (hd v hv) f1 f2, su_nf (by omega)]
theorem mp_result {β : Bool} {d : Nat} {h : jx_H} {σ : mS} (hl : 49 ≤ h.length) {n x : Int} {doc res : vT} {qs : List (List sT)} (hm : mdR σ n doc res qs) (hx : mr x) : ∃ τ : mS, jx_r (jz β) jw_M (d + 6) 274 (0, [some (.ref 15), some (.int (Int32.ofInt (x)))], [], ml_mk h σ) (ml_mk h (τ), .inl (some (.int (Int32.ofInt (resS res x))))) ∧ mdR τ n doc res qs ∧ τ 1 = σ 1 := by
  obtain ⟨a1, a2, ⟨a3, a4, a5⟩, ⟨a6, a7, a8⟩, a9, a10, a11⟩ := id hm
  have hct := vI_ct a8
  have hZ := Zn_ix (z := 1) ⟨by decide, by decide⟩
  unfold resS
  by_cases h0 : x = 0
  · subst h0
    exact ⟨_, jn_result0 (d := d + 6) hl hZ hZ a6 a7 a8.1.1, mdR_0 hm, su_row (by decide)⟩
  rw [if_neg h0]
  by_cases h1 : x = 1
  · subst h1
    exact ⟨_, jn_result1 (d := d + 4) hl hZ hZ a6 a7 a8.1.1, mdR_0 hm, su_row (by decide)⟩
  rw [if_neg h1]
  by_cases h2 : x = 2
  · subst h2
    obtain ⟨τ, r1, r2, r3⟩ := jn_result2 (β := β) (d := d) (h := h) hl hZ hZ a6 a7 a8.1.1 a8.1.2 (by omega) (by have := a8.2.2.2; have : (wV res.1 res.2).length ≤ 160 := this; omega)
    exact ⟨τ, r1, mdR_q (by decide) r2 hm, r2 1 (by decide)⟩
  rw [if_neg h2]
  by_cases h3 : x = 3
  · subst h3
    obtain ⟨τ, r1, r2, r3⟩ := jn_result3 (β := β) (d := d + 5) (h := h) hl hZ hZ a6 a7 a8.1.1 (by omega)
    exact ⟨τ, r1, mdR_q (by decide) r2 hm, r2 1 (by decide)⟩
  rw [if_neg h3]
  exact ⟨_, jn_resultd (d := d + 6) hl hx (by omega), mdR_0 hm, su_row (by decide)⟩
theorem mp_written {β : Bool} {d : Nat} {h : jx_H} {σ : mS} (hl : 49 ≤ h.length) {n x : Int} {doc res : vT} {qs : List (List sT)} (hm : mdR σ n doc res qs) (hx : mr x) : ∃ τ : mS, jx_r (jz β) jw_M (d + 6) 280 (0, [some (.ref 15), some (.int (Int32.ofInt (x)))], [], ml_mk h σ) (ml_mk h (τ), .inl (some (.int (Int32.ofInt (wrtS res x))))) ∧ mdR τ n doc res qs ∧ τ 1 = σ 1 := by
  obtain ⟨a1, a2, ⟨a3, a4, a5⟩, ⟨a6, a7, a8⟩, a9, a10, a11⟩ := id hm
  have hct := vI_ct a8
  have hZ := Zn_ix (z := 1) ⟨by decide, by decide⟩
  obtain ⟨τ, r1, r2, r3⟩ := jn_written (β := β) (d := d) (h := h) hl hZ hZ a6 a7 a8.1.1 a8.1.2 (by omega) (by have := a8.2.2.2; have : (wV res.1 res.2).length ≤ 160 := this; omega) hx
  exact ⟨τ, r1, mdR_q (by decide) r2 hm, r2 1 (by decide)⟩
theorem mp_about {β : Bool} {d : Nat} {h : jx_H} {σ : mS} (hl : 49 ≤ h.length) {n x : Int} {doc res : vT} {qs : List (List sT)} (hm : mdR σ n doc res qs) (hx : mr x) : ∃ τ : mS, jx_r (jz β) jw_M (d + 1) 281 (0, [some (.ref 15), some (.int (Int32.ofInt (x)))], [], ml_mk h σ) (ml_mk h (τ), .inl (some (.int (Int32.ofInt (aboS n doc qs.length x))))) ∧ mdR τ n doc res qs ∧ τ 1 = σ 1 := by
  obtain ⟨a1, a2, ⟨a3, a4, a5⟩, ⟨a6, a7, a8⟩, a9, a10, a11⟩ := id hm
  have hct := vI_ct a5
  have hZ := Zn_ix (z := 0) ⟨by decide, by decide⟩
  unfold aboS
  by_cases h0 : x = 0
  · subst h0
    exact ⟨_, jn_about0 (d := d + 1) hl a1, mdR_0 hm, su_row (by decide)⟩
  rw [if_neg h0]
  by_cases h1 : x = 1
  · subst h1
    exact ⟨_, jn_about1 (d := d + 1) hl a9, mdR_0 hm, su_row (by decide)⟩
  rw [if_neg h1]
  by_cases h2 : x = 2
  · subst h2
    exact ⟨_, jn_about2 (d := d + 1) hl hZ hZ a3 a4 a5.1.1, mdR_0 hm, su_row (by decide)⟩
  rw [if_neg h2]
  by_cases h3 : x = 3
  · subst h3
    obtain ⟨τ, r1, r2, r3⟩ := jn_about3 (β := β) (d := d) (h := h) hl hZ hZ a3 a4 a5.1.1 (by omega)
    exact ⟨τ, r1, mdR_q (by decide) r2 hm, r2 1 (by decide)⟩
  rw [if_neg h3]
  exact ⟨_, jn_aboutd (d := d + 1) hl hx (by omega), mdR_0 hm, su_row (by decide)⟩
