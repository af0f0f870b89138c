/-! ===== the model reads a query: small things, a side (printed by program: gen62.py) ===== -/
def mulf (f : Nat) : Int := if f = 20 ∨ f = 22 then 1 else if f = 21 then 3 else if f = 25 then 6 else 2
theorem mulf_r (f : Nat) : 1 ≤ mulf f ∧ mulf f ≤ 6 := by
  unfold mulf
  repeat' split
  all_goals exact ⟨by decide, by decide⟩
/-- what reading a query leaves alone: items below i0, places below s0 -/
def rdF (σ τ : mS) (Q i0 s0 : Int) : Prop := (∀ f, f ∉ [16, 17, 18, 19, 20, 21, 22, 23, 24, 25, 26, 27, 28, 29, 30, 31, 32] → τ f = σ f) ∧ (∀ v, 0 ≤ v → ¬ v = Q → τ 16 v = σ 16 v) ∧ (∀ f v, 17 ≤ f → f ≤ 19 → v < i0 → τ f v = σ f v) ∧ (∀ f v, 20 ≤ f → f ≤ 27 → v < mulf f * s0 → τ f v = σ f v)
theorem rdF_refl (σ : mS) (Q i0 s0 : Int) : rdF σ σ Q i0 s0 := ⟨fun _ _ => rfl, fun _ _ _ => rfl, fun _ _ _ _ _ => rfl, fun _ _ _ _ _ => rfl⟩
theorem rdF_w {σ τ : mS} {Q i0 s0 : Int} (h : rdF σ τ (-1) i0 s0) : rdF σ τ Q i0 s0 := ⟨h.1, fun v v0 _ => h.2.1 v v0 (by omega), h.2.2⟩
theorem rdF_trans {σ τ υ : mS} {Q i0 s0 i1 s1 : Int} (h : rdF σ τ Q i0 s0) (h2 : rdF τ υ Q i1 s1) (hi : i0 ≤ i1) (hs : s0 ≤ s1) : rdF σ υ Q i0 s0 := ⟨fun f hf => (h2.1 f hf).trans (h.1 f hf), fun v v0 hv => (h2.2.1 v v0 hv).trans (h.2.1 v v0 hv), fun f v f1 f2 hv => (h2.2.2.1 f v f1 f2 (by omega)).trans (h.2.2.1 f v f1 f2 hv), fun f v f1 f2 hv => (h2.2.2.2 f v f1 f2 (by
  have := Int.mul_le_mul_of_nonneg_left hs (show 0 ≤ mulf f by have := (mulf_r f).1; omega)
  omega)).trans (h.2.2.2 f v f1 f2 hv)⟩
theorem rdF_mono {σ τ : mS} {Q i0 s0 i1 s1 : Int} (h : rdF σ τ Q i1 s1) (hi : i0 ≤ i1) (hs : s0 ≤ s1) : rdF σ τ Q i0 s0 := rdF_trans (rdF_refl σ Q i0 s0) h hi hs
theorem rdF_su {σ τ : mS} {Q i0 s0 : Int} {f : Nat} {i x : Int} (h : rdF σ τ Q i0 s0) (hf : (28 ≤ f ∧ f ≤ 32) ∨ (f = 16 ∧ i = Q) ∨ ((17 ≤ f ∧ f ≤ 19) ∧ i0 ≤ i) ∨ ((20 ≤ f ∧ f ≤ 27) ∧ mulf f * s0 ≤ i)) : rdF σ (su τ f i x) Q i0 s0 := by
  refine ⟨fun g hg => ?_, fun v v0 hv => ?_, fun g v g1 g2 hv => ?_, fun g v g1 g2 hv => ?_⟩
  · simp only [List.mem_cons, List.mem_nil_iff, or_false, not_or] at hg
    rw [su_row (by omega)]
    exact h.1 g (by simp; omega)
  · by_cases e : f = 16
    · rw [su_ni (by omega)]
      exact h.2.1 v v0 hv
    · rw [su_nf (fun z => e z.symm)]
      exact h.2.1 v v0 hv
  · by_cases e : g = f
    · subst e
      rw [su_ni (by omega)]
      exact h.2.2.1 g v g1 g2 hv
    · rw [su_nf e]
      exact h.2.2.1 g v g1 g2 hv
  · by_cases e : g = f
    · subst e
      rw [su_ni (by omega)]
      exact h.2.2.2 g v g1 g2 hv
    · rw [su_nf e]
      exact h.2.2.2 g v g1 g2 hv
/-- the reader stands at p, and nothing is wrong -/
def rP (σ : mS) (T : Int → Int) (n p : Int) : Prop := σ 1 = T ∧ σ 2 0 = n ∧ σ 28 0 = p ∧ σ 29 0 = 0
theorem rP_T {σ : mS} {T : Int → Int} {n p : Int} (h : rP σ T n p) (ht : tOK T n) (h0 : 0 ≤ p) (hp : p ≤ n) : mT σ ∧ mHere σ = tH T n p := by
  obtain ⟨h1, h2, h3, h4⟩ := h
  refine ⟨⟨by rw [h3]; exact h0, by rw [h3, h2]; exact hp, by rw [h2]; exact ht.1, by rw [h2]; exact ht.2.1, fun i i0 i1 => ?_⟩, ?_⟩
  · rw [h1]
    rw [h2] at i1
    exact ht.2.2 i i0 i1
  · unfold mHere tH
    rw [h1, h2, h3]
theorem rP_q {σ τ : mS} {T : Int → Int} {n p : Int} (h : rP σ T n p) (h1 : ∀ f, f < 3 → τ f = σ f) (h28 : τ 28 0 = σ 28 0) (h29 : τ 29 0 = σ 29 0) : rP τ T n p := ⟨by rw [h1 1 (by decide)]; exact h.1, by rw [h1 2 (by decide)]; exact h.2.1, h28.trans h.2.2.1, h29.trans h.2.2.2⟩
theorem rP_mv {σ : mS} {T : Int → Int} {n p q : Int} (h : rP σ T n p) : rP (su σ 28 0 q) T n q := ⟨by rw [su_row (by decide)]; exact h.1, by rw [su_nf (by decide)]; exact h.2.1, su_eq _ _ _ _, by rw [su_nf (by decide)]; exact h.2.2.2⟩
theorem rP_su {σ : mS} {T : Int → Int} {n p i x : Int} {f : Nat} (h : rP σ T n p) (hf : 2 < f) (h8 : ¬ f = 28) (h9 : ¬ f = 29) : rP (su σ f i x) T n p := ⟨by rw [su_row (by omega)]; exact h.1, by rw [su_nf (by omega)]; exact h.2.1, by rw [su_nf (by omega)]; exact h.2.2.1, by rw [su_nf (by omega)]; exact h.2.2.2⟩
theorem mWrong_e {σ : mS} {p : Int} (h : σ 29 0 = 0) : mWrong σ p = su σ 29 0 (-1 - p) := by
  unfold mWrong
  rw [if_pos h]
theorem jn_mustT {β : Bool} {d : Nat} {h : jx_H} {σ : mS} (hl : 49 ≤ h.length) {T : Int → Int} {n p : Int} (ht : tOK T n) (hP : rP σ T n p) (h0 : 0 ≤ p) (hp : p ≤ n) {c : Int} (hcr : mr c) (hc : tH T n p = c) : jx_r (jz β) jw_M (d + 1) 221 (0, [some (.ref 15), some (.int (Int32.ofInt (c)))], [], ml_mk h σ) (ml_mk h (su σ 28 0 (p + 1)), .inl (some (.int (Int32.ofInt (1))))) := by
  obtain ⟨m1, m2⟩ := rP_T hP ht h0 hp
  rw [← m2] at hc
  have e := jn_must_t (β := β) (d := d) (h := h) hl m1 hcr hc
  unfold mTake at e
  rw [hP.2.2.1] at e
  exact e
theorem jn_mustF {β : Bool} {d : Nat} {h : jx_H} {σ : mS} (hl : 49 ≤ h.length) {T : Int → Int} {n p : Int} (ht : tOK T n) (hP : rP σ T n p) (h0 : 0 ≤ p) (hp : p ≤ n) {c : Int} (hcr : mr c) (hc : ¬ tH T n p = c) : jx_r (jz β) jw_M (d + 1) 221 (0, [some (.ref 15), some (.int (Int32.ofInt (c)))], [], ml_mk h σ) (ml_mk h (su σ 29 0 (-1 - p)), .inl (some (.int (Int32.ofInt (0))))) := by
  obtain ⟨m1, m2⟩ := rP_T hP ht h0 hp
  rw [← m2] at hc
  have e := jn_must_f (β := β) (d := d) (h := h) hl m1 (by rw [hP.2.2.2]; exact mr0) hcr hc
  rw [mWrong_e hP.2.2.2, hP.2.2.1] at e
  exact e
theorem jn_takT {β : Bool} {d : Nat} {h : jx_H} {σ : mS} (hl : 49 ≤ h.length) {T : Int → Int} {n p : Int} (ht : tOK T n) (hP : rP σ T n p) (h0 : 0 ≤ p) (hp : p ≤ n) {c : Int} (hcr : mr c) (hc : tH T n p = c) : jx_r (jz β) jw_M (d + 1) 226 (0, [some (.ref 15), some (.int (Int32.ofInt (c)))], [], ml_mk h σ) (ml_mk h (su σ 28 0 (p + 1)), .inl (some (.int (Int32.ofInt (1))))) := by
  obtain ⟨m1, m2⟩ := rP_T hP ht h0 hp
  rw [← m2] at hc
  have e := jn_takes_t (β := β) (d := d) (h := h) hl m1 hcr hc
  unfold mTake at e
  rw [hP.2.2.1] at e
  exact e
theorem jn_takF {β : Bool} {d : Nat} {h : jx_H} {σ : mS} (hl : 49 ≤ h.length) {T : Int → Int} {n p : Int} (ht : tOK T n) (hP : rP σ T n p) (h0 : 0 ≤ p) (hp : p ≤ n) {c : Int} (hcr : mr c) (hc : ¬ tH T n p = c) : jx_r (jz β) jw_M (d + 1) 226 (0, [some (.ref 15), some (.int (Int32.ofInt (c)))], [], ml_mk h σ) (ml_mk h (σ), .inl (some (.int (Int32.ofInt (0))))) := by
  obtain ⟨m1, m2⟩ := rP_T hP ht h0 hp
  rw [← m2] at hc
  exact jn_takes_f (β := β) (d := d) (h := h) hl m1 hcr hc
theorem jn_hr {β : Bool} {d : Nat} {h : jx_H} {σ : mS} (hl : 49 ≤ h.length) {T : Int → Int} {n p : Int} (ht : tOK T n) (hP : rP σ T n p) (h0 : 0 ≤ p) (hp : p ≤ n) : jx_r (jz β) jw_M (d) 215 (0, [some (.ref 15)], [], ml_mk h σ) (ml_mk h (σ), .inl (some (.int (Int32.ofInt (tH T n p))))) := jn_hereP hl ht hP.1 hP.2.1 hP.2.2.1 h0 hp
theorem jn_wrg {β : Bool} {d : Nat} {h : jx_H} {σ : mS} (hl : 49 ≤ h.length) {T : Int → Int} {n p q : Int} (hP : rP σ T n p) : jx_r (jz β) jw_M (d) 216 (0, [some (.ref 15), some (.int (Int32.ofInt (q)))], [], ml_mk h σ) (ml_mk h (su σ 29 0 (-1 - q)), .inl none) := by
  have e := jn_wrong (β := β) (d := d) (h := h) (σ := σ) (p := q) hl (by rw [hP.2.2.2]; exact mr0)
  rw [mWrong_e hP.2.2.2] at e
  exact e
theorem jn_cntT {β : Bool} {d : Nat} {h : jx_H} {σ : mS} (hl : 49 ≤ h.length) {p k : Int} (e30 : σ 30 0 = k) (hk : 0 ≤ k ∧ k < 12) : jx_r (jz β) jw_M (d + 1) 238 (0, [some (.ref 15), some (.int (Int32.ofInt (p)))], [], ml_mk h σ) (ml_mk h (su σ 30 0 (k + 1)), .inl (some (.int (Int32.ofInt (1))))) := by
  obtain ⟨k0, k1⟩ := hk
  refine jr_1 jm_238 (show jw_cd cd_238 0 = some (.aload_n 0) by decide +kernel) rfl ?_
  refine jr_1 jm_238 (show jw_cd cd_238 1 = some (.getfield 222) by decide +kernel) (mg_i hl (e := k) e30 (show jw_fld 34 222 16 = some 30 by decide +kernel) (by decide) (by decide)) ?_
  refine jr_1 jm_238 (show jw_cd cd_238 4 = some (.bipush 12) by decide +kernel) (mt_bi (by decide)) ?_
  refine jr_1 jm_238 (show jw_cd cd_238 6 = some (.if_icmp .ne 10) by decide +kernel) (mb_t (q := .ne) (a := k) (b := 12) (t := 16) (by show ¬ (k = 12); omega) ⟨by omega, by omega⟩ ⟨by omega, by omega⟩ (by decide) (by decide)) ?_
  refine jr_1 jm_238 (show jw_cd cd_238 16 = some (.aload_n 0) by decide +kernel) rfl ?_
  refine jr_1 jm_238 (show jw_cd cd_238 17 = some (.dup) by decide +kernel) rfl ?_
  refine jr_1 jm_238 (show jw_cd cd_238 18 = some (.getfield 222) by decide +kernel) (mg_i hl (e := k) e30 (show jw_fld 34 222 16 = some 30 by decide +kernel) (by decide) (by decide)) ?_
  refine jr_1 jm_238 (show jw_cd cd_238 21 = some (.iconst 1) by decide +kernel) rfl ?_
  refine jr_1 jm_238 (show jw_cd cd_238 22 = some (.iadd) by decide +kernel) (mt_add (c := k + 1) rfl) ?_
  refine jr_1 jm_238 (show jw_cd cd_238 23 = some (.putfield 222) by decide +kernel) (mp_i hl (x := k + 1) (show jw_fld 34 222 16 = some 30 by decide +kernel) (by decide) (by decide) (show jw_ft 16 30 = some .int by decide +kernel) (show jw_fm 34 16 30 = some false by decide +kernel)) ?_
  refine jr_1 jm_238 (show jw_cd cd_238 26 = some (.iconst 1) by decide +kernel) rfl ?_
  exact jr_v jm_238 (show jw_cd cd_238 27 = some (.ireturn) by decide +kernel) rfl
theorem jn_cntF {β : Bool} {d : Nat} {h : jx_H} {σ : mS} (hl : 49 ≤ h.length) {T : Int → Int} {n p0 p k : Int} (hP : rP σ T n p0) (e30 : σ 30 0 = k) (hk : k = 12) : jx_r (jz β) jw_M (d + 1) 238 (0, [some (.ref 15), some (.int (Int32.ofInt (p)))], [], ml_mk h σ) (ml_mk h (su σ 29 0 (-1 - p)), .inl (some (.int (Int32.ofInt (0))))) := by
  refine jr_1 jm_238 (show jw_cd cd_238 0 = some (.aload_n 0) by decide +kernel) rfl ?_
  refine jr_1 jm_238 (show jw_cd cd_238 1 = some (.getfield 222) by decide +kernel) (mg_i hl (e := k) e30 (show jw_fld 34 222 16 = some 30 by decide +kernel) (by decide) (by decide)) ?_
  refine jr_1 jm_238 (show jw_cd cd_238 4 = some (.bipush 12) by decide +kernel) (mt_bi (by decide)) ?_
  refine jr_1 jm_238 (show jw_cd cd_238 6 = some (.if_icmp .ne 10) by decide +kernel) (mb_f (q := .ne) (a := k) (b := 12) (by show ¬ (¬ (k = 12)); omega) ⟨by omega, by omega⟩ ⟨by omega, by omega⟩ (by decide)) ?_
  refine jr_1 jm_238 (show jw_cd cd_238 9 = some (.aload_n 0) by decide +kernel) rfl ?_
  refine jr_1 jm_238 (show jw_cd cd_238 10 = some (.iload_n 1) by decide +kernel) rfl ?_
  refine jr_c jm_238 (show jw_cd cd_238 11 = some (.invokevirtual 155) by decide +kernel) (mc_v hl (n := 1) (m2 := 216) (bs := [.int (Int32.ofInt (p))]) (r := []) (show jw_find jw_cvT 34 155 = some (1, [(16, 216)]) by decide +kernel) (by decide) rfl rfl rfl) jm_216 ⟨Nat.le_of_ble_eq_true rfl, by decide⟩ (jn_wrg hl hP) ?_
  refine jr_1 jm_238 (show jw_cd cd_238 14 = some (.iconst 0) by decide +kernel) rfl ?_
  exact jr_v jm_238 (show jw_cd cd_238 15 = some (.ireturn) by decide +kernel) rfl
def mAdd (σ : mS) (Q I w t s : Int) : mS := (su (su (su (su σ 17 (100 * Q + I) (w)) 18 (100 * Q + I) (t)) 19 (100 * Q + I) (s)) 16 (Q) (I + 1))
theorem jn_add {β : Bool} {d : Nat} {h : jx_H} {σ : mS} (hl : 49 ≤ h.length) {Q I w t s : Int} (e15 : σ 15 0 = Q) (e16 : σ 16 Q = I) (hQ : 0 ≤ Q ∧ Q < 12) (hI : 0 ≤ I ∧ I < 100) : jx_r (jz β) jw_M (d) 237 (0, [some (.ref 15), some (.int (Int32.ofInt (w))), some (.long (Int64.ofInt (t))), none, some (.int (Int32.ofInt (s))), none], [], ml_mk h σ) (ml_mk h (mAdd σ Q I w t s), .inl none) := by
  obtain ⟨q0, q1⟩ := hQ
  obtain ⟨i0, i1⟩ := hI
  unfold mAdd
  refine jr_1 jm_237 (show jw_cd cd_237 0 = some (.bipush 100) by decide +kernel) (mt_bi (by decide)) ?_
  refine jr_1 jm_237 (show jw_cd cd_237 2 = some (.aload_n 0) by decide +kernel) rfl ?_
  refine jr_1 jm_237 (show jw_cd cd_237 3 = some (.getfield 219) by decide +kernel) (mg_i hl (e := Q) e15 (show jw_fld 34 219 16 = some 15 by decide +kernel) (by decide) (by decide)) ?_
  refine jr_1 jm_237 (show jw_cd cd_237 6 = some (.imul) by decide +kernel) (mt_mul (c := 100 * Q) rfl) ?_
  refine jr_1 jm_237 (show jw_cd cd_237 7 = some (.aload_n 0) by decide +kernel) rfl ?_
  refine jr_1 jm_237 (show jw_cd cd_237 8 = some (.getfield 44) by decide +kernel) (mg_a hl (a := 27) (show jw_fld 34 44 16 = some 16 by decide +kernel) (by decide) (by decide)) ?_
  refine jr_1 jm_237 (show jw_cd cd_237 11 = some (.aload_n 0) by decide +kernel) rfl ?_
  refine jr_1 jm_237 (show jw_cd cd_237 12 = some (.getfield 219) by decide +kernel) (mg_i hl (e := Q) e15 (show jw_fld 34 219 16 = some 15 by decide +kernel) (by decide) (by decide)) ?_
  refine jr_1 jm_237 (show jw_cd cd_237 15 = some (.iaload) by decide +kernel) (ma_i hl (i := Q) (e := I) 16 (by omega) (by show _ < ((12 : Nat) : Int); omega) e16 (by decide) (by decide) (by decide)) ?_
  refine jr_1 jm_237 (show jw_cd cd_237 16 = some (.iadd) by decide +kernel) (mt_add (c := 100 * Q + I) rfl) ?_
  refine jr_1 jm_237 (F2 := (19, [some (.ref 15), some (.int (Int32.ofInt (w))), some (.long (Int64.ofInt (t))), none, some (.int (Int32.ofInt (s))), some (.int (Int32.ofInt (100 * Q + I)))], [], ml_mk h σ)) (show jw_cd cd_237 17 = some (.istore 5) by decide +kernel) rfl ?_
  refine jr_1 jm_237 (show jw_cd cd_237 19 = some (.aload_n 0) by decide +kernel) rfl ?_
  refine jr_1 jm_237 (show jw_cd cd_237 20 = some (.getfield 47) by decide +kernel) (mg_a hl (a := 28) (show jw_fld 34 47 16 = some 17 by decide +kernel) (by decide) (by decide)) ?_
  refine jr_1 jm_237 (show jw_cd cd_237 23 = some (.iload 5) by decide +kernel) rfl ?_
  refine jr_1 jm_237 (show jw_cd cd_237 25 = some (.iload_n 1) by decide +kernel) rfl ?_
  refine jr_1 jm_237 (show jw_cd cd_237 26 = some (.iastore) by decide +kernel) (ms_i hl (i := 100 * Q + I) (x := w) 17 (by omega) (by show _ < ((1200 : Nat) : Int); omega) (by decide) (by decide) (by decide)) ?_
  refine jr_1 jm_237 (show jw_cd cd_237 27 = some (.aload_n 0) by decide +kernel) rfl ?_
  refine jr_1 jm_237 (show jw_cd cd_237 28 = some (.getfield 50) by decide +kernel) (mg_a hl (a := 29) (show jw_fld 34 50 16 = some 18 by decide +kernel) (by decide) (by decide)) ?_
  refine jr_1 jm_237 (show jw_cd cd_237 31 = some (.iload 5) by decide +kernel) rfl ?_
  refine jr_1 jm_237 (show jw_cd cd_237 33 = some (.lload_n 2) by decide +kernel) rfl ?_
  refine jr_1 jm_237 (show jw_cd cd_237 34 = some (.lastore) by decide +kernel) (ms_j hl (i := 100 * Q + I) (x := t) 18 (by omega) (by show _ < ((1200 : Nat) : Int); omega) (by decide) (by decide) (by decide)) ?_
  refine jr_1 jm_237 (show jw_cd cd_237 35 = some (.aload_n 0) by decide +kernel) rfl ?_
  refine jr_1 jm_237 (show jw_cd cd_237 36 = some (.getfield 53) by decide +kernel) (mg_a hl (a := 30) (show jw_fld 34 53 16 = some 19 by decide +kernel) (by decide) (by decide)) ?_
  refine jr_1 jm_237 (show jw_cd cd_237 39 = some (.iload 5) by decide +kernel) rfl ?_
  refine jr_1 jm_237 (show jw_cd cd_237 41 = some (.iload 4) by decide +kernel) rfl ?_
  refine jr_1 jm_237 (show jw_cd cd_237 43 = some (.iastore) by decide +kernel) (ms_i hl (i := 100 * Q + I) (x := s) 19 (by omega) (by show _ < ((1200 : Nat) : Int); omega) (by decide) (by decide) (by decide)) ?_
  refine jr_1 jm_237 (show jw_cd cd_237 44 = some (.aload_n 0) by decide +kernel) rfl ?_
  refine jr_1 jm_237 (show jw_cd cd_237 45 = some (.getfield 44) by decide +kernel) (mg_a hl (a := 27) (show jw_fld 34 44 16 = some 16 by decide +kernel) (by decide) (by decide)) ?_
  refine jr_1 jm_237 (show jw_cd cd_237 48 = some (.aload_n 0) by decide +kernel) rfl ?_
  refine jr_1 jm_237 (show jw_cd cd_237 49 = some (.getfield 219) by decide +kernel) (mg_i hl (e := Q) ((su_nf (by decide)).trans ((su_nf (by decide)).trans ((su_nf (by decide)).trans e15))) (show jw_fld 34 219 16 = some 15 by decide +kernel) (by decide) (by decide)) ?_
  refine jr_1 jm_237 (show jw_cd cd_237 52 = some (.dup2) by decide +kernel) rfl ?_
  refine jr_1 jm_237 (show jw_cd cd_237 53 = some (.iaload) by decide +kernel) (ma_i hl (i := Q) (e := I) 16 (by omega) (by show _ < ((12 : Nat) : Int); omega) ((su_nf (by decide)).trans ((su_nf (by decide)).trans ((su_nf (by decide)).trans e16))) (by decide) (by decide) (by decide)) ?_
  refine jr_1 jm_237 (show jw_cd cd_237 54 = some (.iconst 1) by decide +kernel) rfl ?_
  refine jr_1 jm_237 (show jw_cd cd_237 55 = some (.iadd) by decide +kernel) (mt_add (c := I + 1) rfl) ?_
  refine jr_1 jm_237 (show jw_cd cd_237 56 = some (.iastore) by decide +kernel) (ms_i hl (i := Q) (x := I + 1) 16 (by omega) (by show _ < ((12 : Nat) : Int); omega) (by decide) (by decide) (by decide)) ?_
  exact jr_v jm_237 (show jw_cd cd_237 57 = some (.return_) by decide +kernel) rfl
theorem mAdd_F {σ : mS} {Q I w t s s0 : Int} : rdF σ (mAdd σ Q I w t s) Q (100 * Q + I) s0 ∧ mAdd σ Q I w t s 17 (100 * Q + I) = w ∧ mAdd σ Q I w t s 18 (100 * Q + I) = t ∧ mAdd σ Q I w t s 19 (100 * Q + I) = s ∧ mAdd σ Q I w t s 16 Q = I + 1 ∧ (∀ f, f ∉ [16, 17, 18, 19] → mAdd σ Q I w t s f = σ f) := by
  unfold mAdd
  refine ⟨rdF_su (rdF_su (rdF_su (rdF_su (rdF_refl _ _ _ _) ?_) ?_) ?_) ?_, ?_, ?_, ?_, su_eq _ _ _ _, fun f hf => ?_⟩
  · omega
  · omega
  · omega
  · omega
  · rw [su_nf (by decide), su_nf (by decide), su_nf (by decide), su_eq]
  · rw [su_nf (by decide), su_nf (by decide), su_eq]
  · rw [su_nf (by decide), su_eq]
  · simp only [List.mem_cons, List.mem_nil_iff, or_false, not_or] at hf
    rw [su_row (by omega), su_row (by omega), su_row (by omega), su_row (by omega)]
def mSk (σ : mS) (dd K q : Int) (s : List Int) : mS := (su (su (su (su σ 31 (0) (pk s)) 28 (0) (q)) 25 (3 * dd + K) (pk s)) 24 (dd) (K + 1))
theorem jn_skT {β : Bool} {d : Nat} {h : jx_H} {σ : mS} (hl : 49 ≤ h.length) {T : Int → Int} {n p : Int} (ht : tOK T n) (hP : rP σ T n p) (h0 : 0 ≤ p) (hp : p ≤ n) {dd K q : Int} {s : List Int} (hd : 0 ≤ dd ∧ dd < 288) (e24 : σ 24 dd = K) (hK : 0 ≤ K ∧ K < 3) (hs : sKey T n p = .inr (s, q)) : jx_r (jz β) jw_M (d + 3) 242 (0, [some (.ref 15), some (.int (Int32.ofInt (dd)))], [], ml_mk h σ) (ml_mk h (mSk σ dd K q s), .inl none) := by
  obtain ⟨d0, d1⟩ := hd
  obtain ⟨k0, k1⟩ := hK
  unfold mSk
  refine jr_1 jm_242 (show jw_cd cd_242 0 = some (.aload_n 0) by decide +kernel) rfl ?_
  refine jr_c jm_242 (show jw_cd cd_242 1 = some (.invokevirtual 192) by decide +kernel) (mc_v hl (n := 0) (m2 := 218) (bs := []) (r := []) (show jw_find jw_cvT 34 192 = some (0, [(16, 218)]) by decide +kernel) (by decide) rfl rfl rfl) jm_218 ⟨Nat.le_of_ble_eq_true rfl, by decide⟩ (jn_readKey_ok hl ht hP.1 hP.2.1 hP.2.2.1 h0 hp (by rw [hP.2.2.2]; exact mr0) hs) ?_
  refine jr_1 jm_242 (show jw_cd cd_242 4 = some (.ifCond .eq 32) by decide +kernel) (mz_f (q := .eq) (a := 1) (by show ¬ (1 = 0); omega) ⟨by omega, by omega⟩ (by decide)) ?_
  refine jr_1 jm_242 (show jw_cd cd_242 7 = some (.aload_n 0) by decide +kernel) rfl ?_
  refine jr_1 jm_242 (show jw_cd cd_242 8 = some (.getfield 71) by decide +kernel) (mg_a hl (a := 36) (show jw_fld 34 71 16 = some 25 by decide +kernel) (by decide) (by decide)) ?_
  refine jr_1 jm_242 (show jw_cd cd_242 11 = some (.iconst 3) by decide +kernel) rfl ?_
  refine jr_1 jm_242 (show jw_cd cd_242 12 = some (.iload_n 1) by decide +kernel) rfl ?_
  refine jr_1 jm_242 (show jw_cd cd_242 13 = some (.imul) by decide +kernel) (mt_mul (c := 3 * dd) rfl) ?_
  refine jr_1 jm_242 (show jw_cd cd_242 14 = some (.aload_n 0) by decide +kernel) rfl ?_
  refine jr_1 jm_242 (show jw_cd cd_242 15 = some (.getfield 68) by decide +kernel) (mg_a hl (a := 35) (show jw_fld 34 68 16 = some 24 by decide +kernel) (by decide) (by decide)) ?_
  refine jr_1 jm_242 (show jw_cd cd_242 18 = some (.iload_n 1) by decide +kernel) rfl ?_
  refine jr_1 jm_242 (show jw_cd cd_242 19 = some (.iaload) by decide +kernel) (ma_i hl (i := dd) (e := K) 24 (by omega) (by show _ < ((288 : Nat) : Int); omega) ((su_nf (by decide)).trans ((su_nf (by decide)).trans e24)) (by decide) (by decide) (by decide)) ?_
  refine jr_1 jm_242 (show jw_cd cd_242 20 = some (.iadd) by decide +kernel) (mt_add (c := 3 * dd + K) rfl) ?_
  refine jr_1 jm_242 (show jw_cd cd_242 21 = some (.aload_n 0) by decide +kernel) rfl ?_
  refine jr_1 jm_242 (show jw_cd cd_242 22 = some (.getfield 158) by decide +kernel) (mg_j hl (e := pk s) ((su_nf (by decide)).trans (su_eq _ _ _ _)) (show jw_fld 34 158 16 = some 31 by decide +kernel) (by decide) (by decide)) ?_
  refine jr_1 jm_242 (show jw_cd cd_242 25 = some (.lastore) by decide +kernel) (ms_j hl (i := 3 * dd + K) (x := pk s) 25 (by omega) (by show _ < ((864 : Nat) : Int); omega) (by decide) (by decide) (by decide)) ?_
  refine jr_1 jm_242 (show jw_cd cd_242 26 = some (.aload_n 0) by decide +kernel) rfl ?_
  refine jr_1 jm_242 (show jw_cd cd_242 27 = some (.getfield 68) by decide +kernel) (mg_a hl (a := 35) (show jw_fld 34 68 16 = some 24 by decide +kernel) (by decide) (by decide)) ?_
  refine jr_1 jm_242 (show jw_cd cd_242 30 = some (.iload_n 1) by decide +kernel) rfl ?_
  refine jr_1 jm_242 (show jw_cd cd_242 31 = some (.dup2) by decide +kernel) rfl ?_
  refine jr_1 jm_242 (show jw_cd cd_242 32 = some (.iaload) by decide +kernel) (ma_i hl (i := dd) (e := K) 24 (by omega) (by show _ < ((288 : Nat) : Int); omega) ((su_nf (by decide)).trans ((su_nf (by decide)).trans ((su_nf (by decide)).trans e24))) (by decide) (by decide) (by decide)) ?_
  refine jr_1 jm_242 (show jw_cd cd_242 33 = some (.iconst 1) by decide +kernel) rfl ?_
  refine jr_1 jm_242 (show jw_cd cd_242 34 = some (.iadd) by decide +kernel) (mt_add (c := K + 1) rfl) ?_
  refine jr_1 jm_242 (show jw_cd cd_242 35 = some (.iastore) by decide +kernel) (ms_i hl (i := dd) (x := K + 1) 24 (by omega) (by show _ < ((288 : Nat) : Int); omega) (by decide) (by decide) (by decide)) ?_
  exact jr_v jm_242 (show jw_cd cd_242 36 = some (.return_) by decide +kernel) rfl
theorem jn_skF {β : Bool} {d : Nat} {h : jx_H} {σ : mS} (hl : 49 ≤ h.length) {T : Int → Int} {n p : Int} (ht : tOK T n) (hP : rP σ T n p) (h0 : 0 ≤ p) (hp : p ≤ n) {dd e : Int} (hs : sKey T n p = .inl e) : ∃ τ, jx_r (jz β) jw_M (d + 3) 242 (0, [some (.ref 15), some (.int (Int32.ofInt (dd)))], [], ml_mk h σ) (ml_mk h (τ), .inl none) ∧ τ 29 0 = -1 - e ∧ mEq [28, 29, 31] σ τ := by
  obtain ⟨τ, r1, r2, r3⟩ := jn_readKey_er (β := β) (d := d) (h := h) hl ht hP.1 hP.2.1 hP.2.2.1 h0 hp (by rw [hP.2.2.2]; exact mr0) hP.2.2.2 hs
  refine ⟨τ, ?_, r2, r3⟩
  refine jr_1 jm_242 (show jw_cd cd_242 0 = some (.aload_n 0) by decide +kernel) rfl ?_
  refine jr_c jm_242 (show jw_cd cd_242 1 = some (.invokevirtual 192) by decide +kernel) (mc_v hl (n := 0) (m2 := 218) (bs := []) (r := []) (show jw_find jw_cvT 34 192 = some (0, [(16, 218)]) by decide +kernel) (by decide) rfl rfl rfl) jm_218 ⟨Nat.le_of_ble_eq_true rfl, by decide⟩ r1 ?_
  refine jr_1 jm_242 (show jw_cd cd_242 4 = some (.ifCond .eq 32) by decide +kernel) (mz_t (q := .eq) (a := 0) (t := 36) (by show 0 = 0; omega) ⟨by omega, by omega⟩ (by decide) (by decide)) ?_
  exact jr_v jm_242 (show jw_cd cd_242 36 = some (.return_) by decide +kernel) rfl
