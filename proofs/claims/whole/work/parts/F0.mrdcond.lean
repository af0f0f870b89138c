/-! ===== the model reads a condition (printed by program: gen64.py) ===== -/
/-- the step e stands at the item i -/
def it1 (σ : mS) (i : Int) (e : sE) : Prop := (0 ≤ i ∧ i < 1200) ∧ σ 17 i = e.1 ∧ (0 ≤ e.1 ∧ e.1 ≤ 6) ∧ (e.1 ≤ 1 → pkR σ i (σ 19 i) e) ∧ (2 ≤ e.1 → e.1 ≤ 5 → prR σ (σ 19 i) e)
/-- the step e has been read -/
def stpP (σ τ : mS) (T : Int → Int) (n Q I s q k : Int) (e : sE) : Prop := rP τ T n q ∧ τ 16 Q = I + 1 ∧ it1 τ (100 * Q + I) e ∧ (e.1 = 1 ∨ e.1 = 4 ∨ e.1 = 5 → τ 19 (100 * Q + I) < s + 1) ∧ rdF σ τ Q (100 * Q + I) s ∧ τ 30 0 = k
theorem rdF_sd {σ τ : mS} {Q i0 s dd : Int} (h : sdF σ τ dd) (hd : 2 * s ≤ dd) : rdF σ τ Q i0 s := by
  refine ⟨fun f hf => h.1 f ?_, fun v _ _ => by rw [h.1 16 (by decide)], fun f v f1 f2 _ => by rw [h.1 f (by simp; omega)], fun f v f1 f2 hv => ?_⟩
  · simp only [List.mem_cons, List.mem_nil_iff, or_false, not_or] at hf ⊢
    omega
  · by_cases h5 : f = 25
    · subst h5
      have : mulf 25 = 6 := rfl
      rw [this] at hv
      exact h.2.2 v (by omega)
    · by_cases h3 : 23 ≤ f
      · have : mulf f = 2 := by
          unfold mulf
          rw [if_neg (by omega), if_neg (by omega), if_neg h5]
        rw [this] at hv
        exact h.2.1 f v h3 f2 h5 (by omega)
      · rw [h.1 f (by simp; omega)]
theorem sdR_sd {σ τ : mS} {dd d2 : Int} {s : sD} (h : sdF σ τ d2) (hd : ¬ dd = d2) (hs : sdR σ dd s) : sdR τ dd s := by
  unfold sdR at hs ⊢
  rw [h.2.1 23 dd (by decide) (by decide) (by decide) hd, h.2.1 24 dd (by decide) (by decide) (by decide) hd, h.2.1 26 dd (by decide) (by decide) (by decide) hd, h.2.1 27 dd (by decide) (by decide) (by decide) hd]
  refine ⟨hs.1, hs.2.1, fun z => ?_, hs.2.2.2⟩
  obtain ⟨z1, z2, z3⟩ := hs.2.2.1 z
  exact ⟨z1, z2, pthR_fr _ 0 (Int.le_refl 0) (fun v v1 v2 => h.2.2 v (by omega)) z3⟩
theorem jn_cn_end {β : Bool} {d : Nat} {h : jx_H} {τ : mS} (hl : 49 ≤ h.length) {T : Int → Int} {n p : Int} (ht : tOK T n) (hP : rP τ T n p) (h0 : 0 ≤ p) (hp : p ≤ n) {s c Q I : Int} {c3 : Option Value} (e15 : τ 15 0 = Q) (e16 : τ 16 Q = I) (hQ : 0 ≤ Q ∧ Q < 12) (hI : 0 ≤ I ∧ I < 100) : (tH T n p = 93 → jx_r (jz β) jw_M (d + 5) 240 (156, [some (.ref 15), some (.int (Int32.ofInt (s))), some (.int (Int32.ofInt (c))), c3], [], ml_mk h τ) (ml_mk h (mAdd (su τ 28 0 (p + 1)) Q I 4 0 s), .inl none)) ∧ (¬ tH T n p = 93 → jx_r (jz β) jw_M (d + 5) 240 (156, [some (.ref 15), some (.int (Int32.ofInt (s))), some (.int (Int32.ofInt (c))), c3], [], ml_mk h τ) (ml_mk h (su τ 29 0 (-1 - p)), .inl none)) := by
  refine ⟨fun h93 => ?_, fun h93 => ?_⟩
  · have e15b : su τ 28 0 (p + 1) 15 0 = Q := by rw [su_nf (by decide)]; exact e15
    have e16b : su τ 28 0 (p + 1) 16 Q = I := by rw [su_nf (by decide)]; exact e16
    refine jr_1 jm_240 (show jw_cd cd_240 156 = some (.aload_n 0) by decide +kernel) rfl ?_
    refine jr_1 jm_240 (show jw_cd cd_240 157 = some (.getfield 148) by decide +kernel) (mg_i hl (e := 0) hP.2.2.2 (show jw_fld 34 148 16 = some 29 by decide +kernel) (by decide) (by decide)) ?_
    refine jr_1 jm_240 (show jw_cd cd_240 160 = some (.ifCond .ne 19) by decide +kernel) (mz_f (q := .ne) (a := 0) (by show ¬ (¬ (0 = 0)); omega) ⟨by omega, by omega⟩ (by decide)) ?_
    refine jr_1 jm_240 (show jw_cd cd_240 163 = some (.aload_n 0) by decide +kernel) rfl ?_
    refine jr_1 jm_240 (show jw_cd cd_240 164 = some (.bipush 93) by decide +kernel) (mt_bi (by decide)) ?_
    refine jr_c jm_240 (show jw_cd cd_240 166 = some (.invokevirtual 179) by decide +kernel) (mc_v hl (n := 1) (m2 := 221) (bs := [.int (Int32.ofInt (93))]) (r := []) (show jw_find jw_cvT 34 179 = some (1, [(16, 221)]) by decide +kernel) (by decide) rfl rfl rfl) jm_221 ⟨Nat.le_of_ble_eq_true rfl, by decide⟩ (jn_mustT hl ht hP h0 hp ⟨by decide, by decide⟩ h93) ?_
    refine jr_1 jm_240 (show jw_cd cd_240 169 = some (.ifCond .eq 10) by decide +kernel) (mz_f (q := .eq) (a := 1) (by show ¬ (1 = 0); omega) ⟨by omega, by omega⟩ (by decide)) ?_
    refine jr_1 jm_240 (show jw_cd cd_240 172 = some (.aload_n 0) by decide +kernel) rfl ?_
    refine jr_1 jm_240 (show jw_cd cd_240 173 = some (.iconst 4) by decide +kernel) rfl ?_
    refine jr_1 jm_240 (F2 := (175, [some (.ref 15), some (.int (Int32.ofInt (s))), some (.int (Int32.ofInt (c))), c3], [.long (Int64.ofInt (0)), .int (Int32.ofInt (4)), .ref 15], ml_mk h (su τ 28 0 (p + 1)))) (show jw_cd cd_240 174 = some (.lconst 0) by decide +kernel) rfl ?_
    refine jr_1 jm_240 (show jw_cd cd_240 175 = some (.iload_n 1) by decide +kernel) rfl ?_
    refine jr_c jm_240 (show jw_cd cd_240 176 = some (.invokevirtual 233) by decide +kernel) (mc_v hl (n := 3) (m2 := 237) (bs := [.int (Int32.ofInt (4)), .long (Int64.ofInt (0)), .int (Int32.ofInt (s))]) (r := []) (show jw_find jw_cvT 34 233 = some (3, [(16, 237)]) by decide +kernel) (by decide) rfl rfl rfl) jm_237 ⟨Nat.le_of_ble_eq_true rfl, by decide⟩ (jn_add hl e15b e16b hQ hI) ?_
    exact jr_v jm_240 (show jw_cd cd_240 179 = some (.return_) by decide +kernel) rfl
  · skip
    refine jr_1 jm_240 (show jw_cd cd_240 156 = some (.aload_n 0) by decide +kernel) rfl ?_
    refine jr_1 jm_240 (show jw_cd cd_240 157 = some (.getfield 148) by decide +kernel) (mg_i hl (e := 0) hP.2.2.2 (show jw_fld 34 148 16 = some 29 by decide +kernel) (by decide) (by decide)) ?_
    refine jr_1 jm_240 (show jw_cd cd_240 160 = some (.ifCond .ne 19) by decide +kernel) (mz_f (q := .ne) (a := 0) (by show ¬ (¬ (0 = 0)); omega) ⟨by omega, by omega⟩ (by decide)) ?_
    refine jr_1 jm_240 (show jw_cd cd_240 163 = some (.aload_n 0) by decide +kernel) rfl ?_
    refine jr_1 jm_240 (show jw_cd cd_240 164 = some (.bipush 93) by decide +kernel) (mt_bi (by decide)) ?_
    refine jr_c jm_240 (show jw_cd cd_240 166 = some (.invokevirtual 179) by decide +kernel) (mc_v hl (n := 1) (m2 := 221) (bs := [.int (Int32.ofInt (93))]) (r := []) (show jw_find jw_cvT 34 179 = some (1, [(16, 221)]) by decide +kernel) (by decide) rfl rfl rfl) jm_221 ⟨Nat.le_of_ble_eq_true rfl, by decide⟩ (jn_mustF hl ht hP h0 hp ⟨by decide, by decide⟩ h93) ?_
    refine jr_1 jm_240 (show jw_cd cd_240 169 = some (.ifCond .eq 10) by decide +kernel) (mz_t (q := .eq) (a := 0) (t := 179) (by show 0 = 0; omega) ⟨by omega, by omega⟩ (by decide) (by decide)) ?_
    exact jr_v jm_240 (show jw_cd cd_240 179 = some (.return_) by decide +kernel) rfl
theorem jn_cn_sg {β : Bool} {d : Nat} {h : jx_H} {τ : mS} (hl : 49 ≤ h.length) {s c : Int} (hs : 0 ≤ s ∧ s < 144) (hc : c = 61 ∨ c = 33 ∨ c = 60 ∨ c = 62) : (∀ res, jx_r (jz β) jw_M (d) 240 (147, [some (.ref 15), some (.int (Int32.ofInt (s))), some (.int (Int32.ofInt (c))), some (.int (Int32.ofInt (1)))], [], ml_mk h (su τ 22 s (sgn c true))) res → jx_r (jz β) jw_M (d) 240 (93, [some (.ref 15), some (.int (Int32.ofInt (s))), some (.int (Int32.ofInt (c))), some (.int (Int32.ofInt (1)))], [], ml_mk h τ) res) ∧ (∀ res, jx_r (jz β) jw_M (d) 240 (147, [some (.ref 15), some (.int (Int32.ofInt (s))), some (.int (Int32.ofInt (c))), some (.int (Int32.ofInt (0)))], [], ml_mk h (su τ 22 s (sgn c false))) res → jx_r (jz β) jw_M (d) 240 (93, [some (.ref 15), some (.int (Int32.ofInt (s))), some (.int (Int32.ofInt (c))), some (.int (Int32.ofInt (0)))], [], ml_mk h τ) res) := by
  obtain ⟨s0, s1⟩ := hs
  refine ⟨fun res kk => ?_, fun res kk => ?_⟩
  · rcases hc with rfl | rfl | rfl | rfl
    · have e : sgn 61 true = 1 := rfl
      rw [e] at kk
      refine jr_1 jm_240 (show jw_cd cd_240 93 = some (.aload_n 0) by decide +kernel) rfl ?_
      refine jr_1 jm_240 (show jw_cd cd_240 94 = some (.getfield 62) by decide +kernel) (mg_a hl (a := 33) (show jw_fld 34 62 16 = some 22 by decide +kernel) (by decide) (by decide)) ?_
      refine jr_1 jm_240 (show jw_cd cd_240 97 = some (.iload_n 1) by decide +kernel) rfl ?_
      refine jr_1 jm_240 (show jw_cd cd_240 98 = some (.iload_n 2) by decide +kernel) rfl ?_
      refine jr_1 jm_240 (show jw_cd cd_240 99 = some (.bipush 61) by decide +kernel) (mt_bi (by decide)) ?_
      refine jr_1 jm_240 (show jw_cd cd_240 101 = some (.if_icmp .ne 7) by decide +kernel) (mb_f (q := .ne) (a := 61) (b := 61) (by show ¬ (¬ (61 = 61)); omega) ⟨by omega, by omega⟩ ⟨by omega, by omega⟩ (by decide)) ?_
      refine jr_1 jm_240 (show jw_cd cd_240 104 = some (.iconst 1) by decide +kernel) rfl ?_
      refine jr_1 jm_240 (show jw_cd cd_240 105 = some (.goto 41) by decide +kernel) (ju_go (t := 146) (by decide)) ?_
      refine jr_1 jm_240 (show jw_cd cd_240 146 = some (.iastore) by decide +kernel) (ms_i hl (i := s) (x := 1) 22 (by omega) (by show _ < ((144 : Nat) : Int); omega) (by decide) (by decide) (by decide)) ?_
      exact kk
    · have e : sgn 33 true = 2 := rfl
      rw [e] at kk
      refine jr_1 jm_240 (show jw_cd cd_240 93 = some (.aload_n 0) by decide +kernel) rfl ?_
      refine jr_1 jm_240 (show jw_cd cd_240 94 = some (.getfield 62) by decide +kernel) (mg_a hl (a := 33) (show jw_fld 34 62 16 = some 22 by decide +kernel) (by decide) (by decide)) ?_
      refine jr_1 jm_240 (show jw_cd cd_240 97 = some (.iload_n 1) by decide +kernel) rfl ?_
      refine jr_1 jm_240 (show jw_cd cd_240 98 = some (.iload_n 2) by decide +kernel) rfl ?_
      refine jr_1 jm_240 (show jw_cd cd_240 99 = some (.bipush 61) by decide +kernel) (mt_bi (by decide)) ?_
      refine jr_1 jm_240 (show jw_cd cd_240 101 = some (.if_icmp .ne 7) by decide +kernel) (mb_t (q := .ne) (a := 33) (b := 61) (t := 108) (by show ¬ (33 = 61); omega) ⟨by omega, by omega⟩ ⟨by omega, by omega⟩ (by decide) (by decide)) ?_
      refine jr_1 jm_240 (show jw_cd cd_240 108 = some (.iload_n 2) by decide +kernel) rfl ?_
      refine jr_1 jm_240 (show jw_cd cd_240 109 = some (.bipush 33) by decide +kernel) (mt_bi (by decide)) ?_
      refine jr_1 jm_240 (show jw_cd cd_240 111 = some (.if_icmp .ne 7) by decide +kernel) (mb_f (q := .ne) (a := 33) (b := 33) (by show ¬ (¬ (33 = 33)); omega) ⟨by omega, by omega⟩ ⟨by omega, by omega⟩ (by decide)) ?_
      refine jr_1 jm_240 (show jw_cd cd_240 114 = some (.iconst 2) by decide +kernel) rfl ?_
      refine jr_1 jm_240 (show jw_cd cd_240 115 = some (.goto 31) by decide +kernel) (ju_go (t := 146) (by decide)) ?_
      refine jr_1 jm_240 (show jw_cd cd_240 146 = some (.iastore) by decide +kernel) (ms_i hl (i := s) (x := 2) 22 (by omega) (by show _ < ((144 : Nat) : Int); omega) (by decide) (by decide) (by decide)) ?_
      exact kk
    · have e : sgn 60 true = 3 := rfl
      rw [e] at kk
      refine jr_1 jm_240 (show jw_cd cd_240 93 = some (.aload_n 0) by decide +kernel) rfl ?_
      refine jr_1 jm_240 (show jw_cd cd_240 94 = some (.getfield 62) by decide +kernel) (mg_a hl (a := 33) (show jw_fld 34 62 16 = some 22 by decide +kernel) (by decide) (by decide)) ?_
      refine jr_1 jm_240 (show jw_cd cd_240 97 = some (.iload_n 1) by decide +kernel) rfl ?_
      refine jr_1 jm_240 (show jw_cd cd_240 98 = some (.iload_n 2) by decide +kernel) rfl ?_
      refine jr_1 jm_240 (show jw_cd cd_240 99 = some (.bipush 61) by decide +kernel) (mt_bi (by decide)) ?_
      refine jr_1 jm_240 (show jw_cd cd_240 101 = some (.if_icmp .ne 7) by decide +kernel) (mb_t (q := .ne) (a := 60) (b := 61) (t := 108) (by show ¬ (60 = 61); omega) ⟨by omega, by omega⟩ ⟨by omega, by omega⟩ (by decide) (by decide)) ?_
      refine jr_1 jm_240 (show jw_cd cd_240 108 = some (.iload_n 2) by decide +kernel) rfl ?_
      refine jr_1 jm_240 (show jw_cd cd_240 109 = some (.bipush 33) by decide +kernel) (mt_bi (by decide)) ?_
      refine jr_1 jm_240 (show jw_cd cd_240 111 = some (.if_icmp .ne 7) by decide +kernel) (mb_t (q := .ne) (a := 60) (b := 33) (t := 118) (by show ¬ (60 = 33); omega) ⟨by omega, by omega⟩ ⟨by omega, by omega⟩ (by decide) (by decide)) ?_
      refine jr_1 jm_240 (show jw_cd cd_240 118 = some (.iload_n 2) by decide +kernel) rfl ?_
      refine jr_1 jm_240 (show jw_cd cd_240 119 = some (.bipush 60) by decide +kernel) (mt_bi (by decide)) ?_
      refine jr_1 jm_240 (show jw_cd cd_240 121 = some (.if_icmp .ne 15) by decide +kernel) (mb_f (q := .ne) (a := 60) (b := 60) (by show ¬ (¬ (60 = 60)); omega) ⟨by omega, by omega⟩ ⟨by omega, by omega⟩ (by decide)) ?_
      refine jr_1 jm_240 (show jw_cd cd_240 124 = some (.iload_n 3) by decide +kernel) rfl ?_
      refine jr_1 jm_240 (show jw_cd cd_240 125 = some (.ifCond .eq 7) by decide +kernel) (mz_f (q := .eq) (a := 1) (by show ¬ (1 = 0); omega) ⟨by omega, by omega⟩ (by decide)) ?_
      refine jr_1 jm_240 (show jw_cd cd_240 128 = some (.iconst 3) by decide +kernel) rfl ?_
      refine jr_1 jm_240 (show jw_cd cd_240 129 = some (.goto 17) by decide +kernel) (ju_go (t := 146) (by decide)) ?_
      refine jr_1 jm_240 (show jw_cd cd_240 146 = some (.iastore) by decide +kernel) (ms_i hl (i := s) (x := 3) 22 (by omega) (by show _ < ((144 : Nat) : Int); omega) (by decide) (by decide) (by decide)) ?_
      exact kk
    · have e : sgn 62 true = 4 := rfl
      rw [e] at kk
      refine jr_1 jm_240 (show jw_cd cd_240 93 = some (.aload_n 0) by decide +kernel) rfl ?_
      refine jr_1 jm_240 (show jw_cd cd_240 94 = some (.getfield 62) by decide +kernel) (mg_a hl (a := 33) (show jw_fld 34 62 16 = some 22 by decide +kernel) (by decide) (by decide)) ?_
      refine jr_1 jm_240 (show jw_cd cd_240 97 = some (.iload_n 1) by decide +kernel) rfl ?_
      refine jr_1 jm_240 (show jw_cd cd_240 98 = some (.iload_n 2) by decide +kernel) rfl ?_
      refine jr_1 jm_240 (show jw_cd cd_240 99 = some (.bipush 61) by decide +kernel) (mt_bi (by decide)) ?_
      refine jr_1 jm_240 (show jw_cd cd_240 101 = some (.if_icmp .ne 7) by decide +kernel) (mb_t (q := .ne) (a := 62) (b := 61) (t := 108) (by show ¬ (62 = 61); omega) ⟨by omega, by omega⟩ ⟨by omega, by omega⟩ (by decide) (by decide)) ?_
      refine jr_1 jm_240 (show jw_cd cd_240 108 = some (.iload_n 2) by decide +kernel) rfl ?_
      refine jr_1 jm_240 (show jw_cd cd_240 109 = some (.bipush 33) by decide +kernel) (mt_bi (by decide)) ?_
      refine jr_1 jm_240 (show jw_cd cd_240 111 = some (.if_icmp .ne 7) by decide +kernel) (mb_t (q := .ne) (a := 62) (b := 33) (t := 118) (by show ¬ (62 = 33); omega) ⟨by omega, by omega⟩ ⟨by omega, by omega⟩ (by decide) (by decide)) ?_
      refine jr_1 jm_240 (show jw_cd cd_240 118 = some (.iload_n 2) by decide +kernel) rfl ?_
      refine jr_1 jm_240 (show jw_cd cd_240 119 = some (.bipush 60) by decide +kernel) (mt_bi (by decide)) ?_
      refine jr_1 jm_240 (show jw_cd cd_240 121 = some (.if_icmp .ne 15) by decide +kernel) (mb_t (q := .ne) (a := 62) (b := 60) (t := 136) (by show ¬ (62 = 60); omega) ⟨by omega, by omega⟩ ⟨by omega, by omega⟩ (by decide) (by decide)) ?_
      refine jr_1 jm_240 (show jw_cd cd_240 136 = some (.iload_n 3) by decide +kernel) rfl ?_
      refine jr_1 jm_240 (show jw_cd cd_240 137 = some (.ifCond .eq 7) by decide +kernel) (mz_f (q := .eq) (a := 1) (by show ¬ (1 = 0); omega) ⟨by omega, by omega⟩ (by decide)) ?_
      refine jr_1 jm_240 (show jw_cd cd_240 140 = some (.iconst 4) by decide +kernel) rfl ?_
      refine jr_1 jm_240 (show jw_cd cd_240 141 = some (.goto 5) by decide +kernel) (ju_go (t := 146) (by decide)) ?_
      refine jr_1 jm_240 (show jw_cd cd_240 146 = some (.iastore) by decide +kernel) (ms_i hl (i := s) (x := 4) 22 (by omega) (by show _ < ((144 : Nat) : Int); omega) (by decide) (by decide) (by decide)) ?_
      exact kk
  · rcases hc with rfl | rfl | rfl | rfl
    · have e : sgn 61 false = 1 := rfl
      rw [e] at kk
      refine jr_1 jm_240 (show jw_cd cd_240 93 = some (.aload_n 0) by decide +kernel) rfl ?_
      refine jr_1 jm_240 (show jw_cd cd_240 94 = some (.getfield 62) by decide +kernel) (mg_a hl (a := 33) (show jw_fld 34 62 16 = some 22 by decide +kernel) (by decide) (by decide)) ?_
      refine jr_1 jm_240 (show jw_cd cd_240 97 = some (.iload_n 1) by decide +kernel) rfl ?_
      refine jr_1 jm_240 (show jw_cd cd_240 98 = some (.iload_n 2) by decide +kernel) rfl ?_
      refine jr_1 jm_240 (show jw_cd cd_240 99 = some (.bipush 61) by decide +kernel) (mt_bi (by decide)) ?_
      refine jr_1 jm_240 (show jw_cd cd_240 101 = some (.if_icmp .ne 7) by decide +kernel) (mb_f (q := .ne) (a := 61) (b := 61) (by show ¬ (¬ (61 = 61)); omega) ⟨by omega, by omega⟩ ⟨by omega, by omega⟩ (by decide)) ?_
      refine jr_1 jm_240 (show jw_cd cd_240 104 = some (.iconst 1) by decide +kernel) rfl ?_
      refine jr_1 jm_240 (show jw_cd cd_240 105 = some (.goto 41) by decide +kernel) (ju_go (t := 146) (by decide)) ?_
      refine jr_1 jm_240 (show jw_cd cd_240 146 = some (.iastore) by decide +kernel) (ms_i hl (i := s) (x := 1) 22 (by omega) (by show _ < ((144 : Nat) : Int); omega) (by decide) (by decide) (by decide)) ?_
      exact kk
    · have e : sgn 33 false = 2 := rfl
      rw [e] at kk
      refine jr_1 jm_240 (show jw_cd cd_240 93 = some (.aload_n 0) by decide +kernel) rfl ?_
      refine jr_1 jm_240 (show jw_cd cd_240 94 = some (.getfield 62) by decide +kernel) (mg_a hl (a := 33) (show jw_fld 34 62 16 = some 22 by decide +kernel) (by decide) (by decide)) ?_
      refine jr_1 jm_240 (show jw_cd cd_240 97 = some (.iload_n 1) by decide +kernel) rfl ?_
      refine jr_1 jm_240 (show jw_cd cd_240 98 = some (.iload_n 2) by decide +kernel) rfl ?_
      refine jr_1 jm_240 (show jw_cd cd_240 99 = some (.bipush 61) by decide +kernel) (mt_bi (by decide)) ?_
      refine jr_1 jm_240 (show jw_cd cd_240 101 = some (.if_icmp .ne 7) by decide +kernel) (mb_t (q := .ne) (a := 33) (b := 61) (t := 108) (by show ¬ (33 = 61); omega) ⟨by omega, by omega⟩ ⟨by omega, by omega⟩ (by decide) (by decide)) ?_
      refine jr_1 jm_240 (show jw_cd cd_240 108 = some (.iload_n 2) by decide +kernel) rfl ?_
      refine jr_1 jm_240 (show jw_cd cd_240 109 = some (.bipush 33) by decide +kernel) (mt_bi (by decide)) ?_
      refine jr_1 jm_240 (show jw_cd cd_240 111 = some (.if_icmp .ne 7) by decide +kernel) (mb_f (q := .ne) (a := 33) (b := 33) (by show ¬ (¬ (33 = 33)); omega) ⟨by omega, by omega⟩ ⟨by omega, by omega⟩ (by decide)) ?_
      refine jr_1 jm_240 (show jw_cd cd_240 114 = some (.iconst 2) by decide +kernel) rfl ?_
      refine jr_1 jm_240 (show jw_cd cd_240 115 = some (.goto 31) by decide +kernel) (ju_go (t := 146) (by decide)) ?_
      refine jr_1 jm_240 (show jw_cd cd_240 146 = some (.iastore) by decide +kernel) (ms_i hl (i := s) (x := 2) 22 (by omega) (by show _ < ((144 : Nat) : Int); omega) (by decide) (by decide) (by decide)) ?_
      exact kk
    · have e : sgn 60 false = 5 := rfl
      rw [e] at kk
      refine jr_1 jm_240 (show jw_cd cd_240 93 = some (.aload_n 0) by decide +kernel) rfl ?_
      refine jr_1 jm_240 (show jw_cd cd_240 94 = some (.getfield 62) by decide +kernel) (mg_a hl (a := 33) (show jw_fld 34 62 16 = some 22 by decide +kernel) (by decide) (by decide)) ?_
      refine jr_1 jm_240 (show jw_cd cd_240 97 = some (.iload_n 1) by decide +kernel) rfl ?_
      refine jr_1 jm_240 (show jw_cd cd_240 98 = some (.iload_n 2) by decide +kernel) rfl ?_
      refine jr_1 jm_240 (show jw_cd cd_240 99 = some (.bipush 61) by decide +kernel) (mt_bi (by decide)) ?_
      refine jr_1 jm_240 (show jw_cd cd_240 101 = some (.if_icmp .ne 7) by decide +kernel) (mb_t (q := .ne) (a := 60) (b := 61) (t := 108) (by show ¬ (60 = 61); omega) ⟨by omega, by omega⟩ ⟨by omega, by omega⟩ (by decide) (by decide)) ?_
      refine jr_1 jm_240 (show jw_cd cd_240 108 = some (.iload_n 2) by decide +kernel) rfl ?_
      refine jr_1 jm_240 (show jw_cd cd_240 109 = some (.bipush 33) by decide +kernel) (mt_bi (by decide)) ?_
      refine jr_1 jm_240 (show jw_cd cd_240 111 = some (.if_icmp .ne 7) by decide +kernel) (mb_t (q := .ne) (a := 60) (b := 33) (t := 118) (by show ¬ (60 = 33); omega) ⟨by omega, by omega⟩ ⟨by omega, by omega⟩ (by decide) (by decide)) ?_
      refine jr_1 jm_240 (show jw_cd cd_240 118 = some (.iload_n 2) by decide +kernel) rfl ?_
      refine jr_1 jm_240 (show jw_cd cd_240 119 = some (.bipush 60) by decide +kernel) (mt_bi (by decide)) ?_
      refine jr_1 jm_240 (show jw_cd cd_240 121 = some (.if_icmp .ne 15) by decide +kernel) (mb_f (q := .ne) (a := 60) (b := 60) (by show ¬ (¬ (60 = 60)); omega) ⟨by omega, by omega⟩ ⟨by omega, by omega⟩ (by decide)) ?_
      refine jr_1 jm_240 (show jw_cd cd_240 124 = some (.iload_n 3) by decide +kernel) rfl ?_
      refine jr_1 jm_240 (show jw_cd cd_240 125 = some (.ifCond .eq 7) by decide +kernel) (mz_t (q := .eq) (a := 0) (t := 132) (by show 0 = 0; omega) ⟨by omega, by omega⟩ (by decide) (by decide)) ?_
      refine jr_1 jm_240 (show jw_cd cd_240 132 = some (.iconst 5) by decide +kernel) rfl ?_
      refine jr_1 jm_240 (show jw_cd cd_240 133 = some (.goto 13) by decide +kernel) (ju_go (t := 146) (by decide)) ?_
      refine jr_1 jm_240 (show jw_cd cd_240 146 = some (.iastore) by decide +kernel) (ms_i hl (i := s) (x := 5) 22 (by omega) (by show _ < ((144 : Nat) : Int); omega) (by decide) (by decide) (by decide)) ?_
      exact kk
    · have e : sgn 62 false = 6 := rfl
      rw [e] at kk
      refine jr_1 jm_240 (show jw_cd cd_240 93 = some (.aload_n 0) by decide +kernel) rfl ?_
      refine jr_1 jm_240 (show jw_cd cd_240 94 = some (.getfield 62) by decide +kernel) (mg_a hl (a := 33) (show jw_fld 34 62 16 = some 22 by decide +kernel) (by decide) (by decide)) ?_
      refine jr_1 jm_240 (show jw_cd cd_240 97 = some (.iload_n 1) by decide +kernel) rfl ?_
      refine jr_1 jm_240 (show jw_cd cd_240 98 = some (.iload_n 2) by decide +kernel) rfl ?_
      refine jr_1 jm_240 (show jw_cd cd_240 99 = some (.bipush 61) by decide +kernel) (mt_bi (by decide)) ?_
      refine jr_1 jm_240 (show jw_cd cd_240 101 = some (.if_icmp .ne 7) by decide +kernel) (mb_t (q := .ne) (a := 62) (b := 61) (t := 108) (by show ¬ (62 = 61); omega) ⟨by omega, by omega⟩ ⟨by omega, by omega⟩ (by decide) (by decide)) ?_
      refine jr_1 jm_240 (show jw_cd cd_240 108 = some (.iload_n 2) by decide +kernel) rfl ?_
      refine jr_1 jm_240 (show jw_cd cd_240 109 = some (.bipush 33) by decide +kernel) (mt_bi (by decide)) ?_
      refine jr_1 jm_240 (show jw_cd cd_240 111 = some (.if_icmp .ne 7) by decide +kernel) (mb_t (q := .ne) (a := 62) (b := 33) (t := 118) (by show ¬ (62 = 33); omega) ⟨by omega, by omega⟩ ⟨by omega, by omega⟩ (by decide) (by decide)) ?_
      refine jr_1 jm_240 (show jw_cd cd_240 118 = some (.iload_n 2) by decide +kernel) rfl ?_
      refine jr_1 jm_240 (show jw_cd cd_240 119 = some (.bipush 60) by decide +kernel) (mt_bi (by decide)) ?_
      refine jr_1 jm_240 (show jw_cd cd_240 121 = some (.if_icmp .ne 15) by decide +kernel) (mb_t (q := .ne) (a := 62) (b := 60) (t := 136) (by show ¬ (62 = 60); omega) ⟨by omega, by omega⟩ ⟨by omega, by omega⟩ (by decide) (by decide)) ?_
      refine jr_1 jm_240 (show jw_cd cd_240 136 = some (.iload_n 3) by decide +kernel) rfl ?_
      refine jr_1 jm_240 (show jw_cd cd_240 137 = some (.ifCond .eq 7) by decide +kernel) (mz_t (q := .eq) (a := 0) (t := 144) (by show 0 = 0; omega) ⟨by omega, by omega⟩ (by decide) (by decide)) ?_
      refine jr_1 jm_240 (show jw_cd cd_240 144 = some (.bipush 6) by decide +kernel) (mt_bi (by decide)) ?_
      refine jr_1 jm_240 (show jw_cd cd_240 146 = some (.iastore) by decide +kernel) (ms_i hl (i := s) (x := 6) 22 (by omega) (by show _ < ((144 : Nat) : Int); omega) (by decide) (by decide) (by decide)) ?_
      exact kk
theorem jn_cn_27 {β : Bool} {d : Nat} {h : jx_H} {τ : mS} (hl : 49 ≤ h.length) {s c : Int} (hcr : -1 ≤ c ∧ c ≤ 126) (hc : c = 61 ∨ c = 33 ∨ c = 60 ∨ c = 62) : ∀ res, jx_r (jz β) jw_M (d) 240 (51, [some (.ref 15), some (.int (Int32.ofInt (s))), some (.int (Int32.ofInt (c))), none], [], ml_mk h τ) res → jx_r (jz β) jw_M (d) 240 (27, [some (.ref 15), some (.int (Int32.ofInt (s))), some (.int (Int32.ofInt (c))), none], [], ml_mk h τ) res := fun res kk => by
  obtain ⟨c0, c1⟩ := hcr
  by_cases h1 : c = 61
  · skip
    refine jr_1 jm_240 (show jw_cd cd_240 27 = some (.iload_n 2) by decide +kernel) rfl ?_
    refine jr_1 jm_240 (show jw_cd cd_240 28 = some (.bipush 61) by decide +kernel) (mt_bi (by decide)) ?_
    refine jr_1 jm_240 (show jw_cd cd_240 30 = some (.if_icmp .eq 21) by decide +kernel) (mb_t (q := .eq) (a := c) (b := 61) (t := 51) (by show c = 61; omega) ⟨by omega, by omega⟩ ⟨by omega, by omega⟩ (by decide) (by decide)) ?_
    exact kk
  by_cases h2 : c = 33
  · skip
    refine jr_1 jm_240 (show jw_cd cd_240 27 = some (.iload_n 2) by decide +kernel) rfl ?_
    refine jr_1 jm_240 (show jw_cd cd_240 28 = some (.bipush 61) by decide +kernel) (mt_bi (by decide)) ?_
    refine jr_1 jm_240 (show jw_cd cd_240 30 = some (.if_icmp .eq 21) by decide +kernel) (mb_f (q := .eq) (a := c) (b := 61) (by show ¬ (c = 61); omega) ⟨by omega, by omega⟩ ⟨by omega, by omega⟩ (by decide)) ?_
    refine jr_1 jm_240 (show jw_cd cd_240 33 = some (.iload_n 2) by decide +kernel) rfl ?_
    refine jr_1 jm_240 (show jw_cd cd_240 34 = some (.bipush 33) by decide +kernel) (mt_bi (by decide)) ?_
    refine jr_1 jm_240 (show jw_cd cd_240 36 = some (.if_icmp .eq 15) by decide +kernel) (mb_t (q := .eq) (a := c) (b := 33) (t := 51) (by show c = 33; omega) ⟨by omega, by omega⟩ ⟨by omega, by omega⟩ (by decide) (by decide)) ?_
    exact kk
  by_cases h3 : c = 60
  · skip
    refine jr_1 jm_240 (show jw_cd cd_240 27 = some (.iload_n 2) by decide +kernel) rfl ?_
    refine jr_1 jm_240 (show jw_cd cd_240 28 = some (.bipush 61) by decide +kernel) (mt_bi (by decide)) ?_
    refine jr_1 jm_240 (show jw_cd cd_240 30 = some (.if_icmp .eq 21) by decide +kernel) (mb_f (q := .eq) (a := c) (b := 61) (by show ¬ (c = 61); omega) ⟨by omega, by omega⟩ ⟨by omega, by omega⟩ (by decide)) ?_
    refine jr_1 jm_240 (show jw_cd cd_240 33 = some (.iload_n 2) by decide +kernel) rfl ?_
    refine jr_1 jm_240 (show jw_cd cd_240 34 = some (.bipush 33) by decide +kernel) (mt_bi (by decide)) ?_
    refine jr_1 jm_240 (show jw_cd cd_240 36 = some (.if_icmp .eq 15) by decide +kernel) (mb_f (q := .eq) (a := c) (b := 33) (by show ¬ (c = 33); omega) ⟨by omega, by omega⟩ ⟨by omega, by omega⟩ (by decide)) ?_
    refine jr_1 jm_240 (show jw_cd cd_240 39 = some (.iload_n 2) by decide +kernel) rfl ?_
    refine jr_1 jm_240 (show jw_cd cd_240 40 = some (.bipush 60) by decide +kernel) (mt_bi (by decide)) ?_
    refine jr_1 jm_240 (show jw_cd cd_240 42 = some (.if_icmp .eq 9) by decide +kernel) (mb_t (q := .eq) (a := c) (b := 60) (t := 51) (by show c = 60; omega) ⟨by omega, by omega⟩ ⟨by omega, by omega⟩ (by decide) (by decide)) ?_
    exact kk
  · skip
    refine jr_1 jm_240 (show jw_cd cd_240 27 = some (.iload_n 2) by decide +kernel) rfl ?_
    refine jr_1 jm_240 (show jw_cd cd_240 28 = some (.bipush 61) by decide +kernel) (mt_bi (by decide)) ?_
    refine jr_1 jm_240 (show jw_cd cd_240 30 = some (.if_icmp .eq 21) by decide +kernel) (mb_f (q := .eq) (a := c) (b := 61) (by show ¬ (c = 61); omega) ⟨by omega, by omega⟩ ⟨by omega, by omega⟩ (by decide)) ?_
    refine jr_1 jm_240 (show jw_cd cd_240 33 = some (.iload_n 2) by decide +kernel) rfl ?_
    refine jr_1 jm_240 (show jw_cd cd_240 34 = some (.bipush 33) by decide +kernel) (mt_bi (by decide)) ?_
    refine jr_1 jm_240 (show jw_cd cd_240 36 = some (.if_icmp .eq 15) by decide +kernel) (mb_f (q := .eq) (a := c) (b := 33) (by show ¬ (c = 33); omega) ⟨by omega, by omega⟩ ⟨by omega, by omega⟩ (by decide)) ?_
    refine jr_1 jm_240 (show jw_cd cd_240 39 = some (.iload_n 2) by decide +kernel) rfl ?_
    refine jr_1 jm_240 (show jw_cd cd_240 40 = some (.bipush 60) by decide +kernel) (mt_bi (by decide)) ?_
    refine jr_1 jm_240 (show jw_cd cd_240 42 = some (.if_icmp .eq 9) by decide +kernel) (mb_f (q := .eq) (a := c) (b := 60) (by show ¬ (c = 60); omega) ⟨by omega, by omega⟩ ⟨by omega, by omega⟩ (by decide)) ?_
    refine jr_1 jm_240 (show jw_cd cd_240 45 = some (.iload_n 2) by decide +kernel) rfl ?_
    refine jr_1 jm_240 (show jw_cd cd_240 46 = some (.bipush 62) by decide +kernel) (mt_bi (by decide)) ?_
    refine jr_1 jm_240 (show jw_cd cd_240 48 = some (.if_icmp .ne 108) by decide +kernel) (mb_f (q := .ne) (a := c) (b := 62) (by show ¬ (¬ (c = 62)); omega) ⟨by omega, by omega⟩ ⟨by omega, by omega⟩ (by decide)) ?_
    exact kk
theorem jn_cn_no {β : Bool} {d : Nat} {h : jx_H} {τ : mS} (hl : 49 ≤ h.length) {s c : Int} (hcr : -1 ≤ c ∧ c ≤ 126) (hc : ¬ (c = 61 ∨ c = 33 ∨ c = 60 ∨ c = 62)) : ∀ res, jx_r (jz β) jw_M (d) 240 (156, [some (.ref 15), some (.int (Int32.ofInt (s))), some (.int (Int32.ofInt (c))), none], [], ml_mk h τ) res → jx_r (jz β) jw_M (d) 240 (27, [some (.ref 15), some (.int (Int32.ofInt (s))), some (.int (Int32.ofInt (c))), none], [], ml_mk h τ) res := fun res kk => by
  obtain ⟨c0, c1⟩ := hcr
  refine jr_1 jm_240 (show jw_cd cd_240 27 = some (.iload_n 2) by decide +kernel) rfl ?_
  refine jr_1 jm_240 (show jw_cd cd_240 28 = some (.bipush 61) by decide +kernel) (mt_bi (by decide)) ?_
  refine jr_1 jm_240 (show jw_cd cd_240 30 = some (.if_icmp .eq 21) by decide +kernel) (mb_f (q := .eq) (a := c) (b := 61) (by show ¬ (c = 61); omega) ⟨by omega, by omega⟩ ⟨by omega, by omega⟩ (by decide)) ?_
  refine jr_1 jm_240 (show jw_cd cd_240 33 = some (.iload_n 2) by decide +kernel) rfl ?_
  refine jr_1 jm_240 (show jw_cd cd_240 34 = some (.bipush 33) by decide +kernel) (mt_bi (by decide)) ?_
  refine jr_1 jm_240 (show jw_cd cd_240 36 = some (.if_icmp .eq 15) by decide +kernel) (mb_f (q := .eq) (a := c) (b := 33) (by show ¬ (c = 33); omega) ⟨by omega, by omega⟩ ⟨by omega, by omega⟩ (by decide)) ?_
  refine jr_1 jm_240 (show jw_cd cd_240 39 = some (.iload_n 2) by decide +kernel) rfl ?_
  refine jr_1 jm_240 (show jw_cd cd_240 40 = some (.bipush 60) by decide +kernel) (mt_bi (by decide)) ?_
  refine jr_1 jm_240 (show jw_cd cd_240 42 = some (.if_icmp .eq 9) by decide +kernel) (mb_f (q := .eq) (a := c) (b := 60) (by show ¬ (c = 60); omega) ⟨by omega, by omega⟩ ⟨by omega, by omega⟩ (by decide)) ?_
  refine jr_1 jm_240 (show jw_cd cd_240 45 = some (.iload_n 2) by decide +kernel) rfl ?_
  refine jr_1 jm_240 (show jw_cd cd_240 46 = some (.bipush 62) by decide +kernel) (mt_bi (by decide)) ?_
  refine jr_1 jm_240 (show jw_cd cd_240 48 = some (.if_icmp .ne 108) by decide +kernel) (mb_t (q := .ne) (a := c) (b := 62) (t := 156) (by show ¬ (c = 62); omega) ⟨by omega, by omega⟩ ⟨by omega, by omega⟩ (by decide) (by decide)) ?_
  exact kk
theorem jn_cn_2 {β : Bool} {d : Nat} {h : jx_H} {τ : mS} (hl : 49 ≤ h.length) {T : Int → Int} {n p : Int} (ht : tOK T n) (hP : rP τ T n p) (h0 : 0 ≤ p) (hp : p ≤ n) {s c ev g Q I : Int} {l : sD} (hs : 0 ≤ s ∧ s < 144) (e15 : τ 15 0 = Q) (e16 : τ 16 Q = I) (hQ : 0 ≤ Q ∧ Q < 12) (hI : 0 ≤ I ∧ I < 100) (hl1 : sdR τ (2 * s) l) (e22 : τ 22 s = g) (hg : 1 ≤ g ∧ g ≤ 6) : (∀ e, sCnd2 T n l g p = .inl e → ∃ τ' : mS, jx_r (jz β) jw_M (d + 5) 240 (147, [some (.ref 15), some (.int (Int32.ofInt (s))), some (.int (Int32.ofInt (c))), some (.int (Int32.ofInt (ev)))], [], ml_mk h τ) (ml_mk h (τ'), .inl none) ∧ τ' 29 0 = -1 - e ∧ rdF τ τ' (-1) (100 * Q + I) s) ∧ (∀ e q, sCnd2 T n l g p = .inr (e, q) → ∃ τ' : mS, jx_r (jz β) jw_M (d + 5) 240 (147, [some (.ref 15), some (.int (Int32.ofInt (s))), some (.int (Int32.ofInt (c))), some (.int (Int32.ofInt (ev)))], [], ml_mk h τ) (ml_mk h (τ'), .inl none) ∧ stpP τ τ' T n Q I s q (τ 30 0) e) := by
  obtain ⟨s0, s1⟩ := id hs
  have hn160 := ht.2.1
  have hS := jn_readSide (β := β) (d := d) (h := h) (σ := τ) (dd := 2 * s + 1) hl ht hP h0 hp ⟨by omega, by omega⟩
  have hR := sSide_R ht h0 hp
  unfold sCnd2
  cases hss : sSide T n p with
  | inl e =>
    obtain ⟨τ2, r1, r2, r3⟩ := hS.1 e hss
    have hke := hR.1 e hss
    refine ⟨fun e' he => ?_, fun a q he => (by cases he)⟩
    cases he
    refine ⟨τ2, ?_, r2, rdF_sd r3 (by omega)⟩
    refine jr_1 jm_240 (show jw_cd cd_240 147 = some (.aload_n 0) by decide +kernel) rfl ?_
    refine jr_1 jm_240 (show jw_cd cd_240 148 = some (.iconst 2) by decide +kernel) rfl ?_
    refine jr_1 jm_240 (show jw_cd cd_240 149 = some (.iload_n 1) by decide +kernel) rfl ?_
    refine jr_1 jm_240 (show jw_cd cd_240 150 = some (.imul) by decide +kernel) (mt_mul (c := 2 * s) rfl) ?_
    refine jr_1 jm_240 (show jw_cd cd_240 151 = some (.iconst 1) by decide +kernel) rfl ?_
    refine jr_1 jm_240 (show jw_cd cd_240 152 = some (.iadd) by decide +kernel) (mt_add (c := 2 * s + 1) rfl) ?_
    refine jr_c jm_240 (show jw_cd cd_240 153 = some (.invokevirtual 252) by decide +kernel) (mc_v hl (n := 1) (m2 := 241) (bs := [.int (Int32.ofInt (2 * s + 1))]) (r := []) (show jw_find jw_cvT 34 252 = some (1, [(16, 241)]) by decide +kernel) (by decide) rfl rfl rfl) jm_241 ⟨Nat.le_of_ble_eq_true rfl, by decide⟩ r1 ?_
    refine jr_1 jm_240 (show jw_cd cd_240 156 = some (.aload_n 0) by decide +kernel) rfl ?_
    refine jr_1 jm_240 (show jw_cd cd_240 157 = some (.getfield 148) by decide +kernel) (mg_i hl (e := -1 - e) r2 (show jw_fld 34 148 16 = some 29 by decide +kernel) (by decide) (by decide)) ?_
    refine jr_1 jm_240 (show jw_cd cd_240 160 = some (.ifCond .ne 19) by decide +kernel) (mz_t (q := .ne) (a := -1 - e) (t := 179) (by show ¬ (-1 - e = 0); omega) ⟨by omega, by omega⟩ (by decide) (by decide)) ?_
    exact jr_v jm_240 (show jw_cd cd_240 179 = some (.return_) by decide +kernel) rfl
  | inr x =>
    obtain ⟨r, q⟩ := x
    obtain ⟨τ2, r1, r2, r3, r4⟩ := hS.2 r q hss
    obtain ⟨k1, k2, k3⟩ := hR.2 r q hss
    have f15 : τ2 15 0 = Q := by rw [r4.1 15 (by decide)]; exact e15
    have f16 : τ2 16 Q = I := by rw [r4.1 16 (by decide)]; exact e16
    obtain ⟨z1, z2⟩ := jn_cn_end (β := β) (d := d) (h := h) (τ := τ2) (s := s) (c := c) (c3 := some (.int (Int32.ofInt (ev)))) hl ht r2 (by omega) k2 f15 f16 hQ hI
    have hF : rdF τ τ2 (-1) (100 * Q + I) s := rdF_sd r4 (by omega)
    dsimp only
    by_cases h93 : tH T n q = 93
    · rw [if_pos h93]
      refine ⟨fun e' he => (by cases he), fun a q' he => ?_⟩
      cases he
      obtain ⟨m1, m2, m3, m4, m5, m6⟩ := mAdd_F (σ := su τ2 28 0 (q + 1)) (Q := Q) (I := I) (w := 4) (t := 0) (s := s) (s0 := s)
      have z1 := z1 h93
      refine ⟨mAdd (su τ2 28 0 (q + 1)) Q I 4 0 s, ?_, ?_, m5, ⟨⟨by omega, by omega⟩, m2, ⟨by show (0 : Int) ≤ 4; decide, by show (4 : Int) ≤ 6; decide⟩, fun z => absurd z (by show ¬ (4 : Int) ≤ 1; decide), fun _ _ => ?_⟩, fun _ => by rw [m4]; omega, rdF_trans (rdF_w hF) (rdF_trans (rdF_su (rdF_refl _ _ _ _) (by omega)) m1 (Int.le_refl _) (Int.le_refl _)) (Int.le_refl _) (Int.le_refl _), ?_⟩
      · skip
        refine jr_1 jm_240 (show jw_cd cd_240 147 = some (.aload_n 0) by decide +kernel) rfl ?_
        refine jr_1 jm_240 (show jw_cd cd_240 148 = some (.iconst 2) by decide +kernel) rfl ?_
        refine jr_1 jm_240 (show jw_cd cd_240 149 = some (.iload_n 1) by decide +kernel) rfl ?_
        refine jr_1 jm_240 (show jw_cd cd_240 150 = some (.imul) by decide +kernel) (mt_mul (c := 2 * s) rfl) ?_
        refine jr_1 jm_240 (show jw_cd cd_240 151 = some (.iconst 1) by decide +kernel) rfl ?_
        refine jr_1 jm_240 (show jw_cd cd_240 152 = some (.iadd) by decide +kernel) (mt_add (c := 2 * s + 1) rfl) ?_
        refine jr_c jm_240 (show jw_cd cd_240 153 = some (.invokevirtual 252) by decide +kernel) (mc_v hl (n := 1) (m2 := 241) (bs := [.int (Int32.ofInt (2 * s + 1))]) (r := []) (show jw_find jw_cvT 34 252 = some (1, [(16, 241)]) by decide +kernel) (by decide) rfl rfl rfl) jm_241 ⟨Nat.le_of_ble_eq_true rfl, by decide⟩ r1 ?_
        exact z1
      · exact rP_q (rP_mv r2) (fun f hf => m6 f (by simp; omega)) (by rw [m6 28 (by decide)]) (by rw [m6 29 (by decide)])
      · rw [m4]
        have hq : ∀ f, 20 ≤ f → f ≤ 27 → mAdd (su τ2 28 0 (q + 1)) Q I 4 0 s f = τ2 f := fun f f1 f2 => by rw [m6 f (by simp; omega), su_row (by omega)]
        refine prR_fr hq ⟨⟨by show (2 : Int) ≤ 4; decide, by show (4 : Int) ≤ 5; decide⟩, fun _ => ⟨hs, sdR_sd r4 (by omega) hl1, Or.inr ⟨r3, ?_, hg⟩⟩, fun z => absurd z (by show ¬ (4 : Int) = 5; decide)⟩
        show τ2 22 s = g
        rw [r4.1 22 (by decide)]
        exact e22
      · rw [m6 30 (by decide), su_nf (by decide), r4.1 30 (by decide)]
    · rw [if_neg h93]
      refine ⟨fun e' he => ?_, fun a q' he => (by cases he)⟩
      cases he
      have z2 := z2 h93
      refine ⟨su τ2 29 0 (-1 - q), ?_, su_eq _ _ _ _, rdF_su hF (by omega)⟩
      · skip
        refine jr_1 jm_240 (show jw_cd cd_240 147 = some (.aload_n 0) by decide +kernel) rfl ?_
        refine jr_1 jm_240 (show jw_cd cd_240 148 = some (.iconst 2) by decide +kernel) rfl ?_
        refine jr_1 jm_240 (show jw_cd cd_240 149 = some (.iload_n 1) by decide +kernel) rfl ?_
        refine jr_1 jm_240 (show jw_cd cd_240 150 = some (.imul) by decide +kernel) (mt_mul (c := 2 * s) rfl) ?_
        refine jr_1 jm_240 (show jw_cd cd_240 151 = some (.iconst 1) by decide +kernel) rfl ?_
        refine jr_1 jm_240 (show jw_cd cd_240 152 = some (.iadd) by decide +kernel) (mt_add (c := 2 * s + 1) rfl) ?_
        refine jr_c jm_240 (show jw_cd cd_240 153 = some (.invokevirtual 252) by decide +kernel) (mc_v hl (n := 1) (m2 := 241) (bs := [.int (Int32.ofInt (2 * s + 1))]) (r := []) (show jw_find jw_cvT 34 252 = some (1, [(16, 241)]) by decide +kernel) (by decide) rfl rfl rfl) jm_241 ⟨Nat.le_of_ble_eq_true rfl, by decide⟩ r1 ?_
        exact z2
theorem jn_cond {β : Bool} {d : Nat} {h : jx_H} {σ : mS} (hl : 49 ≤ h.length) {T : Int → Int} {n p : Int} (ht : tOK T n) (hP : rP σ T n p) (h0 : 0 ≤ p) (hp : p ≤ n) {s Q I : Int} (hs : 0 ≤ s ∧ s < 144) (e15 : σ 15 0 = Q) (e16 : σ 16 Q = I) (hQ : 0 ≤ Q ∧ Q < 12) (hI : 0 ≤ I ∧ I < 100) (e23 : σ 23 (2 * s + 1) = 0) : (∀ e, sCnd T n p = .inl e → ∃ τ : mS, jx_r (jz β) jw_M (d + 5) 240 (0, [some (.ref 15), some (.int (Int32.ofInt (s))), none, none], [], ml_mk h σ) (ml_mk h (τ), .inl none) ∧ τ 29 0 = -1 - e ∧ rdF σ τ (-1) (100 * Q + I) s) ∧ (∀ e q, sCnd T n p = .inr (e, q) → ∃ τ : mS, jx_r (jz β) jw_M (d + 5) 240 (0, [some (.ref 15), some (.int (Int32.ofInt (s))), none, none], [], ml_mk h σ) (ml_mk h (τ), .inl none) ∧ stpP σ τ T n Q I s q (σ 30 0) e) := by
  obtain ⟨s0, s1⟩ := id hs
  have hn160 := ht.2.1
  have hS := jn_readSide (β := β) (d := d) (h := h) (σ := σ) (dd := 2 * s) hl ht hP h0 hp ⟨by omega, by omega⟩
  have hR := sSide_R ht h0 hp
  unfold sCnd
  cases hss : sSide T n p with
  | inl e =>
    obtain ⟨τ, r1, r2, r3⟩ := hS.1 e hss
    have hke := hR.1 e hss
    refine ⟨fun e' he => ?_, fun a q he => (by cases he)⟩
    cases he
    refine ⟨τ, ?_, r2, rdF_sd r3 (by omega)⟩
    refine jr_1 jm_240 (show jw_cd cd_240 0 = some (.aload_n 0) by decide +kernel) rfl ?_
    refine jr_1 jm_240 (show jw_cd cd_240 1 = some (.iconst 2) by decide +kernel) rfl ?_
    refine jr_1 jm_240 (show jw_cd cd_240 2 = some (.iload_n 1) by decide +kernel) rfl ?_
    refine jr_1 jm_240 (show jw_cd cd_240 3 = some (.imul) by decide +kernel) (mt_mul (c := 2 * s) rfl) ?_
    refine jr_c jm_240 (show jw_cd cd_240 4 = some (.invokevirtual 252) by decide +kernel) (mc_v hl (n := 1) (m2 := 241) (bs := [.int (Int32.ofInt (2 * s))]) (r := []) (show jw_find jw_cvT 34 252 = some (1, [(16, 241)]) by decide +kernel) (by decide) rfl rfl rfl) jm_241 ⟨Nat.le_of_ble_eq_true rfl, by decide⟩ r1 ?_
    refine jr_1 jm_240 (show jw_cd cd_240 7 = some (.aload_n 0) by decide +kernel) rfl ?_
    refine jr_1 jm_240 (show jw_cd cd_240 8 = some (.getfield 148) by decide +kernel) (mg_i hl (e := -1 - e) r2 (show jw_fld 34 148 16 = some 29 by decide +kernel) (by decide) (by decide)) ?_
    refine jr_1 jm_240 (show jw_cd cd_240 11 = some (.ifCond .ge 4) by decide +kernel) (mz_f (q := .ge) (a := -1 - e) (by show ¬ (0 ≤ -1 - e); omega) ⟨by omega, by omega⟩ (by decide)) ?_
    exact jr_v jm_240 (show jw_cd cd_240 14 = some (.return_) by decide +kernel) rfl
  | inr x =>
    obtain ⟨l, q⟩ := x
    obtain ⟨τ, r1, r2, r3, r4⟩ := hS.2 l q hss
    obtain ⟨k1, k2, k3⟩ := hR.2 l q hss
    have hh := tH_r (p := q) ht (by omega)
    obtain ⟨σ1, h1⟩ : ∃ σ1, σ1 = su τ 22 s 0 := ⟨_, rfl⟩
    have hP1 : rP σ1 T n q := by rw [h1]; exact rP_su r2 (by decide) (by decide) (by decide)
    have hF1 : rdF σ σ1 (-1) (100 * Q + I) s := by
      rw [h1]
      refine rdF_su (rdF_sd r4 (by omega)) (Or.inr (Or.inr (Or.inr ⟨⟨by decide, by decide⟩, ?_⟩)))
      show 1 * s ≤ s
      omega
    have hq1 : ∀ f, ¬ f = 22 → σ1 f = τ f := fun f hf => by rw [h1, su_row hf]
    have f15 : σ1 15 0 = Q := by rw [hq1 15 (by decide), r4.1 15 (by decide)]; exact e15
    have f16 : σ1 16 Q = I := by rw [hq1 16 (by decide), r4.1 16 (by decide)]; exact e16
    have f30 : σ1 30 0 = σ 30 0 := by rw [hq1 30 (by decide), r4.1 30 (by decide)]
    have fl : sdR σ1 (2 * s) l := sdR_fr (fun f f1 f2 => hq1 f (by omega)) r3
    have f23 : σ1 23 (2 * s + 1) = 0 := by rw [hq1 23 (by decide), r4.2.1 23 _ (by decide) (by decide) (by decide) (by omega)]; exact e23
    have pre : ∀ res, jx_r (jz β) jw_M (d + 5) 240 (27, [some (.ref 15), some (.int (Int32.ofInt (s))), some (.int (Int32.ofInt (tH T n q))), none], [], ml_mk h σ1) res → jx_r (jz β) jw_M (d + 5) 240 (0, [some (.ref 15), some (.int (Int32.ofInt (s))), none, none], [], ml_mk h σ) res := fun res kk => by
      rw [h1] at kk
      refine jr_1 jm_240 (show jw_cd cd_240 0 = some (.aload_n 0) by decide +kernel) rfl ?_
      refine jr_1 jm_240 (show jw_cd cd_240 1 = some (.iconst 2) by decide +kernel) rfl ?_
      refine jr_1 jm_240 (show jw_cd cd_240 2 = some (.iload_n 1) by decide +kernel) rfl ?_
      refine jr_1 jm_240 (show jw_cd cd_240 3 = some (.imul) by decide +kernel) (mt_mul (c := 2 * s) rfl) ?_
      refine jr_c jm_240 (show jw_cd cd_240 4 = some (.invokevirtual 252) by decide +kernel) (mc_v hl (n := 1) (m2 := 241) (bs := [.int (Int32.ofInt (2 * s))]) (r := []) (show jw_find jw_cvT 34 252 = some (1, [(16, 241)]) by decide +kernel) (by decide) rfl rfl rfl) jm_241 ⟨Nat.le_of_ble_eq_true rfl, by decide⟩ r1 ?_
      refine jr_1 jm_240 (show jw_cd cd_240 7 = some (.aload_n 0) by decide +kernel) rfl ?_
      refine jr_1 jm_240 (show jw_cd cd_240 8 = some (.getfield 148) by decide +kernel) (mg_i hl (e := 0) r2.2.2.2 (show jw_fld 34 148 16 = some 29 by decide +kernel) (by decide) (by decide)) ?_
      refine jr_1 jm_240 (show jw_cd cd_240 11 = some (.ifCond .ge 4) by decide +kernel) (mz_t (q := .ge) (a := 0) (t := 15) (by show 0 ≤ 0; omega) ⟨by omega, by omega⟩ (by decide) (by decide)) ?_
      refine jr_1 jm_240 (show jw_cd cd_240 15 = some (.aload_n 0) by decide +kernel) rfl ?_
      refine jr_c jm_240 (show jw_cd cd_240 16 = some (.invokevirtual 151) by decide +kernel) (mc_v hl (n := 0) (m2 := 215) (bs := []) (r := []) (show jw_find jw_cvT 34 151 = some (0, [(16, 215)]) by decide +kernel) (by decide) rfl rfl rfl) jm_215 ⟨Nat.le_of_ble_eq_true rfl, by decide⟩ (jn_hr hl ht r2 (by omega) k2) ?_
      refine jr_1 jm_240 (F2 := (20, [some (.ref 15), some (.int (Int32.ofInt (s))), some (.int (Int32.ofInt (tH T n q))), none], [], ml_mk h τ)) (show jw_cd cd_240 19 = some (.istore_n 2) by decide +kernel) rfl ?_
      refine jr_1 jm_240 (show jw_cd cd_240 20 = some (.aload_n 0) by decide +kernel) rfl ?_
      refine jr_1 jm_240 (show jw_cd cd_240 21 = some (.getfield 62) by decide +kernel) (mg_a hl (a := 33) (show jw_fld 34 62 16 = some 22 by decide +kernel) (by decide) (by decide)) ?_
      refine jr_1 jm_240 (show jw_cd cd_240 24 = some (.iload_n 1) by decide +kernel) rfl ?_
      refine jr_1 jm_240 (show jw_cd cd_240 25 = some (.iconst 0) by decide +kernel) rfl ?_
      refine jr_1 jm_240 (show jw_cd cd_240 26 = some (.iastore) by decide +kernel) (ms_i hl (i := s) (x := 0) 22 (by omega) (by show _ < ((144 : Nat) : Int); omega) (by decide) (by decide) (by decide)) ?_
      exact kk
    dsimp only
    by_cases hc : tH T n q = 61 ∨ tH T n q = 33 ∨ tH T n q = 60 ∨ tH T n q = 62
    · have hql := hh.2.2.2 (by omega)
      rw [if_pos hc]
      have pre2 : ∀ res, jx_r (jz β) jw_M (d + 5) 240 (51, [some (.ref 15), some (.int (Int32.ofInt (s))), some (.int (Int32.ofInt (tH T n q))), none], [], ml_mk h σ1) res → jx_r (jz β) jw_M (d + 5) 240 (0, [some (.ref 15), some (.int (Int32.ofInt (s))), none, none], [], ml_mk h σ) res := fun res kk => pre res (jn_cn_27 hl ⟨hh.1, hh.2.1⟩ hc res kk)
      have hmid : ∀ (ev : Int) (b : Bool) (τ3 : mS) (q3 : Int), ((ev = 1 ∧ b = true) ∨ (ev = 0 ∧ b = false)) → 0 ≤ q3 → q3 ≤ n → rP τ3 T n q3 → rdF σ τ3 (-1) (100 * Q + I) s → (∀ f, ¬ f = 28 → τ3 f = σ1 f) → (∀ res, jx_r (jz β) jw_M (d + 5) 240 (93, [some (.ref 15), some (.int (Int32.ofInt (s))), some (.int (Int32.ofInt (tH T n q))), some (.int (Int32.ofInt (ev)))], [], ml_mk h τ3) res → jx_r (jz β) jw_M (d + 5) 240 (0, [some (.ref 15), some (.int (Int32.ofInt (s))), none, none], [], ml_mk h σ) res) → (∀ e, sCnd2 T n l (sgn (tH T n q) b) q3 = .inl e → ∃ τ : mS, jx_r (jz β) jw_M (d + 5) 240 (0, [some (.ref 15), some (.int (Int32.ofInt (s))), none, none], [], ml_mk h σ) (ml_mk h (τ), .inl none) ∧ τ 29 0 = -1 - e ∧ rdF σ τ (-1) (100 * Q + I) s) ∧ (∀ e q9, sCnd2 T n l (sgn (tH T n q) b) q3 = .inr (e, q9) → ∃ τ : mS, jx_r (jz β) jw_M (d + 5) 240 (0, [some (.ref 15), some (.int (Int32.ofInt (s))), none, none], [], ml_mk h σ) (ml_mk h (τ), .inl none) ∧ stpP σ τ T n Q I s q9 (σ 30 0) e) := fun ev b τ3 q3 hev hq0 hqn hP3 hF3 hq3 hrun => by
        have hg := sgn_r (tH T n q) b
        have hP4 : rP (su τ3 22 s (sgn (tH T n q) b)) T n q3 := rP_su hP3 (by decide) (by decide) (by decide)
        have hF4 : rdF σ (su τ3 22 s (sgn (tH T n q) b)) (-1) (100 * Q + I) s := by
          refine rdF_su hF3 (Or.inr (Or.inr (Or.inr ⟨⟨by decide, by decide⟩, ?_⟩)))
          show 1 * s ≤ s
          omega
        have hq4 : ∀ f, ¬ f = 28 → ¬ f = 22 → su τ3 22 s (sgn (tH T n q) b) f = σ1 f := fun f a c => by rw [su_row c]; exact hq3 f a
        have hZ := jn_cn_2 (β := β) (d := d) (h := h) (τ := su τ3 22 s (sgn (tH T n q) b)) (c := tH T n q) (ev := ev) (l := l) (Q := Q) (I := I) hl ht hP4 hq0 hqn hs (by rw [hq4 15 (by decide) (by decide)]; exact f15) (by rw [hq4 16 (by decide) (by decide)]; exact f16) hQ hI (sdR_fr (fun f f1 f2 => hq4 f (by omega) (by omega)) fl) (su_eq _ _ _ _) hg
        have hsgn : ∀ res, jx_r (jz β) jw_M (d + 5) 240 (147, [some (.ref 15), some (.int (Int32.ofInt (s))), some (.int (Int32.ofInt (tH T n q))), some (.int (Int32.ofInt (ev)))], [], ml_mk h (su τ3 22 s (sgn (tH T n q) b))) res → jx_r (jz β) jw_M (d + 5) 240 (93, [some (.ref 15), some (.int (Int32.ofInt (s))), some (.int (Int32.ofInt (tH T n q))), some (.int (Int32.ofInt (ev)))], [], ml_mk h τ3) res := by
          have := jn_cn_sg (β := β) (d := d + 5) (h := h) (τ := τ3) hl hs hc
          rcases hev with ⟨rfl, rfl⟩ | ⟨rfl, rfl⟩
          · exact this.1
          · exact this.2
        refine ⟨fun e he => ?_, fun e q' he => ?_⟩
        · obtain ⟨τ', y1, y2, y3⟩ := hZ.1 e he
          exact ⟨τ', hrun _ (hsgn _ y1), y2, rdF_trans hF4 y3 (Int.le_refl _) (Int.le_refl _)⟩
        · obtain ⟨τ', y1, y2, y3, y4, y5, y6, y7⟩ := hZ.2 e q' he
          exact ⟨τ', hrun _ (hsgn _ y1), y2, y3, y4, y5, rdF_trans (rdF_w hF4) y6 (Int.le_refl _) (Int.le_refl _), by rw [y7, hq4 30 (by decide) (by decide)]; exact f30⟩
      by_cases h61 : tH T n (q + 1) = 61
      · have hl2 := tH_lt ht (by omega) h61 (by decide)
        rw [if_pos h61]
        refine hmid 1 true (su (su σ1 28 0 (q + 1)) 28 0 (q + 1 + 1)) (q + 1 + 1) (Or.inl ⟨rfl, rfl⟩) (by omega) (by omega) (rP_mv (rP_mv hP1)) (rdF_su (rdF_su hF1 (by omega)) (by omega)) (fun f hf => by rw [su_row hf, su_row hf]) (fun res kk => pre2 res ?_)
        refine jr_1 jm_240 (show jw_cd cd_240 51 = some (.aload_n 0) by decide +kernel) rfl ?_
        refine jr_1 jm_240 (show jw_cd cd_240 52 = some (.dup) by decide +kernel) rfl ?_
        refine jr_1 jm_240 (show jw_cd cd_240 53 = some (.getfield 145) by decide +kernel) (mg_i hl (e := q) hP1.2.2.1 (show jw_fld 34 145 16 = some 28 by decide +kernel) (by decide) (by decide)) ?_
        refine jr_1 jm_240 (show jw_cd cd_240 56 = some (.iconst 1) by decide +kernel) rfl ?_
        refine jr_1 jm_240 (show jw_cd cd_240 57 = some (.iadd) by decide +kernel) (mt_add (c := q + 1) rfl) ?_
        refine jr_1 jm_240 (show jw_cd cd_240 58 = some (.putfield 145) by decide +kernel) (mp_i hl (x := q + 1) (show jw_fld 34 145 16 = some 28 by decide +kernel) (by decide) (by decide) (show jw_ft 16 28 = some .int by decide +kernel) (show jw_fm 34 16 28 = some false by decide +kernel)) ?_
        refine jr_1 jm_240 (show jw_cd cd_240 61 = some (.aload_n 0) by decide +kernel) rfl ?_
        refine jr_1 jm_240 (show jw_cd cd_240 62 = some (.bipush 61) by decide +kernel) (mt_bi (by decide)) ?_
        refine jr_c jm_240 (show jw_cd cd_240 64 = some (.invokevirtual 170) by decide +kernel) (mc_v hl (n := 1) (m2 := 226) (bs := [.int (Int32.ofInt (61))]) (r := []) (show jw_find jw_cvT 34 170 = some (1, [(16, 226)]) by decide +kernel) (by decide) rfl rfl rfl) jm_226 ⟨Nat.le_of_ble_eq_true rfl, by decide⟩ (jn_takT hl ht (rP_mv hP1) (by omega) (by omega) ⟨by decide, by decide⟩ h61) ?_
        refine jr_1 jm_240 (F2 := (68, [some (.ref 15), some (.int (Int32.ofInt (s))), some (.int (Int32.ofInt (tH T n q))), some (.int (Int32.ofInt (1)))], [], ml_mk h (su (su σ1 28 0 (q + 1)) 28 0 (q + 1 + 1)))) (show jw_cd cd_240 67 = some (.istore_n 3) by decide +kernel) rfl ?_
        refine jr_1 jm_240 (show jw_cd cd_240 68 = some (.iload_n 3) by decide +kernel) rfl ?_
        refine jr_1 jm_240 (show jw_cd cd_240 69 = some (.ifCond .ne 24) by decide +kernel) (mz_t (q := .ne) (a := 1) (t := 93) (by show ¬ (1 = 0); omega) ⟨by omega, by omega⟩ (by decide) (by decide)) ?_
        exact kk
      · rw [if_neg h61]
        by_cases h2 : tH T n q = 61 ∨ tH T n q = 33
        · rw [if_pos h2]
          refine ⟨fun e' he => ?_, fun a q' he => (by cases he)⟩
          cases he
          refine ⟨su (su σ1 28 0 (q + 1)) 29 0 (-1 - (q + 1)), pre2 _ ?_, su_eq _ _ _ _, rdF_su (rdF_su hF1 (by omega)) (by omega)⟩
          by_cases h3 : tH T n q = 61
          · skip
            refine jr_1 jm_240 (show jw_cd cd_240 51 = some (.aload_n 0) by decide +kernel) rfl ?_
            refine jr_1 jm_240 (show jw_cd cd_240 52 = some (.dup) by decide +kernel) rfl ?_
            refine jr_1 jm_240 (show jw_cd cd_240 53 = some (.getfield 145) by decide +kernel) (mg_i hl (e := q) hP1.2.2.1 (show jw_fld 34 145 16 = some 28 by decide +kernel) (by decide) (by decide)) ?_
            refine jr_1 jm_240 (show jw_cd cd_240 56 = some (.iconst 1) by decide +kernel) rfl ?_
            refine jr_1 jm_240 (show jw_cd cd_240 57 = some (.iadd) by decide +kernel) (mt_add (c := q + 1) rfl) ?_
            refine jr_1 jm_240 (show jw_cd cd_240 58 = some (.putfield 145) by decide +kernel) (mp_i hl (x := q + 1) (show jw_fld 34 145 16 = some 28 by decide +kernel) (by decide) (by decide) (show jw_ft 16 28 = some .int by decide +kernel) (show jw_fm 34 16 28 = some false by decide +kernel)) ?_
            refine jr_1 jm_240 (show jw_cd cd_240 61 = some (.aload_n 0) by decide +kernel) rfl ?_
            refine jr_1 jm_240 (show jw_cd cd_240 62 = some (.bipush 61) by decide +kernel) (mt_bi (by decide)) ?_
            refine jr_c jm_240 (show jw_cd cd_240 64 = some (.invokevirtual 170) by decide +kernel) (mc_v hl (n := 1) (m2 := 226) (bs := [.int (Int32.ofInt (61))]) (r := []) (show jw_find jw_cvT 34 170 = some (1, [(16, 226)]) by decide +kernel) (by decide) rfl rfl rfl) jm_226 ⟨Nat.le_of_ble_eq_true rfl, by decide⟩ (jn_takF hl ht (rP_mv hP1) (by omega) (by omega) ⟨by decide, by decide⟩ h61) ?_
            refine jr_1 jm_240 (F2 := (68, [some (.ref 15), some (.int (Int32.ofInt (s))), some (.int (Int32.ofInt (tH T n q))), some (.int (Int32.ofInt (0)))], [], ml_mk h (su σ1 28 0 (q + 1)))) (show jw_cd cd_240 67 = some (.istore_n 3) by decide +kernel) rfl ?_
            refine jr_1 jm_240 (show jw_cd cd_240 68 = some (.iload_n 3) by decide +kernel) rfl ?_
            refine jr_1 jm_240 (show jw_cd cd_240 69 = some (.ifCond .ne 24) by decide +kernel) (mz_f (q := .ne) (a := 0) (by show ¬ (¬ (0 = 0)); omega) ⟨by omega, by omega⟩ (by decide)) ?_
            refine jr_1 jm_240 (show jw_cd cd_240 72 = some (.iload_n 2) by decide +kernel) rfl ?_
            refine jr_1 jm_240 (show jw_cd cd_240 73 = some (.bipush 61) by decide +kernel) (mt_bi (by decide)) ?_
            refine jr_1 jm_240 (show jw_cd cd_240 75 = some (.if_icmp .eq 9) by decide +kernel) (mb_t (q := .eq) (a := tH T n q) (b := 61) (t := 84) (by show tH T n q = 61; omega) ⟨by omega, by omega⟩ ⟨by omega, by omega⟩ (by decide) (by decide)) ?_
            refine jr_1 jm_240 (show jw_cd cd_240 84 = some (.aload_n 0) by decide +kernel) rfl ?_
            refine jr_1 jm_240 (show jw_cd cd_240 85 = some (.aload_n 0) by decide +kernel) rfl ?_
            refine jr_1 jm_240 (show jw_cd cd_240 86 = some (.getfield 145) by decide +kernel) (mg_i hl (e := q + 1) (su_eq _ _ _ _) (show jw_fld 34 145 16 = some 28 by decide +kernel) (by decide) (by decide)) ?_
            refine jr_c jm_240 (show jw_cd cd_240 89 = some (.invokevirtual 155) by decide +kernel) (mc_v hl (n := 1) (m2 := 216) (bs := [.int (Int32.ofInt (q + 1))]) (r := []) (show jw_find jw_cvT 34 155 = some (1, [(16, 216)]) by decide +kernel) (by decide) rfl rfl rfl) jm_216 ⟨Nat.le_of_ble_eq_true rfl, by decide⟩ (jn_wrg hl (rP_mv hP1)) ?_
            exact jr_v jm_240 (show jw_cd cd_240 92 = some (.return_) by decide +kernel) rfl
          · skip
            refine jr_1 jm_240 (show jw_cd cd_240 51 = some (.aload_n 0) by decide +kernel) rfl ?_
            refine jr_1 jm_240 (show jw_cd cd_240 52 = some (.dup) by decide +kernel) rfl ?_
            refine jr_1 jm_240 (show jw_cd cd_240 53 = some (.getfield 145) by decide +kernel) (mg_i hl (e := q) hP1.2.2.1 (show jw_fld 34 145 16 = some 28 by decide +kernel) (by decide) (by decide)) ?_
            refine jr_1 jm_240 (show jw_cd cd_240 56 = some (.iconst 1) by decide +kernel) rfl ?_
            refine jr_1 jm_240 (show jw_cd cd_240 57 = some (.iadd) by decide +kernel) (mt_add (c := q + 1) rfl) ?_
            refine jr_1 jm_240 (show jw_cd cd_240 58 = some (.putfield 145) by decide +kernel) (mp_i hl (x := q + 1) (show jw_fld 34 145 16 = some 28 by decide +kernel) (by decide) (by decide) (show jw_ft 16 28 = some .int by decide +kernel) (show jw_fm 34 16 28 = some false by decide +kernel)) ?_
            refine jr_1 jm_240 (show jw_cd cd_240 61 = some (.aload_n 0) by decide +kernel) rfl ?_
            refine jr_1 jm_240 (show jw_cd cd_240 62 = some (.bipush 61) by decide +kernel) (mt_bi (by decide)) ?_
            refine jr_c jm_240 (show jw_cd cd_240 64 = some (.invokevirtual 170) by decide +kernel) (mc_v hl (n := 1) (m2 := 226) (bs := [.int (Int32.ofInt (61))]) (r := []) (show jw_find jw_cvT 34 170 = some (1, [(16, 226)]) by decide +kernel) (by decide) rfl rfl rfl) jm_226 ⟨Nat.le_of_ble_eq_true rfl, by decide⟩ (jn_takF hl ht (rP_mv hP1) (by omega) (by omega) ⟨by decide, by decide⟩ h61) ?_
            refine jr_1 jm_240 (F2 := (68, [some (.ref 15), some (.int (Int32.ofInt (s))), some (.int (Int32.ofInt (tH T n q))), some (.int (Int32.ofInt (0)))], [], ml_mk h (su σ1 28 0 (q + 1)))) (show jw_cd cd_240 67 = some (.istore_n 3) by decide +kernel) rfl ?_
            refine jr_1 jm_240 (show jw_cd cd_240 68 = some (.iload_n 3) by decide +kernel) rfl ?_
            refine jr_1 jm_240 (show jw_cd cd_240 69 = some (.ifCond .ne 24) by decide +kernel) (mz_f (q := .ne) (a := 0) (by show ¬ (¬ (0 = 0)); omega) ⟨by omega, by omega⟩ (by decide)) ?_
            refine jr_1 jm_240 (show jw_cd cd_240 72 = some (.iload_n 2) by decide +kernel) rfl ?_
            refine jr_1 jm_240 (show jw_cd cd_240 73 = some (.bipush 61) by decide +kernel) (mt_bi (by decide)) ?_
            refine jr_1 jm_240 (show jw_cd cd_240 75 = some (.if_icmp .eq 9) by decide +kernel) (mb_f (q := .eq) (a := tH T n q) (b := 61) (by show ¬ (tH T n q = 61); omega) ⟨by omega, by omega⟩ ⟨by omega, by omega⟩ (by decide)) ?_
            refine jr_1 jm_240 (show jw_cd cd_240 78 = some (.iload_n 2) by decide +kernel) rfl ?_
            refine jr_1 jm_240 (show jw_cd cd_240 79 = some (.bipush 33) by decide +kernel) (mt_bi (by decide)) ?_
            refine jr_1 jm_240 (show jw_cd cd_240 81 = some (.if_icmp .ne 12) by decide +kernel) (mb_f (q := .ne) (a := tH T n q) (b := 33) (by show ¬ (¬ (tH T n q = 33)); omega) ⟨by omega, by omega⟩ ⟨by omega, by omega⟩ (by decide)) ?_
            refine jr_1 jm_240 (show jw_cd cd_240 84 = some (.aload_n 0) by decide +kernel) rfl ?_
            refine jr_1 jm_240 (show jw_cd cd_240 85 = some (.aload_n 0) by decide +kernel) rfl ?_
            refine jr_1 jm_240 (show jw_cd cd_240 86 = some (.getfield 145) by decide +kernel) (mg_i hl (e := q + 1) (su_eq _ _ _ _) (show jw_fld 34 145 16 = some 28 by decide +kernel) (by decide) (by decide)) ?_
            refine jr_c jm_240 (show jw_cd cd_240 89 = some (.invokevirtual 155) by decide +kernel) (mc_v hl (n := 1) (m2 := 216) (bs := [.int (Int32.ofInt (q + 1))]) (r := []) (show jw_find jw_cvT 34 155 = some (1, [(16, 216)]) by decide +kernel) (by decide) rfl rfl rfl) jm_216 ⟨Nat.le_of_ble_eq_true rfl, by decide⟩ (jn_wrg hl (rP_mv hP1)) ?_
            exact jr_v jm_240 (show jw_cd cd_240 92 = some (.return_) by decide +kernel) rfl
        · rw [if_neg h2]
          refine hmid 0 false (su σ1 28 0 (q + 1)) (q + 1) (Or.inr ⟨rfl, rfl⟩) (by omega) (by omega) (rP_mv hP1) (rdF_su hF1 (by omega)) (fun f hf => by rw [su_row hf]) (fun res kk => pre2 res ?_)
          refine jr_1 jm_240 (show jw_cd cd_240 51 = some (.aload_n 0) by decide +kernel) rfl ?_
          refine jr_1 jm_240 (show jw_cd cd_240 52 = some (.dup) by decide +kernel) rfl ?_
          refine jr_1 jm_240 (show jw_cd cd_240 53 = some (.getfield 145) by decide +kernel) (mg_i hl (e := q) hP1.2.2.1 (show jw_fld 34 145 16 = some 28 by decide +kernel) (by decide) (by decide)) ?_
          refine jr_1 jm_240 (show jw_cd cd_240 56 = some (.iconst 1) by decide +kernel) rfl ?_
          refine jr_1 jm_240 (show jw_cd cd_240 57 = some (.iadd) by decide +kernel) (mt_add (c := q + 1) rfl) ?_
          refine jr_1 jm_240 (show jw_cd cd_240 58 = some (.putfield 145) by decide +kernel) (mp_i hl (x := q + 1) (show jw_fld 34 145 16 = some 28 by decide +kernel) (by decide) (by decide) (show jw_ft 16 28 = some .int by decide +kernel) (show jw_fm 34 16 28 = some false by decide +kernel)) ?_
          refine jr_1 jm_240 (show jw_cd cd_240 61 = some (.aload_n 0) by decide +kernel) rfl ?_
          refine jr_1 jm_240 (show jw_cd cd_240 62 = some (.bipush 61) by decide +kernel) (mt_bi (by decide)) ?_
          refine jr_c jm_240 (show jw_cd cd_240 64 = some (.invokevirtual 170) by decide +kernel) (mc_v hl (n := 1) (m2 := 226) (bs := [.int (Int32.ofInt (61))]) (r := []) (show jw_find jw_cvT 34 170 = some (1, [(16, 226)]) by decide +kernel) (by decide) rfl rfl rfl) jm_226 ⟨Nat.le_of_ble_eq_true rfl, by decide⟩ (jn_takF hl ht (rP_mv hP1) (by omega) (by omega) ⟨by decide, by decide⟩ h61) ?_
          refine jr_1 jm_240 (F2 := (68, [some (.ref 15), some (.int (Int32.ofInt (s))), some (.int (Int32.ofInt (tH T n q))), some (.int (Int32.ofInt (0)))], [], ml_mk h (su σ1 28 0 (q + 1)))) (show jw_cd cd_240 67 = some (.istore_n 3) by decide +kernel) rfl ?_
          refine jr_1 jm_240 (show jw_cd cd_240 68 = some (.iload_n 3) by decide +kernel) rfl ?_
          refine jr_1 jm_240 (show jw_cd cd_240 69 = some (.ifCond .ne 24) by decide +kernel) (mz_f (q := .ne) (a := 0) (by show ¬ (¬ (0 = 0)); omega) ⟨by omega, by omega⟩ (by decide)) ?_
          refine jr_1 jm_240 (show jw_cd cd_240 72 = some (.iload_n 2) by decide +kernel) rfl ?_
          refine jr_1 jm_240 (show jw_cd cd_240 73 = some (.bipush 61) by decide +kernel) (mt_bi (by decide)) ?_
          refine jr_1 jm_240 (show jw_cd cd_240 75 = some (.if_icmp .eq 9) by decide +kernel) (mb_f (q := .eq) (a := tH T n q) (b := 61) (by show ¬ (tH T n q = 61); omega) ⟨by omega, by omega⟩ ⟨by omega, by omega⟩ (by decide)) ?_
          refine jr_1 jm_240 (show jw_cd cd_240 78 = some (.iload_n 2) by decide +kernel) rfl ?_
          refine jr_1 jm_240 (show jw_cd cd_240 79 = some (.bipush 33) by decide +kernel) (mt_bi (by decide)) ?_
          refine jr_1 jm_240 (show jw_cd cd_240 81 = some (.if_icmp .ne 12) by decide +kernel) (mb_t (q := .ne) (a := tH T n q) (b := 33) (t := 93) (by show ¬ (tH T n q = 33); omega) ⟨by omega, by omega⟩ ⟨by omega, by omega⟩ (by decide) (by decide)) ?_
          exact kk
    · rw [if_neg hc]
      obtain ⟨z1, z2⟩ := jn_cn_end (β := β) (d := d) (h := h) (τ := σ1) (s := s) (c := tH T n q) (c3 := none) hl ht hP1 (by omega) k2 f15 f16 hQ hI
      have pre3 : ∀ res, jx_r (jz β) jw_M (d + 5) 240 (156, [some (.ref 15), some (.int (Int32.ofInt (s))), some (.int (Int32.ofInt (tH T n q))), none], [], ml_mk h σ1) res → jx_r (jz β) jw_M (d + 5) 240 (0, [some (.ref 15), some (.int (Int32.ofInt (s))), none, none], [], ml_mk h σ) res := fun res kk => pre res (jn_cn_no hl ⟨hh.1, hh.2.1⟩ hc res kk)
      by_cases h93 : tH T n q = 93
      · rw [if_pos h93]
        refine ⟨fun e' he => (by cases he), fun a q' he => ?_⟩
        cases he
        obtain ⟨m1, m2, m3, m4, m5, m6⟩ := mAdd_F (σ := su σ1 28 0 (q + 1)) (Q := Q) (I := I) (w := 4) (t := 0) (s := s) (s0 := s)
        refine ⟨mAdd (su σ1 28 0 (q + 1)) Q I 4 0 s, pre3 _ (z1 h93), ?_, m5, ⟨⟨by omega, by omega⟩, m2, ⟨by show (0 : Int) ≤ 4; decide, by show (4 : Int) ≤ 6; decide⟩, fun z => absurd z (by show ¬ (4 : Int) ≤ 1; decide), fun _ _ => ?_⟩, fun _ => by rw [m4]; omega, rdF_trans (rdF_w hF1) (rdF_trans (rdF_su (rdF_refl _ _ _ _) (by omega)) m1 (Int.le_refl _) (Int.le_refl _)) (Int.le_refl _) (Int.le_refl _), ?_⟩
        · exact rP_q (rP_mv hP1) (fun f hf => m6 f (by simp; omega)) (by rw [m6 28 (by decide)]) (by rw [m6 29 (by decide)])
        · rw [m4]
          have hq : ∀ f, 20 ≤ f → f ≤ 27 → mAdd (su σ1 28 0 (q + 1)) Q I 4 0 s f = σ1 f := fun f f1 f2 => by rw [m6 f (by simp; omega), su_row (by omega)]
          exact prR_fr hq ⟨⟨by show (2 : Int) ≤ 4; decide, by show (4 : Int) ≤ 5; decide⟩, fun _ => ⟨hs, fl, Or.inl ⟨rfl, f23⟩⟩, fun z => absurd z (by show ¬ (4 : Int) = 5; decide)⟩
        · rw [m6 30 (by decide), su_nf (by decide), f30]
      · rw [if_neg h93]
        refine ⟨fun e' he => ?_, fun a q' he => (by cases he)⟩
        cases he
        exact ⟨su σ1 29 0 (-1 - q), pre3 _ (z2 h93), su_eq _ _ _ _, rdF_su hF1 (by omega)⟩
