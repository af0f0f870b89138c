/-! ===== numbered, as a whole (printed by program: gen66.py) ===== -/
theorem jn_nx_0 {β : Bool} {d : Nat} {h : jx_H} {τ : mS} (hl : 49 ≤ h.length) {s p x b : Int} {c5 : Option Value} (hs : 0 ≤ s ∧ s < 144) (e29 : τ 29 0 = x) (hx : mr x) (hx0 : ¬ x = 0) (e20 : τ 20 s = b) (hb : 1 ≤ b ∧ b ≤ 7) : jx_r (jz β) jw_M (d) 243 (87, [some (.ref 15), some (.int (Int32.ofInt (s))), some (.int (Int32.ofInt (0))), some (.int (Int32.ofInt (1))), some (.int (Int32.ofInt (p))), c5], [], ml_mk h τ) (ml_mk h (τ), .inl none) := by
  obtain ⟨s0, s1⟩ := hs
  obtain ⟨x1, x2⟩ := hx
  refine jr_1 jm_243 (show jw_cd cd_243 87 = some (.aload_n 0) by decide +kernel) rfl ?_
  refine jr_1 jm_243 (show jw_cd cd_243 88 = some (.getfield 148) by decide +kernel) (mg_i hl (e := x) e29 (show jw_fld 34 148 16 = some 29 by decide +kernel) (by decide) (by decide)) ?_
  refine jr_1 jm_243 (show jw_cd cd_243 91 = some (.ifCond .ne 21) by decide +kernel) (mz_t (q := .ne) (a := x) (t := 112) (by show ¬ (x = 0); omega) ⟨by omega, by omega⟩ (by decide) (by decide)) ?_
  refine jr_1 jm_243 (show jw_cd cd_243 112 = some (.iconst 0) by decide +kernel) rfl ?_
  refine jr_1 jm_243 (F2 := (114, [some (.ref 15), some (.int (Int32.ofInt (s))), some (.int (Int32.ofInt (0))), some (.int (Int32.ofInt (0))), some (.int (Int32.ofInt (p))), c5], [], ml_mk h τ)) (show jw_cd cd_243 113 = some (.istore_n 3) by decide +kernel) rfl ?_
  refine jr_1 jm_243 (show jw_cd cd_243 114 = some (.iload_n 2) by decide +kernel) rfl ?_
  refine jr_1 jm_243 (show jw_cd cd_243 115 = some (.iload_n 3) by decide +kernel) rfl ?_
  refine jr_1 jm_243 (show jw_cd cd_243 116 = some (.ifCond .eq 7) by decide +kernel) (mz_t (q := .eq) (a := 0) (t := 123) (by show 0 = 0; omega) ⟨by omega, by omega⟩ (by decide) (by decide)) ?_
  refine jr_1 jm_243 (show jw_cd cd_243 123 = some (.iconst 0) by decide +kernel) rfl ?_
  refine jr_1 jm_243 (show jw_cd cd_243 124 = some (.iadd) by decide +kernel) (mt_add (c := 0) (by decide)) ?_
  refine jr_1 jm_243 (F2 := (126, [some (.ref 15), some (.int (Int32.ofInt (s))), some (.int (Int32.ofInt (0))), some (.int (Int32.ofInt (0))), some (.int (Int32.ofInt (p))), c5], [], ml_mk h τ)) (show jw_cd cd_243 125 = some (.istore_n 2) by decide +kernel) rfl ?_
  refine jr_1 jm_243 (show jw_cd cd_243 126 = some (.goto (-122)) by decide +kernel) (ju_go (t := 4) (by decide)) ?_
  refine jr_1 jm_243 (show jw_cd cd_243 4 = some (.iload_n 3) by decide +kernel) rfl ?_
  refine jr_1 jm_243 (show jw_cd cd_243 5 = some (.ifCond .eq 124) by decide +kernel) (mz_t (q := .eq) (a := 0) (t := 129) (by show 0 = 0; omega) ⟨by omega, by omega⟩ (by decide) (by decide)) ?_
  refine jr_1 jm_243 (show jw_cd cd_243 129 = some (.iload_n 2) by decide +kernel) rfl ?_
  refine jr_1 jm_243 (show jw_cd cd_243 130 = some (.ifCond .ne 20) by decide +kernel) (mz_f (q := .ne) (a := 0) (by show ¬ (¬ (0 = 0)); omega) ⟨by omega, by omega⟩ (by decide)) ?_
  refine jr_1 jm_243 (show jw_cd cd_243 133 = some (.aload_n 0) by decide +kernel) rfl ?_
  refine jr_1 jm_243 (show jw_cd cd_243 134 = some (.getfield 56) by decide +kernel) (mg_a hl (a := 31) (show jw_fld 34 56 16 = some 20 by decide +kernel) (by decide) (by decide)) ?_
  refine jr_1 jm_243 (show jw_cd cd_243 137 = some (.iload_n 1) by decide +kernel) rfl ?_
  refine jr_1 jm_243 (show jw_cd cd_243 138 = some (.iaload) by decide +kernel) (ma_i hl (i := s) (e := b) 20 (by omega) (by show _ < ((144 : Nat) : Int); omega) e20 (by decide) (by decide) (by decide)) ?_
  refine jr_1 jm_243 (show jw_cd cd_243 139 = some (.ifCond .ne 11) by decide +kernel) (mz_t (q := .ne) (a := b) (t := 150) (by show ¬ (b = 0); omega) ⟨by omega, by omega⟩ (by decide) (by decide)) ?_
  refine jr_1 jm_243 (show jw_cd cd_243 150 = some (.aload_n 0) by decide +kernel) rfl ?_
  refine jr_1 jm_243 (show jw_cd cd_243 151 = some (.getfield 148) by decide +kernel) (mg_i hl (e := x) e29 (show jw_fld 34 148 16 = some 29 by decide +kernel) (by decide) (by decide)) ?_
  refine jr_1 jm_243 (show jw_cd cd_243 154 = some (.ifCond .ne 27) by decide +kernel) (mz_t (q := .ne) (a := x) (t := 181) (by show ¬ (x = 0); omega) ⟨by omega, by omega⟩ (by decide) (by decide)) ?_
  exact jr_v jm_243 (show jw_cd cd_243 181 = some (.return_) by decide +kernel) rfl
theorem jn_ng_0 {β : Bool} {d : Nat} {h : jx_H} {τ : mS} (hl : 49 ≤ h.length) {T : Int → Int} {n q : Int} (ht : tOK T n) (hP : rP τ T n q) (h0 : 0 ≤ q) (hp : q ≤ n) {s p : Int} {c5 : Option Value} (h58 : tH T n q = 58) : ∀ res, jx_r (jz β) jw_M (d + 2) 243 (15, [some (.ref 15), some (.int (Int32.ofInt (s))), some (.int (Int32.ofInt (1))), some (.int (Int32.ofInt (1))), some (.int (Int32.ofInt (p))), c5], [], ml_mk h (su τ 28 0 (q + 1))) res → jx_r (jz β) jw_M (d + 2) 243 (87, [some (.ref 15), some (.int (Int32.ofInt (s))), some (.int (Int32.ofInt (0))), some (.int (Int32.ofInt (1))), some (.int (Int32.ofInt (p))), c5], [], ml_mk h τ) res := fun res kk => by
  refine jr_1 jm_243 (show jw_cd cd_243 87 = some (.aload_n 0) by decide +kernel) rfl ?_
  refine jr_1 jm_243 (show jw_cd cd_243 88 = some (.getfield 148) by decide +kernel) (mg_i hl (e := 0) hP.2.2.2 (show jw_fld 34 148 16 = some 29 by decide +kernel) (by decide) (by decide)) ?_
  refine jr_1 jm_243 (show jw_cd cd_243 91 = some (.ifCond .ne 21) by decide +kernel) (mz_f (q := .ne) (a := 0) (by show ¬ (¬ (0 = 0)); omega) ⟨by omega, by omega⟩ (by decide)) ?_
  refine jr_1 jm_243 (show jw_cd cd_243 94 = some (.iload_n 2) by decide +kernel) rfl ?_
  refine jr_1 jm_243 (show jw_cd cd_243 95 = some (.iconst 2) by decide +kernel) rfl ?_
  refine jr_1 jm_243 (show jw_cd cd_243 96 = some (.if_icmp .ge 16) by decide +kernel) (mb_f (q := .ge) (a := 0) (b := 2) (by show ¬ (2 ≤ 0); omega) ⟨by omega, by omega⟩ ⟨by omega, by omega⟩ (by decide)) ?_
  refine jr_1 jm_243 (show jw_cd cd_243 99 = some (.aload_n 0) by decide +kernel) rfl ?_
  refine jr_1 jm_243 (show jw_cd cd_243 100 = some (.bipush 58) by decide +kernel) (mt_bi (by decide)) ?_
  refine jr_c jm_243 (show jw_cd cd_243 102 = some (.invokevirtual 170) by decide +kernel) (mc_v hl (n := 1) (m2 := 226) (bs := [.int (Int32.ofInt (58))]) (r := []) (show jw_find jw_cvT 34 170 = some (1, [(16, 226)]) by decide +kernel) (by decide) rfl rfl rfl) jm_226 ⟨Nat.le_of_ble_eq_true rfl, by decide⟩ (jn_takT hl ht hP h0 hp ⟨by decide, by decide⟩ h58) ?_
  refine jr_1 jm_243 (show jw_cd cd_243 105 = some (.ifCond .eq 7) by decide +kernel) (mz_f (q := .eq) (a := 1) (by show ¬ (1 = 0); omega) ⟨by omega, by omega⟩ (by decide)) ?_
  refine jr_1 jm_243 (show jw_cd cd_243 108 = some (.iconst 1) by decide +kernel) rfl ?_
  refine jr_1 jm_243 (show jw_cd cd_243 109 = some (.goto 4) by decide +kernel) (ju_go (t := 113) (by decide)) ?_
  refine jr_1 jm_243 (F2 := (114, [some (.ref 15), some (.int (Int32.ofInt (s))), some (.int (Int32.ofInt (0))), some (.int (Int32.ofInt (1))), some (.int (Int32.ofInt (p))), c5], [], ml_mk h (su τ 28 0 (q + 1)))) (show jw_cd cd_243 113 = some (.istore_n 3) by decide +kernel) rfl ?_
  refine jr_1 jm_243 (show jw_cd cd_243 114 = some (.iload_n 2) by decide +kernel) rfl ?_
  refine jr_1 jm_243 (show jw_cd cd_243 115 = some (.iload_n 3) by decide +kernel) rfl ?_
  refine jr_1 jm_243 (show jw_cd cd_243 116 = some (.ifCond .eq 7) by decide +kernel) (mz_f (q := .eq) (a := 1) (by show ¬ (1 = 0); omega) ⟨by omega, by omega⟩ (by decide)) ?_
  refine jr_1 jm_243 (show jw_cd cd_243 119 = some (.iconst 1) by decide +kernel) rfl ?_
  refine jr_1 jm_243 (show jw_cd cd_243 120 = some (.goto 4) by decide +kernel) (ju_go (t := 124) (by decide)) ?_
  refine jr_1 jm_243 (show jw_cd cd_243 124 = some (.iadd) by decide +kernel) (mt_add (c := 1) (by decide)) ?_
  refine jr_1 jm_243 (F2 := (126, [some (.ref 15), some (.int (Int32.ofInt (s))), some (.int (Int32.ofInt (1))), some (.int (Int32.ofInt (1))), some (.int (Int32.ofInt (p))), c5], [], ml_mk h (su τ 28 0 (q + 1)))) (show jw_cd cd_243 125 = some (.istore_n 2) by decide +kernel) rfl ?_
  refine jr_1 jm_243 (show jw_cd cd_243 126 = some (.goto (-122)) by decide +kernel) (ju_go (t := 4) (by decide)) ?_
  refine jr_1 jm_243 (show jw_cd cd_243 4 = some (.iload_n 3) by decide +kernel) rfl ?_
  refine jr_1 jm_243 (show jw_cd cd_243 5 = some (.ifCond .eq 124) by decide +kernel) (mz_f (q := .eq) (a := 1) (by show ¬ (1 = 0); omega) ⟨by omega, by omega⟩ (by decide)) ?_
  refine jr_1 jm_243 (show jw_cd cd_243 8 = some (.aload_n 0) by decide +kernel) rfl ?_
  refine jr_1 jm_243 (show jw_cd cd_243 9 = some (.getfield 148) by decide +kernel) (mg_i hl (e := 0) ((su_nf (by decide)).trans hP.2.2.2) (show jw_fld 34 148 16 = some 29 by decide +kernel) (by decide) (by decide)) ?_
  refine jr_1 jm_243 (show jw_cd cd_243 12 = some (.ifCond .ne 117) by decide +kernel) (mz_f (q := .ne) (a := 0) (by show ¬ (¬ (0 = 0)); omega) ⟨by omega, by omega⟩ (by decide)) ?_
  exact kk
theorem jn_ns_0 {β : Bool} {d : Nat} {h : jx_H} {τ : mS} (hl : 49 ≤ h.length) {T : Int → Int} {n q : Int} (ht : tOK T n) (hP : rP τ T n q) (h0 : 0 ≤ q) (hp : q ≤ n) {s p : Int} {c5 : Option Value} (h58 : ¬ tH T n q = 58) : ∀ res, jx_r (jz β) jw_M (d + 2) 243 (129, [some (.ref 15), some (.int (Int32.ofInt (s))), some (.int (Int32.ofInt (0))), some (.int (Int32.ofInt (0))), some (.int (Int32.ofInt (p))), c5], [], ml_mk h τ) res → jx_r (jz β) jw_M (d + 2) 243 (87, [some (.ref 15), some (.int (Int32.ofInt (s))), some (.int (Int32.ofInt (0))), some (.int (Int32.ofInt (1))), some (.int (Int32.ofInt (p))), c5], [], ml_mk h τ) res := fun res kk => by
  refine jr_1 jm_243 (show jw_cd cd_243 87 = some (.aload_n 0) by decide +kernel) rfl ?_
  refine jr_1 jm_243 (show jw_cd cd_243 88 = some (.getfield 148) by decide +kernel) (mg_i hl (e := 0) hP.2.2.2 (show jw_fld 34 148 16 = some 29 by decide +kernel) (by decide) (by decide)) ?_
  refine jr_1 jm_243 (show jw_cd cd_243 91 = some (.ifCond .ne 21) by decide +kernel) (mz_f (q := .ne) (a := 0) (by show ¬ (¬ (0 = 0)); omega) ⟨by omega, by omega⟩ (by decide)) ?_
  refine jr_1 jm_243 (show jw_cd cd_243 94 = some (.iload_n 2) by decide +kernel) rfl ?_
  refine jr_1 jm_243 (show jw_cd cd_243 95 = some (.iconst 2) by decide +kernel) rfl ?_
  refine jr_1 jm_243 (show jw_cd cd_243 96 = some (.if_icmp .ge 16) by decide +kernel) (mb_f (q := .ge) (a := 0) (b := 2) (by show ¬ (2 ≤ 0); omega) ⟨by omega, by omega⟩ ⟨by omega, by omega⟩ (by decide)) ?_
  refine jr_1 jm_243 (show jw_cd cd_243 99 = some (.aload_n 0) by decide +kernel) rfl ?_
  refine jr_1 jm_243 (show jw_cd cd_243 100 = some (.bipush 58) by decide +kernel) (mt_bi (by decide)) ?_
  refine jr_c jm_243 (show jw_cd cd_243 102 = some (.invokevirtual 170) by decide +kernel) (mc_v hl (n := 1) (m2 := 226) (bs := [.int (Int32.ofInt (58))]) (r := []) (show jw_find jw_cvT 34 170 = some (1, [(16, 226)]) by decide +kernel) (by decide) rfl rfl rfl) jm_226 ⟨Nat.le_of_ble_eq_true rfl, by decide⟩ (jn_takF hl ht hP h0 hp ⟨by decide, by decide⟩ h58) ?_
  refine jr_1 jm_243 (show jw_cd cd_243 105 = some (.ifCond .eq 7) by decide +kernel) (mz_t (q := .eq) (a := 0) (t := 112) (by show 0 = 0; omega) ⟨by omega, by omega⟩ (by decide) (by decide)) ?_
  refine jr_1 jm_243 (show jw_cd cd_243 112 = some (.iconst 0) by decide +kernel) rfl ?_
  refine jr_1 jm_243 (F2 := (114, [some (.ref 15), some (.int (Int32.ofInt (s))), some (.int (Int32.ofInt (0))), some (.int (Int32.ofInt (0))), some (.int (Int32.ofInt (p))), c5], [], ml_mk h τ)) (show jw_cd cd_243 113 = some (.istore_n 3) by decide +kernel) rfl ?_
  refine jr_1 jm_243 (show jw_cd cd_243 114 = some (.iload_n 2) by decide +kernel) rfl ?_
  refine jr_1 jm_243 (show jw_cd cd_243 115 = some (.iload_n 3) by decide +kernel) rfl ?_
  refine jr_1 jm_243 (show jw_cd cd_243 116 = some (.ifCond .eq 7) by decide +kernel) (mz_t (q := .eq) (a := 0) (t := 123) (by show 0 = 0; omega) ⟨by omega, by omega⟩ (by decide) (by decide)) ?_
  refine jr_1 jm_243 (show jw_cd cd_243 123 = some (.iconst 0) by decide +kernel) rfl ?_
  refine jr_1 jm_243 (show jw_cd cd_243 124 = some (.iadd) by decide +kernel) (mt_add (c := 0) (by decide)) ?_
  refine jr_1 jm_243 (F2 := (126, [some (.ref 15), some (.int (Int32.ofInt (s))), some (.int (Int32.ofInt (0))), some (.int (Int32.ofInt (0))), some (.int (Int32.ofInt (p))), c5], [], ml_mk h τ)) (show jw_cd cd_243 125 = some (.istore_n 2) by decide +kernel) rfl ?_
  refine jr_1 jm_243 (show jw_cd cd_243 126 = some (.goto (-122)) by decide +kernel) (ju_go (t := 4) (by decide)) ?_
  refine jr_1 jm_243 (show jw_cd cd_243 4 = some (.iload_n 3) by decide +kernel) rfl ?_
  refine jr_1 jm_243 (show jw_cd cd_243 5 = some (.ifCond .eq 124) by decide +kernel) (mz_t (q := .eq) (a := 0) (t := 129) (by show 0 = 0; omega) ⟨by omega, by omega⟩ (by decide) (by decide)) ?_
  exact kk
theorem jn_ne_0 {β : Bool} {d : Nat} {h : jx_H} {τ : mS} (hl : 49 ≤ h.length) {T : Int → Int} {n q : Int} (ht : tOK T n) (hP : rP τ T n q) (h0 : 0 ≤ q) (hp : q ≤ n) {s p b Q I : Int} {c5 : Option Value} (hs : 0 ≤ s ∧ s < 144) (e15 : τ 15 0 = Q) (e16 : τ 16 Q = I) (hQ : 0 ≤ Q ∧ Q < 12) (hI : 0 ≤ I ∧ I < 100) (e20 : τ 20 s = b) (hb : 1 ≤ b ∧ b ≤ 7) : (tH T n q = 93 → jx_r (jz β) jw_M (d + 2) 243 (129, [some (.ref 15), some (.int (Int32.ofInt (s))), some (.int (Int32.ofInt (0))), some (.int (Int32.ofInt (0))), some (.int (Int32.ofInt (p))), c5], [], ml_mk h τ) (ml_mk h (mAdd (su τ 28 0 (q + 1)) Q I 1 0 s), .inl none)) ∧ (¬ tH T n q = 93 → jx_r (jz β) jw_M (d + 2) 243 (129, [some (.ref 15), some (.int (Int32.ofInt (s))), some (.int (Int32.ofInt (0))), some (.int (Int32.ofInt (0))), some (.int (Int32.ofInt (p))), c5], [], ml_mk h τ) (ml_mk h (su τ 29 0 (-1 - q)), .inl none)) := by
  obtain ⟨s0, s1⟩ := hs
  refine ⟨fun h93 => ?_, fun h93 => ?_⟩
  · have e15b : su τ 28 0 (q + 1) 15 0 = Q := by rw [su_nf (by decide)]; exact e15
    have e16b : su τ 28 0 (q + 1) 16 Q = I := by rw [su_nf (by decide)]; exact e16
    refine jr_1 jm_243 (show jw_cd cd_243 129 = some (.iload_n 2) by decide +kernel) rfl ?_
    refine jr_1 jm_243 (show jw_cd cd_243 130 = some (.ifCond .ne 20) by decide +kernel) (mz_f (q := .ne) (a := 0) (by show ¬ (¬ (0 = 0)); omega) ⟨by omega, by omega⟩ (by decide)) ?_
    refine jr_1 jm_243 (show jw_cd cd_243 133 = some (.aload_n 0) by decide +kernel) rfl ?_
    refine jr_1 jm_243 (show jw_cd cd_243 134 = some (.getfield 56) by decide +kernel) (mg_a hl (a := 31) (show jw_fld 34 56 16 = some 20 by decide +kernel) (by decide) (by decide)) ?_
    refine jr_1 jm_243 (show jw_cd cd_243 137 = some (.iload_n 1) by decide +kernel) rfl ?_
    refine jr_1 jm_243 (show jw_cd cd_243 138 = some (.iaload) by decide +kernel) (ma_i hl (i := s) (e := b) 20 (by omega) (by show _ < ((144 : Nat) : Int); omega) e20 (by decide) (by decide) (by decide)) ?_
    refine jr_1 jm_243 (show jw_cd cd_243 139 = some (.ifCond .ne 11) by decide +kernel) (mz_t (q := .ne) (a := b) (t := 150) (by show ¬ (b = 0); omega) ⟨by omega, by omega⟩ (by decide) (by decide)) ?_
    refine jr_1 jm_243 (show jw_cd cd_243 150 = some (.aload_n 0) by decide +kernel) rfl ?_
    refine jr_1 jm_243 (show jw_cd cd_243 151 = some (.getfield 148) by decide +kernel) (mg_i hl (e := 0) hP.2.2.2 (show jw_fld 34 148 16 = some 29 by decide +kernel) (by decide) (by decide)) ?_
    refine jr_1 jm_243 (show jw_cd cd_243 154 = some (.ifCond .ne 27) by decide +kernel) (mz_f (q := .ne) (a := 0) (by show ¬ (¬ (0 = 0)); omega) ⟨by omega, by omega⟩ (by decide)) ?_
    refine jr_1 jm_243 (show jw_cd cd_243 157 = some (.aload_n 0) by decide +kernel) rfl ?_
    refine jr_1 jm_243 (show jw_cd cd_243 158 = some (.bipush 93) by decide +kernel) (mt_bi (by decide)) ?_
    refine jr_c jm_243 (show jw_cd cd_243 160 = some (.invokevirtual 179) by decide +kernel) (mc_v hl (n := 1) (m2 := 221) (bs := [.int (Int32.ofInt (93))]) (r := []) (show jw_find jw_cvT 34 179 = some (1, [(16, 221)]) by decide +kernel) (by decide) rfl rfl rfl) jm_221 ⟨Nat.le_of_ble_eq_true rfl, by decide⟩ (jn_mustT hl ht hP h0 hp ⟨by decide, by decide⟩ h93) ?_
    refine jr_1 jm_243 (show jw_cd cd_243 163 = some (.ifCond .eq 18) by decide +kernel) (mz_f (q := .eq) (a := 1) (by show ¬ (1 = 0); omega) ⟨by omega, by omega⟩ (by decide)) ?_
    refine jr_1 jm_243 (show jw_cd cd_243 166 = some (.aload_n 0) by decide +kernel) rfl ?_
    refine jr_1 jm_243 (show jw_cd cd_243 167 = some (.iload_n 2) by decide +kernel) rfl ?_
    refine jr_1 jm_243 (show jw_cd cd_243 168 = some (.ifCond .ne 7) by decide +kernel) (mz_f (q := .ne) (a := 0) (by show ¬ (¬ (0 = 0)); omega) ⟨by omega, by omega⟩ (by decide)) ?_
    refine jr_1 jm_243 (show jw_cd cd_243 171 = some (.iconst 1) by decide +kernel) rfl ?_
    refine jr_1 jm_243 (show jw_cd cd_243 172 = some (.goto 4) by decide +kernel) (ju_go (t := 176) (by decide)) ?_
    refine jr_1 jm_243 (F2 := (177, [some (.ref 15), some (.int (Int32.ofInt (s))), some (.int (Int32.ofInt (0))), some (.int (Int32.ofInt (0))), some (.int (Int32.ofInt (p))), c5], [.long (Int64.ofInt (0)), .int (Int32.ofInt (1)), .ref 15], ml_mk h (su τ 28 0 (q + 1)))) (show jw_cd cd_243 176 = some (.lconst 0) by decide +kernel) rfl ?_
    refine jr_1 jm_243 (show jw_cd cd_243 177 = some (.iload_n 1) by decide +kernel) rfl ?_
    refine jr_c jm_243 (show jw_cd cd_243 178 = some (.invokevirtual 233) by decide +kernel) (mc_v hl (n := 3) (m2 := 237) (bs := [.int (Int32.ofInt (1)), .long (Int64.ofInt (0)), .int (Int32.ofInt (s))]) (r := []) (show jw_find jw_cvT 34 233 = some (3, [(16, 237)]) by decide +kernel) (by decide) rfl rfl rfl) jm_237 ⟨Nat.le_of_ble_eq_true rfl, by decide⟩ (jn_add hl e15b e16b hQ hI) ?_
    exact jr_v jm_243 (show jw_cd cd_243 181 = some (.return_) by decide +kernel) rfl
  · skip
    refine jr_1 jm_243 (show jw_cd cd_243 129 = some (.iload_n 2) by decide +kernel) rfl ?_
    refine jr_1 jm_243 (show jw_cd cd_243 130 = some (.ifCond .ne 20) by decide +kernel) (mz_f (q := .ne) (a := 0) (by show ¬ (¬ (0 = 0)); omega) ⟨by omega, by omega⟩ (by decide)) ?_
    refine jr_1 jm_243 (show jw_cd cd_243 133 = some (.aload_n 0) by decide +kernel) rfl ?_
    refine jr_1 jm_243 (show jw_cd cd_243 134 = some (.getfield 56) by decide +kernel) (mg_a hl (a := 31) (show jw_fld 34 56 16 = some 20 by decide +kernel) (by decide) (by decide)) ?_
    refine jr_1 jm_243 (show jw_cd cd_243 137 = some (.iload_n 1) by decide +kernel) rfl ?_
    refine jr_1 jm_243 (show jw_cd cd_243 138 = some (.iaload) by decide +kernel) (ma_i hl (i := s) (e := b) 20 (by omega) (by show _ < ((144 : Nat) : Int); omega) e20 (by decide) (by decide) (by decide)) ?_
    refine jr_1 jm_243 (show jw_cd cd_243 139 = some (.ifCond .ne 11) by decide +kernel) (mz_t (q := .ne) (a := b) (t := 150) (by show ¬ (b = 0); omega) ⟨by omega, by omega⟩ (by decide) (by decide)) ?_
    refine jr_1 jm_243 (show jw_cd cd_243 150 = some (.aload_n 0) by decide +kernel) rfl ?_
    refine jr_1 jm_243 (show jw_cd cd_243 151 = some (.getfield 148) by decide +kernel) (mg_i hl (e := 0) hP.2.2.2 (show jw_fld 34 148 16 = some 29 by decide +kernel) (by decide) (by decide)) ?_
    refine jr_1 jm_243 (show jw_cd cd_243 154 = some (.ifCond .ne 27) by decide +kernel) (mz_f (q := .ne) (a := 0) (by show ¬ (¬ (0 = 0)); omega) ⟨by omega, by omega⟩ (by decide)) ?_
    refine jr_1 jm_243 (show jw_cd cd_243 157 = some (.aload_n 0) by decide +kernel) rfl ?_
    refine jr_1 jm_243 (show jw_cd cd_243 158 = some (.bipush 93) by decide +kernel) (mt_bi (by decide)) ?_
    refine jr_c jm_243 (show jw_cd cd_243 160 = some (.invokevirtual 179) by decide +kernel) (mc_v hl (n := 1) (m2 := 221) (bs := [.int (Int32.ofInt (93))]) (r := []) (show jw_find jw_cvT 34 179 = some (1, [(16, 221)]) by decide +kernel) (by decide) rfl rfl rfl) jm_221 ⟨Nat.le_of_ble_eq_true rfl, by decide⟩ (jn_mustF hl ht hP h0 hp ⟨by decide, by decide⟩ h93) ?_
    refine jr_1 jm_243 (show jw_cd cd_243 163 = some (.ifCond .eq 18) by decide +kernel) (mz_t (q := .eq) (a := 0) (t := 181) (by show 0 = 0; omega) ⟨by omega, by omega⟩ (by decide) (by decide)) ?_
    exact jr_v jm_243 (show jw_cd cd_243 181 = some (.return_) by decide +kernel) rfl
theorem jn_nx_1 {β : Bool} {d : Nat} {h : jx_H} {τ : mS} (hl : 49 ≤ h.length) {s p x b : Int} {c5 : Option Value} (hs : 0 ≤ s ∧ s < 144) (e29 : τ 29 0 = x) (hx : mr x) (hx0 : ¬ x = 0) (e20 : τ 20 s = b) (hb : 1 ≤ b ∧ b ≤ 7) : jx_r (jz β) jw_M (d) 243 (87, [some (.ref 15), some (.int (Int32.ofInt (s))), some (.int (Int32.ofInt (1))), some (.int (Int32.ofInt (1))), some (.int (Int32.ofInt (p))), c5], [], ml_mk h τ) (ml_mk h (τ), .inl none) := by
  obtain ⟨s0, s1⟩ := hs
  obtain ⟨x1, x2⟩ := hx
  refine jr_1 jm_243 (show jw_cd cd_243 87 = some (.aload_n 0) by decide +kernel) rfl ?_
  refine jr_1 jm_243 (show jw_cd cd_243 88 = some (.getfield 148) by decide +kernel) (mg_i hl (e := x) e29 (show jw_fld 34 148 16 = some 29 by decide +kernel) (by decide) (by decide)) ?_
  refine jr_1 jm_243 (show jw_cd cd_243 91 = some (.ifCond .ne 21) by decide +kernel) (mz_t (q := .ne) (a := x) (t := 112) (by show ¬ (x = 0); omega) ⟨by omega, by omega⟩ (by decide) (by decide)) ?_
  refine jr_1 jm_243 (show jw_cd cd_243 112 = some (.iconst 0) by decide +kernel) rfl ?_
  refine jr_1 jm_243 (F2 := (114, [some (.ref 15), some (.int (Int32.ofInt (s))), some (.int (Int32.ofInt (1))), some (.int (Int32.ofInt (0))), some (.int (Int32.ofInt (p))), c5], [], ml_mk h τ)) (show jw_cd cd_243 113 = some (.istore_n 3) by decide +kernel) rfl ?_
  refine jr_1 jm_243 (show jw_cd cd_243 114 = some (.iload_n 2) by decide +kernel) rfl ?_
  refine jr_1 jm_243 (show jw_cd cd_243 115 = some (.iload_n 3) by decide +kernel) rfl ?_
  refine jr_1 jm_243 (show jw_cd cd_243 116 = some (.ifCond .eq 7) by decide +kernel) (mz_t (q := .eq) (a := 0) (t := 123) (by show 0 = 0; omega) ⟨by omega, by omega⟩ (by decide) (by decide)) ?_
  refine jr_1 jm_243 (show jw_cd cd_243 123 = some (.iconst 0) by decide +kernel) rfl ?_
  refine jr_1 jm_243 (show jw_cd cd_243 124 = some (.iadd) by decide +kernel) (mt_add (c := 1) (by decide)) ?_
  refine jr_1 jm_243 (F2 := (126, [some (.ref 15), some (.int (Int32.ofInt (s))), some (.int (Int32.ofInt (1))), some (.int (Int32.ofInt (0))), some (.int (Int32.ofInt (p))), c5], [], ml_mk h τ)) (show jw_cd cd_243 125 = some (.istore_n 2) by decide +kernel) rfl ?_
  refine jr_1 jm_243 (show jw_cd cd_243 126 = some (.goto (-122)) by decide +kernel) (ju_go (t := 4) (by decide)) ?_
  refine jr_1 jm_243 (show jw_cd cd_243 4 = some (.iload_n 3) by decide +kernel) rfl ?_
  refine jr_1 jm_243 (show jw_cd cd_243 5 = some (.ifCond .eq 124) by decide +kernel) (mz_t (q := .eq) (a := 0) (t := 129) (by show 0 = 0; omega) ⟨by omega, by omega⟩ (by decide) (by decide)) ?_
  refine jr_1 jm_243 (show jw_cd cd_243 129 = some (.iload_n 2) by decide +kernel) rfl ?_
  refine jr_1 jm_243 (show jw_cd cd_243 130 = some (.ifCond .ne 20) by decide +kernel) (mz_t (q := .ne) (a := 1) (t := 150) (by show ¬ (1 = 0); omega) ⟨by omega, by omega⟩ (by decide) (by decide)) ?_
  refine jr_1 jm_243 (show jw_cd cd_243 150 = some (.aload_n 0) by decide +kernel) rfl ?_
  refine jr_1 jm_243 (show jw_cd cd_243 151 = some (.getfield 148) by decide +kernel) (mg_i hl (e := x) e29 (show jw_fld 34 148 16 = some 29 by decide +kernel) (by decide) (by decide)) ?_
  refine jr_1 jm_243 (show jw_cd cd_243 154 = some (.ifCond .ne 27) by decide +kernel) (mz_t (q := .ne) (a := x) (t := 181) (by show ¬ (x = 0); omega) ⟨by omega, by omega⟩ (by decide) (by decide)) ?_
  exact jr_v jm_243 (show jw_cd cd_243 181 = some (.return_) by decide +kernel) rfl
theorem jn_ng_1 {β : Bool} {d : Nat} {h : jx_H} {τ : mS} (hl : 49 ≤ h.length) {T : Int → Int} {n q : Int} (ht : tOK T n) (hP : rP τ T n q) (h0 : 0 ≤ q) (hp : q ≤ n) {s p : Int} {c5 : Option Value} (h58 : tH T n q = 58) : ∀ res, jx_r (jz β) jw_M (d + 2) 243 (15, [some (.ref 15), some (.int (Int32.ofInt (s))), some (.int (Int32.ofInt (2))), some (.int (Int32.ofInt (1))), some (.int (Int32.ofInt (p))), c5], [], ml_mk h (su τ 28 0 (q + 1))) res → jx_r (jz β) jw_M (d + 2) 243 (87, [some (.ref 15), some (.int (Int32.ofInt (s))), some (.int (Int32.ofInt (1))), some (.int (Int32.ofInt (1))), some (.int (Int32.ofInt (p))), c5], [], ml_mk h τ) res := fun res kk => by
  refine jr_1 jm_243 (show jw_cd cd_243 87 = some (.aload_n 0) by decide +kernel) rfl ?_
  refine jr_1 jm_243 (show jw_cd cd_243 88 = some (.getfield 148) by decide +kernel) (mg_i hl (e := 0) hP.2.2.2 (show jw_fld 34 148 16 = some 29 by decide +kernel) (by decide) (by decide)) ?_
  refine jr_1 jm_243 (show jw_cd cd_243 91 = some (.ifCond .ne 21) by decide +kernel) (mz_f (q := .ne) (a := 0) (by show ¬ (¬ (0 = 0)); omega) ⟨by omega, by omega⟩ (by decide)) ?_
  refine jr_1 jm_243 (show jw_cd cd_243 94 = some (.iload_n 2) by decide +kernel) rfl ?_
  refine jr_1 jm_243 (show jw_cd cd_243 95 = some (.iconst 2) by decide +kernel) rfl ?_
  refine jr_1 jm_243 (show jw_cd cd_243 96 = some (.if_icmp .ge 16) by decide +kernel) (mb_f (q := .ge) (a := 1) (b := 2) (by show ¬ (2 ≤ 1); omega) ⟨by omega, by omega⟩ ⟨by omega, by omega⟩ (by decide)) ?_
  refine jr_1 jm_243 (show jw_cd cd_243 99 = some (.aload_n 0) by decide +kernel) rfl ?_
  refine jr_1 jm_243 (show jw_cd cd_243 100 = some (.bipush 58) by decide +kernel) (mt_bi (by decide)) ?_
  refine jr_c jm_243 (show jw_cd cd_243 102 = some (.invokevirtual 170) by decide +kernel) (mc_v hl (n := 1) (m2 := 226) (bs := [.int (Int32.ofInt (58))]) (r := []) (show jw_find jw_cvT 34 170 = some (1, [(16, 226)]) by decide +kernel) (by decide) rfl rfl rfl) jm_226 ⟨Nat.le_of_ble_eq_true rfl, by decide⟩ (jn_takT hl ht hP h0 hp ⟨by decide, by decide⟩ h58) ?_
  refine jr_1 jm_243 (show jw_cd cd_243 105 = some (.ifCond .eq 7) by decide +kernel) (mz_f (q := .eq) (a := 1) (by show ¬ (1 = 0); omega) ⟨by omega, by omega⟩ (by decide)) ?_
  refine jr_1 jm_243 (show jw_cd cd_243 108 = some (.iconst 1) by decide +kernel) rfl ?_
  refine jr_1 jm_243 (show jw_cd cd_243 109 = some (.goto 4) by decide +kernel) (ju_go (t := 113) (by decide)) ?_
  refine jr_1 jm_243 (F2 := (114, [some (.ref 15), some (.int (Int32.ofInt (s))), some (.int (Int32.ofInt (1))), some (.int (Int32.ofInt (1))), some (.int (Int32.ofInt (p))), c5], [], ml_mk h (su τ 28 0 (q + 1)))) (show jw_cd cd_243 113 = some (.istore_n 3) by decide +kernel) rfl ?_
  refine jr_1 jm_243 (show jw_cd cd_243 114 = some (.iload_n 2) by decide +kernel) rfl ?_
  refine jr_1 jm_243 (show jw_cd cd_243 115 = some (.iload_n 3) by decide +kernel) rfl ?_
  refine jr_1 jm_243 (show jw_cd cd_243 116 = some (.ifCond .eq 7) by decide +kernel) (mz_f (q := .eq) (a := 1) (by show ¬ (1 = 0); omega) ⟨by omega, by omega⟩ (by decide)) ?_
  refine jr_1 jm_243 (show jw_cd cd_243 119 = some (.iconst 1) by decide +kernel) rfl ?_
  refine jr_1 jm_243 (show jw_cd cd_243 120 = some (.goto 4) by decide +kernel) (ju_go (t := 124) (by decide)) ?_
  refine jr_1 jm_243 (show jw_cd cd_243 124 = some (.iadd) by decide +kernel) (mt_add (c := 2) (by decide)) ?_
  refine jr_1 jm_243 (F2 := (126, [some (.ref 15), some (.int (Int32.ofInt (s))), some (.int (Int32.ofInt (2))), some (.int (Int32.ofInt (1))), some (.int (Int32.ofInt (p))), c5], [], ml_mk h (su τ 28 0 (q + 1)))) (show jw_cd cd_243 125 = some (.istore_n 2) by decide +kernel) rfl ?_
  refine jr_1 jm_243 (show jw_cd cd_243 126 = some (.goto (-122)) by decide +kernel) (ju_go (t := 4) (by decide)) ?_
  refine jr_1 jm_243 (show jw_cd cd_243 4 = some (.iload_n 3) by decide +kernel) rfl ?_
  refine jr_1 jm_243 (show jw_cd cd_243 5 = some (.ifCond .eq 124) by decide +kernel) (mz_f (q := .eq) (a := 1) (by show ¬ (1 = 0); omega) ⟨by omega, by omega⟩ (by decide)) ?_
  refine jr_1 jm_243 (show jw_cd cd_243 8 = some (.aload_n 0) by decide +kernel) rfl ?_
  refine jr_1 jm_243 (show jw_cd cd_243 9 = some (.getfield 148) by decide +kernel) (mg_i hl (e := 0) ((su_nf (by decide)).trans hP.2.2.2) (show jw_fld 34 148 16 = some 29 by decide +kernel) (by decide) (by decide)) ?_
  refine jr_1 jm_243 (show jw_cd cd_243 12 = some (.ifCond .ne 117) by decide +kernel) (mz_f (q := .ne) (a := 0) (by show ¬ (¬ (0 = 0)); omega) ⟨by omega, by omega⟩ (by decide)) ?_
  exact kk
theorem jn_ns_1 {β : Bool} {d : Nat} {h : jx_H} {τ : mS} (hl : 49 ≤ h.length) {T : Int → Int} {n q : Int} (ht : tOK T n) (hP : rP τ T n q) (h0 : 0 ≤ q) (hp : q ≤ n) {s p : Int} {c5 : Option Value} (h58 : ¬ tH T n q = 58) : ∀ res, jx_r (jz β) jw_M (d + 2) 243 (129, [some (.ref 15), some (.int (Int32.ofInt (s))), some (.int (Int32.ofInt (1))), some (.int (Int32.ofInt (0))), some (.int (Int32.ofInt (p))), c5], [], ml_mk h τ) res → jx_r (jz β) jw_M (d + 2) 243 (87, [some (.ref 15), some (.int (Int32.ofInt (s))), some (.int (Int32.ofInt (1))), some (.int (Int32.ofInt (1))), some (.int (Int32.ofInt (p))), c5], [], ml_mk h τ) res := fun res kk => by
  refine jr_1 jm_243 (show jw_cd cd_243 87 = some (.aload_n 0) by decide +kernel) rfl ?_
  refine jr_1 jm_243 (show jw_cd cd_243 88 = some (.getfield 148) by decide +kernel) (mg_i hl (e := 0) hP.2.2.2 (show jw_fld 34 148 16 = some 29 by decide +kernel) (by decide) (by decide)) ?_
  refine jr_1 jm_243 (show jw_cd cd_243 91 = some (.ifCond .ne 21) by decide +kernel) (mz_f (q := .ne) (a := 0) (by show ¬ (¬ (0 = 0)); omega) ⟨by omega, by omega⟩ (by decide)) ?_
  refine jr_1 jm_243 (show jw_cd cd_243 94 = some (.iload_n 2) by decide +kernel) rfl ?_
  refine jr_1 jm_243 (show jw_cd cd_243 95 = some (.iconst 2) by decide +kernel) rfl ?_
  refine jr_1 jm_243 (show jw_cd cd_243 96 = some (.if_icmp .ge 16) by decide +kernel) (mb_f (q := .ge) (a := 1) (b := 2) (by show ¬ (2 ≤ 1); omega) ⟨by omega, by omega⟩ ⟨by omega, by omega⟩ (by decide)) ?_
  refine jr_1 jm_243 (show jw_cd cd_243 99 = some (.aload_n 0) by decide +kernel) rfl ?_
  refine jr_1 jm_243 (show jw_cd cd_243 100 = some (.bipush 58) by decide +kernel) (mt_bi (by decide)) ?_
  refine jr_c jm_243 (show jw_cd cd_243 102 = some (.invokevirtual 170) by decide +kernel) (mc_v hl (n := 1) (m2 := 226) (bs := [.int (Int32.ofInt (58))]) (r := []) (show jw_find jw_cvT 34 170 = some (1, [(16, 226)]) by decide +kernel) (by decide) rfl rfl rfl) jm_226 ⟨Nat.le_of_ble_eq_true rfl, by decide⟩ (jn_takF hl ht hP h0 hp ⟨by decide, by decide⟩ h58) ?_
  refine jr_1 jm_243 (show jw_cd cd_243 105 = some (.ifCond .eq 7) by decide +kernel) (mz_t (q := .eq) (a := 0) (t := 112) (by show 0 = 0; omega) ⟨by omega, by omega⟩ (by decide) (by decide)) ?_
  refine jr_1 jm_243 (show jw_cd cd_243 112 = some (.iconst 0) by decide +kernel) rfl ?_
  refine jr_1 jm_243 (F2 := (114, [some (.ref 15), some (.int (Int32.ofInt (s))), some (.int (Int32.ofInt (1))), some (.int (Int32.ofInt (0))), some (.int (Int32.ofInt (p))), c5], [], ml_mk h τ)) (show jw_cd cd_243 113 = some (.istore_n 3) by decide +kernel) rfl ?_
  refine jr_1 jm_243 (show jw_cd cd_243 114 = some (.iload_n 2) by decide +kernel) rfl ?_
  refine jr_1 jm_243 (show jw_cd cd_243 115 = some (.iload_n 3) by decide +kernel) rfl ?_
  refine jr_1 jm_243 (show jw_cd cd_243 116 = some (.ifCond .eq 7) by decide +kernel) (mz_t (q := .eq) (a := 0) (t := 123) (by show 0 = 0; omega) ⟨by omega, by omega⟩ (by decide) (by decide)) ?_
  refine jr_1 jm_243 (show jw_cd cd_243 123 = some (.iconst 0) by decide +kernel) rfl ?_
  refine jr_1 jm_243 (show jw_cd cd_243 124 = some (.iadd) by decide +kernel) (mt_add (c := 1) (by decide)) ?_
  refine jr_1 jm_243 (F2 := (126, [some (.ref 15), some (.int (Int32.ofInt (s))), some (.int (Int32.ofInt (1))), some (.int (Int32.ofInt (0))), some (.int (Int32.ofInt (p))), c5], [], ml_mk h τ)) (show jw_cd cd_243 125 = some (.istore_n 2) by decide +kernel) rfl ?_
  refine jr_1 jm_243 (show jw_cd cd_243 126 = some (.goto (-122)) by decide +kernel) (ju_go (t := 4) (by decide)) ?_
  refine jr_1 jm_243 (show jw_cd cd_243 4 = some (.iload_n 3) by decide +kernel) rfl ?_
  refine jr_1 jm_243 (show jw_cd cd_243 5 = some (.ifCond .eq 124) by decide +kernel) (mz_t (q := .eq) (a := 0) (t := 129) (by show 0 = 0; omega) ⟨by omega, by omega⟩ (by decide) (by decide)) ?_
  exact kk
theorem jn_ne_1 {β : Bool} {d : Nat} {h : jx_H} {τ : mS} (hl : 49 ≤ h.length) {T : Int → Int} {n q : Int} (ht : tOK T n) (hP : rP τ T n q) (h0 : 0 ≤ q) (hp : q ≤ n) {s p b Q I : Int} {c5 : Option Value} (hs : 0 ≤ s ∧ s < 144) (e15 : τ 15 0 = Q) (e16 : τ 16 Q = I) (hQ : 0 ≤ Q ∧ Q < 12) (hI : 0 ≤ I ∧ I < 100) (e20 : τ 20 s = b) (hb : 0 ≤ b ∧ b ≤ 7) : (tH T n q = 93 → jx_r (jz β) jw_M (d + 2) 243 (129, [some (.ref 15), some (.int (Int32.ofInt (s))), some (.int (Int32.ofInt (1))), some (.int (Int32.ofInt (0))), some (.int (Int32.ofInt (p))), c5], [], ml_mk h τ) (ml_mk h (mAdd (su τ 28 0 (q + 1)) Q I 5 0 s), .inl none)) ∧ (¬ tH T n q = 93 → jx_r (jz β) jw_M (d + 2) 243 (129, [some (.ref 15), some (.int (Int32.ofInt (s))), some (.int (Int32.ofInt (1))), some (.int (Int32.ofInt (0))), some (.int (Int32.ofInt (p))), c5], [], ml_mk h τ) (ml_mk h (su τ 29 0 (-1 - q)), .inl none)) := by
  obtain ⟨s0, s1⟩ := hs
  refine ⟨fun h93 => ?_, fun h93 => ?_⟩
  · have e15b : su τ 28 0 (q + 1) 15 0 = Q := by rw [su_nf (by decide)]; exact e15
    have e16b : su τ 28 0 (q + 1) 16 Q = I := by rw [su_nf (by decide)]; exact e16
    refine jr_1 jm_243 (show jw_cd cd_243 129 = some (.iload_n 2) by decide +kernel) rfl ?_
    refine jr_1 jm_243 (show jw_cd cd_243 130 = some (.ifCond .ne 20) by decide +kernel) (mz_t (q := .ne) (a := 1) (t := 150) (by show ¬ (1 = 0); omega) ⟨by omega, by omega⟩ (by decide) (by decide)) ?_
    refine jr_1 jm_243 (show jw_cd cd_243 150 = some (.aload_n 0) by decide +kernel) rfl ?_
    refine jr_1 jm_243 (show jw_cd cd_243 151 = some (.getfield 148) by decide +kernel) (mg_i hl (e := 0) hP.2.2.2 (show jw_fld 34 148 16 = some 29 by decide +kernel) (by decide) (by decide)) ?_
    refine jr_1 jm_243 (show jw_cd cd_243 154 = some (.ifCond .ne 27) by decide +kernel) (mz_f (q := .ne) (a := 0) (by show ¬ (¬ (0 = 0)); omega) ⟨by omega, by omega⟩ (by decide)) ?_
    refine jr_1 jm_243 (show jw_cd cd_243 157 = some (.aload_n 0) by decide +kernel) rfl ?_
    refine jr_1 jm_243 (show jw_cd cd_243 158 = some (.bipush 93) by decide +kernel) (mt_bi (by decide)) ?_
    refine jr_c jm_243 (show jw_cd cd_243 160 = some (.invokevirtual 179) by decide +kernel) (mc_v hl (n := 1) (m2 := 221) (bs := [.int (Int32.ofInt (93))]) (r := []) (show jw_find jw_cvT 34 179 = some (1, [(16, 221)]) by decide +kernel) (by decide) rfl rfl rfl) jm_221 ⟨Nat.le_of_ble_eq_true rfl, by decide⟩ (jn_mustT hl ht hP h0 hp ⟨by decide, by decide⟩ h93) ?_
    refine jr_1 jm_243 (show jw_cd cd_243 163 = some (.ifCond .eq 18) by decide +kernel) (mz_f (q := .eq) (a := 1) (by show ¬ (1 = 0); omega) ⟨by omega, by omega⟩ (by decide)) ?_
    refine jr_1 jm_243 (show jw_cd cd_243 166 = some (.aload_n 0) by decide +kernel) rfl ?_
    refine jr_1 jm_243 (show jw_cd cd_243 167 = some (.iload_n 2) by decide +kernel) rfl ?_
    refine jr_1 jm_243 (show jw_cd cd_243 168 = some (.ifCond .ne 7) by decide +kernel) (mz_t (q := .ne) (a := 1) (t := 175) (by show ¬ (1 = 0); omega) ⟨by omega, by omega⟩ (by decide) (by decide)) ?_
    refine jr_1 jm_243 (show jw_cd cd_243 175 = some (.iconst 5) by decide +kernel) rfl ?_
    refine jr_1 jm_243 (F2 := (177, [some (.ref 15), some (.int (Int32.ofInt (s))), some (.int (Int32.ofInt (1))), some (.int (Int32.ofInt (0))), some (.int (Int32.ofInt (p))), c5], [.long (Int64.ofInt (0)), .int (Int32.ofInt (5)), .ref 15], ml_mk h (su τ 28 0 (q + 1)))) (show jw_cd cd_243 176 = some (.lconst 0) by decide +kernel) rfl ?_
    refine jr_1 jm_243 (show jw_cd cd_243 177 = some (.iload_n 1) by decide +kernel) rfl ?_
    refine jr_c jm_243 (show jw_cd cd_243 178 = some (.invokevirtual 233) by decide +kernel) (mc_v hl (n := 3) (m2 := 237) (bs := [.int (Int32.ofInt (5)), .long (Int64.ofInt (0)), .int (Int32.ofInt (s))]) (r := []) (show jw_find jw_cvT 34 233 = some (3, [(16, 237)]) by decide +kernel) (by decide) rfl rfl rfl) jm_237 ⟨Nat.le_of_ble_eq_true rfl, by decide⟩ (jn_add hl e15b e16b hQ hI) ?_
    exact jr_v jm_243 (show jw_cd cd_243 181 = some (.return_) by decide +kernel) rfl
  · skip
    refine jr_1 jm_243 (show jw_cd cd_243 129 = some (.iload_n 2) by decide +kernel) rfl ?_
    refine jr_1 jm_243 (show jw_cd cd_243 130 = some (.ifCond .ne 20) by decide +kernel) (mz_t (q := .ne) (a := 1) (t := 150) (by show ¬ (1 = 0); omega) ⟨by omega, by omega⟩ (by decide) (by decide)) ?_
    refine jr_1 jm_243 (show jw_cd cd_243 150 = some (.aload_n 0) by decide +kernel) rfl ?_
    refine jr_1 jm_243 (show jw_cd cd_243 151 = some (.getfield 148) by decide +kernel) (mg_i hl (e := 0) hP.2.2.2 (show jw_fld 34 148 16 = some 29 by decide +kernel) (by decide) (by decide)) ?_
    refine jr_1 jm_243 (show jw_cd cd_243 154 = some (.ifCond .ne 27) by decide +kernel) (mz_f (q := .ne) (a := 0) (by show ¬ (¬ (0 = 0)); omega) ⟨by omega, by omega⟩ (by decide)) ?_
    refine jr_1 jm_243 (show jw_cd cd_243 157 = some (.aload_n 0) by decide +kernel) rfl ?_
    refine jr_1 jm_243 (show jw_cd cd_243 158 = some (.bipush 93) by decide +kernel) (mt_bi (by decide)) ?_
    refine jr_c jm_243 (show jw_cd cd_243 160 = some (.invokevirtual 179) by decide +kernel) (mc_v hl (n := 1) (m2 := 221) (bs := [.int (Int32.ofInt (93))]) (r := []) (show jw_find jw_cvT 34 179 = some (1, [(16, 221)]) by decide +kernel) (by decide) rfl rfl rfl) jm_221 ⟨Nat.le_of_ble_eq_true rfl, by decide⟩ (jn_mustF hl ht hP h0 hp ⟨by decide, by decide⟩ h93) ?_
    refine jr_1 jm_243 (show jw_cd cd_243 163 = some (.ifCond .eq 18) by decide +kernel) (mz_t (q := .eq) (a := 0) (t := 181) (by show 0 = 0; omega) ⟨by omega, by omega⟩ (by decide) (by decide)) ?_
    exact jr_v jm_243 (show jw_cd cd_243 181 = some (.return_) by decide +kernel) rfl
theorem jn_nx_2 {β : Bool} {d : Nat} {h : jx_H} {τ : mS} (hl : 49 ≤ h.length) {s p x b : Int} {c5 : Option Value} (hs : 0 ≤ s ∧ s < 144) (e29 : τ 29 0 = x) (hx : mr x) (hx0 : ¬ x = 0) (e20 : τ 20 s = b) (hb : 1 ≤ b ∧ b ≤ 7) : jx_r (jz β) jw_M (d) 243 (87, [some (.ref 15), some (.int (Int32.ofInt (s))), some (.int (Int32.ofInt (2))), some (.int (Int32.ofInt (1))), some (.int (Int32.ofInt (p))), c5], [], ml_mk h τ) (ml_mk h (τ), .inl none) := by
  obtain ⟨s0, s1⟩ := hs
  obtain ⟨x1, x2⟩ := hx
  refine jr_1 jm_243 (show jw_cd cd_243 87 = some (.aload_n 0) by decide +kernel) rfl ?_
  refine jr_1 jm_243 (show jw_cd cd_243 88 = some (.getfield 148) by decide +kernel) (mg_i hl (e := x) e29 (show jw_fld 34 148 16 = some 29 by decide +kernel) (by decide) (by decide)) ?_
  refine jr_1 jm_243 (show jw_cd cd_243 91 = some (.ifCond .ne 21) by decide +kernel) (mz_t (q := .ne) (a := x) (t := 112) (by show ¬ (x = 0); omega) ⟨by omega, by omega⟩ (by decide) (by decide)) ?_
  refine jr_1 jm_243 (show jw_cd cd_243 112 = some (.iconst 0) by decide +kernel) rfl ?_
  refine jr_1 jm_243 (F2 := (114, [some (.ref 15), some (.int (Int32.ofInt (s))), some (.int (Int32.ofInt (2))), some (.int (Int32.ofInt (0))), some (.int (Int32.ofInt (p))), c5], [], ml_mk h τ)) (show jw_cd cd_243 113 = some (.istore_n 3) by decide +kernel) rfl ?_
  refine jr_1 jm_243 (show jw_cd cd_243 114 = some (.iload_n 2) by decide +kernel) rfl ?_
  refine jr_1 jm_243 (show jw_cd cd_243 115 = some (.iload_n 3) by decide +kernel) rfl ?_
  refine jr_1 jm_243 (show jw_cd cd_243 116 = some (.ifCond .eq 7) by decide +kernel) (mz_t (q := .eq) (a := 0) (t := 123) (by show 0 = 0; omega) ⟨by omega, by omega⟩ (by decide) (by decide)) ?_
  refine jr_1 jm_243 (show jw_cd cd_243 123 = some (.iconst 0) by decide +kernel) rfl ?_
  refine jr_1 jm_243 (show jw_cd cd_243 124 = some (.iadd) by decide +kernel) (mt_add (c := 2) (by decide)) ?_
  refine jr_1 jm_243 (F2 := (126, [some (.ref 15), some (.int (Int32.ofInt (s))), some (.int (Int32.ofInt (2))), some (.int (Int32.ofInt (0))), some (.int (Int32.ofInt (p))), c5], [], ml_mk h τ)) (show jw_cd cd_243 125 = some (.istore_n 2) by decide +kernel) rfl ?_
  refine jr_1 jm_243 (show jw_cd cd_243 126 = some (.goto (-122)) by decide +kernel) (ju_go (t := 4) (by decide)) ?_
  refine jr_1 jm_243 (show jw_cd cd_243 4 = some (.iload_n 3) by decide +kernel) rfl ?_
  refine jr_1 jm_243 (show jw_cd cd_243 5 = some (.ifCond .eq 124) by decide +kernel) (mz_t (q := .eq) (a := 0) (t := 129) (by show 0 = 0; omega) ⟨by omega, by omega⟩ (by decide) (by decide)) ?_
  refine jr_1 jm_243 (show jw_cd cd_243 129 = some (.iload_n 2) by decide +kernel) rfl ?_
  refine jr_1 jm_243 (show jw_cd cd_243 130 = some (.ifCond .ne 20) by decide +kernel) (mz_t (q := .ne) (a := 2) (t := 150) (by show ¬ (2 = 0); omega) ⟨by omega, by omega⟩ (by decide) (by decide)) ?_
  refine jr_1 jm_243 (show jw_cd cd_243 150 = some (.aload_n 0) by decide +kernel) rfl ?_
  refine jr_1 jm_243 (show jw_cd cd_243 151 = some (.getfield 148) by decide +kernel) (mg_i hl (e := x) e29 (show jw_fld 34 148 16 = some 29 by decide +kernel) (by decide) (by decide)) ?_
  refine jr_1 jm_243 (show jw_cd cd_243 154 = some (.ifCond .ne 27) by decide +kernel) (mz_t (q := .ne) (a := x) (t := 181) (by show ¬ (x = 0); omega) ⟨by omega, by omega⟩ (by decide) (by decide)) ?_
  exact jr_v jm_243 (show jw_cd cd_243 181 = some (.return_) by decide +kernel) rfl
theorem jn_ns_2 {β : Bool} {d : Nat} {h : jx_H} {τ : mS} (hl : 49 ≤ h.length) {T : Int → Int} {n q : Int} (ht : tOK T n) (hP : rP τ T n q) (h0 : 0 ≤ q) (hp : q ≤ n) {s p : Int} {c5 : Option Value} : ∀ res, jx_r (jz β) jw_M (d + 2) 243 (129, [some (.ref 15), some (.int (Int32.ofInt (s))), some (.int (Int32.ofInt (2))), some (.int (Int32.ofInt (0))), some (.int (Int32.ofInt (p))), c5], [], ml_mk h τ) res → jx_r (jz β) jw_M (d + 2) 243 (87, [some (.ref 15), some (.int (Int32.ofInt (s))), some (.int (Int32.ofInt (2))), some (.int (Int32.ofInt (1))), some (.int (Int32.ofInt (p))), c5], [], ml_mk h τ) res := fun res kk => by
  refine jr_1 jm_243 (show jw_cd cd_243 87 = some (.aload_n 0) by decide +kernel) rfl ?_
  refine jr_1 jm_243 (show jw_cd cd_243 88 = some (.getfield 148) by decide +kernel) (mg_i hl (e := 0) hP.2.2.2 (show jw_fld 34 148 16 = some 29 by decide +kernel) (by decide) (by decide)) ?_
  refine jr_1 jm_243 (show jw_cd cd_243 91 = some (.ifCond .ne 21) by decide +kernel) (mz_f (q := .ne) (a := 0) (by show ¬ (¬ (0 = 0)); omega) ⟨by omega, by omega⟩ (by decide)) ?_
  refine jr_1 jm_243 (show jw_cd cd_243 94 = some (.iload_n 2) by decide +kernel) rfl ?_
  refine jr_1 jm_243 (show jw_cd cd_243 95 = some (.iconst 2) by decide +kernel) rfl ?_
  refine jr_1 jm_243 (show jw_cd cd_243 96 = some (.if_icmp .ge 16) by decide +kernel) (mb_t (q := .ge) (a := 2) (b := 2) (t := 112) (by show 2 ≤ 2; omega) ⟨by omega, by omega⟩ ⟨by omega, by omega⟩ (by decide) (by decide)) ?_
  refine jr_1 jm_243 (show jw_cd cd_243 112 = some (.iconst 0) by decide +kernel) rfl ?_
  refine jr_1 jm_243 (F2 := (114, [some (.ref 15), some (.int (Int32.ofInt (s))), some (.int (Int32.ofInt (2))), some (.int (Int32.ofInt (0))), some (.int (Int32.ofInt (p))), c5], [], ml_mk h τ)) (show jw_cd cd_243 113 = some (.istore_n 3) by decide +kernel) rfl ?_
  refine jr_1 jm_243 (show jw_cd cd_243 114 = some (.iload_n 2) by decide +kernel) rfl ?_
  refine jr_1 jm_243 (show jw_cd cd_243 115 = some (.iload_n 3) by decide +kernel) rfl ?_
  refine jr_1 jm_243 (show jw_cd cd_243 116 = some (.ifCond .eq 7) by decide +kernel) (mz_t (q := .eq) (a := 0) (t := 123) (by show 0 = 0; omega) ⟨by omega, by omega⟩ (by decide) (by decide)) ?_
  refine jr_1 jm_243 (show jw_cd cd_243 123 = some (.iconst 0) by decide +kernel) rfl ?_
  refine jr_1 jm_243 (show jw_cd cd_243 124 = some (.iadd) by decide +kernel) (mt_add (c := 2) (by decide)) ?_
  refine jr_1 jm_243 (F2 := (126, [some (.ref 15), some (.int (Int32.ofInt (s))), some (.int (Int32.ofInt (2))), some (.int (Int32.ofInt (0))), some (.int (Int32.ofInt (p))), c5], [], ml_mk h τ)) (show jw_cd cd_243 125 = some (.istore_n 2) by decide +kernel) rfl ?_
  refine jr_1 jm_243 (show jw_cd cd_243 126 = some (.goto (-122)) by decide +kernel) (ju_go (t := 4) (by decide)) ?_
  refine jr_1 jm_243 (show jw_cd cd_243 4 = some (.iload_n 3) by decide +kernel) rfl ?_
  refine jr_1 jm_243 (show jw_cd cd_243 5 = some (.ifCond .eq 124) by decide +kernel) (mz_t (q := .eq) (a := 0) (t := 129) (by show 0 = 0; omega) ⟨by omega, by omega⟩ (by decide) (by decide)) ?_
  exact kk
theorem jn_ne_2 {β : Bool} {d : Nat} {h : jx_H} {τ : mS} (hl : 49 ≤ h.length) {T : Int → Int} {n q : Int} (ht : tOK T n) (hP : rP τ T n q) (h0 : 0 ≤ q) (hp : q ≤ n) {s p b Q I : Int} {c5 : Option Value} (hs : 0 ≤ s ∧ s < 144) (e15 : τ 15 0 = Q) (e16 : τ 16 Q = I) (hQ : 0 ≤ Q ∧ Q < 12) (hI : 0 ≤ I ∧ I < 100) (e20 : τ 20 s = b) (hb : 0 ≤ b ∧ b ≤ 7) : (tH T n q = 93 → jx_r (jz β) jw_M (d + 2) 243 (129, [some (.ref 15), some (.int (Int32.ofInt (s))), some (.int (Int32.ofInt (2))), some (.int (Int32.ofInt (0))), some (.int (Int32.ofInt (p))), c5], [], ml_mk h τ) (ml_mk h (mAdd (su τ 28 0 (q + 1)) Q I 5 0 s), .inl none)) ∧ (¬ tH T n q = 93 → jx_r (jz β) jw_M (d + 2) 243 (129, [some (.ref 15), some (.int (Int32.ofInt (s))), some (.int (Int32.ofInt (2))), some (.int (Int32.ofInt (0))), some (.int (Int32.ofInt (p))), c5], [], ml_mk h τ) (ml_mk h (su τ 29 0 (-1 - q)), .inl none)) := by
  obtain ⟨s0, s1⟩ := hs
  refine ⟨fun h93 => ?_, fun h93 => ?_⟩
  · have e15b : su τ 28 0 (q + 1) 15 0 = Q := by rw [su_nf (by decide)]; exact e15
    have e16b : su τ 28 0 (q + 1) 16 Q = I := by rw [su_nf (by decide)]; exact e16
    refine jr_1 jm_243 (show jw_cd cd_243 129 = some (.iload_n 2) by decide +kernel) rfl ?_
    refine jr_1 jm_243 (show jw_cd cd_243 130 = some (.ifCond .ne 20) by decide +kernel) (mz_t (q := .ne) (a := 2) (t := 150) (by show ¬ (2 = 0); omega) ⟨by omega, by omega⟩ (by decide) (by decide)) ?_
    refine jr_1 jm_243 (show jw_cd cd_243 150 = some (.aload_n 0) by decide +kernel) rfl ?_
    refine jr_1 jm_243 (show jw_cd cd_243 151 = some (.getfield 148) by decide +kernel) (mg_i hl (e := 0) hP.2.2.2 (show jw_fld 34 148 16 = some 29 by decide +kernel) (by decide) (by decide)) ?_
    refine jr_1 jm_243 (show jw_cd cd_243 154 = some (.ifCond .ne 27) by decide +kernel) (mz_f (q := .ne) (a := 0) (by show ¬ (¬ (0 = 0)); omega) ⟨by omega, by omega⟩ (by decide)) ?_
    refine jr_1 jm_243 (show jw_cd cd_243 157 = some (.aload_n 0) by decide +kernel) rfl ?_
    refine jr_1 jm_243 (show jw_cd cd_243 158 = some (.bipush 93) by decide +kernel) (mt_bi (by decide)) ?_
    refine jr_c jm_243 (show jw_cd cd_243 160 = some (.invokevirtual 179) by decide +kernel) (mc_v hl (n := 1) (m2 := 221) (bs := [.int (Int32.ofInt (93))]) (r := []) (show jw_find jw_cvT 34 179 = some (1, [(16, 221)]) by decide +kernel) (by decide) rfl rfl rfl) jm_221 ⟨Nat.le_of_ble_eq_true rfl, by decide⟩ (jn_mustT hl ht hP h0 hp ⟨by decide, by decide⟩ h93) ?_
    refine jr_1 jm_243 (show jw_cd cd_243 163 = some (.ifCond .eq 18) by decide +kernel) (mz_f (q := .eq) (a := 1) (by show ¬ (1 = 0); omega) ⟨by omega, by omega⟩ (by decide)) ?_
    refine jr_1 jm_243 (show jw_cd cd_243 166 = some (.aload_n 0) by decide +kernel) rfl ?_
    refine jr_1 jm_243 (show jw_cd cd_243 167 = some (.iload_n 2) by decide +kernel) rfl ?_
    refine jr_1 jm_243 (show jw_cd cd_243 168 = some (.ifCond .ne 7) by decide +kernel) (mz_t (q := .ne) (a := 2) (t := 175) (by show ¬ (2 = 0); omega) ⟨by omega, by omega⟩ (by decide) (by decide)) ?_
    refine jr_1 jm_243 (show jw_cd cd_243 175 = some (.iconst 5) by decide +kernel) rfl ?_
    refine jr_1 jm_243 (F2 := (177, [some (.ref 15), some (.int (Int32.ofInt (s))), some (.int (Int32.ofInt (2))), some (.int (Int32.ofInt (0))), some (.int (Int32.ofInt (p))), c5], [.long (Int64.ofInt (0)), .int (Int32.ofInt (5)), .ref 15], ml_mk h (su τ 28 0 (q + 1)))) (show jw_cd cd_243 176 = some (.lconst 0) by decide +kernel) rfl ?_
    refine jr_1 jm_243 (show jw_cd cd_243 177 = some (.iload_n 1) by decide +kernel) rfl ?_
    refine jr_c jm_243 (show jw_cd cd_243 178 = some (.invokevirtual 233) by decide +kernel) (mc_v hl (n := 3) (m2 := 237) (bs := [.int (Int32.ofInt (5)), .long (Int64.ofInt (0)), .int (Int32.ofInt (s))]) (r := []) (show jw_find jw_cvT 34 233 = some (3, [(16, 237)]) by decide +kernel) (by decide) rfl rfl rfl) jm_237 ⟨Nat.le_of_ble_eq_true rfl, by decide⟩ (jn_add hl e15b e16b hQ hI) ?_
    exact jr_v jm_243 (show jw_cd cd_243 181 = some (.return_) by decide +kernel) rfl
  · skip
    refine jr_1 jm_243 (show jw_cd cd_243 129 = some (.iload_n 2) by decide +kernel) rfl ?_
    refine jr_1 jm_243 (show jw_cd cd_243 130 = some (.ifCond .ne 20) by decide +kernel) (mz_t (q := .ne) (a := 2) (t := 150) (by show ¬ (2 = 0); omega) ⟨by omega, by omega⟩ (by decide) (by decide)) ?_
    refine jr_1 jm_243 (show jw_cd cd_243 150 = some (.aload_n 0) by decide +kernel) rfl ?_
    refine jr_1 jm_243 (show jw_cd cd_243 151 = some (.getfield 148) by decide +kernel) (mg_i hl (e := 0) hP.2.2.2 (show jw_fld 34 148 16 = some 29 by decide +kernel) (by decide) (by decide)) ?_
    refine jr_1 jm_243 (show jw_cd cd_243 154 = some (.ifCond .ne 27) by decide +kernel) (mz_f (q := .ne) (a := 0) (by show ¬ (¬ (0 = 0)); omega) ⟨by omega, by omega⟩ (by decide)) ?_
    refine jr_1 jm_243 (show jw_cd cd_243 157 = some (.aload_n 0) by decide +kernel) rfl ?_
    refine jr_1 jm_243 (show jw_cd cd_243 158 = some (.bipush 93) by decide +kernel) (mt_bi (by decide)) ?_
    refine jr_c jm_243 (show jw_cd cd_243 160 = some (.invokevirtual 179) by decide +kernel) (mc_v hl (n := 1) (m2 := 221) (bs := [.int (Int32.ofInt (93))]) (r := []) (show jw_find jw_cvT 34 179 = some (1, [(16, 221)]) by decide +kernel) (by decide) rfl rfl rfl) jm_221 ⟨Nat.le_of_ble_eq_true rfl, by decide⟩ (jn_mustF hl ht hP h0 hp ⟨by decide, by decide⟩ h93) ?_
    refine jr_1 jm_243 (show jw_cd cd_243 163 = some (.ifCond .eq 18) by decide +kernel) (mz_t (q := .eq) (a := 0) (t := 181) (by show 0 = 0; omega) ⟨by omega, by omega⟩ (by decide) (by decide)) ?_
    exact jr_v jm_243 (show jw_cd cd_243 181 = some (.return_) by decide +kernel) rfl
theorem jn_nz_0 {β : Bool} {d : Nat} {h : jx_H} {τ : mS} (hl : 49 ≤ h.length) {T : Int → Int} {n q : Int} (ht : tOK T n) (hP : rP τ T n q) (h0 : 0 ≤ q) (hp : q ≤ n) {s p b : Int} {c5 : Option Value} (hs : 0 ≤ s ∧ s < 144) (e20 : τ 20 s = b) (hb : b = 0) : jx_r (jz β) jw_M (d + 2) 243 (129, [some (.ref 15), some (.int (Int32.ofInt (s))), some (.int (Int32.ofInt (0))), some (.int (Int32.ofInt (0))), some (.int (Int32.ofInt (p))), c5], [], ml_mk h τ) (ml_mk h (su τ 29 0 (-1 - q)), .inl none) := by
  obtain ⟨s0, s1⟩ := hs
  have hn160 := ht.2.1
  refine jr_1 jm_243 (show jw_cd cd_243 129 = some (.iload_n 2) by decide +kernel) rfl ?_
  refine jr_1 jm_243 (show jw_cd cd_243 130 = some (.ifCond .ne 20) by decide +kernel) (mz_f (q := .ne) (a := 0) (by show ¬ (¬ (0 = 0)); omega) ⟨by omega, by omega⟩ (by decide)) ?_
  refine jr_1 jm_243 (show jw_cd cd_243 133 = some (.aload_n 0) by decide +kernel) rfl ?_
  refine jr_1 jm_243 (show jw_cd cd_243 134 = some (.getfield 56) by decide +kernel) (mg_a hl (a := 31) (show jw_fld 34 56 16 = some 20 by decide +kernel) (by decide) (by decide)) ?_
  refine jr_1 jm_243 (show jw_cd cd_243 137 = some (.iload_n 1) by decide +kernel) rfl ?_
  refine jr_1 jm_243 (show jw_cd cd_243 138 = some (.iaload) by decide +kernel) (ma_i hl (i := s) (e := b) 20 (by omega) (by show _ < ((144 : Nat) : Int); omega) e20 (by decide) (by decide) (by decide)) ?_
  refine jr_1 jm_243 (show jw_cd cd_243 139 = some (.ifCond .ne 11) by decide +kernel) (mz_f (q := .ne) (a := b) (by show ¬ (¬ (b = 0)); omega) ⟨by omega, by omega⟩ (by decide)) ?_
  refine jr_1 jm_243 (show jw_cd cd_243 142 = some (.aload_n 0) by decide +kernel) rfl ?_
  refine jr_1 jm_243 (show jw_cd cd_243 143 = some (.aload_n 0) by decide +kernel) rfl ?_
  refine jr_1 jm_243 (show jw_cd cd_243 144 = some (.getfield 145) by decide +kernel) (mg_i hl (e := q) hP.2.2.1 (show jw_fld 34 145 16 = some 28 by decide +kernel) (by decide) (by decide)) ?_
  refine jr_c jm_243 (show jw_cd cd_243 147 = some (.invokevirtual 155) by decide +kernel) (mc_v hl (n := 1) (m2 := 216) (bs := [.int (Int32.ofInt (q))]) (r := []) (show jw_find jw_cvT 34 155 = some (1, [(16, 216)]) by decide +kernel) (by decide) rfl rfl rfl) jm_216 ⟨Nat.le_of_ble_eq_true rfl, by decide⟩ (jn_wrg hl hP) ?_
  refine jr_1 jm_243 (show jw_cd cd_243 150 = some (.aload_n 0) by decide +kernel) rfl ?_
  refine jr_1 jm_243 (show jw_cd cd_243 151 = some (.getfield 148) by decide +kernel) (mg_i hl (e := -1 - q) (su_eq _ _ _ _) (show jw_fld 34 148 16 = some 29 by decide +kernel) (by decide) (by decide)) ?_
  refine jr_1 jm_243 (show jw_cd cd_243 154 = some (.ifCond .ne 27) by decide +kernel) (mz_t (q := .ne) (a := -1 - q) (t := 181) (by show ¬ (-1 - q = 0); omega) ⟨by omega, by omega⟩ (by decide) (by decide)) ?_
  exact jr_v jm_243 (show jw_cd cd_243 181 = some (.return_) by decide +kernel) rfl
theorem bits_1 {a b c : Option Int} : ((bit1 a 1 + bit1 b 2 + bit1 c 4) % 2 = 1 → ∃ x, a = some x) ∧ ((bit1 a 1 + bit1 b 2 + bit1 c 4) / 2 % 2 = 1 → ∃ x, b = some x) ∧ (4 ≤ bit1 a 1 + bit1 b 2 + bit1 c 4 → ∃ x, c = some x) := by
  have ha := bit1_r a (k := 1) (by decide)
  have hb := bit1_r b (k := 2) (by decide)
  have hc := bit1_r c (k := 4) (by decide)
  refine ⟨fun z => ?_, fun z => ?_, fun z => ?_⟩
  · cases a with
    | none =>
      have : bit1 none 1 = 0 := rfl
      omega
    | some x => exact ⟨x, rfl⟩
  · cases b with
    | none =>
      have : bit1 none 2 = 0 := rfl
      omega
    | some x => exact ⟨x, rfl⟩
  · cases c with
    | none =>
      have : bit1 none 4 = 0 := rfl
      omega
    | some x => exact ⟨x, rfl⟩
/-- the end of the numbers, in terms of what was read -/
theorem jn_nfin {β : Bool} {d : Nat} {h : jx_H} {σ τ : mS} (hl : 49 ≤ h.length) {T : Int → Int} {n q : Int} (ht : tOK T n) (hP : rP τ T n q) (h0 : 0 ≤ q) (hp : q ≤ n) {s Q I w : Int} {a b c : Option Int} (hs : 0 ≤ s ∧ s < 144) (hQ : 0 ≤ Q ∧ Q < 12) (hI : 0 ≤ I ∧ I < 100) (hw : w = 1 ∧ (∃ x, a = some x) ∨ w = 5) (ha : opO false a) (hb : opO false b) (hc : opO true c) (e20 : τ 20 s = bit1 a 1 + bit1 b 2 + bit1 c 4) (ea : ∀ x, a = some x → τ 21 (3 * s + 0) = x) (eb : ∀ x, b = some x → τ 21 (3 * s + 1) = x) (ec : ∀ x, c = some x → τ 21 (3 * s + 2) = x) (hF : nbF σ τ s) {P : mS → Prop} (h1 : tH T n q = 93 → P (mAdd (su τ 28 0 (q + 1)) Q I w 0 s)) (h2 : ¬ tH T n q = 93 → P (su τ 29 0 (-1 - q))) : (∀ e, sNe T n w a b c q = .inl e → ∃ τ' : mS, P τ' ∧ τ' 29 0 = -1 - e ∧ rdF σ τ' (-1) (100 * Q + I) s) ∧ (∀ e q2, sNe T n w a b c q = .inr (e, q2) → ∃ τ' : mS, P τ' ∧ stpP σ τ' T n Q I s q2 (σ 30 0) e) := by
  obtain ⟨s0, s1⟩ := id hs
  unfold sNe
  by_cases h93 : tH T n q = 93
  · rw [if_pos h93]
    refine ⟨fun e' he => (by cases he), fun e q' he => ?_⟩
    cases he
    obtain ⟨m1, m2, m3, m4, m5, m6⟩ := mAdd_F (σ := su τ 28 0 (q + 1)) (Q := Q) (I := I) (w := w) (t := 0) (s := s) (s0 := s)
    have hq : ∀ f, 20 ≤ f → f ≤ 27 → mAdd (su τ 28 0 (q + 1)) Q I w 0 s f = τ f := fun f f1 f2 => by rw [m6 f (by simp; omega), su_row (by omega)]
    have hnO := nmb_O ha hb hc
    obtain ⟨b1, b2, b3⟩ := bits_1 (a := a) (b := b) (c := c)
    refine ⟨mAdd (su τ 28 0 (q + 1)) Q I w 0 s, h1 h93, ?_, m5, ⟨⟨by omega, by omega⟩, m2, ⟨by show 0 ≤ w; omega, by show w ≤ 6; omega⟩, fun z => ?_, fun z1 z2 => ?_⟩, fun _ => by rw [m4]; omega, rdF_trans (rdF_nb hF) (rdF_trans (rdF_su (rdF_refl _ _ _ _) (by omega)) m1 (Int.le_refl _) (Int.le_refl _)) (Int.le_refl _) (Int.le_refl _), ?_⟩
    · exact rP_q (rP_mv hP) (fun f hf => m6 f (by simp; omega)) (by rw [m6 28 (by decide)]) (by rw [m6 29 (by decide)])
    · have z : w ≤ 1 := z
      have hw1 : w = 1 := by omega
      rcases hw with ⟨-, x, hx⟩ | hw
      · refine ⟨⟨by omega, by omega⟩, m2, Or.inr ⟨hw1, ?_, ?_, ?_⟩⟩
        · rw [m4]
          exact hs
        · rw [m4, hq 21 (by decide) (by decide)]
          have := ea x hx
          rw [Int.add_zero] at this
          rw [this, hx]
          rfl
        · have := hnO.1.2.1
          exact ⟨Int.le_of_lt this.1, Int.le_of_lt this.2⟩
      · omega
    · have z1 : 2 ≤ w := z1
      rw [m4]
      refine prR_fr hq ⟨⟨z1, z2⟩, fun z => ?_, fun z => ⟨hs, ⟨e20, hnO.1.1, fun z => ?_, fun z => ?_, fun z => ?_⟩, hnO.2⟩⟩
      · have z : w = 4 := z
        omega
      · obtain ⟨x, hx⟩ := b1 z
        have := ea x hx
        rw [Int.add_zero] at this
        exact ⟨by rw [this, hx]; rfl, Int.le_of_lt hnO.1.2.1.1, Int.le_of_lt hnO.1.2.1.2⟩
      · obtain ⟨x, hx⟩ := b2 z
        exact ⟨by rw [eb x hx, hx]; rfl, Int.le_of_lt hnO.1.2.2.1.1, Int.le_of_lt hnO.1.2.2.1.2⟩
      · obtain ⟨x, hx⟩ := b3 z
        exact ⟨by rw [ec x hx, hx]; rfl, Int.le_of_lt hnO.1.2.2.2.1, Int.le_of_lt hnO.1.2.2.2.2⟩
    · rw [m6 30 (by decide), su_nf (by decide), hF.1 30 (by decide)]
  · rw [if_neg h93]
    refine ⟨fun e' he => ?_, fun e q' he => (by cases he)⟩
    cases he
    exact ⟨su τ 29 0 (-1 - q), h2 h93, su_eq _ _ _ _, rdF_su (rdF_nb hF) (by omega)⟩
theorem jn_numbered {β : Bool} {d : Nat} {h : jx_H} {σ : mS} (hl : 49 ≤ h.length) {T : Int → Int} {n p : Int} (ht : tOK T n) (hP : rP σ T n p) (h0 : 0 ≤ p) (hp : p ≤ n) {s Q I : Int} (hs : 0 ≤ s ∧ s < 144) (e15 : σ 15 0 = Q) (e16 : σ 16 Q = I) (hQ : 0 ≤ Q ∧ Q < 12) (hI : 0 ≤ I ∧ I < 100) (e20 : σ 20 s = 0) : (∀ e, sNmb T n p = .inl e → ∃ τ : mS, jx_r (jz β) jw_M (d + 3) 243 (0, [some (.ref 15), some (.int (Int32.ofInt (s))), none, none, none, none], [], ml_mk h σ) (ml_mk h (τ), .inl none) ∧ τ 29 0 = -1 - e ∧ rdF σ τ (-1) (100 * Q + I) s) ∧ (∀ e q, sNmb T n p = .inr (e, q) → ∃ τ : mS, jx_r (jz β) jw_M (d + 3) 243 (0, [some (.ref 15), some (.int (Int32.ofInt (s))), none, none, none, none], [], ml_mk h σ) (ml_mk h (τ), .inl none) ∧ stpP σ τ T n Q I s q (σ 30 0) e) := by
  obtain ⟨s0, s1⟩ := id hs
  have hn160 := ht.2.1
  have pre : ∀ res, jx_r (jz β) jw_M (d + 3) 243 (15, [some (.ref 15), some (.int (Int32.ofInt (s))), some (.int (Int32.ofInt (0))), some (.int (Int32.ofInt (1))), none, none], [], ml_mk h σ) res → jx_r (jz β) jw_M (d + 3) 243 (0, [some (.ref 15), some (.int (Int32.ofInt (s))), none, none, none, none], [], ml_mk h σ) res := fun res kk => by
    refine jr_1 jm_243 (show jw_cd cd_243 0 = some (.iconst 0) by decide +kernel) rfl ?_
    refine jr_1 jm_243 (F2 := (2, [some (.ref 15), some (.int (Int32.ofInt (s))), some (.int (Int32.ofInt (0))), none, none, none], [], ml_mk h σ)) (show jw_cd cd_243 1 = some (.istore_n 2) by decide +kernel) rfl ?_
    refine jr_1 jm_243 (show jw_cd cd_243 2 = some (.iconst 1) by decide +kernel) rfl ?_
    refine jr_1 jm_243 (F2 := (4, [some (.ref 15), some (.int (Int32.ofInt (s))), some (.int (Int32.ofInt (0))), some (.int (Int32.ofInt (1))), none, none], [], ml_mk h σ)) (show jw_cd cd_243 3 = some (.istore_n 3) by decide +kernel) rfl ?_
    refine jr_1 jm_243 (show jw_cd cd_243 4 = some (.iload_n 3) by decide +kernel) rfl ?_
    refine jr_1 jm_243 (show jw_cd cd_243 5 = some (.ifCond .eq 124) by decide +kernel) (mz_f (q := .eq) (a := 1) (by show ¬ (1 = 0); omega) ⟨by omega, by omega⟩ (by decide)) ?_
    refine jr_1 jm_243 (show jw_cd cd_243 8 = some (.aload_n 0) by decide +kernel) rfl ?_
    refine jr_1 jm_243 (show jw_cd cd_243 9 = some (.getfield 148) by decide +kernel) (mg_i hl (e := 0) hP.2.2.2 (show jw_fld 34 148 16 = some 29 by decide +kernel) (by decide) (by decide)) ?_
    refine jr_1 jm_243 (show jw_cd cd_243 12 = some (.ifCond .ne 117) by decide +kernel) (mz_f (q := .ne) (a := 0) (by show ¬ (¬ (0 = 0)); omega) ⟨by omega, by omega⟩ (by decide)) ?_
    exact kk
  have er : ∀ (e : Int) (τ : mS), (0 ≤ e ∧ e ≤ n) → τ 29 0 = -1 - e → mr (-1 - e) ∧ ¬ (-1 - e) = 0 := fun e τ h _ => ⟨⟨by omega, by omega⟩, by omega⟩
  have hO := jn_nb_0 (β := β) (d := d) (h := h) (c4 := none) (c5 := none) hl ht hP h0 hp hs e20 ⟨by decide, by decide⟩
  have hR := sOpt_R (z := false) ht h0 hp
  unfold sNmb
  cases hs0 : sOpt T n p false with
  | inl e =>
    obtain ⟨τ, c, r1, r2, r3, r4, r5⟩ := hO.1 e hs0
    have hke := hR.1 e hs0
    refine ⟨fun e' he => ?_, fun a q he => (by cases he)⟩
    cases he
    have := er e τ ⟨by omega, hke.2⟩ r2
    exact ⟨τ, pre _ (r1 _ (jn_nx_0 hl hs r2 this.1 this.2 rfl ⟨r4, r5⟩)), r2, rdF_nb r3⟩
  | inr x =>
    obtain ⟨a, q⟩ := x
    obtain ⟨τ, c, r1, r2, r3, r4, r5, r6⟩ := hO.2 a q hs0
    obtain ⟨k1, k2, k3⟩ := hR.2 a q hs0
    dsimp only
    have hba := bit1_r a (k := 1) (by decide)
    rw [Int.zero_add] at r3
    by_cases h58 : tH T n q = 58
    · have hl1 := tH_lt ht (by omega) h58 (by decide)
      rw [if_pos h58]
      have hP1 : rP (su τ 28 0 (q + 1)) T n (q + 1) := rP_mv r2
      have g1 : ∀ res, jx_r (jz β) jw_M (d + 3) 243 (15, [some (.ref 15), some (.int (Int32.ofInt (s))), some (.int (Int32.ofInt (1))), some (.int (Int32.ofInt (1))), some (.int (Int32.ofInt (p))), c], [], ml_mk h (su τ 28 0 (q + 1))) res → jx_r (jz β) jw_M (d + 3) 243 (0, [some (.ref 15), some (.int (Int32.ofInt (s))), none, none, none, none], [], ml_mk h σ) res := fun res kk => pre _ (r1 _ (jn_ng_0 (d := d + 1) hl ht r2 (by omega) k2 h58 _ kk))
      have hF1 : nbF σ (su τ 28 0 (q + 1)) s := nbF_su r6 (by omega)
      have hO1 := jn_nb_1 (β := β) (d := d) (h := h) (b := bit1 a 1) (σ := su τ 28 0 (q + 1)) (c4 := some (.int (Int32.ofInt (p)))) (c5 := c) hl ht hP1 (by omega) hl1 hs (by rw [su_nf (by decide)]; exact r3) ⟨by omega, by omega⟩
      have hR1 := sOpt_R (T := T) (n := n) (p := q + 1) (z := false) ht (by omega) hl1
      cases hs1 : sOpt T n (q + 1) false with
      | inl e =>
        obtain ⟨τ2, c2, y1, y2, y3, y4, y5⟩ := hO1.1 e hs1
        have hke := hR1.1 e hs1
        refine ⟨fun e' he => ?_, fun a q he => (by cases he)⟩
        cases he
        have := er e τ2 ⟨by omega, hke.2⟩ y2
        exact ⟨τ2, g1 _ (y1 _ (jn_nx_1 hl hs y2 this.1 this.2 rfl ⟨y4, y5⟩)), y2, rdF_nb (nbF_trans hF1 y3)⟩
      | inr x =>
        obtain ⟨b, q2⟩ := x
        obtain ⟨τ2, c2, y1, y2, y3, y4, y5, y6⟩ := hO1.2 b q2 hs1
        obtain ⟨j1, j2, j3⟩ := hR1.2 b q2 hs1
        dsimp only
        have hbb := bit1_r b (k := 2) (by decide)
        have hF2 := nbF_trans hF1 y6
        have a2 : ∀ x, a = some x → τ2 21 (3 * s + 0) = x := fun x hx => by rw [y5 _ (by omega), su_nf (by decide)]; exact r4 x hx
        by_cases h58b : tH T n q2 = 58
        · have hl2 := tH_lt ht (by omega) h58b (by decide)
          rw [if_pos h58b]
          have hP2 : rP (su τ2 28 0 (q2 + 1)) T n (q2 + 1) := rP_mv y2
          have g2 : ∀ res, jx_r (jz β) jw_M (d + 3) 243 (15, [some (.ref 15), some (.int (Int32.ofInt (s))), some (.int (Int32.ofInt (2))), some (.int (Int32.ofInt (1))), some (.int (Int32.ofInt (q + 1))), c2], [], ml_mk h (su τ2 28 0 (q2 + 1))) res → jx_r (jz β) jw_M (d + 3) 243 (0, [some (.ref 15), some (.int (Int32.ofInt (s))), none, none, none, none], [], ml_mk h σ) res := fun res kk => g1 _ (y1 _ (jn_ng_1 (d := d + 1) hl ht y2 (by omega) j2 h58b _ kk))
          have hF3 : nbF σ (su τ2 28 0 (q2 + 1)) s := nbF_su hF2 (by omega)
          have hO2 := jn_nb_2 (β := β) (d := d) (h := h) (b := bit1 a 1 + bit1 b 2) (σ := su τ2 28 0 (q2 + 1)) (c4 := some (.int (Int32.ofInt (q + 1)))) (c5 := c2) hl ht hP2 (by omega) hl2 hs (by rw [su_nf (by decide)]; exact y3) ⟨by omega, by omega⟩
          have hR2 := sOpt_R (T := T) (n := n) (p := q2 + 1) (z := true) ht (by omega) hl2
          cases hs2 : sOpt T n (q2 + 1) true with
          | inl e =>
            obtain ⟨τ3, c3, z1, z2, z3, z4, z5⟩ := hO2.1 e hs2
            have hke := hR2.1 e hs2
            refine ⟨fun e' he => ?_, fun a q he => (by cases he)⟩
            cases he
            have := er e τ3 ⟨by omega, hke.2⟩ z2
            exact ⟨τ3, g2 _ (z1 _ (jn_nx_2 hl hs z2 this.1 this.2 rfl ⟨z4, z5⟩)), z2, rdF_nb (nbF_trans hF3 z3)⟩
          | inr x =>
            obtain ⟨cc, q3⟩ := x
            obtain ⟨τ3, c3, z1, z2, z3, z4, z5, z6⟩ := hO2.2 cc q3 hs2
            obtain ⟨i1, i2, i3⟩ := hR2.2 cc q3 hs2
            have hbc := bit1_r cc (k := 4) (by decide)
            have hF4 := nbF_trans hF3 z6
            have hz := jn_ne_2 (β := β) (d := d + 1) (h := h) (τ := τ3) (s := s) (p := q2 + 1) (Q := Q) (I := I) (c5 := c3) hl ht z2 (by omega) i2 hs (by rw [hF4.1 15 (by decide)]; exact e15) (by rw [hF4.1 16 (by decide)]; exact e16) hQ hI z3 ⟨by omega, by omega⟩
            have g3 : ∀ res, jx_r (jz β) jw_M (d + 3) 243 (129, [some (.ref 15), some (.int (Int32.ofInt (s))), some (.int (Int32.ofInt (2))), some (.int (Int32.ofInt (0))), some (.int (Int32.ofInt (q2 + 1))), c3], [], ml_mk h τ3) res → jx_r (jz β) jw_M (d + 3) 243 (0, [some (.ref 15), some (.int (Int32.ofInt (s))), none, none, none, none], [], ml_mk h σ) res := fun res kk => g2 _ (z1 _ (jn_ns_2 (d := d + 1) hl ht z2 (by omega) i2 _ kk))
            exact jn_nfin (β := β) (d := d) (h := h) hl ht z2 (by omega) i2 hs hQ hI (Or.inr rfl) k3 j3 i3 z3 (fun x hx => by rw [z5 _ (by omega), su_nf (by decide)]; exact a2 x hx) (fun x hx => by rw [z5 _ (by omega), su_nf (by decide)]; exact y4 x hx) z4 hF4 (P := fun τ => jx_r (jz β) jw_M (d + 3) 243 (0, [some (.ref 15), some (.int (Int32.ofInt (s))), none, none, none, none], [], ml_mk h σ) (ml_mk h (τ), .inl none)) (fun h => g3 _ (hz.1 h)) (fun h => g3 _ (hz.2 h))
        · rw [if_neg h58b]
          have hz := jn_ne_1 (β := β) (d := d + 1) (h := h) (τ := τ2) (s := s) (p := q + 1) (Q := Q) (I := I) (c5 := c2) hl ht y2 (by omega) j2 hs (by rw [hF2.1 15 (by decide)]; exact e15) (by rw [hF2.1 16 (by decide)]; exact e16) hQ hI y3 ⟨by omega, by omega⟩
          have g3 : ∀ res, jx_r (jz β) jw_M (d + 3) 243 (129, [some (.ref 15), some (.int (Int32.ofInt (s))), some (.int (Int32.ofInt (1))), some (.int (Int32.ofInt (0))), some (.int (Int32.ofInt (q + 1))), c2], [], ml_mk h τ2) res → jx_r (jz β) jw_M (d + 3) 243 (0, [some (.ref 15), some (.int (Int32.ofInt (s))), none, none, none, none], [], ml_mk h σ) res := fun res kk => g1 _ (y1 _ (jn_ns_1 (d := d + 1) hl ht y2 (by omega) j2 h58b _ kk))
          exact jn_nfin (β := β) (d := d) (h := h) hl ht y2 (by omega) j2 hs hQ hI (Or.inr rfl) k3 j3 (opO_n true) (by rw [y3]; show _ = _ + (0 : Int); omega) a2 y4 (fun x hx => (by cases hx)) hF2 (P := fun τ => jx_r (jz β) jw_M (d + 3) 243 (0, [some (.ref 15), some (.int (Int32.ofInt (s))), none, none, none, none], [], ml_mk h σ) (ml_mk h (τ), .inl none)) (fun h => g3 _ (hz.1 h)) (fun h => g3 _ (hz.2 h))
    · rw [if_neg h58]
      have g3 : ∀ res, jx_r (jz β) jw_M (d + 3) 243 (129, [some (.ref 15), some (.int (Int32.ofInt (s))), some (.int (Int32.ofInt (0))), some (.int (Int32.ofInt (0))), some (.int (Int32.ofInt (p))), c], [], ml_mk h τ) res → jx_r (jz β) jw_M (d + 3) 243 (0, [some (.ref 15), some (.int (Int32.ofInt (s))), none, none, none, none], [], ml_mk h σ) res := fun res kk => pre _ (r1 _ (jn_ns_0 (d := d + 1) hl ht r2 (by omega) k2 h58 _ kk))
      cases a with
      | none =>
        rw [if_pos rfl]
        refine ⟨fun e' he => ?_, fun a q he => (by cases he)⟩
        cases he
        exact ⟨su τ 29 0 (-1 - q), g3 _ (jn_nz_0 (d := d + 1) hl ht r2 (by omega) k2 hs r3 rfl), su_eq _ _ _ _, rdF_su (rdF_nb r6) (by omega)⟩
      | some x =>
        rw [if_neg (fun z => by cases z)]
        have hb1 : bit1 (some x) 1 = 1 := rfl
        have hz := jn_ne_0 (β := β) (d := d + 1) (h := h) (τ := τ) (s := s) (p := p) (Q := Q) (I := I) (c5 := c) hl ht r2 (by omega) k2 hs (by rw [r6.1 15 (by decide)]; exact e15) (by rw [r6.1 16 (by decide)]; exact e16) hQ hI r3 ⟨by omega, by omega⟩
        exact jn_nfin (β := β) (d := d) (h := h) hl ht r2 (by omega) k2 hs hQ hI (Or.inl ⟨rfl, x, rfl⟩) k3 (opO_n false) (opO_n true) (by rw [r3]; show _ = _ + (0 : Int) + (0 : Int); omega) r4 (fun x hx => (by cases hx)) (fun x hx => (by cases hx)) r6 (P := fun τ => jx_r (jz β) jw_M (d + 3) 243 (0, [some (.ref 15), some (.int (Int32.ofInt (s))), none, none, none, none], [], ml_mk h σ) (ml_mk h (τ), .inl none)) (fun h => g3 _ (hz.1 h)) (fun h => g3 _ (hz.2 h))
