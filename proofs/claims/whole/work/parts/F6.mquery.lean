/-! ===== query (printed by program: gen70.py) ===== -/
theorem jn_qe {β : Bool} {d : Nat} {h : jx_H} {τ : mS} (hl : 49 ≤ h.length) {Q J g e : Int} (e15 : τ 15 0 = Q) (e16 : τ 16 Q = J) (hQ : 0 ≤ Q ∧ Q < 12) (hJ : 0 ≤ J ∧ J < 100) (e29 : τ 29 0 = -1 - e) (he : 0 ≤ e ∧ e ≤ 160) : jx_r (jz β) jw_M (d + 2) 232 (100, [some (.ref 15), some (.int (Int32.ofInt (1))), some (.int (Int32.ofInt (g)))], [], ml_mk h τ) (ml_mk h (su (mAdd τ Q J 7 0 0) 2 0 0), .inl (some (.int (Int32.ofInt (-1 - e))))) := by
  have e29b : mAdd τ Q J 7 0 0 29 0 = -1 - e := by rw [(mAdd_F (s0 := 0)).2.2.2.2.2 29 (by decide)]; exact e29
  refine jr_1 jm_232 (show jw_cd cd_232 100 = some (.aload_n 0) by decide +kernel) rfl ?_
  refine jr_1 jm_232 (show jw_cd cd_232 101 = some (.bipush 7) by decide +kernel) (mt_bi (by decide)) ?_
  refine jr_1 jm_232 (F2 := (104, [some (.ref 15), some (.int (Int32.ofInt (1))), some (.int (Int32.ofInt (g)))], [.long (Int64.ofInt (0)), .int (Int32.ofInt (7)), .ref 15], ml_mk h τ)) (show jw_cd cd_232 103 = some (.lconst 0) by decide +kernel) rfl ?_
  refine jr_1 jm_232 (show jw_cd cd_232 104 = some (.iconst 0) by decide +kernel) rfl ?_
  refine jr_c jm_232 (show jw_cd cd_232 105 = some (.invokevirtual 233) by decide +kernel) (mc_v hl (n := 3) (m2 := 237) (bs := [.int (Int32.ofInt (7)), .long (Int64.ofInt (0)), .int (Int32.ofInt (0))]) (r := []) (show jw_find jw_cvT 34 233 = some (3, [(16, 237)]) by decide +kernel) (by decide) rfl rfl rfl) jm_237 ⟨Nat.le_of_ble_eq_true rfl, by decide⟩ (jn_add hl e15 e16 hQ hJ) ?_
  refine jr_1 jm_232 (show jw_cd cd_232 108 = some (.aload_n 0) by decide +kernel) rfl ?_
  refine jr_1 jm_232 (show jw_cd cd_232 109 = some (.getfield 148) by decide +kernel) (mg_i hl (e := -1 - e) e29b (show jw_fld 34 148 16 = some 29 by decide +kernel) (by decide) (by decide)) ?_
  refine jr_1 jm_232 (show jw_cd cd_232 112 = some (.ifCond .ne 16) by decide +kernel) (mz_t (q := .ne) (a := -1 - e) (t := 128) (by show ¬ (-1 - e = 0); omega) ⟨by omega, by omega⟩ (by decide) (by decide)) ?_
  refine jr_1 jm_232 (show jw_cd cd_232 128 = some (.iconst 0) by decide +kernel) rfl ?_
  refine jr_1 jm_232 (F2 := (130, [some (.ref 15), some (.int (Int32.ofInt (0))), some (.int (Int32.ofInt (g)))], [], ml_mk h (mAdd τ Q J 7 0 0))) (show jw_cd cd_232 129 = some (.istore_n 1) by decide +kernel) rfl ?_
  refine jr_1 jm_232 (show jw_cd cd_232 130 = some (.goto (-82)) by decide +kernel) (ju_go (t := 48) (by decide)) ?_
  refine jr_1 jm_232 (show jw_cd cd_232 48 = some (.iload_n 1) by decide +kernel) rfl ?_
  refine jr_1 jm_232 (show jw_cd cd_232 49 = some (.ifCond .eq 84) by decide +kernel) (mz_t (q := .eq) (a := 0) (t := 133) (by show 0 = 0; omega) ⟨by omega, by omega⟩ (by decide) (by decide)) ?_
  refine jr_1 jm_232 (show jw_cd cd_232 133 = some (.aload_n 0) by decide +kernel) rfl ?_
  refine jr_1 jm_232 (show jw_cd cd_232 134 = some (.getfield 148) by decide +kernel) (mg_i hl (e := -1 - e) e29b (show jw_fld 34 148 16 = some 29 by decide +kernel) (by decide) (by decide)) ?_
  refine jr_1 jm_232 (show jw_cd cd_232 137 = some (.ifCond .ne 22) by decide +kernel) (mz_t (q := .ne) (a := -1 - e) (t := 159) (by show ¬ (-1 - e = 0); omega) ⟨by omega, by omega⟩ (by decide) (by decide)) ?_
  refine jr_1 jm_232 (show jw_cd cd_232 159 = some (.aload_n 0) by decide +kernel) rfl ?_
  refine jr_1 jm_232 (show jw_cd cd_232 160 = some (.iconst 0) by decide +kernel) rfl ?_
  refine jr_1 jm_232 (show jw_cd cd_232 161 = some (.putfield 142) by decide +kernel) (mp_i hl (x := 0) (show jw_fld 34 142 16 = some 2 by decide +kernel) (by decide) (by decide) (show jw_ft 16 2 = some .int by decide +kernel) (show jw_fm 34 16 2 = some false by decide +kernel)) ?_
  refine jr_1 jm_232 (show jw_cd cd_232 164 = some (.aload_n 0) by decide +kernel) rfl ?_
  refine jr_1 jm_232 (show jw_cd cd_232 165 = some (.getfield 148) by decide +kernel) (mg_i hl (e := -1 - e) ((su_nf (by decide)).trans e29b) (show jw_fld 34 148 16 = some 29 by decide +kernel) (by decide) (by decide)) ?_
  refine jr_1 jm_232 (show jw_cd cd_232 168 = some (.ifCond .ge 8) by decide +kernel) (mz_f (q := .ge) (a := -1 - e) (by show ¬ (0 ≤ -1 - e); omega) ⟨by omega, by omega⟩ (by decide)) ?_
  refine jr_1 jm_232 (show jw_cd cd_232 171 = some (.aload_n 0) by decide +kernel) rfl ?_
  refine jr_1 jm_232 (show jw_cd cd_232 172 = some (.getfield 148) by decide +kernel) (mg_i hl (e := -1 - e) ((su_nf (by decide)).trans e29b) (show jw_fld 34 148 16 = some 29 by decide +kernel) (by decide) (by decide)) ?_
  exact jr_v jm_232 (show jw_cd cd_232 175 = some (.ireturn) by decide +kernel) rfl
theorem jn_qs {β : Bool} {d : Nat} {h : jx_H} {τ : mS} (hl : 49 ≤ h.length) {T : Int → Int} {n q : Int} (ht : tOK T n) (hP : rP τ T n q) (h0 : 0 ≤ q) (hp : q ≤ n) {Q J g : Int} (e15 : τ 15 0 = Q) (e16 : τ 16 Q = J) (hQ : 0 ≤ Q ∧ Q < 12) (hJ : 0 ≤ J ∧ J < 100) : (tH T n q = 124 → ∀ res, jx_r (jz β) jw_M (d + 2) 232 (59, [some (.ref 15), some (.int (Int32.ofInt (1))), some (.int (Int32.ofInt (g)))], [], ml_mk h (su (mAdd τ Q J 7 0 0) 28 0 (q + 1))) res → jx_r (jz β) jw_M (d + 2) 232 (100, [some (.ref 15), some (.int (Int32.ofInt (1))), some (.int (Int32.ofInt (g)))], [], ml_mk h τ) res) ∧ (¬ tH T n q = 124 → q < n → jx_r (jz β) jw_M (d + 2) 232 (100, [some (.ref 15), some (.int (Int32.ofInt (1))), some (.int (Int32.ofInt (g)))], [], ml_mk h τ) (ml_mk h (su (su (mAdd τ Q J 7 0 0) 29 0 (-1 - q)) 2 0 0), .inl (some (.int (Int32.ofInt (-1 - q)))))) ∧ (¬ tH T n q = 124 → ¬ q < n → jx_r (jz β) jw_M (d + 2) 232 (100, [some (.ref 15), some (.int (Int32.ofInt (1))), some (.int (Int32.ofInt (g)))], [], ml_mk h τ) (ml_mk h (su (su (mAdd τ Q J 7 0 0) 2 0 0) 15 0 (Q + 1)), .inl (some (.int (Int32.ofInt (Q)))))) := by
  have hn160 := ht.2.1
  obtain ⟨m1, m2, m3, m4, m5, m6⟩ := mAdd_F (σ := τ) (Q := Q) (I := J) (w := 7) (t := 0) (s := 0) (s0 := 0)
  obtain ⟨τ1, hτ1⟩ : ∃ τ1, τ1 = mAdd τ Q J 7 0 0 := ⟨_, rfl⟩
  have hP1 : rP τ1 T n q := by rw [hτ1]; exact rP_q hP (fun f hf => m6 f (by simp; omega)) (by rw [m6 28 (by decide)]) (by rw [m6 29 (by decide)])
  have e15b : τ1 15 0 = Q := by rw [hτ1, m6 15 (by decide)]; exact e15
  have hadd := jn_add (β := β) (d := d + 1) (h := h) (w := 7) (t := 0) (s := 0) hl e15 e16 hQ hJ
  rw [← hτ1] at hadd ⊢
  refine ⟨fun h124 res kk => ?_, fun h124 hq => ?_, fun h124 hq => ?_⟩
  · skip
    refine jr_1 jm_232 (show jw_cd cd_232 100 = some (.aload_n 0) by decide +kernel) rfl ?_
    refine jr_1 jm_232 (show jw_cd cd_232 101 = some (.bipush 7) by decide +kernel) (mt_bi (by decide)) ?_
    refine jr_1 jm_232 (F2 := (104, [some (.ref 15), some (.int (Int32.ofInt (1))), some (.int (Int32.ofInt (g)))], [.long (Int64.ofInt (0)), .int (Int32.ofInt (7)), .ref 15], ml_mk h τ)) (show jw_cd cd_232 103 = some (.lconst 0) by decide +kernel) rfl ?_
    refine jr_1 jm_232 (show jw_cd cd_232 104 = some (.iconst 0) by decide +kernel) rfl ?_
    refine jr_c jm_232 (show jw_cd cd_232 105 = some (.invokevirtual 233) by decide +kernel) (mc_v hl (n := 3) (m2 := 237) (bs := [.int (Int32.ofInt (7)), .long (Int64.ofInt (0)), .int (Int32.ofInt (0))]) (r := []) (show jw_find jw_cvT 34 233 = some (3, [(16, 237)]) by decide +kernel) (by decide) rfl rfl rfl) jm_237 ⟨Nat.le_of_ble_eq_true rfl, by decide⟩ hadd ?_
    refine jr_1 jm_232 (show jw_cd cd_232 108 = some (.aload_n 0) by decide +kernel) rfl ?_
    refine jr_1 jm_232 (show jw_cd cd_232 109 = some (.getfield 148) by decide +kernel) (mg_i hl (e := 0) hP1.2.2.2 (show jw_fld 34 148 16 = some 29 by decide +kernel) (by decide) (by decide)) ?_
    refine jr_1 jm_232 (show jw_cd cd_232 112 = some (.ifCond .ne 16) by decide +kernel) (mz_f (q := .ne) (a := 0) (by show ¬ (¬ (0 = 0)); omega) ⟨by omega, by omega⟩ (by decide)) ?_
    refine jr_1 jm_232 (show jw_cd cd_232 115 = some (.aload_n 0) by decide +kernel) rfl ?_
    refine jr_1 jm_232 (show jw_cd cd_232 116 = some (.bipush 124) by decide +kernel) (mt_bi (by decide)) ?_
    refine jr_c jm_232 (show jw_cd cd_232 118 = some (.invokevirtual 170) by decide +kernel) (mc_v hl (n := 1) (m2 := 226) (bs := [.int (Int32.ofInt (124))]) (r := []) (show jw_find jw_cvT 34 170 = some (1, [(16, 226)]) by decide +kernel) (by decide) rfl rfl rfl) jm_226 ⟨Nat.le_of_ble_eq_true rfl, by decide⟩ (jn_takT hl ht hP1 h0 hp ⟨by decide, by decide⟩ h124) ?_
    refine jr_1 jm_232 (show jw_cd cd_232 121 = some (.ifCond .eq 7) by decide +kernel) (mz_f (q := .eq) (a := 1) (by show ¬ (1 = 0); omega) ⟨by omega, by omega⟩ (by decide)) ?_
    refine jr_1 jm_232 (show jw_cd cd_232 124 = some (.iconst 1) by decide +kernel) rfl ?_
    refine jr_1 jm_232 (show jw_cd cd_232 125 = some (.goto 4) by decide +kernel) (ju_go (t := 129) (by decide)) ?_
    refine jr_1 jm_232 (F2 := (130, [some (.ref 15), some (.int (Int32.ofInt (1))), some (.int (Int32.ofInt (g)))], [], ml_mk h (su τ1 28 0 (q + 1)))) (show jw_cd cd_232 129 = some (.istore_n 1) by decide +kernel) rfl ?_
    refine jr_1 jm_232 (show jw_cd cd_232 130 = some (.goto (-82)) by decide +kernel) (ju_go (t := 48) (by decide)) ?_
    refine jr_1 jm_232 (show jw_cd cd_232 48 = some (.iload_n 1) by decide +kernel) rfl ?_
    refine jr_1 jm_232 (show jw_cd cd_232 49 = some (.ifCond .eq 84) by decide +kernel) (mz_f (q := .eq) (a := 1) (by show ¬ (1 = 0); omega) ⟨by omega, by omega⟩ (by decide)) ?_
    refine jr_1 jm_232 (show jw_cd cd_232 52 = some (.aload_n 0) by decide +kernel) rfl ?_
    refine jr_1 jm_232 (show jw_cd cd_232 53 = some (.getfield 148) by decide +kernel) (mg_i hl (e := 0) ((su_nf (by decide)).trans hP1.2.2.2) (show jw_fld 34 148 16 = some 29 by decide +kernel) (by decide) (by decide)) ?_
    refine jr_1 jm_232 (show jw_cd cd_232 56 = some (.ifCond .ne 77) by decide +kernel) (mz_f (q := .ne) (a := 0) (by show ¬ (¬ (0 = 0)); omega) ⟨by omega, by omega⟩ (by decide)) ?_
    exact kk
  · skip
    refine jr_1 jm_232 (show jw_cd cd_232 100 = some (.aload_n 0) by decide +kernel) rfl ?_
    refine jr_1 jm_232 (show jw_cd cd_232 101 = some (.bipush 7) by decide +kernel) (mt_bi (by decide)) ?_
    refine jr_1 jm_232 (F2 := (104, [some (.ref 15), some (.int (Int32.ofInt (1))), some (.int (Int32.ofInt (g)))], [.long (Int64.ofInt (0)), .int (Int32.ofInt (7)), .ref 15], ml_mk h τ)) (show jw_cd cd_232 103 = some (.lconst 0) by decide +kernel) rfl ?_
    refine jr_1 jm_232 (show jw_cd cd_232 104 = some (.iconst 0) by decide +kernel) rfl ?_
    refine jr_c jm_232 (show jw_cd cd_232 105 = some (.invokevirtual 233) by decide +kernel) (mc_v hl (n := 3) (m2 := 237) (bs := [.int (Int32.ofInt (7)), .long (Int64.ofInt (0)), .int (Int32.ofInt (0))]) (r := []) (show jw_find jw_cvT 34 233 = some (3, [(16, 237)]) by decide +kernel) (by decide) rfl rfl rfl) jm_237 ⟨Nat.le_of_ble_eq_true rfl, by decide⟩ hadd ?_
    refine jr_1 jm_232 (show jw_cd cd_232 108 = some (.aload_n 0) by decide +kernel) rfl ?_
    refine jr_1 jm_232 (show jw_cd cd_232 109 = some (.getfield 148) by decide +kernel) (mg_i hl (e := 0) hP1.2.2.2 (show jw_fld 34 148 16 = some 29 by decide +kernel) (by decide) (by decide)) ?_
    refine jr_1 jm_232 (show jw_cd cd_232 112 = some (.ifCond .ne 16) by decide +kernel) (mz_f (q := .ne) (a := 0) (by show ¬ (¬ (0 = 0)); omega) ⟨by omega, by omega⟩ (by decide)) ?_
    refine jr_1 jm_232 (show jw_cd cd_232 115 = some (.aload_n 0) by decide +kernel) rfl ?_
    refine jr_1 jm_232 (show jw_cd cd_232 116 = some (.bipush 124) by decide +kernel) (mt_bi (by decide)) ?_
    refine jr_c jm_232 (show jw_cd cd_232 118 = some (.invokevirtual 170) by decide +kernel) (mc_v hl (n := 1) (m2 := 226) (bs := [.int (Int32.ofInt (124))]) (r := []) (show jw_find jw_cvT 34 170 = some (1, [(16, 226)]) by decide +kernel) (by decide) rfl rfl rfl) jm_226 ⟨Nat.le_of_ble_eq_true rfl, by decide⟩ (jn_takF hl ht hP1 h0 hp ⟨by decide, by decide⟩ h124) ?_
    refine jr_1 jm_232 (show jw_cd cd_232 121 = some (.ifCond .eq 7) by decide +kernel) (mz_t (q := .eq) (a := 0) (t := 128) (by show 0 = 0; omega) ⟨by omega, by omega⟩ (by decide) (by decide)) ?_
    refine jr_1 jm_232 (show jw_cd cd_232 128 = some (.iconst 0) by decide +kernel) rfl ?_
    refine jr_1 jm_232 (F2 := (130, [some (.ref 15), some (.int (Int32.ofInt (0))), some (.int (Int32.ofInt (g)))], [], ml_mk h τ1)) (show jw_cd cd_232 129 = some (.istore_n 1) by decide +kernel) rfl ?_
    refine jr_1 jm_232 (show jw_cd cd_232 130 = some (.goto (-82)) by decide +kernel) (ju_go (t := 48) (by decide)) ?_
    refine jr_1 jm_232 (show jw_cd cd_232 48 = some (.iload_n 1) by decide +kernel) rfl ?_
    refine jr_1 jm_232 (show jw_cd cd_232 49 = some (.ifCond .eq 84) by decide +kernel) (mz_t (q := .eq) (a := 0) (t := 133) (by show 0 = 0; omega) ⟨by omega, by omega⟩ (by decide) (by decide)) ?_
    refine jr_1 jm_232 (show jw_cd cd_232 133 = some (.aload_n 0) by decide +kernel) rfl ?_
    refine jr_1 jm_232 (show jw_cd cd_232 134 = some (.getfield 148) by decide +kernel) (mg_i hl (e := 0) hP1.2.2.2 (show jw_fld 34 148 16 = some 29 by decide +kernel) (by decide) (by decide)) ?_
    refine jr_1 jm_232 (show jw_cd cd_232 137 = some (.ifCond .ne 22) by decide +kernel) (mz_f (q := .ne) (a := 0) (by show ¬ (¬ (0 = 0)); omega) ⟨by omega, by omega⟩ (by decide)) ?_
    refine jr_1 jm_232 (show jw_cd cd_232 140 = some (.aload_n 0) by decide +kernel) rfl ?_
    refine jr_1 jm_232 (show jw_cd cd_232 141 = some (.getfield 145) by decide +kernel) (mg_i hl (e := q) hP1.2.2.1 (show jw_fld 34 145 16 = some 28 by decide +kernel) (by decide) (by decide)) ?_
    refine jr_1 jm_232 (show jw_cd cd_232 144 = some (.aload_n 0) by decide +kernel) rfl ?_
    refine jr_1 jm_232 (show jw_cd cd_232 145 = some (.getfield 142) by decide +kernel) (mg_i hl (e := n) hP1.2.1 (show jw_fld 34 142 16 = some 2 by decide +kernel) (by decide) (by decide)) ?_
    refine jr_1 jm_232 (show jw_cd cd_232 148 = some (.if_icmp .ge 11) by decide +kernel) (mb_f (q := .ge) (a := q) (b := n) (by show ¬ (n ≤ q); omega) ⟨by omega, by omega⟩ ⟨by omega, by omega⟩ (by decide)) ?_
    refine jr_1 jm_232 (show jw_cd cd_232 151 = some (.aload_n 0) by decide +kernel) rfl ?_
    refine jr_1 jm_232 (show jw_cd cd_232 152 = some (.aload_n 0) by decide +kernel) rfl ?_
    refine jr_1 jm_232 (show jw_cd cd_232 153 = some (.getfield 145) by decide +kernel) (mg_i hl (e := q) hP1.2.2.1 (show jw_fld 34 145 16 = some 28 by decide +kernel) (by decide) (by decide)) ?_
    refine jr_c jm_232 (show jw_cd cd_232 156 = some (.invokevirtual 155) by decide +kernel) (mc_v hl (n := 1) (m2 := 216) (bs := [.int (Int32.ofInt (q))]) (r := []) (show jw_find jw_cvT 34 155 = some (1, [(16, 216)]) by decide +kernel) (by decide) rfl rfl rfl) jm_216 ⟨Nat.le_of_ble_eq_true rfl, by decide⟩ (jn_wrg hl hP1) ?_
    refine jr_1 jm_232 (show jw_cd cd_232 159 = some (.aload_n 0) by decide +kernel) rfl ?_
    refine jr_1 jm_232 (show jw_cd cd_232 160 = some (.iconst 0) by decide +kernel) rfl ?_
    refine jr_1 jm_232 (show jw_cd cd_232 161 = some (.putfield 142) by decide +kernel) (mp_i hl (x := 0) (show jw_fld 34 142 16 = some 2 by decide +kernel) (by decide) (by decide) (show jw_ft 16 2 = some .int by decide +kernel) (show jw_fm 34 16 2 = some false by decide +kernel)) ?_
    refine jr_1 jm_232 (show jw_cd cd_232 164 = some (.aload_n 0) by decide +kernel) rfl ?_
    refine jr_1 jm_232 (show jw_cd cd_232 165 = some (.getfield 148) by decide +kernel) (mg_i hl (e := -1 - q) ((su_nf (by decide)).trans (su_eq _ _ _ _)) (show jw_fld 34 148 16 = some 29 by decide +kernel) (by decide) (by decide)) ?_
    refine jr_1 jm_232 (show jw_cd cd_232 168 = some (.ifCond .ge 8) by decide +kernel) (mz_f (q := .ge) (a := -1 - q) (by show ¬ (0 ≤ -1 - q); omega) ⟨by omega, by omega⟩ (by decide)) ?_
    refine jr_1 jm_232 (show jw_cd cd_232 171 = some (.aload_n 0) by decide +kernel) rfl ?_
    refine jr_1 jm_232 (show jw_cd cd_232 172 = some (.getfield 148) by decide +kernel) (mg_i hl (e := -1 - q) ((su_nf (by decide)).trans (su_eq _ _ _ _)) (show jw_fld 34 148 16 = some 29 by decide +kernel) (by decide) (by decide)) ?_
    exact jr_v jm_232 (show jw_cd cd_232 175 = some (.ireturn) by decide +kernel) rfl
  · rw [show Q = Q + 1 - 1 by omega]
    rw [show Q + 1 - 1 + 1 = Q + 1 by omega]
    refine jr_1 jm_232 (show jw_cd cd_232 100 = some (.aload_n 0) by decide +kernel) rfl ?_
    refine jr_1 jm_232 (show jw_cd cd_232 101 = some (.bipush 7) by decide +kernel) (mt_bi (by decide)) ?_
    refine jr_1 jm_232 (F2 := (104, [some (.ref 15), some (.int (Int32.ofInt (1))), some (.int (Int32.ofInt (g)))], [.long (Int64.ofInt (0)), .int (Int32.ofInt (7)), .ref 15], ml_mk h τ)) (show jw_cd cd_232 103 = some (.lconst 0) by decide +kernel) rfl ?_
    refine jr_1 jm_232 (show jw_cd cd_232 104 = some (.iconst 0) by decide +kernel) rfl ?_
    refine jr_c jm_232 (show jw_cd cd_232 105 = some (.invokevirtual 233) by decide +kernel) (mc_v hl (n := 3) (m2 := 237) (bs := [.int (Int32.ofInt (7)), .long (Int64.ofInt (0)), .int (Int32.ofInt (0))]) (r := []) (show jw_find jw_cvT 34 233 = some (3, [(16, 237)]) by decide +kernel) (by decide) rfl rfl rfl) jm_237 ⟨Nat.le_of_ble_eq_true rfl, by decide⟩ hadd ?_
    refine jr_1 jm_232 (show jw_cd cd_232 108 = some (.aload_n 0) by decide +kernel) rfl ?_
    refine jr_1 jm_232 (show jw_cd cd_232 109 = some (.getfield 148) by decide +kernel) (mg_i hl (e := 0) hP1.2.2.2 (show jw_fld 34 148 16 = some 29 by decide +kernel) (by decide) (by decide)) ?_
    refine jr_1 jm_232 (show jw_cd cd_232 112 = some (.ifCond .ne 16) by decide +kernel) (mz_f (q := .ne) (a := 0) (by show ¬ (¬ (0 = 0)); omega) ⟨by omega, by omega⟩ (by decide)) ?_
    refine jr_1 jm_232 (show jw_cd cd_232 115 = some (.aload_n 0) by decide +kernel) rfl ?_
    refine jr_1 jm_232 (show jw_cd cd_232 116 = some (.bipush 124) by decide +kernel) (mt_bi (by decide)) ?_
    refine jr_c jm_232 (show jw_cd cd_232 118 = some (.invokevirtual 170) by decide +kernel) (mc_v hl (n := 1) (m2 := 226) (bs := [.int (Int32.ofInt (124))]) (r := []) (show jw_find jw_cvT 34 170 = some (1, [(16, 226)]) by decide +kernel) (by decide) rfl rfl rfl) jm_226 ⟨Nat.le_of_ble_eq_true rfl, by decide⟩ (jn_takF hl ht hP1 h0 hp ⟨by decide, by decide⟩ h124) ?_
    refine jr_1 jm_232 (show jw_cd cd_232 121 = some (.ifCond .eq 7) by decide +kernel) (mz_t (q := .eq) (a := 0) (t := 128) (by show 0 = 0; omega) ⟨by omega, by omega⟩ (by decide) (by decide)) ?_
    refine jr_1 jm_232 (show jw_cd cd_232 128 = some (.iconst 0) by decide +kernel) rfl ?_
    refine jr_1 jm_232 (F2 := (130, [some (.ref 15), some (.int (Int32.ofInt (0))), some (.int (Int32.ofInt (g)))], [], ml_mk h τ1)) (show jw_cd cd_232 129 = some (.istore_n 1) by decide +kernel) rfl ?_
    refine jr_1 jm_232 (show jw_cd cd_232 130 = some (.goto (-82)) by decide +kernel) (ju_go (t := 48) (by decide)) ?_
    refine jr_1 jm_232 (show jw_cd cd_232 48 = some (.iload_n 1) by decide +kernel) rfl ?_
    refine jr_1 jm_232 (show jw_cd cd_232 49 = some (.ifCond .eq 84) by decide +kernel) (mz_t (q := .eq) (a := 0) (t := 133) (by show 0 = 0; omega) ⟨by omega, by omega⟩ (by decide) (by decide)) ?_
    refine jr_1 jm_232 (show jw_cd cd_232 133 = some (.aload_n 0) by decide +kernel) rfl ?_
    refine jr_1 jm_232 (show jw_cd cd_232 134 = some (.getfield 148) by decide +kernel) (mg_i hl (e := 0) hP1.2.2.2 (show jw_fld 34 148 16 = some 29 by decide +kernel) (by decide) (by decide)) ?_
    refine jr_1 jm_232 (show jw_cd cd_232 137 = some (.ifCond .ne 22) by decide +kernel) (mz_f (q := .ne) (a := 0) (by show ¬ (¬ (0 = 0)); omega) ⟨by omega, by omega⟩ (by decide)) ?_
    refine jr_1 jm_232 (show jw_cd cd_232 140 = some (.aload_n 0) by decide +kernel) rfl ?_
    refine jr_1 jm_232 (show jw_cd cd_232 141 = some (.getfield 145) by decide +kernel) (mg_i hl (e := q) hP1.2.2.1 (show jw_fld 34 145 16 = some 28 by decide +kernel) (by decide) (by decide)) ?_
    refine jr_1 jm_232 (show jw_cd cd_232 144 = some (.aload_n 0) by decide +kernel) rfl ?_
    refine jr_1 jm_232 (show jw_cd cd_232 145 = some (.getfield 142) by decide +kernel) (mg_i hl (e := n) hP1.2.1 (show jw_fld 34 142 16 = some 2 by decide +kernel) (by decide) (by decide)) ?_
    refine jr_1 jm_232 (show jw_cd cd_232 148 = some (.if_icmp .ge 11) by decide +kernel) (mb_t (q := .ge) (a := q) (b := n) (t := 159) (by show n ≤ q; omega) ⟨by omega, by omega⟩ ⟨by omega, by omega⟩ (by decide) (by decide)) ?_
    refine jr_1 jm_232 (show jw_cd cd_232 159 = some (.aload_n 0) by decide +kernel) rfl ?_
    refine jr_1 jm_232 (show jw_cd cd_232 160 = some (.iconst 0) by decide +kernel) rfl ?_
    refine jr_1 jm_232 (show jw_cd cd_232 161 = some (.putfield 142) by decide +kernel) (mp_i hl (x := 0) (show jw_fld 34 142 16 = some 2 by decide +kernel) (by decide) (by decide) (show jw_ft 16 2 = some .int by decide +kernel) (show jw_fm 34 16 2 = some false by decide +kernel)) ?_
    refine jr_1 jm_232 (show jw_cd cd_232 164 = some (.aload_n 0) by decide +kernel) rfl ?_
    refine jr_1 jm_232 (show jw_cd cd_232 165 = some (.getfield 148) by decide +kernel) (mg_i hl (e := 0) ((su_nf (by decide)).trans hP1.2.2.2) (show jw_fld 34 148 16 = some 29 by decide +kernel) (by decide) (by decide)) ?_
    refine jr_1 jm_232 (show jw_cd cd_232 168 = some (.ifCond .ge 8) by decide +kernel) (mz_t (q := .ge) (a := 0) (t := 176) (by show 0 ≤ 0; omega) ⟨by omega, by omega⟩ (by decide) (by decide)) ?_
    refine jr_1 jm_232 (show jw_cd cd_232 176 = some (.aload_n 0) by decide +kernel) rfl ?_
    refine jr_1 jm_232 (show jw_cd cd_232 177 = some (.dup) by decide +kernel) rfl ?_
    refine jr_1 jm_232 (show jw_cd cd_232 178 = some (.getfield 219) by decide +kernel) (mg_i hl (e := Q) ((su_nf (by decide)).trans e15b) (show jw_fld 34 219 16 = some 15 by decide +kernel) (by decide) (by decide)) ?_
    refine jr_1 jm_232 (show jw_cd cd_232 181 = some (.iconst 1) by decide +kernel) rfl ?_
    refine jr_1 jm_232 (show jw_cd cd_232 182 = some (.iadd) by decide +kernel) (mt_add (c := Q + 1) rfl) ?_
    refine jr_1 jm_232 (show jw_cd cd_232 183 = some (.putfield 219) by decide +kernel) (mp_i hl (x := Q + 1) (show jw_fld 34 219 16 = some 15 by decide +kernel) (by decide) (by decide) (show jw_ft 16 15 = some .int by decide +kernel) (show jw_fm 34 16 15 = some false by decide +kernel)) ?_
    refine jr_1 jm_232 (show jw_cd cd_232 186 = some (.aload_n 0) by decide +kernel) rfl ?_
    refine jr_1 jm_232 (show jw_cd cd_232 187 = some (.getfield 219) by decide +kernel) (mg_i hl (e := Q + 1) (su_eq _ _ _ _) (show jw_fld 34 219 16 = some 15 by decide +kernel) (by decide) (by decide)) ?_
    refine jr_1 jm_232 (show jw_cd cd_232 190 = some (.iconst 1) by decide +kernel) rfl ?_
    refine jr_1 jm_232 (show jw_cd cd_232 191 = some (.isub) by decide +kernel) (mt_sub (c := Q + 1 - 1) rfl) ?_
    exact jr_v jm_232 (show jw_cd cd_232 192 = some (.ireturn) by decide +kernel) rfl
theorem jn_qu_in {β : Bool} {d : Nat} {h : jx_H} {σ0 : mS} (hl : 49 ≤ h.length) {T : Int → Int} {n Q I s0 k : Int} {kn : Nat} (ht : tOK T n) (hQ : 0 ≤ Q ∧ Q < 12) (hI : 0 ≤ I ∧ I ≤ k + 80) (hk : k = kn) (hs : s0 = 12 * Q + k) (h15 : σ0 15 0 = Q) : ∀ (f : Nat) (acc : List sE) (p : Int) (σ : mS), 13 ≤ f + kn + acc.length → kn + acc.length ≤ 12 → 0 ≤ p → p ≤ n → accP σ0 σ T n Q I s0 p k acc → (∀ e, sStp T n kn f acc p = .inl e → ∃ τ : mS, (∀ res, jx_r (jz β) jw_M (d + 8) 232 (100, [some (.ref 15), some (.int (Int32.ofInt (1))), some (.int (Int32.ofInt (1)))], [], ml_mk h τ) res → jx_r (jz β) jw_M (d + 8) 232 (64, [some (.ref 15), some (.int (Int32.ofInt (1))), some (.int (Int32.ofInt (1)))], [], ml_mk h σ) res) ∧ τ 29 0 = -1 - e ∧ rdF σ0 τ Q (100 * Q + I) s0 ∧ 0 ≤ τ 16 Q ∧ τ 16 Q ≤ 92) ∧ (∀ l q, sStp T n kn f acc p = .inr (l, q) → ∃ τ : mS, (∀ res, jx_r (jz β) jw_M (d + 8) 232 (100, [some (.ref 15), some (.int (Int32.ofInt (1))), some (.int (Int32.ofInt (1)))], [], ml_mk h τ) res → jx_r (jz β) jw_M (d + 8) 232 (64, [some (.ref 15), some (.int (Int32.ofInt (1))), some (.int (Int32.ofInt (1)))], [], ml_mk h σ) res) ∧ accP σ0 τ T n Q I s0 q k l)
  | 0, acc, p, σ, hf, ha, h0, hp, hA => absurd hf (by omega)
  | f + 1, acc, p, σ, hf, ha, h0, hp, hA => by
    have hn160 := ht.2.1
    have hh := tH_r (p := p) ht h0
    have hP := hA.1
    unfold sStp
    by_cases h1 : tH T n p = 46 ∨ tH T n p = 91
    · have hpl := hh.2.2.2 (by omega)
      rw [if_pos h1]
      have hB := jn_readNext (β := β) (d := d) (h := h) (σ := σ) (s := s0 + acc.length) (I := I + acc.length) (k := k + acc.length) (kn := kn + acc.length) hl ht hP h0 (by omega) (by rw [hA.2.2.2.2.1.1 15 (by decide)]; exact h15) hA.2.1 hA.2.2.2.2.2 hQ ⟨by omega, by omega⟩ (by omega) (by omega) (by omega)
      have hbR := sNxt_R (k := kn + acc.length) ht h0 (p := p) (by omega)
      cases hss : sNxt T n p (kn + acc.length) with
      | inl e =>
        obtain ⟨τ, r1, r2, r3⟩ := hB.1 e hss
        have hke := hbR.1 e hss
        refine ⟨fun e' he => ?_, fun a q he => (by cases he)⟩
        cases he
        have h16 : τ 16 Q = I + acc.length := by rw [r3.2.1 Q hQ.1 (by omega)]; exact hA.2.1
        refine ⟨τ, fun res kk => ?_, r2, rdF_trans hA.2.2.2.2.1 (rdF_w r3) (by omega) (by omega), by omega, by omega⟩
        by_cases h46 : tH T n p = 46
        · skip
          refine jr_1 jm_232 (show jw_cd cd_232 64 = some (.iload_n 2) by decide +kernel) rfl ?_
          refine jr_1 jm_232 (show jw_cd cd_232 65 = some (.ifCond .eq 35) by decide +kernel) (mz_f (q := .eq) (a := 1) (by show ¬ (1 = 0); omega) ⟨by omega, by omega⟩ (by decide)) ?_
          refine jr_1 jm_232 (show jw_cd cd_232 68 = some (.aload_n 0) by decide +kernel) rfl ?_
          refine jr_1 jm_232 (show jw_cd cd_232 69 = some (.getfield 148) by decide +kernel) (mg_i hl (e := 0) hP.2.2.2 (show jw_fld 34 148 16 = some 29 by decide +kernel) (by decide) (by decide)) ?_
          refine jr_1 jm_232 (show jw_cd cd_232 72 = some (.ifCond .ne 28) by decide +kernel) (mz_f (q := .ne) (a := 0) (by show ¬ (¬ (0 = 0)); omega) ⟨by omega, by omega⟩ (by decide)) ?_
          refine jr_1 jm_232 (show jw_cd cd_232 75 = some (.aload_n 0) by decide +kernel) rfl ?_
          refine jr_c jm_232 (show jw_cd cd_232 76 = some (.invokevirtual 151) by decide +kernel) (mc_v hl (n := 0) (m2 := 215) (bs := []) (r := []) (show jw_find jw_cvT 34 151 = some (0, [(16, 215)]) by decide +kernel) (by decide) rfl rfl rfl) jm_215 ⟨Nat.le_of_ble_eq_true rfl, by decide⟩ (jn_hr hl ht hP h0 hp) ?_
          refine jr_1 jm_232 (show jw_cd cd_232 79 = some (.bipush 46) by decide +kernel) (mt_bi (by decide)) ?_
          refine jr_1 jm_232 (show jw_cd cd_232 81 = some (.if_icmp .eq 12) by decide +kernel) (mb_t (q := .eq) (a := tH T n p) (b := 46) (t := 93) (by show tH T n p = 46; omega) ⟨by omega, by omega⟩ ⟨by omega, by omega⟩ (by decide) (by decide)) ?_
          refine jr_1 jm_232 (show jw_cd cd_232 93 = some (.aload_n 0) by decide +kernel) rfl ?_
          refine jr_c jm_232 (show jw_cd cd_232 94 = some (.invokevirtual 261) by decide +kernel) (mc_v hl (n := 0) (m2 := 244) (bs := []) (r := []) (show jw_find jw_cvT 34 261 = some (0, [(16, 244)]) by decide +kernel) (by decide) rfl rfl rfl) jm_244 ⟨Nat.le_of_ble_eq_true rfl, by decide⟩ r1 ?_
          refine jr_1 jm_232 (show jw_cd cd_232 97 = some (.goto (-33)) by decide +kernel) (ju_go (t := 64) (by decide)) ?_
          refine jr_1 jm_232 (show jw_cd cd_232 64 = some (.iload_n 2) by decide +kernel) rfl ?_
          refine jr_1 jm_232 (show jw_cd cd_232 65 = some (.ifCond .eq 35) by decide +kernel) (mz_f (q := .eq) (a := 1) (by show ¬ (1 = 0); omega) ⟨by omega, by omega⟩ (by decide)) ?_
          refine jr_1 jm_232 (show jw_cd cd_232 68 = some (.aload_n 0) by decide +kernel) rfl ?_
          refine jr_1 jm_232 (show jw_cd cd_232 69 = some (.getfield 148) by decide +kernel) (mg_i hl (e := -1 - e) r2 (show jw_fld 34 148 16 = some 29 by decide +kernel) (by decide) (by decide)) ?_
          refine jr_1 jm_232 (show jw_cd cd_232 72 = some (.ifCond .ne 28) by decide +kernel) (mz_t (q := .ne) (a := -1 - e) (t := 100) (by show ¬ (-1 - e = 0); omega) ⟨by omega, by omega⟩ (by decide) (by decide)) ?_
          exact kk
        · skip
          refine jr_1 jm_232 (show jw_cd cd_232 64 = some (.iload_n 2) by decide +kernel) rfl ?_
          refine jr_1 jm_232 (show jw_cd cd_232 65 = some (.ifCond .eq 35) by decide +kernel) (mz_f (q := .eq) (a := 1) (by show ¬ (1 = 0); omega) ⟨by omega, by omega⟩ (by decide)) ?_
          refine jr_1 jm_232 (show jw_cd cd_232 68 = some (.aload_n 0) by decide +kernel) rfl ?_
          refine jr_1 jm_232 (show jw_cd cd_232 69 = some (.getfield 148) by decide +kernel) (mg_i hl (e := 0) hP.2.2.2 (show jw_fld 34 148 16 = some 29 by decide +kernel) (by decide) (by decide)) ?_
          refine jr_1 jm_232 (show jw_cd cd_232 72 = some (.ifCond .ne 28) by decide +kernel) (mz_f (q := .ne) (a := 0) (by show ¬ (¬ (0 = 0)); omega) ⟨by omega, by omega⟩ (by decide)) ?_
          refine jr_1 jm_232 (show jw_cd cd_232 75 = some (.aload_n 0) by decide +kernel) rfl ?_
          refine jr_c jm_232 (show jw_cd cd_232 76 = some (.invokevirtual 151) by decide +kernel) (mc_v hl (n := 0) (m2 := 215) (bs := []) (r := []) (show jw_find jw_cvT 34 151 = some (0, [(16, 215)]) by decide +kernel) (by decide) rfl rfl rfl) jm_215 ⟨Nat.le_of_ble_eq_true rfl, by decide⟩ (jn_hr hl ht hP h0 hp) ?_
          refine jr_1 jm_232 (show jw_cd cd_232 79 = some (.bipush 46) by decide +kernel) (mt_bi (by decide)) ?_
          refine jr_1 jm_232 (show jw_cd cd_232 81 = some (.if_icmp .eq 12) by decide +kernel) (mb_f (q := .eq) (a := tH T n p) (b := 46) (by show ¬ (tH T n p = 46); omega) ⟨by omega, by omega⟩ ⟨by omega, by omega⟩ (by decide)) ?_
          refine jr_1 jm_232 (show jw_cd cd_232 84 = some (.aload_n 0) by decide +kernel) rfl ?_
          refine jr_c jm_232 (show jw_cd cd_232 85 = some (.invokevirtual 151) by decide +kernel) (mc_v hl (n := 0) (m2 := 215) (bs := []) (r := []) (show jw_find jw_cvT 34 151 = some (0, [(16, 215)]) by decide +kernel) (by decide) rfl rfl rfl) jm_215 ⟨Nat.le_of_ble_eq_true rfl, by decide⟩ (jn_hr hl ht hP h0 hp) ?_
          refine jr_1 jm_232 (show jw_cd cd_232 88 = some (.bipush 91) by decide +kernel) (mt_bi (by decide)) ?_
          refine jr_1 jm_232 (show jw_cd cd_232 90 = some (.if_icmp .ne 10) by decide +kernel) (mb_f (q := .ne) (a := tH T n p) (b := 91) (by show ¬ (¬ (tH T n p = 91)); omega) ⟨by omega, by omega⟩ ⟨by omega, by omega⟩ (by decide)) ?_
          refine jr_1 jm_232 (show jw_cd cd_232 93 = some (.aload_n 0) by decide +kernel) rfl ?_
          refine jr_c jm_232 (show jw_cd cd_232 94 = some (.invokevirtual 261) by decide +kernel) (mc_v hl (n := 0) (m2 := 244) (bs := []) (r := []) (show jw_find jw_cvT 34 261 = some (0, [(16, 244)]) by decide +kernel) (by decide) rfl rfl rfl) jm_244 ⟨Nat.le_of_ble_eq_true rfl, by decide⟩ r1 ?_
          refine jr_1 jm_232 (show jw_cd cd_232 97 = some (.goto (-33)) by decide +kernel) (ju_go (t := 64) (by decide)) ?_
          refine jr_1 jm_232 (show jw_cd cd_232 64 = some (.iload_n 2) by decide +kernel) rfl ?_
          refine jr_1 jm_232 (show jw_cd cd_232 65 = some (.ifCond .eq 35) by decide +kernel) (mz_f (q := .eq) (a := 1) (by show ¬ (1 = 0); omega) ⟨by omega, by omega⟩ (by decide)) ?_
          refine jr_1 jm_232 (show jw_cd cd_232 68 = some (.aload_n 0) by decide +kernel) rfl ?_
          refine jr_1 jm_232 (show jw_cd cd_232 69 = some (.getfield 148) by decide +kernel) (mg_i hl (e := -1 - e) r2 (show jw_fld 34 148 16 = some 29 by decide +kernel) (by decide) (by decide)) ?_
          refine jr_1 jm_232 (show jw_cd cd_232 72 = some (.ifCond .ne 28) by decide +kernel) (mz_t (q := .ne) (a := -1 - e) (t := 100) (by show ¬ (-1 - e = 0); omega) ⟨by omega, by omega⟩ (by decide) (by decide)) ?_
          exact kk
      | inr x =>
        obtain ⟨e, q⟩ := x
        obtain ⟨τ, r1, r2⟩ := hB.2 e q hss
        obtain ⟨b1, b2, b3⟩ := hbR.2 e q hss
        have hA2 := acc_step hA r2
        have hnk := sNxt_k hss
        have hln : (acc ++ [e]).length = acc.length + 1 := by rw [List.length_append]; rfl
        have ih := jn_qu_in (β := β) (d := d) (h := h) hl ht hQ hI hk hs h15 f (acc ++ [e]) q τ (by omega) (by omega) (by omega) b2 hA2
        have hpre : ∀ res, jx_r (jz β) jw_M (d + 8) 232 (64, [some (.ref 15), some (.int (Int32.ofInt (1))), some (.int (Int32.ofInt (1)))], [], ml_mk h τ) res → jx_r (jz β) jw_M (d + 8) 232 (64, [some (.ref 15), some (.int (Int32.ofInt (1))), some (.int (Int32.ofInt (1)))], [], ml_mk h σ) res := fun res kk => by
          by_cases h46 : tH T n p = 46
          · skip
            refine jr_1 jm_232 (show jw_cd cd_232 64 = some (.iload_n 2) by decide +kernel) rfl ?_
            refine jr_1 jm_232 (show jw_cd cd_232 65 = some (.ifCond .eq 35) by decide +kernel) (mz_f (q := .eq) (a := 1) (by show ¬ (1 = 0); omega) ⟨by omega, by omega⟩ (by decide)) ?_
            refine jr_1 jm_232 (show jw_cd cd_232 68 = some (.aload_n 0) by decide +kernel) rfl ?_
            refine jr_1 jm_232 (show jw_cd cd_232 69 = some (.getfield 148) by decide +kernel) (mg_i hl (e := 0) hP.2.2.2 (show jw_fld 34 148 16 = some 29 by decide +kernel) (by decide) (by decide)) ?_
            refine jr_1 jm_232 (show jw_cd cd_232 72 = some (.ifCond .ne 28) by decide +kernel) (mz_f (q := .ne) (a := 0) (by show ¬ (¬ (0 = 0)); omega) ⟨by omega, by omega⟩ (by decide)) ?_
            refine jr_1 jm_232 (show jw_cd cd_232 75 = some (.aload_n 0) by decide +kernel) rfl ?_
            refine jr_c jm_232 (show jw_cd cd_232 76 = some (.invokevirtual 151) by decide +kernel) (mc_v hl (n := 0) (m2 := 215) (bs := []) (r := []) (show jw_find jw_cvT 34 151 = some (0, [(16, 215)]) by decide +kernel) (by decide) rfl rfl rfl) jm_215 ⟨Nat.le_of_ble_eq_true rfl, by decide⟩ (jn_hr hl ht hP h0 hp) ?_
            refine jr_1 jm_232 (show jw_cd cd_232 79 = some (.bipush 46) by decide +kernel) (mt_bi (by decide)) ?_
            refine jr_1 jm_232 (show jw_cd cd_232 81 = some (.if_icmp .eq 12) by decide +kernel) (mb_t (q := .eq) (a := tH T n p) (b := 46) (t := 93) (by show tH T n p = 46; omega) ⟨by omega, by omega⟩ ⟨by omega, by omega⟩ (by decide) (by decide)) ?_
            refine jr_1 jm_232 (show jw_cd cd_232 93 = some (.aload_n 0) by decide +kernel) rfl ?_
            refine jr_c jm_232 (show jw_cd cd_232 94 = some (.invokevirtual 261) by decide +kernel) (mc_v hl (n := 0) (m2 := 244) (bs := []) (r := []) (show jw_find jw_cvT 34 261 = some (0, [(16, 244)]) by decide +kernel) (by decide) rfl rfl rfl) jm_244 ⟨Nat.le_of_ble_eq_true rfl, by decide⟩ r1 ?_
            refine jr_1 jm_232 (show jw_cd cd_232 97 = some (.goto (-33)) by decide +kernel) (ju_go (t := 64) (by decide)) ?_
            exact kk
          · skip
            refine jr_1 jm_232 (show jw_cd cd_232 64 = some (.iload_n 2) by decide +kernel) rfl ?_
            refine jr_1 jm_232 (show jw_cd cd_232 65 = some (.ifCond .eq 35) by decide +kernel) (mz_f (q := .eq) (a := 1) (by show ¬ (1 = 0); omega) ⟨by omega, by omega⟩ (by decide)) ?_
            refine jr_1 jm_232 (show jw_cd cd_232 68 = some (.aload_n 0) by decide +kernel) rfl ?_
            refine jr_1 jm_232 (show jw_cd cd_232 69 = some (.getfield 148) by decide +kernel) (mg_i hl (e := 0) hP.2.2.2 (show jw_fld 34 148 16 = some 29 by decide +kernel) (by decide) (by decide)) ?_
            refine jr_1 jm_232 (show jw_cd cd_232 72 = some (.ifCond .ne 28) by decide +kernel) (mz_f (q := .ne) (a := 0) (by show ¬ (¬ (0 = 0)); omega) ⟨by omega, by omega⟩ (by decide)) ?_
            refine jr_1 jm_232 (show jw_cd cd_232 75 = some (.aload_n 0) by decide +kernel) rfl ?_
            refine jr_c jm_232 (show jw_cd cd_232 76 = some (.invokevirtual 151) by decide +kernel) (mc_v hl (n := 0) (m2 := 215) (bs := []) (r := []) (show jw_find jw_cvT 34 151 = some (0, [(16, 215)]) by decide +kernel) (by decide) rfl rfl rfl) jm_215 ⟨Nat.le_of_ble_eq_true rfl, by decide⟩ (jn_hr hl ht hP h0 hp) ?_
            refine jr_1 jm_232 (show jw_cd cd_232 79 = some (.bipush 46) by decide +kernel) (mt_bi (by decide)) ?_
            refine jr_1 jm_232 (show jw_cd cd_232 81 = some (.if_icmp .eq 12) by decide +kernel) (mb_f (q := .eq) (a := tH T n p) (b := 46) (by show ¬ (tH T n p = 46); omega) ⟨by omega, by omega⟩ ⟨by omega, by omega⟩ (by decide)) ?_
            refine jr_1 jm_232 (show jw_cd cd_232 84 = some (.aload_n 0) by decide +kernel) rfl ?_
            refine jr_c jm_232 (show jw_cd cd_232 85 = some (.invokevirtual 151) by decide +kernel) (mc_v hl (n := 0) (m2 := 215) (bs := []) (r := []) (show jw_find jw_cvT 34 151 = some (0, [(16, 215)]) by decide +kernel) (by decide) rfl rfl rfl) jm_215 ⟨Nat.le_of_ble_eq_true rfl, by decide⟩ (jn_hr hl ht hP h0 hp) ?_
            refine jr_1 jm_232 (show jw_cd cd_232 88 = some (.bipush 91) by decide +kernel) (mt_bi (by decide)) ?_
            refine jr_1 jm_232 (show jw_cd cd_232 90 = some (.if_icmp .ne 10) by decide +kernel) (mb_f (q := .ne) (a := tH T n p) (b := 91) (by show ¬ (¬ (tH T n p = 91)); omega) ⟨by omega, by omega⟩ ⟨by omega, by omega⟩ (by decide)) ?_
            refine jr_1 jm_232 (show jw_cd cd_232 93 = some (.aload_n 0) by decide +kernel) rfl ?_
            refine jr_c jm_232 (show jw_cd cd_232 94 = some (.invokevirtual 261) by decide +kernel) (mc_v hl (n := 0) (m2 := 244) (bs := []) (r := []) (show jw_find jw_cvT 34 261 = some (0, [(16, 244)]) by decide +kernel) (by decide) rfl rfl rfl) jm_244 ⟨Nat.le_of_ble_eq_true rfl, by decide⟩ r1 ?_
            refine jr_1 jm_232 (show jw_cd cd_232 97 = some (.goto (-33)) by decide +kernel) (ju_go (t := 64) (by decide)) ?_
            exact kk
        refine ⟨fun e' he => ?_, fun l q' he => ?_⟩
        · obtain ⟨τ', y1, y2⟩ := ih.1 e' he
          exact ⟨τ', fun res kk => hpre _ (y1 _ kk), y2⟩
        · obtain ⟨τ', y1, y2⟩ := ih.2 l q' he
          exact ⟨τ', fun res kk => hpre _ (y1 _ kk), y2⟩
    · rw [if_neg h1]
      refine ⟨fun e' he => (by cases he), fun l q' he => ?_⟩
      cases he
      refine ⟨σ, fun res kk => ?_, hA⟩
      refine jr_1 jm_232 (show jw_cd cd_232 64 = some (.iload_n 2) by decide +kernel) rfl ?_
      refine jr_1 jm_232 (show jw_cd cd_232 65 = some (.ifCond .eq 35) by decide +kernel) (mz_f (q := .eq) (a := 1) (by show ¬ (1 = 0); omega) ⟨by omega, by omega⟩ (by decide)) ?_
      refine jr_1 jm_232 (show jw_cd cd_232 68 = some (.aload_n 0) by decide +kernel) rfl ?_
      refine jr_1 jm_232 (show jw_cd cd_232 69 = some (.getfield 148) by decide +kernel) (mg_i hl (e := 0) hP.2.2.2 (show jw_fld 34 148 16 = some 29 by decide +kernel) (by decide) (by decide)) ?_
      refine jr_1 jm_232 (show jw_cd cd_232 72 = some (.ifCond .ne 28) by decide +kernel) (mz_f (q := .ne) (a := 0) (by show ¬ (¬ (0 = 0)); omega) ⟨by omega, by omega⟩ (by decide)) ?_
      refine jr_1 jm_232 (show jw_cd cd_232 75 = some (.aload_n 0) by decide +kernel) rfl ?_
      refine jr_c jm_232 (show jw_cd cd_232 76 = some (.invokevirtual 151) by decide +kernel) (mc_v hl (n := 0) (m2 := 215) (bs := []) (r := []) (show jw_find jw_cvT 34 151 = some (0, [(16, 215)]) by decide +kernel) (by decide) rfl rfl rfl) jm_215 ⟨Nat.le_of_ble_eq_true rfl, by decide⟩ (jn_hr hl ht hP h0 hp) ?_
      refine jr_1 jm_232 (show jw_cd cd_232 79 = some (.bipush 46) by decide +kernel) (mt_bi (by decide)) ?_
      refine jr_1 jm_232 (show jw_cd cd_232 81 = some (.if_icmp .eq 12) by decide +kernel) (mb_f (q := .eq) (a := tH T n p) (b := 46) (by show ¬ (tH T n p = 46); omega) ⟨by omega, by omega⟩ ⟨by omega, by omega⟩ (by decide)) ?_
      refine jr_1 jm_232 (show jw_cd cd_232 84 = some (.aload_n 0) by decide +kernel) rfl ?_
      refine jr_c jm_232 (show jw_cd cd_232 85 = some (.invokevirtual 151) by decide +kernel) (mc_v hl (n := 0) (m2 := 215) (bs := []) (r := []) (show jw_find jw_cvT 34 151 = some (0, [(16, 215)]) by decide +kernel) (by decide) rfl rfl rfl) jm_215 ⟨Nat.le_of_ble_eq_true rfl, by decide⟩ (jn_hr hl ht hP h0 hp) ?_
      refine jr_1 jm_232 (show jw_cd cd_232 88 = some (.bipush 91) by decide +kernel) (mt_bi (by decide)) ?_
      refine jr_1 jm_232 (show jw_cd cd_232 90 = some (.if_icmp .ne 10) by decide +kernel) (mb_t (q := .ne) (a := tH T n p) (b := 91) (t := 100) (by show ¬ (tH T n p = 91); omega) ⟨by omega, by omega⟩ ⟨by omega, by omega⟩ (by decide) (by decide)) ?_
      exact kk
