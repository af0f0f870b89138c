/-! ===== the model reads a value: the pieces of its loop (printed by program: gen30.py) ===== -/
theorem jr_over5 {β : Bool} {d : Nat} {h : jx_H} {σ : mS} (hl : 49 ≤ h.length) {T : Int → Int} {n p : Int} (ht : tOK T n) (e1 : σ 1 = T) (e2 : σ 2 0 = n) (e28 : σ 28 0 = p) (h0 : 0 ≤ p) (hp : p ≤ n) (he0 : σ 29 0 = 0) {dp : Int} (hd : -1 ≤ dp ∧ dp ≤ 3) {c2 c4 : Option Value} (hc : tH T n p = 91) (h3 : dp = 3) : jx_r (jz β) jw_M (d + 6) 214 (6, [some (.ref 15), some (.int (Int32.ofInt (dp))), c2, some (.int (Int32.ofInt (-1))), c4], [], ml_mk h σ) (ml_mk h (mWrong σ p), .inl (some (.int (Int32.ofInt (-1))))) := by
  have hh := tH_r (p := p) ht h0
  obtain ⟨d0, d1⟩ := hd
  refine jr_1 jm_214 (show jw_cd cd_214 6 = some (.aload_n 0) by decide +kernel) rfl ?_
  refine jr_1 jm_214 (show jw_cd cd_214 7 = some (.getfield 148) by decide +kernel) (mg_i hl (e := 0) he0 (show jw_fld 34 148 16 = some 29 by decide +kernel) (by decide) (by decide)) ?_
  refine jr_1 jm_214 (show jw_cd cd_214 10 = some (.ifCond .ne 240) by decide +kernel) (mz_f (q := .ne) (a := 0) (by show ¬ (¬ (0 = 0)); omega) ⟨by omega, by omega⟩ (by decide)) ?_
  refine jr_1 jm_214 (show jw_cd cd_214 13 = some (.iload_n 3) by decide +kernel) rfl ?_
  refine jr_1 jm_214 (show jw_cd cd_214 14 = some (.iconst (-1)) by decide +kernel) rfl ?_
  refine jr_1 jm_214 (show jw_cd cd_214 15 = some (.if_icmp .ne 235) by decide +kernel) (mb_f (q := .ne) (a := -1) (b := -1) (by show ¬ (¬ (-1 = -1)); omega) ⟨by omega, by omega⟩ ⟨by omega, by omega⟩ (by decide)) ?_
  refine jr_1 jm_214 (show jw_cd cd_214 18 = some (.iconst (-1)) by decide +kernel) rfl ?_
  refine jr_1 jm_214 (F2 := (20, [some (.ref 15), some (.int (Int32.ofInt (dp))), some (.int (Int32.ofInt (-1))), some (.int (Int32.ofInt (-1))), c4], [], ml_mk h σ)) (show jw_cd cd_214 19 = some (.istore_n 2) by decide +kernel) rfl ?_
  refine jr_1 jm_214 (show jw_cd cd_214 20 = some (.aload_n 0) by decide +kernel) rfl ?_
  refine jr_c jm_214 (show jw_cd cd_214 21 = some (.invokevirtual 151) by decide +kernel) (mc_v hl (n := 0) (m2 := 215) (bs := []) (r := []) (show jw_find jw_cvT 34 151 = some (0, [(16, 215)]) by decide +kernel) (by decide) rfl rfl rfl) jm_215 ⟨Nat.le_of_ble_eq_true rfl, by decide⟩ (jn_hereP hl ht (T := T) (n := n) (p := p) (rfl.trans e1) (rfl.trans e2) (e28.trans rfl) (by omega) (by omega)) ?_
  refine jr_1 jm_214 (show jw_cd cd_214 24 = some (.bipush 91) by decide +kernel) (mt_bi (by decide)) ?_
  refine jr_1 jm_214 (show jw_cd cd_214 26 = some (.if_icmp .eq 12) by decide +kernel) (mb_t (q := .eq) (a := tH T n (p)) (b := 91) (t := 38) hc ⟨by omega, by omega⟩ ⟨by omega, by omega⟩ (by decide) (by decide)) ?_
  refine jr_1 jm_214 (show jw_cd cd_214 38 = some (.iload_n 1) by decide +kernel) rfl ?_
  refine jr_1 jm_214 (show jw_cd cd_214 39 = some (.iconst 3) by decide +kernel) rfl ?_
  refine jr_1 jm_214 (show jw_cd cd_214 40 = some (.if_icmp .ne 13) by decide +kernel) (mb_f (q := .ne) (a := dp) (b := 3) (by show ¬ (¬ (dp = 3)); omega) ⟨by omega, by omega⟩ ⟨by omega, by omega⟩ (by decide)) ?_
  refine jr_1 jm_214 (show jw_cd cd_214 43 = some (.aload_n 0) by decide +kernel) rfl ?_
  refine jr_1 jm_214 (show jw_cd cd_214 44 = some (.aload_n 0) by decide +kernel) rfl ?_
  refine jr_1 jm_214 (show jw_cd cd_214 45 = some (.getfield 145) by decide +kernel) (mg_i hl (e := p) e28 (show jw_fld 34 145 16 = some 28 by decide +kernel) (by decide) (by decide)) ?_
  refine jr_c jm_214 (show jw_cd cd_214 48 = some (.invokevirtual 155) by decide +kernel) (mc_v hl (n := 1) (m2 := 216) (bs := [.int (Int32.ofInt (p))]) (r := []) (show jw_find jw_cvT 34 155 = some (1, [(16, 216)]) by decide +kernel) (by decide) rfl rfl rfl) jm_216 ⟨Nat.le_of_ble_eq_true rfl, by decide⟩ (jn_wrong hl (by rw [he0]; exact ⟨by decide, by decide⟩)) ?_
  refine jr_1 jm_214 (show jw_cd cd_214 51 = some (.iconst (-1)) by decide +kernel) rfl ?_
  exact jr_v jm_214 (show jw_cd cd_214 52 = some (.ireturn) by decide +kernel) rfl
theorem jr_open5 {β : Bool} {d : Nat} {h : jx_H} {σ : mS} (hl : 49 ≤ h.length) {T : Int → Int} {n p : Int} (ht : tOK T n) (e1 : σ 1 = T) (e2 : σ 2 0 = n) (e28 : σ 28 0 = p) (h0 : 0 ≤ p) (hp : p ≤ n) (he0 : σ 29 0 = 0) {dp : Int} (hd : -1 ≤ dp ∧ dp ≤ 3) {c2 c4 : Option Value} {nn : Int} (e11 : σ 11 4 = nn) (hn0 : 0 ≤ nn) (hn1 : nn < 1000) (hc : tH T n p = 91) (h3 : dp < 3) : ∀ res, jx_r (jz β) jw_M (d + 6) 214 (105, [some (.ref 15), some (.int (Int32.ofInt (dp + 1))), some (.int (Int32.ofInt (-1))), some (.int (Int32.ofInt (-1))), some (.int (Int32.ofInt (170 * 4 + nn)))], [], ml_mk h (su (su (su (mNode σ 4 5 0 0) 28 (0) (p + 1)) 33 (dp + 1) (170 * 4 + nn)) 34 (dp + 1) (-1))) res → jx_r (jz β) jw_M (d + 6) 214 (6, [some (.ref 15), some (.int (Int32.ofInt (dp))), c2, some (.int (Int32.ofInt (-1))), c4], [], ml_mk h σ) res := by
  have hh := tH_r (p := p) ht h0
  obtain ⟨d0, d1⟩ := hd
  intro res kk
  refine jr_1 jm_214 (show jw_cd cd_214 6 = some (.aload_n 0) by decide +kernel) rfl ?_
  refine jr_1 jm_214 (show jw_cd cd_214 7 = some (.getfield 148) by decide +kernel) (mg_i hl (e := 0) he0 (show jw_fld 34 148 16 = some 29 by decide +kernel) (by decide) (by decide)) ?_
  refine jr_1 jm_214 (show jw_cd cd_214 10 = some (.ifCond .ne 240) by decide +kernel) (mz_f (q := .ne) (a := 0) (by show ¬ (¬ (0 = 0)); omega) ⟨by omega, by omega⟩ (by decide)) ?_
  refine jr_1 jm_214 (show jw_cd cd_214 13 = some (.iload_n 3) by decide +kernel) rfl ?_
  refine jr_1 jm_214 (show jw_cd cd_214 14 = some (.iconst (-1)) by decide +kernel) rfl ?_
  refine jr_1 jm_214 (show jw_cd cd_214 15 = some (.if_icmp .ne 235) by decide +kernel) (mb_f (q := .ne) (a := -1) (b := -1) (by show ¬ (¬ (-1 = -1)); omega) ⟨by omega, by omega⟩ ⟨by omega, by omega⟩ (by decide)) ?_
  refine jr_1 jm_214 (show jw_cd cd_214 18 = some (.iconst (-1)) by decide +kernel) rfl ?_
  refine jr_1 jm_214 (F2 := (20, [some (.ref 15), some (.int (Int32.ofInt (dp))), some (.int (Int32.ofInt (-1))), some (.int (Int32.ofInt (-1))), c4], [], ml_mk h σ)) (show jw_cd cd_214 19 = some (.istore_n 2) by decide +kernel) rfl ?_
  refine jr_1 jm_214 (show jw_cd cd_214 20 = some (.aload_n 0) by decide +kernel) rfl ?_
  refine jr_c jm_214 (show jw_cd cd_214 21 = some (.invokevirtual 151) by decide +kernel) (mc_v hl (n := 0) (m2 := 215) (bs := []) (r := []) (show jw_find jw_cvT 34 151 = some (0, [(16, 215)]) by decide +kernel) (by decide) rfl rfl rfl) jm_215 ⟨Nat.le_of_ble_eq_true rfl, by decide⟩ (jn_hereP hl ht (T := T) (n := n) (p := p) (rfl.trans e1) (rfl.trans e2) (e28.trans rfl) (by omega) (by omega)) ?_
  refine jr_1 jm_214 (show jw_cd cd_214 24 = some (.bipush 91) by decide +kernel) (mt_bi (by decide)) ?_
  refine jr_1 jm_214 (show jw_cd cd_214 26 = some (.if_icmp .eq 12) by decide +kernel) (mb_t (q := .eq) (a := tH T n (p)) (b := 91) (t := 38) hc ⟨by omega, by omega⟩ ⟨by omega, by omega⟩ (by decide) (by decide)) ?_
  refine jr_1 jm_214 (show jw_cd cd_214 38 = some (.iload_n 1) by decide +kernel) rfl ?_
  refine jr_1 jm_214 (show jw_cd cd_214 39 = some (.iconst 3) by decide +kernel) rfl ?_
  refine jr_1 jm_214 (show jw_cd cd_214 40 = some (.if_icmp .ne 13) by decide +kernel) (mb_t (q := .ne) (a := dp) (b := 3) (t := 53) (by show ¬ (dp = 3); omega) ⟨by omega, by omega⟩ ⟨by omega, by omega⟩ (by decide) (by decide)) ?_
  refine jr_1 jm_214 (show jw_cd cd_214 53 = some (.aload_n 0) by decide +kernel) rfl ?_
  refine jr_1 jm_214 (show jw_cd cd_214 54 = some (.iconst 4) by decide +kernel) rfl ?_
  refine jr_1 jm_214 (show jw_cd cd_214 55 = some (.aload_n 0) by decide +kernel) rfl ?_
  refine jr_c jm_214 (show jw_cd cd_214 56 = some (.invokevirtual 151) by decide +kernel) (mc_v hl (n := 0) (m2 := 215) (bs := []) (r := [.int (Int32.ofInt (4)), .ref 15]) (show jw_find jw_cvT 34 151 = some (0, [(16, 215)]) by decide +kernel) (by decide) rfl rfl rfl) jm_215 ⟨Nat.le_of_ble_eq_true rfl, by decide⟩ (jn_hereP hl ht (T := T) (n := n) (p := p) (rfl.trans e1) (rfl.trans e2) (e28.trans rfl) (by omega) (by omega)) ?_
  refine jr_1 jm_214 (show jw_cd cd_214 59 = some (.bipush 91) by decide +kernel) (mt_bi (by decide)) ?_
  refine jr_1 jm_214 (show jw_cd cd_214 61 = some (.if_icmp .ne 7) by decide +kernel) (mb_f (q := .ne) (a := tH T n (p)) (b := 91) (by show ¬ (¬ (tH T n (p) = 91)); omega) ⟨by omega, by omega⟩ ⟨by omega, by omega⟩ (by decide)) ?_
  refine jr_1 jm_214 (show jw_cd cd_214 64 = some (.iconst 5) by decide +kernel) rfl ?_
  refine jr_1 jm_214 (show jw_cd cd_214 65 = some (.goto 5) by decide +kernel) (ju_go (t := 70) (by decide)) ?_
  refine jr_1 jm_214 (show jw_cd cd_214 70 = some (.iconst 0) by decide +kernel) rfl ?_
  refine jr_1 jm_214 (F2 := (72, [some (.ref 15), some (.int (Int32.ofInt (dp))), some (.int (Int32.ofInt (-1))), some (.int (Int32.ofInt (-1))), c4], [.long (Int64.ofInt (0)), .int (Int32.ofInt (0)), .int (Int32.ofInt (5)), .int (Int32.ofInt (4)), .ref 15], ml_mk h σ)) (show jw_cd cd_214 71 = some (.lconst 0) by decide +kernel) rfl ?_
  refine jr_c jm_214 (show jw_cd cd_214 72 = some (.invokevirtual 110) by decide +kernel) (mc_v hl (n := 4) (m2 := 208) (bs := [.int (Int32.ofInt (4)), .int (Int32.ofInt (5)), .int (Int32.ofInt (0)), .long (Int64.ofInt (0))]) (r := []) (show jw_find jw_cvT 34 110 = some (4, [(16, 208)]) by decide +kernel) (by decide) rfl rfl rfl) jm_208 ⟨Nat.le_of_ble_eq_true rfl, by decide⟩ (jn_nodeM hl ⟨by decide, by decide⟩ (m := nn) e11 hn0 (by omega)) ?_
  refine jr_1 jm_214 (F2 := (77, [some (.ref 15), some (.int (Int32.ofInt (dp))), some (.int (Int32.ofInt (-1))), some (.int (Int32.ofInt (-1))), some (.int (Int32.ofInt (170 * 4 + nn)))], [], ml_mk h (mNode σ 4 5 0 0))) (show jw_cd cd_214 75 = some (.istore 4) by decide +kernel) rfl ?_
  refine jr_1 jm_214 (F2 := (80, [some (.ref 15), some (.int (Int32.ofInt (dp + 1))), some (.int (Int32.ofInt (-1))), some (.int (Int32.ofInt (-1))), some (.int (Int32.ofInt (170 * 4 + nn)))], [], ml_mk h (mNode σ 4 5 0 0))) (show jw_cd cd_214 77 = some (.iinc 1 1) by decide +kernel) (mt_inc (a := dp) (c := dp + 1) rfl (by omega) rfl) ?_
  refine jr_1 jm_214 (show jw_cd cd_214 80 = some (.aload_n 0) by decide +kernel) rfl ?_
  refine jr_1 jm_214 (show jw_cd cd_214 81 = some (.dup) by decide +kernel) rfl ?_
  refine jr_1 jm_214 (show jw_cd cd_214 82 = some (.getfield 145) by decide +kernel) (mg_i hl (e := p) ((congrFun (mNode_o (by decide)) 0).trans e28) (show jw_fld 34 145 16 = some 28 by decide +kernel) (by decide) (by decide)) ?_
  refine jr_1 jm_214 (show jw_cd cd_214 85 = some (.iconst 1) by decide +kernel) rfl ?_
  refine jr_1 jm_214 (show jw_cd cd_214 86 = some (.iadd) by decide +kernel) (mt_add (c := p + 1) rfl) ?_
  refine jr_1 jm_214 (show jw_cd cd_214 87 = some (.putfield 145) by decide +kernel) (mp_i hl (x := p + 1) (show jw_fld 34 145 16 = some 28 by decide +kernel) (by decide) (by decide) (show jw_ft 16 28 = some .int by decide +kernel) (show jw_fm 34 16 28 = some false by decide +kernel)) ?_
  refine jr_1 jm_214 (show jw_cd cd_214 90 = some (.aload_n 0) by decide +kernel) rfl ?_
  refine jr_1 jm_214 (show jw_cd cd_214 91 = some (.getfield 80) by decide +kernel) (mg_a hl (a := 39) (show jw_fld 34 80 16 = some 33 by decide +kernel) (by decide) (by decide)) ?_
  refine jr_1 jm_214 (show jw_cd cd_214 94 = some (.iload_n 1) by decide +kernel) rfl ?_
  refine jr_1 jm_214 (show jw_cd cd_214 95 = some (.iload 4) by decide +kernel) rfl ?_
  refine jr_1 jm_214 (show jw_cd cd_214 97 = some (.iastore) by decide +kernel) (ms_i hl (i := dp + 1) (x := 170 * 4 + nn) 33 (by omega) (by show _ < ((5 : Nat) : Int); omega) (by decide) (by decide) (by decide)) ?_
  refine jr_1 jm_214 (show jw_cd cd_214 98 = some (.aload_n 0) by decide +kernel) rfl ?_
  refine jr_1 jm_214 (show jw_cd cd_214 99 = some (.getfield 83) by decide +kernel) (mg_a hl (a := 40) (show jw_fld 34 83 16 = some 34 by decide +kernel) (by decide) (by decide)) ?_
  refine jr_1 jm_214 (show jw_cd cd_214 102 = some (.iload_n 1) by decide +kernel) rfl ?_
  refine jr_1 jm_214 (show jw_cd cd_214 103 = some (.iconst (-1)) by decide +kernel) rfl ?_
  refine jr_1 jm_214 (show jw_cd cd_214 104 = some (.iastore) by decide +kernel) (ms_i hl (i := dp + 1) (x := -1) 34 (by omega) (by show _ < ((5 : Nat) : Int); omega) (by decide) (by decide) (by decide)) ?_
  exact kk
theorem jr_over6 {β : Bool} {d : Nat} {h : jx_H} {σ : mS} (hl : 49 ≤ h.length) {T : Int → Int} {n p : Int} (ht : tOK T n) (e1 : σ 1 = T) (e2 : σ 2 0 = n) (e28 : σ 28 0 = p) (h0 : 0 ≤ p) (hp : p ≤ n) (he0 : σ 29 0 = 0) {dp : Int} (hd : -1 ≤ dp ∧ dp ≤ 3) {c2 c4 : Option Value} (hc : tH T n p = 123) (h3 : dp = 3) : jx_r (jz β) jw_M (d + 6) 214 (6, [some (.ref 15), some (.int (Int32.ofInt (dp))), c2, some (.int (Int32.ofInt (-1))), c4], [], ml_mk h σ) (ml_mk h (mWrong σ p), .inl (some (.int (Int32.ofInt (-1))))) := by
  have hh := tH_r (p := p) ht h0
  obtain ⟨d0, d1⟩ := hd
  refine jr_1 jm_214 (show jw_cd cd_214 6 = some (.aload_n 0) by decide +kernel) rfl ?_
  refine jr_1 jm_214 (show jw_cd cd_214 7 = some (.getfield 148) by decide +kernel) (mg_i hl (e := 0) he0 (show jw_fld 34 148 16 = some 29 by decide +kernel) (by decide) (by decide)) ?_
  refine jr_1 jm_214 (show jw_cd cd_214 10 = some (.ifCond .ne 240) by decide +kernel) (mz_f (q := .ne) (a := 0) (by show ¬ (¬ (0 = 0)); omega) ⟨by omega, by omega⟩ (by decide)) ?_
  refine jr_1 jm_214 (show jw_cd cd_214 13 = some (.iload_n 3) by decide +kernel) rfl ?_
  refine jr_1 jm_214 (show jw_cd cd_214 14 = some (.iconst (-1)) by decide +kernel) rfl ?_
  refine jr_1 jm_214 (show jw_cd cd_214 15 = some (.if_icmp .ne 235) by decide +kernel) (mb_f (q := .ne) (a := -1) (b := -1) (by show ¬ (¬ (-1 = -1)); omega) ⟨by omega, by omega⟩ ⟨by omega, by omega⟩ (by decide)) ?_
  refine jr_1 jm_214 (show jw_cd cd_214 18 = some (.iconst (-1)) by decide +kernel) rfl ?_
  refine jr_1 jm_214 (F2 := (20, [some (.ref 15), some (.int (Int32.ofInt (dp))), some (.int (Int32.ofInt (-1))), some (.int (Int32.ofInt (-1))), c4], [], ml_mk h σ)) (show jw_cd cd_214 19 = some (.istore_n 2) by decide +kernel) rfl ?_
  refine jr_1 jm_214 (show jw_cd cd_214 20 = some (.aload_n 0) by decide +kernel) rfl ?_
  refine jr_c jm_214 (show jw_cd cd_214 21 = some (.invokevirtual 151) by decide +kernel) (mc_v hl (n := 0) (m2 := 215) (bs := []) (r := []) (show jw_find jw_cvT 34 151 = some (0, [(16, 215)]) by decide +kernel) (by decide) rfl rfl rfl) jm_215 ⟨Nat.le_of_ble_eq_true rfl, by decide⟩ (jn_hereP hl ht (T := T) (n := n) (p := p) (rfl.trans e1) (rfl.trans e2) (e28.trans rfl) (by omega) (by omega)) ?_
  refine jr_1 jm_214 (show jw_cd cd_214 24 = some (.bipush 91) by decide +kernel) (mt_bi (by decide)) ?_
  refine jr_1 jm_214 (show jw_cd cd_214 26 = some (.if_icmp .eq 12) by decide +kernel) (mb_f (q := .eq) (a := tH T n (p)) (b := 91) (by show ¬ (tH T n (p) = 91); omega) ⟨by omega, by omega⟩ ⟨by omega, by omega⟩ (by decide)) ?_
  refine jr_1 jm_214 (show jw_cd cd_214 29 = some (.aload_n 0) by decide +kernel) rfl ?_
  refine jr_c jm_214 (show jw_cd cd_214 30 = some (.invokevirtual 151) by decide +kernel) (mc_v hl (n := 0) (m2 := 215) (bs := []) (r := []) (show jw_find jw_cvT 34 151 = some (0, [(16, 215)]) by decide +kernel) (by decide) rfl rfl rfl) jm_215 ⟨Nat.le_of_ble_eq_true rfl, by decide⟩ (jn_hereP hl ht (T := T) (n := n) (p := p) (rfl.trans e1) (rfl.trans e2) (e28.trans rfl) (by omega) (by omega)) ?_
  refine jr_1 jm_214 (show jw_cd cd_214 33 = some (.bipush 123) by decide +kernel) (mt_bi (by decide)) ?_
  refine jr_1 jm_214 (show jw_cd cd_214 35 = some (.if_icmp .ne 122) by decide +kernel) (mb_f (q := .ne) (a := tH T n (p)) (b := 123) (fun z => z hc) ⟨by omega, by omega⟩ ⟨by omega, by omega⟩ (by decide)) ?_
  refine jr_1 jm_214 (show jw_cd cd_214 38 = some (.iload_n 1) by decide +kernel) rfl ?_
  refine jr_1 jm_214 (show jw_cd cd_214 39 = some (.iconst 3) by decide +kernel) rfl ?_
  refine jr_1 jm_214 (show jw_cd cd_214 40 = some (.if_icmp .ne 13) by decide +kernel) (mb_f (q := .ne) (a := dp) (b := 3) (by show ¬ (¬ (dp = 3)); omega) ⟨by omega, by omega⟩ ⟨by omega, by omega⟩ (by decide)) ?_
  refine jr_1 jm_214 (show jw_cd cd_214 43 = some (.aload_n 0) by decide +kernel) rfl ?_
  refine jr_1 jm_214 (show jw_cd cd_214 44 = some (.aload_n 0) by decide +kernel) rfl ?_
  refine jr_1 jm_214 (show jw_cd cd_214 45 = some (.getfield 145) by decide +kernel) (mg_i hl (e := p) e28 (show jw_fld 34 145 16 = some 28 by decide +kernel) (by decide) (by decide)) ?_
  refine jr_c jm_214 (show jw_cd cd_214 48 = some (.invokevirtual 155) by decide +kernel) (mc_v hl (n := 1) (m2 := 216) (bs := [.int (Int32.ofInt (p))]) (r := []) (show jw_find jw_cvT 34 155 = some (1, [(16, 216)]) by decide +kernel) (by decide) rfl rfl rfl) jm_216 ⟨Nat.le_of_ble_eq_true rfl, by decide⟩ (jn_wrong hl (by rw [he0]; exact ⟨by decide, by decide⟩)) ?_
  refine jr_1 jm_214 (show jw_cd cd_214 51 = some (.iconst (-1)) by decide +kernel) rfl ?_
  exact jr_v jm_214 (show jw_cd cd_214 52 = some (.ireturn) by decide +kernel) rfl
theorem jr_open6 {β : Bool} {d : Nat} {h : jx_H} {σ : mS} (hl : 49 ≤ h.length) {T : Int → Int} {n p : Int} (ht : tOK T n) (e1 : σ 1 = T) (e2 : σ 2 0 = n) (e28 : σ 28 0 = p) (h0 : 0 ≤ p) (hp : p ≤ n) (he0 : σ 29 0 = 0) {dp : Int} (hd : -1 ≤ dp ∧ dp ≤ 3) {c2 c4 : Option Value} {nn : Int} (e11 : σ 11 4 = nn) (hn0 : 0 ≤ nn) (hn1 : nn < 1000) (hc : tH T n p = 123) (h3 : dp < 3) : ∀ res, jx_r (jz β) jw_M (d + 6) 214 (105, [some (.ref 15), some (.int (Int32.ofInt (dp + 1))), some (.int (Int32.ofInt (-1))), some (.int (Int32.ofInt (-1))), some (.int (Int32.ofInt (170 * 4 + nn)))], [], ml_mk h (su (su (su (mNode σ 4 6 0 0) 28 (0) (p + 1)) 33 (dp + 1) (170 * 4 + nn)) 34 (dp + 1) (-1))) res → jx_r (jz β) jw_M (d + 6) 214 (6, [some (.ref 15), some (.int (Int32.ofInt (dp))), c2, some (.int (Int32.ofInt (-1))), c4], [], ml_mk h σ) res := by
  have hh := tH_r (p := p) ht h0
  obtain ⟨d0, d1⟩ := hd
  intro res kk
  refine jr_1 jm_214 (show jw_cd cd_214 6 = some (.aload_n 0) by decide +kernel) rfl ?_
  refine jr_1 jm_214 (show jw_cd cd_214 7 = some (.getfield 148) by decide +kernel) (mg_i hl (e := 0) he0 (show jw_fld 34 148 16 = some 29 by decide +kernel) (by decide) (by decide)) ?_
  refine jr_1 jm_214 (show jw_cd cd_214 10 = some (.ifCond .ne 240) by decide +kernel) (mz_f (q := .ne) (a := 0) (by show ¬ (¬ (0 = 0)); omega) ⟨by omega, by omega⟩ (by decide)) ?_
  refine jr_1 jm_214 (show jw_cd cd_214 13 = some (.iload_n 3) by decide +kernel) rfl ?_
  refine jr_1 jm_214 (show jw_cd cd_214 14 = some (.iconst (-1)) by decide +kernel) rfl ?_
  refine jr_1 jm_214 (show jw_cd cd_214 15 = some (.if_icmp .ne 235) by decide +kernel) (mb_f (q := .ne) (a := -1) (b := -1) (by show ¬ (¬ (-1 = -1)); omega) ⟨by omega, by omega⟩ ⟨by omega, by omega⟩ (by decide)) ?_
  refine jr_1 jm_214 (show jw_cd cd_214 18 = some (.iconst (-1)) by decide +kernel) rfl ?_
  refine jr_1 jm_214 (F2 := (20, [some (.ref 15), some (.int (Int32.ofInt (dp))), some (.int (Int32.ofInt (-1))), some (.int (Int32.ofInt (-1))), c4], [], ml_mk h σ)) (show jw_cd cd_214 19 = some (.istore_n 2) by decide +kernel) rfl ?_
  refine jr_1 jm_214 (show jw_cd cd_214 20 = some (.aload_n 0) by decide +kernel) rfl ?_
  refine jr_c jm_214 (show jw_cd cd_214 21 = some (.invokevirtual 151) by decide +kernel) (mc_v hl (n := 0) (m2 := 215) (bs := []) (r := []) (show jw_find jw_cvT 34 151 = some (0, [(16, 215)]) by decide +kernel) (by decide) rfl rfl rfl) jm_215 ⟨Nat.le_of_ble_eq_true rfl, by decide⟩ (jn_hereP hl ht (T := T) (n := n) (p := p) (rfl.trans e1) (rfl.trans e2) (e28.trans rfl) (by omega) (by omega)) ?_
  refine jr_1 jm_214 (show jw_cd cd_214 24 = some (.bipush 91) by decide +kernel) (mt_bi (by decide)) ?_
  refine jr_1 jm_214 (show jw_cd cd_214 26 = some (.if_icmp .eq 12) by decide +kernel) (mb_f (q := .eq) (a := tH T n (p)) (b := 91) (by show ¬ (tH T n (p) = 91); omega) ⟨by omega, by omega⟩ ⟨by omega, by omega⟩ (by decide)) ?_
  refine jr_1 jm_214 (show jw_cd cd_214 29 = some (.aload_n 0) by decide +kernel) rfl ?_
  refine jr_c jm_214 (show jw_cd cd_214 30 = some (.invokevirtual 151) by decide +kernel) (mc_v hl (n := 0) (m2 := 215) (bs := []) (r := []) (show jw_find jw_cvT 34 151 = some (0, [(16, 215)]) by decide +kernel) (by decide) rfl rfl rfl) jm_215 ⟨Nat.le_of_ble_eq_true rfl, by decide⟩ (jn_hereP hl ht (T := T) (n := n) (p := p) (rfl.trans e1) (rfl.trans e2) (e28.trans rfl) (by omega) (by omega)) ?_
  refine jr_1 jm_214 (show jw_cd cd_214 33 = some (.bipush 123) by decide +kernel) (mt_bi (by decide)) ?_
  refine jr_1 jm_214 (show jw_cd cd_214 35 = some (.if_icmp .ne 122) by decide +kernel) (mb_f (q := .ne) (a := tH T n (p)) (b := 123) (fun z => z hc) ⟨by omega, by omega⟩ ⟨by omega, by omega⟩ (by decide)) ?_
  refine jr_1 jm_214 (show jw_cd cd_214 38 = some (.iload_n 1) by decide +kernel) rfl ?_
  refine jr_1 jm_214 (show jw_cd cd_214 39 = some (.iconst 3) by decide +kernel) rfl ?_
  refine jr_1 jm_214 (show jw_cd cd_214 40 = some (.if_icmp .ne 13) by decide +kernel) (mb_t (q := .ne) (a := dp) (b := 3) (t := 53) (by show ¬ (dp = 3); omega) ⟨by omega, by omega⟩ ⟨by omega, by omega⟩ (by decide) (by decide)) ?_
  refine jr_1 jm_214 (show jw_cd cd_214 53 = some (.aload_n 0) by decide +kernel) rfl ?_
  refine jr_1 jm_214 (show jw_cd cd_214 54 = some (.iconst 4) by decide +kernel) rfl ?_
  refine jr_1 jm_214 (show jw_cd cd_214 55 = some (.aload_n 0) by decide +kernel) rfl ?_
  refine jr_c jm_214 (show jw_cd cd_214 56 = some (.invokevirtual 151) by decide +kernel) (mc_v hl (n := 0) (m2 := 215) (bs := []) (r := [.int (Int32.ofInt (4)), .ref 15]) (show jw_find jw_cvT 34 151 = some (0, [(16, 215)]) by decide +kernel) (by decide) rfl rfl rfl) jm_215 ⟨Nat.le_of_ble_eq_true rfl, by decide⟩ (jn_hereP hl ht (T := T) (n := n) (p := p) (rfl.trans e1) (rfl.trans e2) (e28.trans rfl) (by omega) (by omega)) ?_
  refine jr_1 jm_214 (show jw_cd cd_214 59 = some (.bipush 91) by decide +kernel) (mt_bi (by decide)) ?_
  refine jr_1 jm_214 (show jw_cd cd_214 61 = some (.if_icmp .ne 7) by decide +kernel) (mb_t (q := .ne) (a := tH T n (p)) (b := 91) (t := 68) (by show ¬ (tH T n (p) = 91); omega) ⟨by omega, by omega⟩ ⟨by omega, by omega⟩ (by decide) (by decide)) ?_
  refine jr_1 jm_214 (show jw_cd cd_214 68 = some (.bipush 6) by decide +kernel) (mt_bi (by decide)) ?_
  refine jr_1 jm_214 (show jw_cd cd_214 70 = some (.iconst 0) by decide +kernel) rfl ?_
  refine jr_1 jm_214 (F2 := (72, [some (.ref 15), some (.int (Int32.ofInt (dp))), some (.int (Int32.ofInt (-1))), some (.int (Int32.ofInt (-1))), c4], [.long (Int64.ofInt (0)), .int (Int32.ofInt (0)), .int (Int32.ofInt (6)), .int (Int32.ofInt (4)), .ref 15], ml_mk h σ)) (show jw_cd cd_214 71 = some (.lconst 0) by decide +kernel) rfl ?_
  refine jr_c jm_214 (show jw_cd cd_214 72 = some (.invokevirtual 110) by decide +kernel) (mc_v hl (n := 4) (m2 := 208) (bs := [.int (Int32.ofInt (4)), .int (Int32.ofInt (6)), .int (Int32.ofInt (0)), .long (Int64.ofInt (0))]) (r := []) (show jw_find jw_cvT 34 110 = some (4, [(16, 208)]) by decide +kernel) (by decide) rfl rfl rfl) jm_208 ⟨Nat.le_of_ble_eq_true rfl, by decide⟩ (jn_nodeM hl ⟨by decide, by decide⟩ (m := nn) e11 hn0 (by omega)) ?_
  refine jr_1 jm_214 (F2 := (77, [some (.ref 15), some (.int (Int32.ofInt (dp))), some (.int (Int32.ofInt (-1))), some (.int (Int32.ofInt (-1))), some (.int (Int32.ofInt (170 * 4 + nn)))], [], ml_mk h (mNode σ 4 6 0 0))) (show jw_cd cd_214 75 = some (.istore 4) by decide +kernel) rfl ?_
  refine jr_1 jm_214 (F2 := (80, [some (.ref 15), some (.int (Int32.ofInt (dp + 1))), some (.int (Int32.ofInt (-1))), some (.int (Int32.ofInt (-1))), some (.int (Int32.ofInt (170 * 4 + nn)))], [], ml_mk h (mNode σ 4 6 0 0))) (show jw_cd cd_214 77 = some (.iinc 1 1) by decide +kernel) (mt_inc (a := dp) (c := dp + 1) rfl (by omega) rfl) ?_
  refine jr_1 jm_214 (show jw_cd cd_214 80 = some (.aload_n 0) by decide +kernel) rfl ?_
  refine jr_1 jm_214 (show jw_cd cd_214 81 = some (.dup) by decide +kernel) rfl ?_
  refine jr_1 jm_214 (show jw_cd cd_214 82 = some (.getfield 145) by decide +kernel) (mg_i hl (e := p) ((congrFun (mNode_o (by decide)) 0).trans e28) (show jw_fld 34 145 16 = some 28 by decide +kernel) (by decide) (by decide)) ?_
  refine jr_1 jm_214 (show jw_cd cd_214 85 = some (.iconst 1) by decide +kernel) rfl ?_
  refine jr_1 jm_214 (show jw_cd cd_214 86 = some (.iadd) by decide +kernel) (mt_add (c := p + 1) rfl) ?_
  refine jr_1 jm_214 (show jw_cd cd_214 87 = some (.putfield 145) by decide +kernel) (mp_i hl (x := p + 1) (show jw_fld 34 145 16 = some 28 by decide +kernel) (by decide) (by decide) (show jw_ft 16 28 = some .int by decide +kernel) (show jw_fm 34 16 28 = some false by decide +kernel)) ?_
  refine jr_1 jm_214 (show jw_cd cd_214 90 = some (.aload_n 0) by decide +kernel) rfl ?_
  refine jr_1 jm_214 (show jw_cd cd_214 91 = some (.getfield 80) by decide +kernel) (mg_a hl (a := 39) (show jw_fld 34 80 16 = some 33 by decide +kernel) (by decide) (by decide)) ?_
  refine jr_1 jm_214 (show jw_cd cd_214 94 = some (.iload_n 1) by decide +kernel) rfl ?_
  refine jr_1 jm_214 (show jw_cd cd_214 95 = some (.iload 4) by decide +kernel) rfl ?_
  refine jr_1 jm_214 (show jw_cd cd_214 97 = some (.iastore) by decide +kernel) (ms_i hl (i := dp + 1) (x := 170 * 4 + nn) 33 (by omega) (by show _ < ((5 : Nat) : Int); omega) (by decide) (by decide) (by decide)) ?_
  refine jr_1 jm_214 (show jw_cd cd_214 98 = some (.aload_n 0) by decide +kernel) rfl ?_
  refine jr_1 jm_214 (show jw_cd cd_214 99 = some (.getfield 83) by decide +kernel) (mg_a hl (a := 40) (show jw_fld 34 83 16 = some 34 by decide +kernel) (by decide) (by decide)) ?_
  refine jr_1 jm_214 (show jw_cd cd_214 102 = some (.iload_n 1) by decide +kernel) rfl ?_
  refine jr_1 jm_214 (show jw_cd cd_214 103 = some (.iconst (-1)) by decide +kernel) rfl ?_
  refine jr_1 jm_214 (show jw_cd cd_214 104 = some (.iastore) by decide +kernel) (ms_i hl (i := dp + 1) (x := -1) 34 (by omega) (by show _ < ((5 : Nat) : Int); omega) (by decide) (by decide) (by decide)) ?_
  exact kk
theorem jr_clos {β : Bool} {d : Nat} {h : jx_H} {σ : mS} (hl : 49 ≤ h.length) {T : Int → Int} {n p : Int} (ht : tOK T n) (e1 : σ 1 = T) (e2 : σ 2 0 = n) (e28 : σ 28 0 = p) (h0 : 0 ≤ p) (hp : p ≤ n) (he0 : σ 29 0 = 0) {dp : Int} (hd : -1 ≤ dp ∧ dp ≤ 3) {w kd : Int} (hw : 0 ≤ w ∧ w < 1740) (e3 : σ 3 w = kd) (hkd : kd = 5 ∨ kd = 6) (hc : tH T n p = if kd = 5 then 93 else 125) : ∀ res, jx_r (jz β) jw_M (d + 6) 214 (162, [some (.ref 15), some (.int (Int32.ofInt (dp - 1))), some (.int (Int32.ofInt (w))), some (.int (Int32.ofInt (-1))), some (.int (Int32.ofInt (w)))], [], ml_mk h (su σ 28 (0) (p + 1))) res → jx_r (jz β) jw_M (d + 6) 214 (105, [some (.ref 15), some (.int (Int32.ofInt (dp))), some (.int (Int32.ofInt (-1))), some (.int (Int32.ofInt (-1))), some (.int (Int32.ofInt (w)))], [], ml_mk h σ) res := by
  have hh := tH_r (p := p) ht h0
  obtain ⟨d0, d1⟩ := hd
  obtain ⟨w0, w1⟩ := hw
  intro res kk
  by_cases hk : kd = 5
  · rw [if_pos hk] at hc
    refine jr_1 jm_214 (show jw_cd cd_214 105 = some (.aload_n 0) by decide +kernel) rfl ?_
    refine jr_c jm_214 (show jw_cd cd_214 106 = some (.invokevirtual 151) by decide +kernel) (mc_v hl (n := 0) (m2 := 215) (bs := []) (r := []) (show jw_find jw_cvT 34 151 = some (0, [(16, 215)]) by decide +kernel) (by decide) rfl rfl rfl) jm_215 ⟨Nat.le_of_ble_eq_true rfl, by decide⟩ (jn_hereP hl ht (T := T) (n := n) (p := p) (rfl.trans e1) (rfl.trans e2) (e28.trans rfl) (by omega) (by omega)) ?_
    refine jr_1 jm_214 (show jw_cd cd_214 109 = some (.aload_n 0) by decide +kernel) rfl ?_
    refine jr_1 jm_214 (show jw_cd cd_214 110 = some (.getfield 13) by decide +kernel) (mg_a hl (a := 17) (show jw_fld 34 13 16 = some 3 by decide +kernel) (by decide) (by decide)) ?_
    refine jr_1 jm_214 (show jw_cd cd_214 113 = some (.iload 4) by decide +kernel) rfl ?_
    refine jr_1 jm_214 (show jw_cd cd_214 115 = some (.iaload) by decide +kernel) (ma_i hl (i := w) (e := kd) 3 (by omega) (by show _ < ((1740 : Nat) : Int); omega) e3 (by decide) (by decide) (by decide)) ?_
    refine jr_1 jm_214 (show jw_cd cd_214 116 = some (.iconst 5) by decide +kernel) rfl ?_
    refine jr_1 jm_214 (show jw_cd cd_214 117 = some (.if_icmp .ne 8) by decide +kernel) (mb_f (q := .ne) (a := kd) (b := 5) (fun z => z hk) ⟨by omega, by omega⟩ ⟨by omega, by omega⟩ (by decide)) ?_
    refine jr_1 jm_214 (show jw_cd cd_214 120 = some (.bipush 93) by decide +kernel) (mt_bi (by decide)) ?_
    refine jr_1 jm_214 (show jw_cd cd_214 122 = some (.goto 5) by decide +kernel) (ju_go (t := 127) (by decide)) ?_
    refine jr_1 jm_214 (show jw_cd cd_214 127 = some (.if_icmp .ne 22) by decide +kernel) (mb_f (q := .ne) (a := tH T n (p)) (b := 93) (fun z => z hc) ⟨by omega, by omega⟩ ⟨by omega, by omega⟩ (by decide)) ?_
    refine jr_1 jm_214 (show jw_cd cd_214 130 = some (.aload_n 0) by decide +kernel) rfl ?_
    refine jr_1 jm_214 (show jw_cd cd_214 131 = some (.dup) by decide +kernel) rfl ?_
    refine jr_1 jm_214 (show jw_cd cd_214 132 = some (.getfield 145) by decide +kernel) (mg_i hl (e := p) e28 (show jw_fld 34 145 16 = some 28 by decide +kernel) (by decide) (by decide)) ?_
    refine jr_1 jm_214 (show jw_cd cd_214 135 = some (.iconst 1) by decide +kernel) rfl ?_
    refine jr_1 jm_214 (show jw_cd cd_214 136 = some (.iadd) by decide +kernel) (mt_add (c := p + 1) rfl) ?_
    refine jr_1 jm_214 (show jw_cd cd_214 137 = some (.putfield 145) by decide +kernel) (mp_i hl (x := p + 1) (show jw_fld 34 145 16 = some 28 by decide +kernel) (by decide) (by decide) (show jw_ft 16 28 = some .int by decide +kernel) (show jw_fm 34 16 28 = some false by decide +kernel)) ?_
    refine jr_1 jm_214 (F2 := (143, [some (.ref 15), some (.int (Int32.ofInt (dp - 1))), some (.int (Int32.ofInt (-1))), some (.int (Int32.ofInt (-1))), some (.int (Int32.ofInt (w)))], [], ml_mk h (su σ 28 (0) (p + 1)))) (show jw_cd cd_214 140 = some (.iinc 1 (-1)) by decide +kernel) (mt_inc (a := dp) (c := dp - 1) rfl (by omega) rfl) ?_
    refine jr_1 jm_214 (show jw_cd cd_214 143 = some (.iload 4) by decide +kernel) rfl ?_
    refine jr_1 jm_214 (F2 := (146, [some (.ref 15), some (.int (Int32.ofInt (dp - 1))), some (.int (Int32.ofInt (w))), some (.int (Int32.ofInt (-1))), some (.int (Int32.ofInt (w)))], [], ml_mk h (su σ 28 (0) (p + 1)))) (show jw_cd cd_214 145 = some (.istore_n 2) by decide +kernel) rfl ?_
    refine jr_1 jm_214 (show jw_cd cd_214 146 = some (.goto 8) by decide +kernel) (ju_go (t := 154) (by decide)) ?_
    refine jr_1 jm_214 (show jw_cd cd_214 154 = some (.goto 8) by decide +kernel) (ju_go (t := 162) (by decide)) ?_
    exact kk
  · rw [if_neg hk] at hc
    refine jr_1 jm_214 (show jw_cd cd_214 105 = some (.aload_n 0) by decide +kernel) rfl ?_
    refine jr_c jm_214 (show jw_cd cd_214 106 = some (.invokevirtual 151) by decide +kernel) (mc_v hl (n := 0) (m2 := 215) (bs := []) (r := []) (show jw_find jw_cvT 34 151 = some (0, [(16, 215)]) by decide +kernel) (by decide) rfl rfl rfl) jm_215 ⟨Nat.le_of_ble_eq_true rfl, by decide⟩ (jn_hereP hl ht (T := T) (n := n) (p := p) (rfl.trans e1) (rfl.trans e2) (e28.trans rfl) (by omega) (by omega)) ?_
    refine jr_1 jm_214 (show jw_cd cd_214 109 = some (.aload_n 0) by decide +kernel) rfl ?_
    refine jr_1 jm_214 (show jw_cd cd_214 110 = some (.getfield 13) by decide +kernel) (mg_a hl (a := 17) (show jw_fld 34 13 16 = some 3 by decide +kernel) (by decide) (by decide)) ?_
    refine jr_1 jm_214 (show jw_cd cd_214 113 = some (.iload 4) by decide +kernel) rfl ?_
    refine jr_1 jm_214 (show jw_cd cd_214 115 = some (.iaload) by decide +kernel) (ma_i hl (i := w) (e := kd) 3 (by omega) (by show _ < ((1740 : Nat) : Int); omega) e3 (by decide) (by decide) (by decide)) ?_
    refine jr_1 jm_214 (show jw_cd cd_214 116 = some (.iconst 5) by decide +kernel) rfl ?_
    refine jr_1 jm_214 (show jw_cd cd_214 117 = some (.if_icmp .ne 8) by decide +kernel) (mb_t (q := .ne) (a := kd) (b := 5) (t := 125) (fun z => by omega) ⟨by omega, by omega⟩ ⟨by omega, by omega⟩ (by decide) (by decide)) ?_
    refine jr_1 jm_214 (show jw_cd cd_214 125 = some (.bipush 125) by decide +kernel) (mt_bi (by decide)) ?_
    refine jr_1 jm_214 (show jw_cd cd_214 127 = some (.if_icmp .ne 22) by decide +kernel) (mb_f (q := .ne) (a := tH T n (p)) (b := 125) (fun z => z hc) ⟨by omega, by omega⟩ ⟨by omega, by omega⟩ (by decide)) ?_
    refine jr_1 jm_214 (show jw_cd cd_214 130 = some (.aload_n 0) by decide +kernel) rfl ?_
    refine jr_1 jm_214 (show jw_cd cd_214 131 = some (.dup) by decide +kernel) rfl ?_
    refine jr_1 jm_214 (show jw_cd cd_214 132 = some (.getfield 145) by decide +kernel) (mg_i hl (e := p) e28 (show jw_fld 34 145 16 = some 28 by decide +kernel) (by decide) (by decide)) ?_
    refine jr_1 jm_214 (show jw_cd cd_214 135 = some (.iconst 1) by decide +kernel) rfl ?_
    refine jr_1 jm_214 (show jw_cd cd_214 136 = some (.iadd) by decide +kernel) (mt_add (c := p + 1) rfl) ?_
    refine jr_1 jm_214 (show jw_cd cd_214 137 = some (.putfield 145) by decide +kernel) (mp_i hl (x := p + 1) (show jw_fld 34 145 16 = some 28 by decide +kernel) (by decide) (by decide) (show jw_ft 16 28 = some .int by decide +kernel) (show jw_fm 34 16 28 = some false by decide +kernel)) ?_
    refine jr_1 jm_214 (F2 := (143, [some (.ref 15), some (.int (Int32.ofInt (dp - 1))), some (.int (Int32.ofInt (-1))), some (.int (Int32.ofInt (-1))), some (.int (Int32.ofInt (w)))], [], ml_mk h (su σ 28 (0) (p + 1)))) (show jw_cd cd_214 140 = some (.iinc 1 (-1)) by decide +kernel) (mt_inc (a := dp) (c := dp - 1) rfl (by omega) rfl) ?_
    refine jr_1 jm_214 (show jw_cd cd_214 143 = some (.iload 4) by decide +kernel) rfl ?_
    refine jr_1 jm_214 (F2 := (146, [some (.ref 15), some (.int (Int32.ofInt (dp - 1))), some (.int (Int32.ofInt (w))), some (.int (Int32.ofInt (-1))), some (.int (Int32.ofInt (w)))], [], ml_mk h (su σ 28 (0) (p + 1)))) (show jw_cd cd_214 145 = some (.istore_n 2) by decide +kernel) rfl ?_
    refine jr_1 jm_214 (show jw_cd cd_214 146 = some (.goto 8) by decide +kernel) (ju_go (t := 154) (by decide)) ?_
    refine jr_1 jm_214 (show jw_cd cd_214 154 = some (.goto 8) by decide +kernel) (ju_go (t := 162) (by decide)) ?_
    exact kk
theorem jr_named {β : Bool} {d : Nat} {h : jx_H} {σ : mS} (hl : 49 ≤ h.length) {T : Int → Int} {n p : Int} (ht : tOK T n) (e1 : σ 1 = T) (e2 : σ 2 0 = n) (e28 : σ 28 0 = p) (h0 : 0 ≤ p) (hp : p ≤ n) (he0 : σ 29 0 = 0) {dp : Int} (hd : -1 ≤ dp ∧ dp ≤ 3) {w kd : Int} (hw : 0 ≤ w ∧ w < 1740) (e3 : σ 3 w = kd) (hkd : kd = 5 ∨ kd = 6) {τ : mS} (rn : jx_r (jz β) jw_M (d + 5) 217 (0, [some (.ref 15), some (.int (Int32.ofInt (dp))), none], [], ml_mk h σ) (ml_mk h (τ), .inl none)) (hc : ¬ tH T n p = if kd = 5 then 93 else 125) : ∀ res, jx_r (jz β) jw_M (d + 6) 214 (162, [some (.ref 15), some (.int (Int32.ofInt (dp))), some (.int (Int32.ofInt (-1))), some (.int (Int32.ofInt (-1))), some (.int (Int32.ofInt (w)))], [], ml_mk h τ) res → jx_r (jz β) jw_M (d + 6) 214 (105, [some (.ref 15), some (.int (Int32.ofInt (dp))), some (.int (Int32.ofInt (-1))), some (.int (Int32.ofInt (-1))), some (.int (Int32.ofInt (w)))], [], ml_mk h σ) res := by
  have hh := tH_r (p := p) ht h0
  obtain ⟨d0, d1⟩ := hd
  obtain ⟨w0, w1⟩ := hw
  intro res kk
  by_cases hk : kd = 5
  · rw [if_pos hk] at hc
    refine jr_1 jm_214 (show jw_cd cd_214 105 = some (.aload_n 0) by decide +kernel) rfl ?_
    refine jr_c jm_214 (show jw_cd cd_214 106 = some (.invokevirtual 151) by decide +kernel) (mc_v hl (n := 0) (m2 := 215) (bs := []) (r := []) (show jw_find jw_cvT 34 151 = some (0, [(16, 215)]) by decide +kernel) (by decide) rfl rfl rfl) jm_215 ⟨Nat.le_of_ble_eq_true rfl, by decide⟩ (jn_hereP hl ht (T := T) (n := n) (p := p) (rfl.trans e1) (rfl.trans e2) (e28.trans rfl) (by omega) (by omega)) ?_
    refine jr_1 jm_214 (show jw_cd cd_214 109 = some (.aload_n 0) by decide +kernel) rfl ?_
    refine jr_1 jm_214 (show jw_cd cd_214 110 = some (.getfield 13) by decide +kernel) (mg_a hl (a := 17) (show jw_fld 34 13 16 = some 3 by decide +kernel) (by decide) (by decide)) ?_
    refine jr_1 jm_214 (show jw_cd cd_214 113 = some (.iload 4) by decide +kernel) rfl ?_
    refine jr_1 jm_214 (show jw_cd cd_214 115 = some (.iaload) by decide +kernel) (ma_i hl (i := w) (e := kd) 3 (by omega) (by show _ < ((1740 : Nat) : Int); omega) e3 (by decide) (by decide) (by decide)) ?_
    refine jr_1 jm_214 (show jw_cd cd_214 116 = some (.iconst 5) by decide +kernel) rfl ?_
    refine jr_1 jm_214 (show jw_cd cd_214 117 = some (.if_icmp .ne 8) by decide +kernel) (mb_f (q := .ne) (a := kd) (b := 5) (fun z => z hk) ⟨by omega, by omega⟩ ⟨by omega, by omega⟩ (by decide)) ?_
    refine jr_1 jm_214 (show jw_cd cd_214 120 = some (.bipush 93) by decide +kernel) (mt_bi (by decide)) ?_
    refine jr_1 jm_214 (show jw_cd cd_214 122 = some (.goto 5) by decide +kernel) (ju_go (t := 127) (by decide)) ?_
    refine jr_1 jm_214 (show jw_cd cd_214 127 = some (.if_icmp .ne 22) by decide +kernel) (mb_t (q := .ne) (a := tH T n (p)) (b := 93) (t := 149) hc ⟨by omega, by omega⟩ ⟨by omega, by omega⟩ (by decide) (by decide)) ?_
    refine jr_1 jm_214 (show jw_cd cd_214 149 = some (.aload_n 0) by decide +kernel) rfl ?_
    refine jr_1 jm_214 (show jw_cd cd_214 150 = some (.iload_n 1) by decide +kernel) rfl ?_
    refine jr_c jm_214 (show jw_cd cd_214 151 = some (.invokevirtual 195) by decide +kernel) (mc_v hl (n := 1) (m2 := 217) (bs := [.int (Int32.ofInt (dp))]) (r := []) (show jw_find jw_cvT 34 195 = some (1, [(16, 217)]) by decide +kernel) (by decide) rfl rfl rfl) jm_217 ⟨Nat.le_of_ble_eq_true rfl, by decide⟩ rn ?_
    refine jr_1 jm_214 (show jw_cd cd_214 154 = some (.goto 8) by decide +kernel) (ju_go (t := 162) (by decide)) ?_
    exact kk
  · rw [if_neg hk] at hc
    refine jr_1 jm_214 (show jw_cd cd_214 105 = some (.aload_n 0) by decide +kernel) rfl ?_
    refine jr_c jm_214 (show jw_cd cd_214 106 = some (.invokevirtual 151) by decide +kernel) (mc_v hl (n := 0) (m2 := 215) (bs := []) (r := []) (show jw_find jw_cvT 34 151 = some (0, [(16, 215)]) by decide +kernel) (by decide) rfl rfl rfl) jm_215 ⟨Nat.le_of_ble_eq_true rfl, by decide⟩ (jn_hereP hl ht (T := T) (n := n) (p := p) (rfl.trans e1) (rfl.trans e2) (e28.trans rfl) (by omega) (by omega)) ?_
    refine jr_1 jm_214 (show jw_cd cd_214 109 = some (.aload_n 0) by decide +kernel) rfl ?_
    refine jr_1 jm_214 (show jw_cd cd_214 110 = some (.getfield 13) by decide +kernel) (mg_a hl (a := 17) (show jw_fld 34 13 16 = some 3 by decide +kernel) (by decide) (by decide)) ?_
    refine jr_1 jm_214 (show jw_cd cd_214 113 = some (.iload 4) by decide +kernel) rfl ?_
    refine jr_1 jm_214 (show jw_cd cd_214 115 = some (.iaload) by decide +kernel) (ma_i hl (i := w) (e := kd) 3 (by omega) (by show _ < ((1740 : Nat) : Int); omega) e3 (by decide) (by decide) (by decide)) ?_
    refine jr_1 jm_214 (show jw_cd cd_214 116 = some (.iconst 5) by decide +kernel) rfl ?_
    refine jr_1 jm_214 (show jw_cd cd_214 117 = some (.if_icmp .ne 8) by decide +kernel) (mb_t (q := .ne) (a := kd) (b := 5) (t := 125) (fun z => by omega) ⟨by omega, by omega⟩ ⟨by omega, by omega⟩ (by decide) (by decide)) ?_
    refine jr_1 jm_214 (show jw_cd cd_214 125 = some (.bipush 125) by decide +kernel) (mt_bi (by decide)) ?_
    refine jr_1 jm_214 (show jw_cd cd_214 127 = some (.if_icmp .ne 22) by decide +kernel) (mb_t (q := .ne) (a := tH T n (p)) (b := 125) (t := 149) hc ⟨by omega, by omega⟩ ⟨by omega, by omega⟩ (by decide) (by decide)) ?_
    refine jr_1 jm_214 (show jw_cd cd_214 149 = some (.aload_n 0) by decide +kernel) rfl ?_
    refine jr_1 jm_214 (show jw_cd cd_214 150 = some (.iload_n 1) by decide +kernel) rfl ?_
    refine jr_c jm_214 (show jw_cd cd_214 151 = some (.invokevirtual 195) by decide +kernel) (mc_v hl (n := 1) (m2 := 217) (bs := [.int (Int32.ofInt (dp))]) (r := []) (show jw_find jw_cvT 34 195 = some (1, [(16, 217)]) by decide +kernel) (by decide) rfl rfl rfl) jm_217 ⟨Nat.le_of_ble_eq_true rfl, by decide⟩ rn ?_
    refine jr_1 jm_214 (show jw_cd cd_214 154 = some (.goto 8) by decide +kernel) (ju_go (t := 162) (by decide)) ?_
    exact kk
theorem jr_plain {β : Bool} {d : Nat} {h : jx_H} {σ : mS} (hl : 49 ≤ h.length) {T : Int → Int} {n p : Int} (ht : tOK T n) (e1 : σ 1 = T) (e2 : σ 2 0 = n) (e28 : σ 28 0 = p) (h0 : 0 ≤ p) (hp : p ≤ n) (he0 : σ 29 0 = 0) {dp : Int} (hd : -1 ≤ dp ∧ dp ≤ 3) {c2 c4 : Option Value} {τ : mS} {v : Int} (h91 : ¬ tH T n p = 91) (h123 : ¬ tH T n p = 123) (rp : jx_r (jz β) jw_M (d + 5) 222 (0, [some (.ref 15), none, none], [], ml_mk h σ) (ml_mk h (τ), .inl (some (.int (Int32.ofInt (v)))))) : ∀ res, jx_r (jz β) jw_M (d + 6) 214 (162, [some (.ref 15), some (.int (Int32.ofInt (dp))), some (.int (Int32.ofInt (v))), some (.int (Int32.ofInt (-1))), c4], [], ml_mk h τ) res → jx_r (jz β) jw_M (d + 6) 214 (6, [some (.ref 15), some (.int (Int32.ofInt (dp))), c2, some (.int (Int32.ofInt (-1))), c4], [], ml_mk h σ) res := by
  have hh := tH_r (p := p) ht h0
  obtain ⟨d0, d1⟩ := hd
  intro res kk
  refine jr_1 jm_214 (show jw_cd cd_214 6 = some (.aload_n 0) by decide +kernel) rfl ?_
  refine jr_1 jm_214 (show jw_cd cd_214 7 = some (.getfield 148) by decide +kernel) (mg_i hl (e := 0) he0 (show jw_fld 34 148 16 = some 29 by decide +kernel) (by decide) (by decide)) ?_
  refine jr_1 jm_214 (show jw_cd cd_214 10 = some (.ifCond .ne 240) by decide +kernel) (mz_f (q := .ne) (a := 0) (by show ¬ (¬ (0 = 0)); omega) ⟨by omega, by omega⟩ (by decide)) ?_
  refine jr_1 jm_214 (show jw_cd cd_214 13 = some (.iload_n 3) by decide +kernel) rfl ?_
  refine jr_1 jm_214 (show jw_cd cd_214 14 = some (.iconst (-1)) by decide +kernel) rfl ?_
  refine jr_1 jm_214 (show jw_cd cd_214 15 = some (.if_icmp .ne 235) by decide +kernel) (mb_f (q := .ne) (a := -1) (b := -1) (by show ¬ (¬ (-1 = -1)); omega) ⟨by omega, by omega⟩ ⟨by omega, by omega⟩ (by decide)) ?_
  refine jr_1 jm_214 (show jw_cd cd_214 18 = some (.iconst (-1)) by decide +kernel) rfl ?_
  refine jr_1 jm_214 (F2 := (20, [some (.ref 15), some (.int (Int32.ofInt (dp))), some (.int (Int32.ofInt (-1))), some (.int (Int32.ofInt (-1))), c4], [], ml_mk h σ)) (show jw_cd cd_214 19 = some (.istore_n 2) by decide +kernel) rfl ?_
  refine jr_1 jm_214 (show jw_cd cd_214 20 = some (.aload_n 0) by decide +kernel) rfl ?_
  refine jr_c jm_214 (show jw_cd cd_214 21 = some (.invokevirtual 151) by decide +kernel) (mc_v hl (n := 0) (m2 := 215) (bs := []) (r := []) (show jw_find jw_cvT 34 151 = some (0, [(16, 215)]) by decide +kernel) (by decide) rfl rfl rfl) jm_215 ⟨Nat.le_of_ble_eq_true rfl, by decide⟩ (jn_hereP hl ht (T := T) (n := n) (p := p) (rfl.trans e1) (rfl.trans e2) (e28.trans rfl) (by omega) (by omega)) ?_
  refine jr_1 jm_214 (show jw_cd cd_214 24 = some (.bipush 91) by decide +kernel) (mt_bi (by decide)) ?_
  refine jr_1 jm_214 (show jw_cd cd_214 26 = some (.if_icmp .eq 12) by decide +kernel) (mb_f (q := .eq) (a := tH T n (p)) (b := 91) (fun z => h91 z) ⟨by omega, by omega⟩ ⟨by omega, by omega⟩ (by decide)) ?_
  refine jr_1 jm_214 (show jw_cd cd_214 29 = some (.aload_n 0) by decide +kernel) rfl ?_
  refine jr_c jm_214 (show jw_cd cd_214 30 = some (.invokevirtual 151) by decide +kernel) (mc_v hl (n := 0) (m2 := 215) (bs := []) (r := []) (show jw_find jw_cvT 34 151 = some (0, [(16, 215)]) by decide +kernel) (by decide) rfl rfl rfl) jm_215 ⟨Nat.le_of_ble_eq_true rfl, by decide⟩ (jn_hereP hl ht (T := T) (n := n) (p := p) (rfl.trans e1) (rfl.trans e2) (e28.trans rfl) (by omega) (by omega)) ?_
  refine jr_1 jm_214 (show jw_cd cd_214 33 = some (.bipush 123) by decide +kernel) (mt_bi (by decide)) ?_
  refine jr_1 jm_214 (show jw_cd cd_214 35 = some (.if_icmp .ne 122) by decide +kernel) (mb_t (q := .ne) (a := tH T n (p)) (b := 123) (t := 157) h123 ⟨by omega, by omega⟩ ⟨by omega, by omega⟩ (by decide) (by decide)) ?_
  refine jr_1 jm_214 (show jw_cd cd_214 157 = some (.aload_n 0) by decide +kernel) rfl ?_
  refine jr_c jm_214 (show jw_cd cd_214 158 = some (.invokevirtual 198) by decide +kernel) (mc_v hl (n := 0) (m2 := 222) (bs := []) (r := []) (show jw_find jw_cvT 34 198 = some (0, [(16, 222)]) by decide +kernel) (by decide) rfl rfl rfl) jm_222 ⟨Nat.le_of_ble_eq_true rfl, by decide⟩ rp ?_
  refine jr_1 jm_214 (F2 := (162, [some (.ref 15), some (.int (Int32.ofInt (dp))), some (.int (Int32.ofInt (v))), some (.int (Int32.ofInt (-1))), c4], [], ml_mk h τ)) (show jw_cd cd_214 161 = some (.istore_n 2) by decide +kernel) rfl ?_
  exact kk
theorem jr_err {β : Bool} {d : Nat} {h : jx_H} {σ : mS} (hl : 49 ≤ h.length) {dp dn : Int} {c4 : Option Value} (he : σ 29 0 < 0 ∧ -1000 ≤ σ 29 0) : jx_r (jz β) jw_M (d + 6) 214 (162, [some (.ref 15), some (.int (Int32.ofInt (dp))), some (.int (Int32.ofInt (dn))), some (.int (Int32.ofInt (-1))), c4], [], ml_mk h σ) (ml_mk h (σ), .inl (some (.int (Int32.ofInt (dn))))) := by
  obtain ⟨x1, x2⟩ := he
  refine jr_1 jm_214 (show jw_cd cd_214 162 = some (.aload_n 0) by decide +kernel) rfl ?_
  refine jr_1 jm_214 (show jw_cd cd_214 163 = some (.getfield 148) by decide +kernel) (mg_i hl (e := σ 29 0) rfl (show jw_fld 34 148 16 = some 29 by decide +kernel) (by decide) (by decide)) ?_
  refine jr_1 jm_214 (show jw_cd cd_214 166 = some (.ifCond .ne 79) by decide +kernel) (mz_t (q := .ne) (a := σ 29 0) (t := 245) (fun z => by omega) ⟨by omega, by omega⟩ (by decide) (by decide)) ?_
  refine jr_1 jm_214 (show jw_cd cd_214 245 = some (.iload_n 2) by decide +kernel) rfl ?_
  refine jr_1 jm_214 (F2 := (247, [some (.ref 15), some (.int (Int32.ofInt (dp))), some (.int (Int32.ofInt (dn))), some (.int (Int32.ofInt (dn))), c4], [], ml_mk h σ)) (show jw_cd cd_214 246 = some (.istore_n 3) by decide +kernel) rfl ?_
  refine jr_1 jm_214 (show jw_cd cd_214 247 = some (.goto (-241)) by decide +kernel) (ju_go (t := 6) (by decide)) ?_
  refine jr_1 jm_214 (show jw_cd cd_214 6 = some (.aload_n 0) by decide +kernel) rfl ?_
  refine jr_1 jm_214 (show jw_cd cd_214 7 = some (.getfield 148) by decide +kernel) (mg_i hl (e := σ 29 0) rfl (show jw_fld 34 148 16 = some 29 by decide +kernel) (by decide) (by decide)) ?_
  refine jr_1 jm_214 (show jw_cd cd_214 10 = some (.ifCond .ne 240) by decide +kernel) (mz_t (q := .ne) (a := σ 29 0) (t := 250) (fun z => by omega) ⟨by omega, by omega⟩ (by decide) (by decide)) ?_
  refine jr_1 jm_214 (show jw_cd cd_214 250 = some (.aload_n 0) by decide +kernel) rfl ?_
  refine jr_1 jm_214 (show jw_cd cd_214 251 = some (.getfield 148) by decide +kernel) (mg_i hl (e := σ 29 0) rfl (show jw_fld 34 148 16 = some 29 by decide +kernel) (by decide) (by decide)) ?_
  refine jr_1 jm_214 (show jw_cd cd_214 254 = some (.ifCond .ne 22) by decide +kernel) (mz_t (q := .ne) (a := σ 29 0) (t := 276) (fun z => by omega) ⟨by omega, by omega⟩ (by decide) (by decide)) ?_
  refine jr_1 jm_214 (show jw_cd cd_214 276 = some (.iload_n 3) by decide +kernel) rfl ?_
  exact jr_v jm_214 (show jw_cd cd_214 277 = some (.ireturn) by decide +kernel) rfl
theorem jr_on {β : Bool} {d : Nat} {h : jx_H} {σ : mS} (hl : 49 ≤ h.length) {dp : Int} {c4 : Option Value} (he0 : σ 29 0 = 0) : ∀ res, jx_r (jz β) jw_M (d + 6) 214 (6, [some (.ref 15), some (.int (Int32.ofInt (dp))), some (.int (Int32.ofInt (-1))), some (.int (Int32.ofInt (-1))), c4], [], ml_mk h σ) res → jx_r (jz β) jw_M (d + 6) 214 (162, [some (.ref 15), some (.int (Int32.ofInt (dp))), some (.int (Int32.ofInt (-1))), some (.int (Int32.ofInt (-1))), c4], [], ml_mk h σ) res := by
  intro res kk
  refine jr_1 jm_214 (show jw_cd cd_214 162 = some (.aload_n 0) by decide +kernel) rfl ?_
  refine jr_1 jm_214 (show jw_cd cd_214 163 = some (.getfield 148) by decide +kernel) (mg_i hl (e := 0) he0 (show jw_fld 34 148 16 = some 29 by decide +kernel) (by decide) (by decide)) ?_
  refine jr_1 jm_214 (show jw_cd cd_214 166 = some (.ifCond .ne 79) by decide +kernel) (mz_f (q := .ne) (a := 0) (by show ¬ (¬ (0 = 0)); omega) ⟨by omega, by omega⟩ (by decide)) ?_
  refine jr_1 jm_214 (show jw_cd cd_214 169 = some (.iload_n 2) by decide +kernel) rfl ?_
  refine jr_1 jm_214 (show jw_cd cd_214 170 = some (.iconst (-1)) by decide +kernel) rfl ?_
  refine jr_1 jm_214 (show jw_cd cd_214 171 = some (.if_icmp .eq 74) by decide +kernel) (mb_t (q := .eq) (a := -1) (b := -1) (t := 245) (by show -1 = -1; omega) ⟨by omega, by omega⟩ ⟨by omega, by omega⟩ (by decide) (by decide)) ?_
  refine jr_1 jm_214 (show jw_cd cd_214 245 = some (.iload_n 2) by decide +kernel) rfl ?_
  refine jr_1 jm_214 (F2 := (247, [some (.ref 15), some (.int (Int32.ofInt (dp))), some (.int (Int32.ofInt (-1))), some (.int (Int32.ofInt (-1))), c4], [], ml_mk h σ)) (show jw_cd cd_214 246 = some (.istore_n 3) by decide +kernel) rfl ?_
  refine jr_1 jm_214 (show jw_cd cd_214 247 = some (.goto (-241)) by decide +kernel) (ju_go (t := 6) (by decide)) ?_
  exact kk
theorem jr_put {β : Bool} {d : Nat} {h : jx_H} {σ : mS} (hl : 49 ≤ h.length) {dp v w : Int} {c4 : Option Value} {τ : mS} (he0 : σ 29 0 = 0) (hv : 0 ≤ v ∧ v < 1740) (hd : 0 ≤ dp ∧ dp < 5) (e33 : τ 33 dp = w) (rp : jx_r (jz β) jw_M (d + 5) 228 (0, [some (.ref 15), some (.int (Int32.ofInt (dp))), some (.int (Int32.ofInt (v))), none, none], [], ml_mk h σ) (ml_mk h (τ), .inl none)) : ∀ res, jx_r (jz β) jw_M (d + 6) 214 (194, [some (.ref 15), some (.int (Int32.ofInt (dp))), some (.int (Int32.ofInt (-1))), some (.int (Int32.ofInt (-1))), some (.int (Int32.ofInt (w)))], [], ml_mk h τ) res → jx_r (jz β) jw_M (d + 6) 214 (162, [some (.ref 15), some (.int (Int32.ofInt (dp))), some (.int (Int32.ofInt (v))), some (.int (Int32.ofInt (-1))), c4], [], ml_mk h σ) res := by
  obtain ⟨v0, v1⟩ := hv
  obtain ⟨d0, d1⟩ := hd
  intro res kk
  refine jr_1 jm_214 (show jw_cd cd_214 162 = some (.aload_n 0) by decide +kernel) rfl ?_
  refine jr_1 jm_214 (show jw_cd cd_214 163 = some (.getfield 148) by decide +kernel) (mg_i hl (e := 0) he0 (show jw_fld 34 148 16 = some 29 by decide +kernel) (by decide) (by decide)) ?_
  refine jr_1 jm_214 (show jw_cd cd_214 166 = some (.ifCond .ne 79) by decide +kernel) (mz_f (q := .ne) (a := 0) (by show ¬ (¬ (0 = 0)); omega) ⟨by omega, by omega⟩ (by decide)) ?_
  refine jr_1 jm_214 (show jw_cd cd_214 169 = some (.iload_n 2) by decide +kernel) rfl ?_
  refine jr_1 jm_214 (show jw_cd cd_214 170 = some (.iconst (-1)) by decide +kernel) rfl ?_
  refine jr_1 jm_214 (show jw_cd cd_214 171 = some (.if_icmp .eq 74) by decide +kernel) (mb_f (q := .eq) (a := v) (b := -1) (by show ¬ (v = -1); omega) ⟨by omega, by omega⟩ ⟨by omega, by omega⟩ (by decide)) ?_
  refine jr_1 jm_214 (show jw_cd cd_214 174 = some (.iload_n 1) by decide +kernel) rfl ?_
  refine jr_1 jm_214 (show jw_cd cd_214 175 = some (.ifCond .lt 70) by decide +kernel) (mz_f (q := .lt) (a := dp) (by show ¬ (dp < 0); omega) ⟨by omega, by omega⟩ (by decide)) ?_
  refine jr_1 jm_214 (show jw_cd cd_214 178 = some (.aload_n 0) by decide +kernel) rfl ?_
  refine jr_1 jm_214 (show jw_cd cd_214 179 = some (.iload_n 1) by decide +kernel) rfl ?_
  refine jr_1 jm_214 (show jw_cd cd_214 180 = some (.iload_n 2) by decide +kernel) rfl ?_
  refine jr_c jm_214 (show jw_cd cd_214 181 = some (.invokevirtual 201) by decide +kernel) (mc_v hl (n := 2) (m2 := 228) (bs := [.int (Int32.ofInt (dp)), .int (Int32.ofInt (v))]) (r := []) (show jw_find jw_cvT 34 201 = some (2, [(16, 228)]) by decide +kernel) (by decide) rfl rfl rfl) jm_228 ⟨Nat.le_of_ble_eq_true rfl, by decide⟩ rp ?_
  refine jr_1 jm_214 (show jw_cd cd_214 184 = some (.iconst (-1)) by decide +kernel) rfl ?_
  refine jr_1 jm_214 (F2 := (186, [some (.ref 15), some (.int (Int32.ofInt (dp))), some (.int (Int32.ofInt (-1))), some (.int (Int32.ofInt (-1))), c4], [], ml_mk h τ)) (show jw_cd cd_214 185 = some (.istore_n 2) by decide +kernel) rfl ?_
  refine jr_1 jm_214 (show jw_cd cd_214 186 = some (.aload_n 0) by decide +kernel) rfl ?_
  refine jr_1 jm_214 (show jw_cd cd_214 187 = some (.getfield 80) by decide +kernel) (mg_a hl (a := 39) (show jw_fld 34 80 16 = some 33 by decide +kernel) (by decide) (by decide)) ?_
  refine jr_1 jm_214 (show jw_cd cd_214 190 = some (.iload_n 1) by decide +kernel) rfl ?_
  refine jr_1 jm_214 (show jw_cd cd_214 191 = some (.iaload) by decide +kernel) (ma_i hl (i := dp) (e := w) 33 (by omega) (by show _ < ((5 : Nat) : Int); omega) e33 (by decide) (by decide) (by decide)) ?_
  refine jr_1 jm_214 (F2 := (194, [some (.ref 15), some (.int (Int32.ofInt (dp))), some (.int (Int32.ofInt (-1))), some (.int (Int32.ofInt (-1))), some (.int (Int32.ofInt (w)))], [], ml_mk h τ)) (show jw_cd cd_214 192 = some (.istore 4) by decide +kernel) rfl ?_
  exact kk
theorem jr_comma {β : Bool} {d : Nat} {h : jx_H} {σ : mS} (hl : 49 ≤ h.length) {T : Int → Int} {n p : Int} (ht : tOK T n) (e1 : σ 1 = T) (e2 : σ 2 0 = n) (e28 : σ 28 0 = p) (h0 : 0 ≤ p) (hp : p ≤ n) (he0 : σ 29 0 = 0) {dp : Int} (hd : 0 ≤ dp ∧ dp ≤ 3) {w : Int} {τ : mS} (hc : tH T n p = 44) (rn : jx_r (jz β) jw_M (d + 5) 217 (0, [some (.ref 15), some (.int (Int32.ofInt (dp))), none], [], ml_mk h (mTake σ)) (ml_mk h (τ), .inl none)) : ∀ res, jx_r (jz β) jw_M (d + 6) 214 (162, [some (.ref 15), some (.int (Int32.ofInt (dp))), some (.int (Int32.ofInt (-1))), some (.int (Int32.ofInt (-1))), some (.int (Int32.ofInt (w)))], [], ml_mk h τ) res → jx_r (jz β) jw_M (d + 6) 214 (194, [some (.ref 15), some (.int (Int32.ofInt (dp))), some (.int (Int32.ofInt (-1))), some (.int (Int32.ofInt (-1))), some (.int (Int32.ofInt (w)))], [], ml_mk h σ) res := by
  have hh := tH_r (p := p) ht h0
  obtain ⟨d0, d1⟩ := hd
  intro res kk
  refine jr_1 jm_214 (show jw_cd cd_214 194 = some (.aload_n 0) by decide +kernel) rfl ?_
  refine jr_1 jm_214 (show jw_cd cd_214 195 = some (.bipush 44) by decide +kernel) (mt_bi (by decide)) ?_
  refine jr_c jm_214 (show jw_cd cd_214 197 = some (.invokevirtual 170) by decide +kernel) (mc_v hl (n := 1) (m2 := 226) (bs := [.int (Int32.ofInt (44))]) (r := []) (show jw_find jw_cvT 34 170 = some (1, [(16, 226)]) by decide +kernel) (by decide) rfl rfl rfl) jm_226 ⟨Nat.le_of_ble_eq_true rfl, by decide⟩ (jn_takes_t hl (mT_mk ht e1 e2 e28 h0 hp) ⟨by decide, by decide⟩ ((mHere_mk (T := T) (n := n) (p := p) e1 e2 e28).trans hc)) ?_
  refine jr_1 jm_214 (show jw_cd cd_214 200 = some (.ifCond .eq 11) by decide +kernel) (mz_f (q := .eq) (a := 1) (by show ¬ (1 = 0); omega) ⟨by omega, by omega⟩ (by decide)) ?_
  refine jr_1 jm_214 (show jw_cd cd_214 203 = some (.aload_n 0) by decide +kernel) rfl ?_
  refine jr_1 jm_214 (show jw_cd cd_214 204 = some (.iload_n 1) by decide +kernel) rfl ?_
  refine jr_c jm_214 (show jw_cd cd_214 205 = some (.invokevirtual 195) by decide +kernel) (mc_v hl (n := 1) (m2 := 217) (bs := [.int (Int32.ofInt (dp))]) (r := []) (show jw_find jw_cvT 34 195 = some (1, [(16, 217)]) by decide +kernel) (by decide) rfl rfl rfl) jm_217 ⟨Nat.le_of_ble_eq_true rfl, by decide⟩ rn ?_
  refine jr_1 jm_214 (show jw_cd cd_214 208 = some (.goto 34) by decide +kernel) (ju_go (t := 242) (by decide)) ?_
  refine jr_1 jm_214 (show jw_cd cd_214 242 = some (.goto (-80)) by decide +kernel) (ju_go (t := 162) (by decide)) ?_
  exact kk
theorem jr_end {β : Bool} {d : Nat} {h : jx_H} {σ : mS} (hl : 49 ≤ h.length) {T : Int → Int} {n p : Int} (ht : tOK T n) (e1 : σ 1 = T) (e2 : σ 2 0 = n) (e28 : σ 28 0 = p) (h0 : 0 ≤ p) (hp : p ≤ n) (he0 : σ 29 0 = 0) {dp : Int} (hd : 0 ≤ dp ∧ dp ≤ 3) {w kd : Int} (hw : 0 ≤ w ∧ w < 1740) (e3 : σ 3 w = kd) (hkd : kd = 5 ∨ kd = 6) (h44 : ¬ tH T n p = 44) (hc : tH T n p = if kd = 5 then 93 else 125) : ∀ res, jx_r (jz β) jw_M (d + 6) 214 (162, [some (.ref 15), some (.int (Int32.ofInt (dp - 1))), some (.int (Int32.ofInt (w))), some (.int (Int32.ofInt (-1))), some (.int (Int32.ofInt (w)))], [], ml_mk h (mTake σ)) res → jx_r (jz β) jw_M (d + 6) 214 (194, [some (.ref 15), some (.int (Int32.ofInt (dp))), some (.int (Int32.ofInt (-1))), some (.int (Int32.ofInt (-1))), some (.int (Int32.ofInt (w)))], [], ml_mk h σ) res := by
  have hh := tH_r (p := p) ht h0
  obtain ⟨d0, d1⟩ := hd
  obtain ⟨w0, w1⟩ := hw
  intro res kk
  by_cases hk : kd = 5
  · rw [if_pos hk] at hc
    refine jr_1 jm_214 (show jw_cd cd_214 194 = some (.aload_n 0) by decide +kernel) rfl ?_
    refine jr_1 jm_214 (show jw_cd cd_214 195 = some (.bipush 44) by decide +kernel) (mt_bi (by decide)) ?_
    refine jr_c jm_214 (show jw_cd cd_214 197 = some (.invokevirtual 170) by decide +kernel) (mc_v hl (n := 1) (m2 := 226) (bs := [.int (Int32.ofInt (44))]) (r := []) (show jw_find jw_cvT 34 170 = some (1, [(16, 226)]) by decide +kernel) (by decide) rfl rfl rfl) jm_226 ⟨Nat.le_of_ble_eq_true rfl, by decide⟩ (jn_takes_f hl (mT_mk ht e1 e2 e28 h0 hp) ⟨by decide, by decide⟩ (fun z => h44 ((mHere_mk (T := T) (n := n) (p := p) e1 e2 e28).symm.trans z))) ?_
    refine jr_1 jm_214 (show jw_cd cd_214 200 = some (.ifCond .eq 11) by decide +kernel) (mz_t (q := .eq) (a := 0) (t := 211) (by show 0 = 0; omega) ⟨by omega, by omega⟩ (by decide) (by decide)) ?_
    refine jr_1 jm_214 (show jw_cd cd_214 211 = some (.aload_n 0) by decide +kernel) rfl ?_
    refine jr_1 jm_214 (show jw_cd cd_214 212 = some (.aload_n 0) by decide +kernel) rfl ?_
    refine jr_1 jm_214 (show jw_cd cd_214 213 = some (.getfield 13) by decide +kernel) (mg_a hl (a := 17) (show jw_fld 34 13 16 = some 3 by decide +kernel) (by decide) (by decide)) ?_
    refine jr_1 jm_214 (show jw_cd cd_214 216 = some (.iload 4) by decide +kernel) rfl ?_
    refine jr_1 jm_214 (show jw_cd cd_214 218 = some (.iaload) by decide +kernel) (ma_i hl (i := w) (e := kd) 3 (by omega) (by show _ < ((1740 : Nat) : Int); omega) e3 (by decide) (by decide) (by decide)) ?_
    refine jr_1 jm_214 (show jw_cd cd_214 219 = some (.iconst 5) by decide +kernel) rfl ?_
    refine jr_1 jm_214 (show jw_cd cd_214 220 = some (.if_icmp .ne 8) by decide +kernel) (mb_f (q := .ne) (a := kd) (b := 5) (fun z => z hk) ⟨by omega, by omega⟩ ⟨by omega, by omega⟩ (by decide)) ?_
    refine jr_1 jm_214 (show jw_cd cd_214 223 = some (.bipush 93) by decide +kernel) (mt_bi (by decide)) ?_
    refine jr_1 jm_214 (show jw_cd cd_214 225 = some (.goto 5) by decide +kernel) (ju_go (t := 230) (by decide)) ?_
    refine jr_c jm_214 (show jw_cd cd_214 230 = some (.invokevirtual 179) by decide +kernel) (mc_v hl (n := 1) (m2 := 221) (bs := [.int (Int32.ofInt (93))]) (r := []) (show jw_find jw_cvT 34 179 = some (1, [(16, 221)]) by decide +kernel) (by decide) rfl rfl rfl) jm_221 ⟨Nat.le_of_ble_eq_true rfl, by decide⟩ (jn_must_t hl (mT_mk ht e1 e2 e28 h0 hp) ⟨by decide, by decide⟩ ((mHere_mk (T := T) (n := n) (p := p) e1 e2 e28).trans hc)) ?_
    refine jr_1 jm_214 (show jw_cd cd_214 233 = some (.ifCond .eq 9) by decide +kernel) (mz_f (q := .eq) (a := 1) (by show ¬ (1 = 0); omega) ⟨by omega, by omega⟩ (by decide)) ?_
    refine jr_1 jm_214 (F2 := (239, [some (.ref 15), some (.int (Int32.ofInt (dp - 1))), some (.int (Int32.ofInt (-1))), some (.int (Int32.ofInt (-1))), some (.int (Int32.ofInt (w)))], [], ml_mk h (mTake σ))) (show jw_cd cd_214 236 = some (.iinc 1 (-1)) by decide +kernel) (mt_inc (a := dp) (c := dp - 1) rfl (by omega) rfl) ?_
    refine jr_1 jm_214 (show jw_cd cd_214 239 = some (.iload 4) by decide +kernel) rfl ?_
    refine jr_1 jm_214 (F2 := (242, [some (.ref 15), some (.int (Int32.ofInt (dp - 1))), some (.int (Int32.ofInt (w))), some (.int (Int32.ofInt (-1))), some (.int (Int32.ofInt (w)))], [], ml_mk h (mTake σ))) (show jw_cd cd_214 241 = some (.istore_n 2) by decide +kernel) rfl ?_
    refine jr_1 jm_214 (show jw_cd cd_214 242 = some (.goto (-80)) by decide +kernel) (ju_go (t := 162) (by decide)) ?_
    exact kk
  · rw [if_neg hk] at hc
    refine jr_1 jm_214 (show jw_cd cd_214 194 = some (.aload_n 0) by decide +kernel) rfl ?_
    refine jr_1 jm_214 (show jw_cd cd_214 195 = some (.bipush 44) by decide +kernel) (mt_bi (by decide)) ?_
    refine jr_c jm_214 (show jw_cd cd_214 197 = some (.invokevirtual 170) by decide +kernel) (mc_v hl (n := 1) (m2 := 226) (bs := [.int (Int32.ofInt (44))]) (r := []) (show jw_find jw_cvT 34 170 = some (1, [(16, 226)]) by decide +kernel) (by decide) rfl rfl rfl) jm_226 ⟨Nat.le_of_ble_eq_true rfl, by decide⟩ (jn_takes_f hl (mT_mk ht e1 e2 e28 h0 hp) ⟨by decide, by decide⟩ (fun z => h44 ((mHere_mk (T := T) (n := n) (p := p) e1 e2 e28).symm.trans z))) ?_
    refine jr_1 jm_214 (show jw_cd cd_214 200 = some (.ifCond .eq 11) by decide +kernel) (mz_t (q := .eq) (a := 0) (t := 211) (by show 0 = 0; omega) ⟨by omega, by omega⟩ (by decide) (by decide)) ?_
    refine jr_1 jm_214 (show jw_cd cd_214 211 = some (.aload_n 0) by decide +kernel) rfl ?_
    refine jr_1 jm_214 (show jw_cd cd_214 212 = some (.aload_n 0) by decide +kernel) rfl ?_
    refine jr_1 jm_214 (show jw_cd cd_214 213 = some (.getfield 13) by decide +kernel) (mg_a hl (a := 17) (show jw_fld 34 13 16 = some 3 by decide +kernel) (by decide) (by decide)) ?_
    refine jr_1 jm_214 (show jw_cd cd_214 216 = some (.iload 4) by decide +kernel) rfl ?_
    refine jr_1 jm_214 (show jw_cd cd_214 218 = some (.iaload) by decide +kernel) (ma_i hl (i := w) (e := kd) 3 (by omega) (by show _ < ((1740 : Nat) : Int); omega) e3 (by decide) (by decide) (by decide)) ?_
    refine jr_1 jm_214 (show jw_cd cd_214 219 = some (.iconst 5) by decide +kernel) rfl ?_
    refine jr_1 jm_214 (show jw_cd cd_214 220 = some (.if_icmp .ne 8) by decide +kernel) (mb_t (q := .ne) (a := kd) (b := 5) (t := 228) (fun z => by omega) ⟨by omega, by omega⟩ ⟨by omega, by omega⟩ (by decide) (by decide)) ?_
    refine jr_1 jm_214 (show jw_cd cd_214 228 = some (.bipush 125) by decide +kernel) (mt_bi (by decide)) ?_
    refine jr_c jm_214 (show jw_cd cd_214 230 = some (.invokevirtual 179) by decide +kernel) (mc_v hl (n := 1) (m2 := 221) (bs := [.int (Int32.ofInt (125))]) (r := []) (show jw_find jw_cvT 34 179 = some (1, [(16, 221)]) by decide +kernel) (by decide) rfl rfl rfl) jm_221 ⟨Nat.le_of_ble_eq_true rfl, by decide⟩ (jn_must_t hl (mT_mk ht e1 e2 e28 h0 hp) ⟨by decide, by decide⟩ ((mHere_mk (T := T) (n := n) (p := p) e1 e2 e28).trans hc)) ?_
    refine jr_1 jm_214 (show jw_cd cd_214 233 = some (.ifCond .eq 9) by decide +kernel) (mz_f (q := .eq) (a := 1) (by show ¬ (1 = 0); omega) ⟨by omega, by omega⟩ (by decide)) ?_
    refine jr_1 jm_214 (F2 := (239, [some (.ref 15), some (.int (Int32.ofInt (dp - 1))), some (.int (Int32.ofInt (-1))), some (.int (Int32.ofInt (-1))), some (.int (Int32.ofInt (w)))], [], ml_mk h (mTake σ))) (show jw_cd cd_214 236 = some (.iinc 1 (-1)) by decide +kernel) (mt_inc (a := dp) (c := dp - 1) rfl (by omega) rfl) ?_
    refine jr_1 jm_214 (show jw_cd cd_214 239 = some (.iload 4) by decide +kernel) rfl ?_
    refine jr_1 jm_214 (F2 := (242, [some (.ref 15), some (.int (Int32.ofInt (dp - 1))), some (.int (Int32.ofInt (w))), some (.int (Int32.ofInt (-1))), some (.int (Int32.ofInt (w)))], [], ml_mk h (mTake σ))) (show jw_cd cd_214 241 = some (.istore_n 2) by decide +kernel) rfl ?_
    refine jr_1 jm_214 (show jw_cd cd_214 242 = some (.goto (-80)) by decide +kernel) (ju_go (t := 162) (by decide)) ?_
    exact kk
theorem jr_bad {β : Bool} {d : Nat} {h : jx_H} {σ : mS} (hl : 49 ≤ h.length) {T : Int → Int} {n p : Int} (ht : tOK T n) (e1 : σ 1 = T) (e2 : σ 2 0 = n) (e28 : σ 28 0 = p) (h0 : 0 ≤ p) (hp : p ≤ n) (he0 : σ 29 0 = 0) {dp : Int} (hd : 0 ≤ dp ∧ dp ≤ 3) {w kd : Int} (hw : 0 ≤ w ∧ w < 1740) (e3 : σ 3 w = kd) (hkd : kd = 5 ∨ kd = 6) (h44 : ¬ tH T n p = 44) (hc : ¬ tH T n p = if kd = 5 then 93 else 125) : ∀ res, jx_r (jz β) jw_M (d + 6) 214 (162, [some (.ref 15), some (.int (Int32.ofInt (dp))), some (.int (Int32.ofInt (-1))), some (.int (Int32.ofInt (-1))), some (.int (Int32.ofInt (w)))], [], ml_mk h (mWrong σ (σ 28 0))) res → jx_r (jz β) jw_M (d + 6) 214 (194, [some (.ref 15), some (.int (Int32.ofInt (dp))), some (.int (Int32.ofInt (-1))), some (.int (Int32.ofInt (-1))), some (.int (Int32.ofInt (w)))], [], ml_mk h σ) res := by
  have hh := tH_r (p := p) ht h0
  obtain ⟨d0, d1⟩ := hd
  obtain ⟨w0, w1⟩ := hw
  intro res kk
  by_cases hk : kd = 5
  · rw [if_pos hk] at hc
    refine jr_1 jm_214 (show jw_cd cd_214 194 = some (.aload_n 0) by decide +kernel) rfl ?_
    refine jr_1 jm_214 (show jw_cd cd_214 195 = some (.bipush 44) by decide +kernel) (mt_bi (by decide)) ?_
    refine jr_c jm_214 (show jw_cd cd_214 197 = some (.invokevirtual 170) by decide +kernel) (mc_v hl (n := 1) (m2 := 226) (bs := [.int (Int32.ofInt (44))]) (r := []) (show jw_find jw_cvT 34 170 = some (1, [(16, 226)]) by decide +kernel) (by decide) rfl rfl rfl) jm_226 ⟨Nat.le_of_ble_eq_true rfl, by decide⟩ (jn_takes_f hl (mT_mk ht e1 e2 e28 h0 hp) ⟨by decide, by decide⟩ (fun z => h44 ((mHere_mk (T := T) (n := n) (p := p) e1 e2 e28).symm.trans z))) ?_
    refine jr_1 jm_214 (show jw_cd cd_214 200 = some (.ifCond .eq 11) by decide +kernel) (mz_t (q := .eq) (a := 0) (t := 211) (by show 0 = 0; omega) ⟨by omega, by omega⟩ (by decide) (by decide)) ?_
    refine jr_1 jm_214 (show jw_cd cd_214 211 = some (.aload_n 0) by decide +kernel) rfl ?_
    refine jr_1 jm_214 (show jw_cd cd_214 212 = some (.aload_n 0) by decide +kernel) rfl ?_
    refine jr_1 jm_214 (show jw_cd cd_214 213 = some (.getfield 13) by decide +kernel) (mg_a hl (a := 17) (show jw_fld 34 13 16 = some 3 by decide +kernel) (by decide) (by decide)) ?_
    refine jr_1 jm_214 (show jw_cd cd_214 216 = some (.iload 4) by decide +kernel) rfl ?_
    refine jr_1 jm_214 (show jw_cd cd_214 218 = some (.iaload) by decide +kernel) (ma_i hl (i := w) (e := kd) 3 (by omega) (by show _ < ((1740 : Nat) : Int); omega) e3 (by decide) (by decide) (by decide)) ?_
    refine jr_1 jm_214 (show jw_cd cd_214 219 = some (.iconst 5) by decide +kernel) rfl ?_
    refine jr_1 jm_214 (show jw_cd cd_214 220 = some (.if_icmp .ne 8) by decide +kernel) (mb_f (q := .ne) (a := kd) (b := 5) (fun z => z hk) ⟨by omega, by omega⟩ ⟨by omega, by omega⟩ (by decide)) ?_
    refine jr_1 jm_214 (show jw_cd cd_214 223 = some (.bipush 93) by decide +kernel) (mt_bi (by decide)) ?_
    refine jr_1 jm_214 (show jw_cd cd_214 225 = some (.goto 5) by decide +kernel) (ju_go (t := 230) (by decide)) ?_
    refine jr_c jm_214 (show jw_cd cd_214 230 = some (.invokevirtual 179) by decide +kernel) (mc_v hl (n := 1) (m2 := 221) (bs := [.int (Int32.ofInt (93))]) (r := []) (show jw_find jw_cvT 34 179 = some (1, [(16, 221)]) by decide +kernel) (by decide) rfl rfl rfl) jm_221 ⟨Nat.le_of_ble_eq_true rfl, by decide⟩ (jn_must_f hl (mT_mk ht e1 e2 e28 h0 hp) (by rw [he0]; exact ⟨by decide, by decide⟩) ⟨by decide, by decide⟩ (fun z => hc ((mHere_mk (T := T) (n := n) (p := p) e1 e2 e28).symm.trans z))) ?_
    refine jr_1 jm_214 (show jw_cd cd_214 233 = some (.ifCond .eq 9) by decide +kernel) (mz_t (q := .eq) (a := 0) (t := 242) (by show 0 = 0; omega) ⟨by omega, by omega⟩ (by decide) (by decide)) ?_
    refine jr_1 jm_214 (show jw_cd cd_214 242 = some (.goto (-80)) by decide +kernel) (ju_go (t := 162) (by decide)) ?_
    exact kk
  · rw [if_neg hk] at hc
    refine jr_1 jm_214 (show jw_cd cd_214 194 = some (.aload_n 0) by decide +kernel) rfl ?_
    refine jr_1 jm_214 (show jw_cd cd_214 195 = some (.bipush 44) by decide +kernel) (mt_bi (by decide)) ?_
    refine jr_c jm_214 (show jw_cd cd_214 197 = some (.invokevirtual 170) by decide +kernel) (mc_v hl (n := 1) (m2 := 226) (bs := [.int (Int32.ofInt (44))]) (r := []) (show jw_find jw_cvT 34 170 = some (1, [(16, 226)]) by decide +kernel) (by decide) rfl rfl rfl) jm_226 ⟨Nat.le_of_ble_eq_true rfl, by decide⟩ (jn_takes_f hl (mT_mk ht e1 e2 e28 h0 hp) ⟨by decide, by decide⟩ (fun z => h44 ((mHere_mk (T := T) (n := n) (p := p) e1 e2 e28).symm.trans z))) ?_
    refine jr_1 jm_214 (show jw_cd cd_214 200 = some (.ifCond .eq 11) by decide +kernel) (mz_t (q := .eq) (a := 0) (t := 211) (by show 0 = 0; omega) ⟨by omega, by omega⟩ (by decide) (by decide)) ?_
    refine jr_1 jm_214 (show jw_cd cd_214 211 = some (.aload_n 0) by decide +kernel) rfl ?_
    refine jr_1 jm_214 (show jw_cd cd_214 212 = some (.aload_n 0) by decide +kernel) rfl ?_
    refine jr_1 jm_214 (show jw_cd cd_214 213 = some (.getfield 13) by decide +kernel) (mg_a hl (a := 17) (show jw_fld 34 13 16 = some 3 by decide +kernel) (by decide) (by decide)) ?_
    refine jr_1 jm_214 (show jw_cd cd_214 216 = some (.iload 4) by decide +kernel) rfl ?_
    refine jr_1 jm_214 (show jw_cd cd_214 218 = some (.iaload) by decide +kernel) (ma_i hl (i := w) (e := kd) 3 (by omega) (by show _ < ((1740 : Nat) : Int); omega) e3 (by decide) (by decide) (by decide)) ?_
    refine jr_1 jm_214 (show jw_cd cd_214 219 = some (.iconst 5) by decide +kernel) rfl ?_
    refine jr_1 jm_214 (show jw_cd cd_214 220 = some (.if_icmp .ne 8) by decide +kernel) (mb_t (q := .ne) (a := kd) (b := 5) (t := 228) (fun z => by omega) ⟨by omega, by omega⟩ ⟨by omega, by omega⟩ (by decide) (by decide)) ?_
    refine jr_1 jm_214 (show jw_cd cd_214 228 = some (.bipush 125) by decide +kernel) (mt_bi (by decide)) ?_
    refine jr_c jm_214 (show jw_cd cd_214 230 = some (.invokevirtual 179) by decide +kernel) (mc_v hl (n := 1) (m2 := 221) (bs := [.int (Int32.ofInt (125))]) (r := []) (show jw_find jw_cvT 34 179 = some (1, [(16, 221)]) by decide +kernel) (by decide) rfl rfl rfl) jm_221 ⟨Nat.le_of_ble_eq_true rfl, by decide⟩ (jn_must_f hl (mT_mk ht e1 e2 e28 h0 hp) (by rw [he0]; exact ⟨by decide, by decide⟩) ⟨by decide, by decide⟩ (fun z => hc ((mHere_mk (T := T) (n := n) (p := p) e1 e2 e28).symm.trans z))) ?_
    refine jr_1 jm_214 (show jw_cd cd_214 233 = some (.ifCond .eq 9) by decide +kernel) (mz_t (q := .eq) (a := 0) (t := 242) (by show 0 = 0; omega) ⟨by omega, by omega⟩ (by decide) (by decide)) ?_
    refine jr_1 jm_214 (show jw_cd cd_214 242 = some (.goto (-80)) by decide +kernel) (ju_go (t := 162) (by decide)) ?_
    exact kk
theorem jr_fin {β : Bool} {d : Nat} {h : jx_H} {σ : mS} (hl : 49 ≤ h.length) {T : Int → Int} {n p : Int} (ht : tOK T n) (e1 : σ 1 = T) (e2 : σ 2 0 = n) (e28 : σ 28 0 = p) (h0 : 0 ≤ p) (hp : p ≤ n) (he0 : σ 29 0 = 0) {v : Int} {c4 : Option Value} (hv : 0 ≤ v ∧ v < 1740) (hpn : p = n) : jx_r (jz β) jw_M (d + 6) 214 (162, [some (.ref 15), some (.int (Int32.ofInt (-1))), some (.int (Int32.ofInt (v))), some (.int (Int32.ofInt (-1))), c4], [], ml_mk h σ) (ml_mk h (σ), .inl (some (.int (Int32.ofInt (v))))) := by
  obtain ⟨v0, v1⟩ := hv
  obtain ⟨t0, t1, t2⟩ := ht
  refine jr_1 jm_214 (show jw_cd cd_214 162 = some (.aload_n 0) by decide +kernel) rfl ?_
  refine jr_1 jm_214 (show jw_cd cd_214 163 = some (.getfield 148) by decide +kernel) (mg_i hl (e := 0) he0 (show jw_fld 34 148 16 = some 29 by decide +kernel) (by decide) (by decide)) ?_
  refine jr_1 jm_214 (show jw_cd cd_214 166 = some (.ifCond .ne 79) by decide +kernel) (mz_f (q := .ne) (a := 0) (by show ¬ (¬ (0 = 0)); omega) ⟨by omega, by omega⟩ (by decide)) ?_
  refine jr_1 jm_214 (show jw_cd cd_214 169 = some (.iload_n 2) by decide +kernel) rfl ?_
  refine jr_1 jm_214 (show jw_cd cd_214 170 = some (.iconst (-1)) by decide +kernel) rfl ?_
  refine jr_1 jm_214 (show jw_cd cd_214 171 = some (.if_icmp .eq 74) by decide +kernel) (mb_f (q := .eq) (a := v) (b := -1) (by show ¬ (v = -1); omega) ⟨by omega, by omega⟩ ⟨by omega, by omega⟩ (by decide)) ?_
  refine jr_1 jm_214 (show jw_cd cd_214 174 = some (.iload_n 1) by decide +kernel) rfl ?_
  refine jr_1 jm_214 (show jw_cd cd_214 175 = some (.ifCond .lt 70) by decide +kernel) (mz_t (q := .lt) (a := -1) (t := 245) (by show -1 < 0; omega) ⟨by omega, by omega⟩ (by decide) (by decide)) ?_
  refine jr_1 jm_214 (show jw_cd cd_214 245 = some (.iload_n 2) by decide +kernel) rfl ?_
  refine jr_1 jm_214 (F2 := (247, [some (.ref 15), some (.int (Int32.ofInt (-1))), some (.int (Int32.ofInt (v))), some (.int (Int32.ofInt (v))), c4], [], ml_mk h σ)) (show jw_cd cd_214 246 = some (.istore_n 3) by decide +kernel) rfl ?_
  refine jr_1 jm_214 (show jw_cd cd_214 247 = some (.goto (-241)) by decide +kernel) (ju_go (t := 6) (by decide)) ?_
  refine jr_1 jm_214 (show jw_cd cd_214 6 = some (.aload_n 0) by decide +kernel) rfl ?_
  refine jr_1 jm_214 (show jw_cd cd_214 7 = some (.getfield 148) by decide +kernel) (mg_i hl (e := 0) he0 (show jw_fld 34 148 16 = some 29 by decide +kernel) (by decide) (by decide)) ?_
  refine jr_1 jm_214 (show jw_cd cd_214 10 = some (.ifCond .ne 240) by decide +kernel) (mz_f (q := .ne) (a := 0) (by show ¬ (¬ (0 = 0)); omega) ⟨by omega, by omega⟩ (by decide)) ?_
  refine jr_1 jm_214 (show jw_cd cd_214 13 = some (.iload_n 3) by decide +kernel) rfl ?_
  refine jr_1 jm_214 (show jw_cd cd_214 14 = some (.iconst (-1)) by decide +kernel) rfl ?_
  refine jr_1 jm_214 (show jw_cd cd_214 15 = some (.if_icmp .ne 235) by decide +kernel) (mb_t (q := .ne) (a := v) (b := -1) (t := 250) (by show ¬ (v = -1); omega) ⟨by omega, by omega⟩ ⟨by omega, by omega⟩ (by decide) (by decide)) ?_
  refine jr_1 jm_214 (show jw_cd cd_214 250 = some (.aload_n 0) by decide +kernel) rfl ?_
  refine jr_1 jm_214 (show jw_cd cd_214 251 = some (.getfield 148) by decide +kernel) (mg_i hl (e := 0) he0 (show jw_fld 34 148 16 = some 29 by decide +kernel) (by decide) (by decide)) ?_
  refine jr_1 jm_214 (show jw_cd cd_214 254 = some (.ifCond .ne 22) by decide +kernel) (mz_f (q := .ne) (a := 0) (by show ¬ (¬ (0 = 0)); omega) ⟨by omega, by omega⟩ (by decide)) ?_
  refine jr_1 jm_214 (show jw_cd cd_214 257 = some (.aload_n 0) by decide +kernel) rfl ?_
  refine jr_1 jm_214 (show jw_cd cd_214 258 = some (.getfield 145) by decide +kernel) (mg_i hl (e := p) e28 (show jw_fld 34 145 16 = some 28 by decide +kernel) (by decide) (by decide)) ?_
  refine jr_1 jm_214 (show jw_cd cd_214 261 = some (.aload_n 0) by decide +kernel) rfl ?_
  refine jr_1 jm_214 (show jw_cd cd_214 262 = some (.getfield 142) by decide +kernel) (mg_i hl (e := n) e2 (show jw_fld 34 142 16 = some 2 by decide +kernel) (by decide) (by decide)) ?_
  refine jr_1 jm_214 (show jw_cd cd_214 265 = some (.if_icmp .ge 11) by decide +kernel) (mb_t (q := .ge) (a := p) (b := n) (t := 276) (by show n ≤ p; omega) ⟨by omega, by omega⟩ ⟨by omega, by omega⟩ (by decide) (by decide)) ?_
  refine jr_1 jm_214 (show jw_cd cd_214 276 = some (.iload_n 3) by decide +kernel) rfl ?_
  exact jr_v jm_214 (show jw_cd cd_214 277 = some (.ireturn) by decide +kernel) rfl
theorem jr_more {β : Bool} {d : Nat} {h : jx_H} {σ : mS} (hl : 49 ≤ h.length) {T : Int → Int} {n p : Int} (ht : tOK T n) (e1 : σ 1 = T) (e2 : σ 2 0 = n) (e28 : σ 28 0 = p) (h0 : 0 ≤ p) (hp : p ≤ n) (he0 : σ 29 0 = 0) {v : Int} {c4 : Option Value} (hv : 0 ≤ v ∧ v < 1740) (hpn : p < n) : jx_r (jz β) jw_M (d + 6) 214 (162, [some (.ref 15), some (.int (Int32.ofInt (-1))), some (.int (Int32.ofInt (v))), some (.int (Int32.ofInt (-1))), c4], [], ml_mk h σ) (ml_mk h (mWrong σ p), .inl (some (.int (Int32.ofInt (v))))) := by
  obtain ⟨v0, v1⟩ := hv
  obtain ⟨t0, t1, t2⟩ := ht
  refine jr_1 jm_214 (show jw_cd cd_214 162 = some (.aload_n 0) by decide +kernel) rfl ?_
  refine jr_1 jm_214 (show jw_cd cd_214 163 = some (.getfield 148) by decide +kernel) (mg_i hl (e := 0) he0 (show jw_fld 34 148 16 = some 29 by decide +kernel) (by decide) (by decide)) ?_
  refine jr_1 jm_214 (show jw_cd cd_214 166 = some (.ifCond .ne 79) by decide +kernel) (mz_f (q := .ne) (a := 0) (by show ¬ (¬ (0 = 0)); omega) ⟨by omega, by omega⟩ (by decide)) ?_
  refine jr_1 jm_214 (show jw_cd cd_214 169 = some (.iload_n 2) by decide +kernel) rfl ?_
  refine jr_1 jm_214 (show jw_cd cd_214 170 = some (.iconst (-1)) by decide +kernel) rfl ?_
  refine jr_1 jm_214 (show jw_cd cd_214 171 = some (.if_icmp .eq 74) by decide +kernel) (mb_f (q := .eq) (a := v) (b := -1) (by show ¬ (v = -1); omega) ⟨by omega, by omega⟩ ⟨by omega, by omega⟩ (by decide)) ?_
  refine jr_1 jm_214 (show jw_cd cd_214 174 = some (.iload_n 1) by decide +kernel) rfl ?_
  refine jr_1 jm_214 (show jw_cd cd_214 175 = some (.ifCond .lt 70) by decide +kernel) (mz_t (q := .lt) (a := -1) (t := 245) (by show -1 < 0; omega) ⟨by omega, by omega⟩ (by decide) (by decide)) ?_
  refine jr_1 jm_214 (show jw_cd cd_214 245 = some (.iload_n 2) by decide +kernel) rfl ?_
  refine jr_1 jm_214 (F2 := (247, [some (.ref 15), some (.int (Int32.ofInt (-1))), some (.int (Int32.ofInt (v))), some (.int (Int32.ofInt (v))), c4], [], ml_mk h σ)) (show jw_cd cd_214 246 = some (.istore_n 3) by decide +kernel) rfl ?_
  refine jr_1 jm_214 (show jw_cd cd_214 247 = some (.goto (-241)) by decide +kernel) (ju_go (t := 6) (by decide)) ?_
  refine jr_1 jm_214 (show jw_cd cd_214 6 = some (.aload_n 0) by decide +kernel) rfl ?_
  refine jr_1 jm_214 (show jw_cd cd_214 7 = some (.getfield 148) by decide +kernel) (mg_i hl (e := 0) he0 (show jw_fld 34 148 16 = some 29 by decide +kernel) (by decide) (by decide)) ?_
  refine jr_1 jm_214 (show jw_cd cd_214 10 = some (.ifCond .ne 240) by decide +kernel) (mz_f (q := .ne) (a := 0) (by show ¬ (¬ (0 = 0)); omega) ⟨by omega, by omega⟩ (by decide)) ?_
  refine jr_1 jm_214 (show jw_cd cd_214 13 = some (.iload_n 3) by decide +kernel) rfl ?_
  refine jr_1 jm_214 (show jw_cd cd_214 14 = some (.iconst (-1)) by decide +kernel) rfl ?_
  refine jr_1 jm_214 (show jw_cd cd_214 15 = some (.if_icmp .ne 235) by decide +kernel) (mb_t (q := .ne) (a := v) (b := -1) (t := 250) (by show ¬ (v = -1); omega) ⟨by omega, by omega⟩ ⟨by omega, by omega⟩ (by decide) (by decide)) ?_
  refine jr_1 jm_214 (show jw_cd cd_214 250 = some (.aload_n 0) by decide +kernel) rfl ?_
  refine jr_1 jm_214 (show jw_cd cd_214 251 = some (.getfield 148) by decide +kernel) (mg_i hl (e := 0) he0 (show jw_fld 34 148 16 = some 29 by decide +kernel) (by decide) (by decide)) ?_
  refine jr_1 jm_214 (show jw_cd cd_214 254 = some (.ifCond .ne 22) by decide +kernel) (mz_f (q := .ne) (a := 0) (by show ¬ (¬ (0 = 0)); omega) ⟨by omega, by omega⟩ (by decide)) ?_
  refine jr_1 jm_214 (show jw_cd cd_214 257 = some (.aload_n 0) by decide +kernel) rfl ?_
  refine jr_1 jm_214 (show jw_cd cd_214 258 = some (.getfield 145) by decide +kernel) (mg_i hl (e := p) e28 (show jw_fld 34 145 16 = some 28 by decide +kernel) (by decide) (by decide)) ?_
  refine jr_1 jm_214 (show jw_cd cd_214 261 = some (.aload_n 0) by decide +kernel) rfl ?_
  refine jr_1 jm_214 (show jw_cd cd_214 262 = some (.getfield 142) by decide +kernel) (mg_i hl (e := n) e2 (show jw_fld 34 142 16 = some 2 by decide +kernel) (by decide) (by decide)) ?_
  refine jr_1 jm_214 (show jw_cd cd_214 265 = some (.if_icmp .ge 11) by decide +kernel) (mb_f (q := .ge) (a := p) (b := n) (by show ¬ (n ≤ p); omega) ⟨by omega, by omega⟩ ⟨by omega, by omega⟩ (by decide)) ?_
  refine jr_1 jm_214 (show jw_cd cd_214 268 = some (.aload_n 0) by decide +kernel) rfl ?_
  refine jr_1 jm_214 (show jw_cd cd_214 269 = some (.aload_n 0) by decide +kernel) rfl ?_
  refine jr_1 jm_214 (show jw_cd cd_214 270 = some (.getfield 145) by decide +kernel) (mg_i hl (e := p) e28 (show jw_fld 34 145 16 = some 28 by decide +kernel) (by decide) (by decide)) ?_
  refine jr_c jm_214 (show jw_cd cd_214 273 = some (.invokevirtual 155) by decide +kernel) (mc_v hl (n := 1) (m2 := 216) (bs := [.int (Int32.ofInt (p))]) (r := []) (show jw_find jw_cvT 34 155 = some (1, [(16, 216)]) by decide +kernel) (by decide) rfl rfl rfl) jm_216 ⟨Nat.le_of_ble_eq_true rfl, by decide⟩ (jn_wrong hl (by rw [he0]; exact ⟨by decide, by decide⟩)) ?_
  refine jr_1 jm_214 (show jw_cd cd_214 276 = some (.iload_n 3) by decide +kernel) rfl ?_
  exact jr_v jm_214 (show jw_cd cd_214 277 = some (.ireturn) by decide +kernel) rfl
