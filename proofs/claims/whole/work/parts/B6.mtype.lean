/-! ===== the model's typeOf, fits, sort (printed by program: gen39.py) ===== -/
def tyS (k : Int) : List Int := if k = 0 then [110, 111, 110, 101] else if k = 1 then [116, 114, 117, 116, 104] else if k = 2 then [116, 114, 117, 116, 104] else if k = 3 then [110, 117, 109, 98, 101, 114] else if k = 4 then [116, 101, 120, 116] else if k = 5 then [108, 105, 115, 116] else [111, 98, 106, 101, 99, 116]
theorem jn_type0 {β : Bool} {d : Nat} {h : jx_H} {σ : mS} (hl : 49 ≤ h.length) {nn : Int} (e11 : σ 11 4 = nn) (hn0 : 0 ≤ nn) (hn1 : 170 * 4 + nn < 1740) : jx_r (jz β) jw_M (d + 1 + 1) 248 (0, [some (.ref 15), some (.int (Int32.ofInt (0))), none, none], [], ml_mk h σ) (ml_mk h (mNode σ 4 4 0 (pk [110, 111, 110, 101])), .inl (some (.int (Int32.ofInt (170 * 4 + nn))))) := by
  refine jr_1 jm_248 (show jw_cd cd_248 0 = some (.iload_n 1) by decide +kernel) rfl ?_
  refine jr_1 jm_248 (show jw_cd cd_248 1 = some (.ifCond .ne 20) by decide +kernel) (mz_f (q := .ne) (a := 0) (by show ¬ (¬ (0 = 0)); omega) ⟨by omega, by omega⟩ (by decide)) ?_
  refine jr_1 jm_248 (show jw_cd cd_248 4 = some (.bipush 110) by decide +kernel) (mt_bi (by decide)) ?_
  refine jr_1 jm_248 (show jw_cd cd_248 6 = some (.bipush 111) by decide +kernel) (mt_bi (by decide)) ?_
  refine jr_1 jm_248 (show jw_cd cd_248 8 = some (.bipush 110) by decide +kernel) (mt_bi (by decide)) ?_
  refine jr_1 jm_248 (show jw_cd cd_248 10 = some (.bipush 101) by decide +kernel) (mt_bi (by decide)) ?_
  refine jr_1 jm_248 (show jw_cd cd_248 12 = some (.iconst 0) by decide +kernel) rfl ?_
  refine jr_1 jm_248 (show jw_cd cd_248 13 = some (.iconst 0) by decide +kernel) rfl ?_
  refine jr_1 jm_248 (show jw_cd cd_248 14 = some (.iconst 0) by decide +kernel) rfl ?_
  refine jr_c jm_248 (show jw_cd cd_248 15 = some (.invokestatic 225) by decide +kernel) (mc_s (n := 7) (m2 := 236) (bs := [.int (Int32.ofInt (110)), .int (Int32.ofInt (111)), .int (Int32.ofInt (110)), .int (Int32.ofInt (101)), .int (Int32.ofInt (0)), .int (Int32.ofInt (0)), .int (Int32.ofInt (0))]) (r := []) (by decide) (show jw_find jw_csT 34 225 = some (236, 7) by decide +kernel) rfl rfl rfl) jm_236 ⟨Nat.le_of_ble_eq_true rfl, by decide⟩ (jn_packed hl ⟨by decide, by decide⟩ ⟨by decide, by decide⟩ ⟨by decide, by decide⟩ ⟨by decide, by decide⟩ ⟨by decide, by decide⟩ ⟨by decide, by decide⟩ ⟨by decide, by decide⟩) ?_
  refine jr_1 jm_248 (show jw_cd cd_248 18 = some (.goto 51) by decide +kernel) (ju_go (t := 69) (by decide)) ?_
  refine jr_1 jm_248 (F2 := (70, [some (.ref 15), some (.int (Int32.ofInt (0))), some (.long (Int64.ofInt (pk [110, 111, 110, 101, 0, 0, 0]))), none], [], ml_mk h σ)) (show jw_cd cd_248 69 = some (.lstore_n 2) by decide +kernel) rfl ?_
  refine jr_1 jm_248 (show jw_cd cd_248 70 = some (.iload_n 1) by decide +kernel) rfl ?_
  refine jr_1 jm_248 (show jw_cd cd_248 71 = some (.iconst 4) by decide +kernel) rfl ?_
  refine jr_1 jm_248 (show jw_cd cd_248 72 = some (.if_icmp .ne 20) by decide +kernel) (mb_t (q := .ne) (a := 0) (b := 4) (t := 92) (by show ¬ (0 = 4); omega) ⟨by omega, by omega⟩ ⟨by omega, by omega⟩ (by decide) (by decide)) ?_
  refine jr_1 jm_248 (show jw_cd cd_248 92 = some (.iload_n 1) by decide +kernel) rfl ?_
  refine jr_1 jm_248 (show jw_cd cd_248 93 = some (.iconst 5) by decide +kernel) rfl ?_
  refine jr_1 jm_248 (show jw_cd cd_248 94 = some (.if_icmp .ne 20) by decide +kernel) (mb_t (q := .ne) (a := 0) (b := 5) (t := 114) (by show ¬ (0 = 5); omega) ⟨by omega, by omega⟩ ⟨by omega, by omega⟩ (by decide) (by decide)) ?_
  refine jr_1 jm_248 (show jw_cd cd_248 114 = some (.iload_n 1) by decide +kernel) rfl ?_
  refine jr_1 jm_248 (show jw_cd cd_248 115 = some (.bipush 6) by decide +kernel) (mt_bi (by decide)) ?_
  refine jr_1 jm_248 (show jw_cd cd_248 117 = some (.if_icmp .ne 22) by decide +kernel) (mb_t (q := .ne) (a := 0) (b := 6) (t := 139) (by show ¬ (0 = 6); omega) ⟨by omega, by omega⟩ ⟨by omega, by omega⟩ (by decide) (by decide)) ?_
  refine jr_1 jm_248 (show jw_cd cd_248 139 = some (.lload_n 2) by decide +kernel) rfl ?_
  refine jr_1 jm_248 (F2 := (141, [some (.ref 15), some (.int (Int32.ofInt (0))), some (.long (Int64.ofInt (pk [110, 111, 110, 101, 0, 0, 0]))), none], [], ml_mk h σ)) (show jw_cd cd_248 140 = some (.lstore_n 2) by decide +kernel) rfl ?_
  refine jr_1 jm_248 (show jw_cd cd_248 141 = some (.aload_n 0) by decide +kernel) rfl ?_
  refine jr_1 jm_248 (show jw_cd cd_248 142 = some (.iconst 4) by decide +kernel) rfl ?_
  refine jr_1 jm_248 (show jw_cd cd_248 143 = some (.iconst 4) by decide +kernel) rfl ?_
  refine jr_1 jm_248 (show jw_cd cd_248 144 = some (.iconst 0) by decide +kernel) rfl ?_
  refine jr_1 jm_248 (show jw_cd cd_248 145 = some (.lload_n 2) by decide +kernel) rfl ?_
  rw [show pk [110, 111, 110, 101, 0, 0, 0] = pk [110, 111, 110, 101] from by decide]
  refine jr_c jm_248 (show jw_cd cd_248 146 = some (.invokevirtual 110) by decide +kernel) (mc_v hl (n := 4) (m2 := 208) (bs := [.int (Int32.ofInt (4)), .int (Int32.ofInt (4)), .int (Int32.ofInt (0)), .long (Int64.ofInt (pk [110, 111, 110, 101]))]) (r := []) (show jw_find jw_cvT 34 110 = some (4, [(16, 208)]) by decide +kernel) (by decide) rfl rfl rfl) jm_208 ⟨Nat.le_of_ble_eq_true rfl, by decide⟩ (jn_nodeM hl ⟨by decide, by decide⟩ (m := nn) e11 hn0 hn1) ?_
  exact jr_v jm_248 (show jw_cd cd_248 149 = some (.ireturn) by decide +kernel) rfl
theorem jn_type1 {β : Bool} {d : Nat} {h : jx_H} {σ : mS} (hl : 49 ≤ h.length) {nn : Int} (e11 : σ 11 4 = nn) (hn0 : 0 ≤ nn) (hn1 : 170 * 4 + nn < 1740) : jx_r (jz β) jw_M (d + 1 + 1) 248 (0, [some (.ref 15), some (.int (Int32.ofInt (1))), none, none], [], ml_mk h σ) (ml_mk h (mNode σ 4 4 0 (pk [116, 114, 117, 116, 104])), .inl (some (.int (Int32.ofInt (170 * 4 + nn))))) := by
  refine jr_1 jm_248 (show jw_cd cd_248 0 = some (.iload_n 1) by decide +kernel) rfl ?_
  refine jr_1 jm_248 (show jw_cd cd_248 1 = some (.ifCond .ne 20) by decide +kernel) (mz_t (q := .ne) (a := 1) (t := 21) (by show ¬ (1 = 0); omega) ⟨by omega, by omega⟩ (by decide) (by decide)) ?_
  refine jr_1 jm_248 (show jw_cd cd_248 21 = some (.iload_n 1) by decide +kernel) rfl ?_
  refine jr_1 jm_248 (show jw_cd cd_248 22 = some (.iconst 3) by decide +kernel) rfl ?_
  refine jr_1 jm_248 (show jw_cd cd_248 23 = some (.if_icmp .ge 21) by decide +kernel) (mb_f (q := .ge) (a := 1) (b := 3) (by show ¬ (3 ≤ 1); omega) ⟨by omega, by omega⟩ ⟨by omega, by omega⟩ (by decide)) ?_
  refine jr_1 jm_248 (show jw_cd cd_248 26 = some (.bipush 116) by decide +kernel) (mt_bi (by decide)) ?_
  refine jr_1 jm_248 (show jw_cd cd_248 28 = some (.bipush 114) by decide +kernel) (mt_bi (by decide)) ?_
  refine jr_1 jm_248 (show jw_cd cd_248 30 = some (.bipush 117) by decide +kernel) (mt_bi (by decide)) ?_
  refine jr_1 jm_248 (show jw_cd cd_248 32 = some (.bipush 116) by decide +kernel) (mt_bi (by decide)) ?_
  refine jr_1 jm_248 (show jw_cd cd_248 34 = some (.bipush 104) by decide +kernel) (mt_bi (by decide)) ?_
  refine jr_1 jm_248 (show jw_cd cd_248 36 = some (.iconst 0) by decide +kernel) rfl ?_
  refine jr_1 jm_248 (show jw_cd cd_248 37 = some (.iconst 0) by decide +kernel) rfl ?_
  refine jr_c jm_248 (show jw_cd cd_248 38 = some (.invokestatic 225) by decide +kernel) (mc_s (n := 7) (m2 := 236) (bs := [.int (Int32.ofInt (116)), .int (Int32.ofInt (114)), .int (Int32.ofInt (117)), .int (Int32.ofInt (116)), .int (Int32.ofInt (104)), .int (Int32.ofInt (0)), .int (Int32.ofInt (0))]) (r := []) (by decide) (show jw_find jw_csT 34 225 = some (236, 7) by decide +kernel) rfl rfl rfl) jm_236 ⟨Nat.le_of_ble_eq_true rfl, by decide⟩ (jn_packed hl ⟨by decide, by decide⟩ ⟨by decide, by decide⟩ ⟨by decide, by decide⟩ ⟨by decide, by decide⟩ ⟨by decide, by decide⟩ ⟨by decide, by decide⟩ ⟨by decide, by decide⟩) ?_
  refine jr_1 jm_248 (show jw_cd cd_248 41 = some (.goto 28) by decide +kernel) (ju_go (t := 69) (by decide)) ?_
  refine jr_1 jm_248 (F2 := (70, [some (.ref 15), some (.int (Int32.ofInt (1))), some (.long (Int64.ofInt (pk [116, 114, 117, 116, 104, 0, 0]))), none], [], ml_mk h σ)) (show jw_cd cd_248 69 = some (.lstore_n 2) by decide +kernel) rfl ?_
  refine jr_1 jm_248 (show jw_cd cd_248 70 = some (.iload_n 1) by decide +kernel) rfl ?_
  refine jr_1 jm_248 (show jw_cd cd_248 71 = some (.iconst 4) by decide +kernel) rfl ?_
  refine jr_1 jm_248 (show jw_cd cd_248 72 = some (.if_icmp .ne 20) by decide +kernel) (mb_t (q := .ne) (a := 1) (b := 4) (t := 92) (by show ¬ (1 = 4); omega) ⟨by omega, by omega⟩ ⟨by omega, by omega⟩ (by decide) (by decide)) ?_
  refine jr_1 jm_248 (show jw_cd cd_248 92 = some (.iload_n 1) by decide +kernel) rfl ?_
  refine jr_1 jm_248 (show jw_cd cd_248 93 = some (.iconst 5) by decide +kernel) rfl ?_
  refine jr_1 jm_248 (show jw_cd cd_248 94 = some (.if_icmp .ne 20) by decide +kernel) (mb_t (q := .ne) (a := 1) (b := 5) (t := 114) (by show ¬ (1 = 5); omega) ⟨by omega, by omega⟩ ⟨by omega, by omega⟩ (by decide) (by decide)) ?_
  refine jr_1 jm_248 (show jw_cd cd_248 114 = some (.iload_n 1) by decide +kernel) rfl ?_
  refine jr_1 jm_248 (show jw_cd cd_248 115 = some (.bipush 6) by decide +kernel) (mt_bi (by decide)) ?_
  refine jr_1 jm_248 (show jw_cd cd_248 117 = some (.if_icmp .ne 22) by decide +kernel) (mb_t (q := .ne) (a := 1) (b := 6) (t := 139) (by show ¬ (1 = 6); omega) ⟨by omega, by omega⟩ ⟨by omega, by omega⟩ (by decide) (by decide)) ?_
  refine jr_1 jm_248 (show jw_cd cd_248 139 = some (.lload_n 2) by decide +kernel) rfl ?_
  refine jr_1 jm_248 (F2 := (141, [some (.ref 15), some (.int (Int32.ofInt (1))), some (.long (Int64.ofInt (pk [116, 114, 117, 116, 104, 0, 0]))), none], [], ml_mk h σ)) (show jw_cd cd_248 140 = some (.lstore_n 2) by decide +kernel) rfl ?_
  refine jr_1 jm_248 (show jw_cd cd_248 141 = some (.aload_n 0) by decide +kernel) rfl ?_
  refine jr_1 jm_248 (show jw_cd cd_248 142 = some (.iconst 4) by decide +kernel) rfl ?_
  refine jr_1 jm_248 (show jw_cd cd_248 143 = some (.iconst 4) by decide +kernel) rfl ?_
  refine jr_1 jm_248 (show jw_cd cd_248 144 = some (.iconst 0) by decide +kernel) rfl ?_
  refine jr_1 jm_248 (show jw_cd cd_248 145 = some (.lload_n 2) by decide +kernel) rfl ?_
  rw [show pk [116, 114, 117, 116, 104, 0, 0] = pk [116, 114, 117, 116, 104] from by decide]
  refine jr_c jm_248 (show jw_cd cd_248 146 = some (.invokevirtual 110) by decide +kernel) (mc_v hl (n := 4) (m2 := 208) (bs := [.int (Int32.ofInt (4)), .int (Int32.ofInt (4)), .int (Int32.ofInt (0)), .long (Int64.ofInt (pk [116, 114, 117, 116, 104]))]) (r := []) (show jw_find jw_cvT 34 110 = some (4, [(16, 208)]) by decide +kernel) (by decide) rfl rfl rfl) jm_208 ⟨Nat.le_of_ble_eq_true rfl, by decide⟩ (jn_nodeM hl ⟨by decide, by decide⟩ (m := nn) e11 hn0 hn1) ?_
  exact jr_v jm_248 (show jw_cd cd_248 149 = some (.ireturn) by decide +kernel) rfl
theorem jn_type2 {β : Bool} {d : Nat} {h : jx_H} {σ : mS} (hl : 49 ≤ h.length) {nn : Int} (e11 : σ 11 4 = nn) (hn0 : 0 ≤ nn) (hn1 : 170 * 4 + nn < 1740) : jx_r (jz β) jw_M (d + 1 + 1) 248 (0, [some (.ref 15), some (.int (Int32.ofInt (2))), none, none], [], ml_mk h σ) (ml_mk h (mNode σ 4 4 0 (pk [116, 114, 117, 116, 104])), .inl (some (.int (Int32.ofInt (170 * 4 + nn))))) := by
  refine jr_1 jm_248 (show jw_cd cd_248 0 = some (.iload_n 1) by decide +kernel) rfl ?_
  refine jr_1 jm_248 (show jw_cd cd_248 1 = some (.ifCond .ne 20) by decide +kernel) (mz_t (q := .ne) (a := 2) (t := 21) (by show ¬ (2 = 0); omega) ⟨by omega, by omega⟩ (by decide) (by decide)) ?_
  refine jr_1 jm_248 (show jw_cd cd_248 21 = some (.iload_n 1) by decide +kernel) rfl ?_
  refine jr_1 jm_248 (show jw_cd cd_248 22 = some (.iconst 3) by decide +kernel) rfl ?_
  refine jr_1 jm_248 (show jw_cd cd_248 23 = some (.if_icmp .ge 21) by decide +kernel) (mb_f (q := .ge) (a := 2) (b := 3) (by show ¬ (3 ≤ 2); omega) ⟨by omega, by omega⟩ ⟨by omega, by omega⟩ (by decide)) ?_
  refine jr_1 jm_248 (show jw_cd cd_248 26 = some (.bipush 116) by decide +kernel) (mt_bi (by decide)) ?_
  refine jr_1 jm_248 (show jw_cd cd_248 28 = some (.bipush 114) by decide +kernel) (mt_bi (by decide)) ?_
  refine jr_1 jm_248 (show jw_cd cd_248 30 = some (.bipush 117) by decide +kernel) (mt_bi (by decide)) ?_
  refine jr_1 jm_248 (show jw_cd cd_248 32 = some (.bipush 116) by decide +kernel) (mt_bi (by decide)) ?_
  refine jr_1 jm_248 (show jw_cd cd_248 34 = some (.bipush 104) by decide +kernel) (mt_bi (by decide)) ?_
  refine jr_1 jm_248 (show jw_cd cd_248 36 = some (.iconst 0) by decide +kernel) rfl ?_
  refine jr_1 jm_248 (show jw_cd cd_248 37 = some (.iconst 0) by decide +kernel) rfl ?_
  refine jr_c jm_248 (show jw_cd cd_248 38 = some (.invokestatic 225) by decide +kernel) (mc_s (n := 7) (m2 := 236) (bs := [.int (Int32.ofInt (116)), .int (Int32.ofInt (114)), .int (Int32.ofInt (117)), .int (Int32.ofInt (116)), .int (Int32.ofInt (104)), .int (Int32.ofInt (0)), .int (Int32.ofInt (0))]) (r := []) (by decide) (show jw_find jw_csT 34 225 = some (236, 7) by decide +kernel) rfl rfl rfl) jm_236 ⟨Nat.le_of_ble_eq_true rfl, by decide⟩ (jn_packed hl ⟨by decide, by decide⟩ ⟨by decide, by decide⟩ ⟨by decide, by decide⟩ ⟨by decide, by decide⟩ ⟨by decide, by decide⟩ ⟨by decide, by decide⟩ ⟨by decide, by decide⟩) ?_
  refine jr_1 jm_248 (show jw_cd cd_248 41 = some (.goto 28) by decide +kernel) (ju_go (t := 69) (by decide)) ?_
  refine jr_1 jm_248 (F2 := (70, [some (.ref 15), some (.int (Int32.ofInt (2))), some (.long (Int64.ofInt (pk [116, 114, 117, 116, 104, 0, 0]))), none], [], ml_mk h σ)) (show jw_cd cd_248 69 = some (.lstore_n 2) by decide +kernel) rfl ?_
  refine jr_1 jm_248 (show jw_cd cd_248 70 = some (.iload_n 1) by decide +kernel) rfl ?_
  refine jr_1 jm_248 (show jw_cd cd_248 71 = some (.iconst 4) by decide +kernel) rfl ?_
  refine jr_1 jm_248 (show jw_cd cd_248 72 = some (.if_icmp .ne 20) by decide +kernel) (mb_t (q := .ne) (a := 2) (b := 4) (t := 92) (by show ¬ (2 = 4); omega) ⟨by omega, by omega⟩ ⟨by omega, by omega⟩ (by decide) (by decide)) ?_
  refine jr_1 jm_248 (show jw_cd cd_248 92 = some (.iload_n 1) by decide +kernel) rfl ?_
  refine jr_1 jm_248 (show jw_cd cd_248 93 = some (.iconst 5) by decide +kernel) rfl ?_
  refine jr_1 jm_248 (show jw_cd cd_248 94 = some (.if_icmp .ne 20) by decide +kernel) (mb_t (q := .ne) (a := 2) (b := 5) (t := 114) (by show ¬ (2 = 5); omega) ⟨by omega, by omega⟩ ⟨by omega, by omega⟩ (by decide) (by decide)) ?_
  refine jr_1 jm_248 (show jw_cd cd_248 114 = some (.iload_n 1) by decide +kernel) rfl ?_
  refine jr_1 jm_248 (show jw_cd cd_248 115 = some (.bipush 6) by decide +kernel) (mt_bi (by decide)) ?_
  refine jr_1 jm_248 (show jw_cd cd_248 117 = some (.if_icmp .ne 22) by decide +kernel) (mb_t (q := .ne) (a := 2) (b := 6) (t := 139) (by show ¬ (2 = 6); omega) ⟨by omega, by omega⟩ ⟨by omega, by omega⟩ (by decide) (by decide)) ?_
  refine jr_1 jm_248 (show jw_cd cd_248 139 = some (.lload_n 2) by decide +kernel) rfl ?_
  refine jr_1 jm_248 (F2 := (141, [some (.ref 15), some (.int (Int32.ofInt (2))), some (.long (Int64.ofInt (pk [116, 114, 117, 116, 104, 0, 0]))), none], [], ml_mk h σ)) (show jw_cd cd_248 140 = some (.lstore_n 2) by decide +kernel) rfl ?_
  refine jr_1 jm_248 (show jw_cd cd_248 141 = some (.aload_n 0) by decide +kernel) rfl ?_
  refine jr_1 jm_248 (show jw_cd cd_248 142 = some (.iconst 4) by decide +kernel) rfl ?_
  refine jr_1 jm_248 (show jw_cd cd_248 143 = some (.iconst 4) by decide +kernel) rfl ?_
  refine jr_1 jm_248 (show jw_cd cd_248 144 = some (.iconst 0) by decide +kernel) rfl ?_
  refine jr_1 jm_248 (show jw_cd cd_248 145 = some (.lload_n 2) by decide +kernel) rfl ?_
  rw [show pk [116, 114, 117, 116, 104, 0, 0] = pk [116, 114, 117, 116, 104] from by decide]
  refine jr_c jm_248 (show jw_cd cd_248 146 = some (.invokevirtual 110) by decide +kernel) (mc_v hl (n := 4) (m2 := 208) (bs := [.int (Int32.ofInt (4)), .int (Int32.ofInt (4)), .int (Int32.ofInt (0)), .long (Int64.ofInt (pk [116, 114, 117, 116, 104]))]) (r := []) (show jw_find jw_cvT 34 110 = some (4, [(16, 208)]) by decide +kernel) (by decide) rfl rfl rfl) jm_208 ⟨Nat.le_of_ble_eq_true rfl, by decide⟩ (jn_nodeM hl ⟨by decide, by decide⟩ (m := nn) e11 hn0 hn1) ?_
  exact jr_v jm_248 (show jw_cd cd_248 149 = some (.ireturn) by decide +kernel) rfl
theorem jn_type3 {β : Bool} {d : Nat} {h : jx_H} {σ : mS} (hl : 49 ≤ h.length) {nn : Int} (e11 : σ 11 4 = nn) (hn0 : 0 ≤ nn) (hn1 : 170 * 4 + nn < 1740) : jx_r (jz β) jw_M (d + 1 + 1) 248 (0, [some (.ref 15), some (.int (Int32.ofInt (3))), none, none], [], ml_mk h σ) (ml_mk h (mNode σ 4 4 0 (pk [110, 117, 109, 98, 101, 114])), .inl (some (.int (Int32.ofInt (170 * 4 + nn))))) := by
  refine jr_1 jm_248 (show jw_cd cd_248 0 = some (.iload_n 1) by decide +kernel) rfl ?_
  refine jr_1 jm_248 (show jw_cd cd_248 1 = some (.ifCond .ne 20) by decide +kernel) (mz_t (q := .ne) (a := 3) (t := 21) (by show ¬ (3 = 0); omega) ⟨by omega, by omega⟩ (by decide) (by decide)) ?_
  refine jr_1 jm_248 (show jw_cd cd_248 21 = some (.iload_n 1) by decide +kernel) rfl ?_
  refine jr_1 jm_248 (show jw_cd cd_248 22 = some (.iconst 3) by decide +kernel) rfl ?_
  refine jr_1 jm_248 (show jw_cd cd_248 23 = some (.if_icmp .ge 21) by decide +kernel) (mb_t (q := .ge) (a := 3) (b := 3) (t := 44) (by show 3 ≤ 3; omega) ⟨by omega, by omega⟩ ⟨by omega, by omega⟩ (by decide) (by decide)) ?_
  refine jr_1 jm_248 (show jw_cd cd_248 44 = some (.iload_n 1) by decide +kernel) rfl ?_
  refine jr_1 jm_248 (show jw_cd cd_248 45 = some (.iconst 3) by decide +kernel) rfl ?_
  refine jr_1 jm_248 (show jw_cd cd_248 46 = some (.if_icmp .ne 22) by decide +kernel) (mb_f (q := .ne) (a := 3) (b := 3) (by show ¬ (¬ (3 = 3)); omega) ⟨by omega, by omega⟩ ⟨by omega, by omega⟩ (by decide)) ?_
  refine jr_1 jm_248 (show jw_cd cd_248 49 = some (.bipush 110) by decide +kernel) (mt_bi (by decide)) ?_
  refine jr_1 jm_248 (show jw_cd cd_248 51 = some (.bipush 117) by decide +kernel) (mt_bi (by decide)) ?_
  refine jr_1 jm_248 (show jw_cd cd_248 53 = some (.bipush 109) by decide +kernel) (mt_bi (by decide)) ?_
  refine jr_1 jm_248 (show jw_cd cd_248 55 = some (.bipush 98) by decide +kernel) (mt_bi (by decide)) ?_
  refine jr_1 jm_248 (show jw_cd cd_248 57 = some (.bipush 101) by decide +kernel) (mt_bi (by decide)) ?_
  refine jr_1 jm_248 (show jw_cd cd_248 59 = some (.bipush 114) by decide +kernel) (mt_bi (by decide)) ?_
  refine jr_1 jm_248 (show jw_cd cd_248 61 = some (.iconst 0) by decide +kernel) rfl ?_
  refine jr_c jm_248 (show jw_cd cd_248 62 = some (.invokestatic 225) by decide +kernel) (mc_s (n := 7) (m2 := 236) (bs := [.int (Int32.ofInt (110)), .int (Int32.ofInt (117)), .int (Int32.ofInt (109)), .int (Int32.ofInt (98)), .int (Int32.ofInt (101)), .int (Int32.ofInt (114)), .int (Int32.ofInt (0))]) (r := []) (by decide) (show jw_find jw_csT 34 225 = some (236, 7) by decide +kernel) rfl rfl rfl) jm_236 ⟨Nat.le_of_ble_eq_true rfl, by decide⟩ (jn_packed hl ⟨by decide, by decide⟩ ⟨by decide, by decide⟩ ⟨by decide, by decide⟩ ⟨by decide, by decide⟩ ⟨by decide, by decide⟩ ⟨by decide, by decide⟩ ⟨by decide, by decide⟩) ?_
  refine jr_1 jm_248 (show jw_cd cd_248 65 = some (.goto 4) by decide +kernel) (ju_go (t := 69) (by decide)) ?_
  refine jr_1 jm_248 (F2 := (70, [some (.ref 15), some (.int (Int32.ofInt (3))), some (.long (Int64.ofInt (pk [110, 117, 109, 98, 101, 114, 0]))), none], [], ml_mk h σ)) (show jw_cd cd_248 69 = some (.lstore_n 2) by decide +kernel) rfl ?_
  refine jr_1 jm_248 (show jw_cd cd_248 70 = some (.iload_n 1) by decide +kernel) rfl ?_
  refine jr_1 jm_248 (show jw_cd cd_248 71 = some (.iconst 4) by decide +kernel) rfl ?_
  refine jr_1 jm_248 (show jw_cd cd_248 72 = some (.if_icmp .ne 20) by decide +kernel) (mb_t (q := .ne) (a := 3) (b := 4) (t := 92) (by show ¬ (3 = 4); omega) ⟨by omega, by omega⟩ ⟨by omega, by omega⟩ (by decide) (by decide)) ?_
  refine jr_1 jm_248 (show jw_cd cd_248 92 = some (.iload_n 1) by decide +kernel) rfl ?_
  refine jr_1 jm_248 (show jw_cd cd_248 93 = some (.iconst 5) by decide +kernel) rfl ?_
  refine jr_1 jm_248 (show jw_cd cd_248 94 = some (.if_icmp .ne 20) by decide +kernel) (mb_t (q := .ne) (a := 3) (b := 5) (t := 114) (by show ¬ (3 = 5); omega) ⟨by omega, by omega⟩ ⟨by omega, by omega⟩ (by decide) (by decide)) ?_
  refine jr_1 jm_248 (show jw_cd cd_248 114 = some (.iload_n 1) by decide +kernel) rfl ?_
  refine jr_1 jm_248 (show jw_cd cd_248 115 = some (.bipush 6) by decide +kernel) (mt_bi (by decide)) ?_
  refine jr_1 jm_248 (show jw_cd cd_248 117 = some (.if_icmp .ne 22) by decide +kernel) (mb_t (q := .ne) (a := 3) (b := 6) (t := 139) (by show ¬ (3 = 6); omega) ⟨by omega, by omega⟩ ⟨by omega, by omega⟩ (by decide) (by decide)) ?_
  refine jr_1 jm_248 (show jw_cd cd_248 139 = some (.lload_n 2) by decide +kernel) rfl ?_
  refine jr_1 jm_248 (F2 := (141, [some (.ref 15), some (.int (Int32.ofInt (3))), some (.long (Int64.ofInt (pk [110, 117, 109, 98, 101, 114, 0]))), none], [], ml_mk h σ)) (show jw_cd cd_248 140 = some (.lstore_n 2) by decide +kernel) rfl ?_
  refine jr_1 jm_248 (show jw_cd cd_248 141 = some (.aload_n 0) by decide +kernel) rfl ?_
  refine jr_1 jm_248 (show jw_cd cd_248 142 = some (.iconst 4) by decide +kernel) rfl ?_
  refine jr_1 jm_248 (show jw_cd cd_248 143 = some (.iconst 4) by decide +kernel) rfl ?_
  refine jr_1 jm_248 (show jw_cd cd_248 144 = some (.iconst 0) by decide +kernel) rfl ?_
  refine jr_1 jm_248 (show jw_cd cd_248 145 = some (.lload_n 2) by decide +kernel) rfl ?_
  rw [show pk [110, 117, 109, 98, 101, 114, 0] = pk [110, 117, 109, 98, 101, 114] from by decide]
  refine jr_c jm_248 (show jw_cd cd_248 146 = some (.invokevirtual 110) by decide +kernel) (mc_v hl (n := 4) (m2 := 208) (bs := [.int (Int32.ofInt (4)), .int (Int32.ofInt (4)), .int (Int32.ofInt (0)), .long (Int64.ofInt (pk [110, 117, 109, 98, 101, 114]))]) (r := []) (show jw_find jw_cvT 34 110 = some (4, [(16, 208)]) by decide +kernel) (by decide) rfl rfl rfl) jm_208 ⟨Nat.le_of_ble_eq_true rfl, by decide⟩ (jn_nodeM hl ⟨by decide, by decide⟩ (m := nn) e11 hn0 hn1) ?_
  exact jr_v jm_248 (show jw_cd cd_248 149 = some (.ireturn) by decide +kernel) rfl
theorem jn_type4 {β : Bool} {d : Nat} {h : jx_H} {σ : mS} (hl : 49 ≤ h.length) {nn : Int} (e11 : σ 11 4 = nn) (hn0 : 0 ≤ nn) (hn1 : 170 * 4 + nn < 1740) : jx_r (jz β) jw_M (d + 1 + 1) 248 (0, [some (.ref 15), some (.int (Int32.ofInt (4))), none, none], [], ml_mk h σ) (ml_mk h (mNode σ 4 4 0 (pk [116, 101, 120, 116])), .inl (some (.int (Int32.ofInt (170 * 4 + nn))))) := by
  refine jr_1 jm_248 (show jw_cd cd_248 0 = some (.iload_n 1) by decide +kernel) rfl ?_
  refine jr_1 jm_248 (show jw_cd cd_248 1 = some (.ifCond .ne 20) by decide +kernel) (mz_t (q := .ne) (a := 4) (t := 21) (by show ¬ (4 = 0); omega) ⟨by omega, by omega⟩ (by decide) (by decide)) ?_
  refine jr_1 jm_248 (show jw_cd cd_248 21 = some (.iload_n 1) by decide +kernel) rfl ?_
  refine jr_1 jm_248 (show jw_cd cd_248 22 = some (.iconst 3) by decide +kernel) rfl ?_
  refine jr_1 jm_248 (show jw_cd cd_248 23 = some (.if_icmp .ge 21) by decide +kernel) (mb_t (q := .ge) (a := 4) (b := 3) (t := 44) (by show 3 ≤ 4; omega) ⟨by omega, by omega⟩ ⟨by omega, by omega⟩ (by decide) (by decide)) ?_
  refine jr_1 jm_248 (show jw_cd cd_248 44 = some (.iload_n 1) by decide +kernel) rfl ?_
  refine jr_1 jm_248 (show jw_cd cd_248 45 = some (.iconst 3) by decide +kernel) rfl ?_
  refine jr_1 jm_248 (show jw_cd cd_248 46 = some (.if_icmp .ne 22) by decide +kernel) (mb_t (q := .ne) (a := 4) (b := 3) (t := 68) (by show ¬ (4 = 3); omega) ⟨by omega, by omega⟩ ⟨by omega, by omega⟩ (by decide) (by decide)) ?_
  refine jr_1 jm_248 (F2 := (69, [some (.ref 15), some (.int (Int32.ofInt (4))), none, none], [.long (Int64.ofInt (0))], ml_mk h σ)) (show jw_cd cd_248 68 = some (.lconst 0) by decide +kernel) rfl ?_
  refine jr_1 jm_248 (F2 := (70, [some (.ref 15), some (.int (Int32.ofInt (4))), some (.long (Int64.ofInt (0))), none], [], ml_mk h σ)) (show jw_cd cd_248 69 = some (.lstore_n 2) by decide +kernel) rfl ?_
  refine jr_1 jm_248 (show jw_cd cd_248 70 = some (.iload_n 1) by decide +kernel) rfl ?_
  refine jr_1 jm_248 (show jw_cd cd_248 71 = some (.iconst 4) by decide +kernel) rfl ?_
  refine jr_1 jm_248 (show jw_cd cd_248 72 = some (.if_icmp .ne 20) by decide +kernel) (mb_f (q := .ne) (a := 4) (b := 4) (by show ¬ (¬ (4 = 4)); omega) ⟨by omega, by omega⟩ ⟨by omega, by omega⟩ (by decide)) ?_
  refine jr_1 jm_248 (show jw_cd cd_248 75 = some (.bipush 116) by decide +kernel) (mt_bi (by decide)) ?_
  refine jr_1 jm_248 (show jw_cd cd_248 77 = some (.bipush 101) by decide +kernel) (mt_bi (by decide)) ?_
  refine jr_1 jm_248 (show jw_cd cd_248 79 = some (.bipush 120) by decide +kernel) (mt_bi (by decide)) ?_
  refine jr_1 jm_248 (show jw_cd cd_248 81 = some (.bipush 116) by decide +kernel) (mt_bi (by decide)) ?_
  refine jr_1 jm_248 (show jw_cd cd_248 83 = some (.iconst 0) by decide +kernel) rfl ?_
  refine jr_1 jm_248 (show jw_cd cd_248 84 = some (.iconst 0) by decide +kernel) rfl ?_
  refine jr_1 jm_248 (show jw_cd cd_248 85 = some (.iconst 0) by decide +kernel) rfl ?_
  refine jr_c jm_248 (show jw_cd cd_248 86 = some (.invokestatic 225) by decide +kernel) (mc_s (n := 7) (m2 := 236) (bs := [.int (Int32.ofInt (116)), .int (Int32.ofInt (101)), .int (Int32.ofInt (120)), .int (Int32.ofInt (116)), .int (Int32.ofInt (0)), .int (Int32.ofInt (0)), .int (Int32.ofInt (0))]) (r := []) (by decide) (show jw_find jw_csT 34 225 = some (236, 7) by decide +kernel) rfl rfl rfl) jm_236 ⟨Nat.le_of_ble_eq_true rfl, by decide⟩ (jn_packed hl ⟨by decide, by decide⟩ ⟨by decide, by decide⟩ ⟨by decide, by decide⟩ ⟨by decide, by decide⟩ ⟨by decide, by decide⟩ ⟨by decide, by decide⟩ ⟨by decide, by decide⟩) ?_
  refine jr_1 jm_248 (show jw_cd cd_248 89 = some (.goto 51) by decide +kernel) (ju_go (t := 140) (by decide)) ?_
  refine jr_1 jm_248 (F2 := (141, [some (.ref 15), some (.int (Int32.ofInt (4))), some (.long (Int64.ofInt (pk [116, 101, 120, 116, 0, 0, 0]))), none], [], ml_mk h σ)) (show jw_cd cd_248 140 = some (.lstore_n 2) by decide +kernel) rfl ?_
  refine jr_1 jm_248 (show jw_cd cd_248 141 = some (.aload_n 0) by decide +kernel) rfl ?_
  refine jr_1 jm_248 (show jw_cd cd_248 142 = some (.iconst 4) by decide +kernel) rfl ?_
  refine jr_1 jm_248 (show jw_cd cd_248 143 = some (.iconst 4) by decide +kernel) rfl ?_
  refine jr_1 jm_248 (show jw_cd cd_248 144 = some (.iconst 0) by decide +kernel) rfl ?_
  refine jr_1 jm_248 (show jw_cd cd_248 145 = some (.lload_n 2) by decide +kernel) rfl ?_
  rw [show pk [116, 101, 120, 116, 0, 0, 0] = pk [116, 101, 120, 116] from by decide]
  refine jr_c jm_248 (show jw_cd cd_248 146 = some (.invokevirtual 110) by decide +kernel) (mc_v hl (n := 4) (m2 := 208) (bs := [.int (Int32.ofInt (4)), .int (Int32.ofInt (4)), .int (Int32.ofInt (0)), .long (Int64.ofInt (pk [116, 101, 120, 116]))]) (r := []) (show jw_find jw_cvT 34 110 = some (4, [(16, 208)]) by decide +kernel) (by decide) rfl rfl rfl) jm_208 ⟨Nat.le_of_ble_eq_true rfl, by decide⟩ (jn_nodeM hl ⟨by decide, by decide⟩ (m := nn) e11 hn0 hn1) ?_
  exact jr_v jm_248 (show jw_cd cd_248 149 = some (.ireturn) by decide +kernel) rfl
theorem jn_type5 {β : Bool} {d : Nat} {h : jx_H} {σ : mS} (hl : 49 ≤ h.length) {nn : Int} (e11 : σ 11 4 = nn) (hn0 : 0 ≤ nn) (hn1 : 170 * 4 + nn < 1740) : jx_r (jz β) jw_M (d + 1 + 1) 248 (0, [some (.ref 15), some (.int (Int32.ofInt (5))), none, none], [], ml_mk h σ) (ml_mk h (mNode σ 4 4 0 (pk [108, 105, 115, 116])), .inl (some (.int (Int32.ofInt (170 * 4 + nn))))) := by
  refine jr_1 jm_248 (show jw_cd cd_248 0 = some (.iload_n 1) by decide +kernel) rfl ?_
  refine jr_1 jm_248 (show jw_cd cd_248 1 = some (.ifCond .ne 20) by decide +kernel) (mz_t (q := .ne) (a := 5) (t := 21) (by show ¬ (5 = 0); omega) ⟨by omega, by omega⟩ (by decide) (by decide)) ?_
  refine jr_1 jm_248 (show jw_cd cd_248 21 = some (.iload_n 1) by decide +kernel) rfl ?_
  refine jr_1 jm_248 (show jw_cd cd_248 22 = some (.iconst 3) by decide +kernel) rfl ?_
  refine jr_1 jm_248 (show jw_cd cd_248 23 = some (.if_icmp .ge 21) by decide +kernel) (mb_t (q := .ge) (a := 5) (b := 3) (t := 44) (by show 3 ≤ 5; omega) ⟨by omega, by omega⟩ ⟨by omega, by omega⟩ (by decide) (by decide)) ?_
  refine jr_1 jm_248 (show jw_cd cd_248 44 = some (.iload_n 1) by decide +kernel) rfl ?_
  refine jr_1 jm_248 (show jw_cd cd_248 45 = some (.iconst 3) by decide +kernel) rfl ?_
  refine jr_1 jm_248 (show jw_cd cd_248 46 = some (.if_icmp .ne 22) by decide +kernel) (mb_t (q := .ne) (a := 5) (b := 3) (t := 68) (by show ¬ (5 = 3); omega) ⟨by omega, by omega⟩ ⟨by omega, by omega⟩ (by decide) (by decide)) ?_
  refine jr_1 jm_248 (F2 := (69, [some (.ref 15), some (.int (Int32.ofInt (5))), none, none], [.long (Int64.ofInt (0))], ml_mk h σ)) (show jw_cd cd_248 68 = some (.lconst 0) by decide +kernel) rfl ?_
  refine jr_1 jm_248 (F2 := (70, [some (.ref 15), some (.int (Int32.ofInt (5))), some (.long (Int64.ofInt (0))), none], [], ml_mk h σ)) (show jw_cd cd_248 69 = some (.lstore_n 2) by decide +kernel) rfl ?_
  refine jr_1 jm_248 (show jw_cd cd_248 70 = some (.iload_n 1) by decide +kernel) rfl ?_
  refine jr_1 jm_248 (show jw_cd cd_248 71 = some (.iconst 4) by decide +kernel) rfl ?_
  refine jr_1 jm_248 (show jw_cd cd_248 72 = some (.if_icmp .ne 20) by decide +kernel) (mb_t (q := .ne) (a := 5) (b := 4) (t := 92) (by show ¬ (5 = 4); omega) ⟨by omega, by omega⟩ ⟨by omega, by omega⟩ (by decide) (by decide)) ?_
  refine jr_1 jm_248 (show jw_cd cd_248 92 = some (.iload_n 1) by decide +kernel) rfl ?_
  refine jr_1 jm_248 (show jw_cd cd_248 93 = some (.iconst 5) by decide +kernel) rfl ?_
  refine jr_1 jm_248 (show jw_cd cd_248 94 = some (.if_icmp .ne 20) by decide +kernel) (mb_f (q := .ne) (a := 5) (b := 5) (by show ¬ (¬ (5 = 5)); omega) ⟨by omega, by omega⟩ ⟨by omega, by omega⟩ (by decide)) ?_
  refine jr_1 jm_248 (show jw_cd cd_248 97 = some (.bipush 108) by decide +kernel) (mt_bi (by decide)) ?_
  refine jr_1 jm_248 (show jw_cd cd_248 99 = some (.bipush 105) by decide +kernel) (mt_bi (by decide)) ?_
  refine jr_1 jm_248 (show jw_cd cd_248 101 = some (.bipush 115) by decide +kernel) (mt_bi (by decide)) ?_
  refine jr_1 jm_248 (show jw_cd cd_248 103 = some (.bipush 116) by decide +kernel) (mt_bi (by decide)) ?_
  refine jr_1 jm_248 (show jw_cd cd_248 105 = some (.iconst 0) by decide +kernel) rfl ?_
  refine jr_1 jm_248 (show jw_cd cd_248 106 = some (.iconst 0) by decide +kernel) rfl ?_
  refine jr_1 jm_248 (show jw_cd cd_248 107 = some (.iconst 0) by decide +kernel) rfl ?_
  refine jr_c jm_248 (show jw_cd cd_248 108 = some (.invokestatic 225) by decide +kernel) (mc_s (n := 7) (m2 := 236) (bs := [.int (Int32.ofInt (108)), .int (Int32.ofInt (105)), .int (Int32.ofInt (115)), .int (Int32.ofInt (116)), .int (Int32.ofInt (0)), .int (Int32.ofInt (0)), .int (Int32.ofInt (0))]) (r := []) (by decide) (show jw_find jw_csT 34 225 = some (236, 7) by decide +kernel) rfl rfl rfl) jm_236 ⟨Nat.le_of_ble_eq_true rfl, by decide⟩ (jn_packed hl ⟨by decide, by decide⟩ ⟨by decide, by decide⟩ ⟨by decide, by decide⟩ ⟨by decide, by decide⟩ ⟨by decide, by decide⟩ ⟨by decide, by decide⟩ ⟨by decide, by decide⟩) ?_
  refine jr_1 jm_248 (show jw_cd cd_248 111 = some (.goto 29) by decide +kernel) (ju_go (t := 140) (by decide)) ?_
  refine jr_1 jm_248 (F2 := (141, [some (.ref 15), some (.int (Int32.ofInt (5))), some (.long (Int64.ofInt (pk [108, 105, 115, 116, 0, 0, 0]))), none], [], ml_mk h σ)) (show jw_cd cd_248 140 = some (.lstore_n 2) by decide +kernel) rfl ?_
  refine jr_1 jm_248 (show jw_cd cd_248 141 = some (.aload_n 0) by decide +kernel) rfl ?_
  refine jr_1 jm_248 (show jw_cd cd_248 142 = some (.iconst 4) by decide +kernel) rfl ?_
  refine jr_1 jm_248 (show jw_cd cd_248 143 = some (.iconst 4) by decide +kernel) rfl ?_
  refine jr_1 jm_248 (show jw_cd cd_248 144 = some (.iconst 0) by decide +kernel) rfl ?_
  refine jr_1 jm_248 (show jw_cd cd_248 145 = some (.lload_n 2) by decide +kernel) rfl ?_
  rw [show pk [108, 105, 115, 116, 0, 0, 0] = pk [108, 105, 115, 116] from by decide]
  refine jr_c jm_248 (show jw_cd cd_248 146 = some (.invokevirtual 110) by decide +kernel) (mc_v hl (n := 4) (m2 := 208) (bs := [.int (Int32.ofInt (4)), .int (Int32.ofInt (4)), .int (Int32.ofInt (0)), .long (Int64.ofInt (pk [108, 105, 115, 116]))]) (r := []) (show jw_find jw_cvT 34 110 = some (4, [(16, 208)]) by decide +kernel) (by decide) rfl rfl rfl) jm_208 ⟨Nat.le_of_ble_eq_true rfl, by decide⟩ (jn_nodeM hl ⟨by decide, by decide⟩ (m := nn) e11 hn0 hn1) ?_
  exact jr_v jm_248 (show jw_cd cd_248 149 = some (.ireturn) by decide +kernel) rfl
theorem jn_type6 {β : Bool} {d : Nat} {h : jx_H} {σ : mS} (hl : 49 ≤ h.length) {nn : Int} (e11 : σ 11 4 = nn) (hn0 : 0 ≤ nn) (hn1 : 170 * 4 + nn < 1740) : jx_r (jz β) jw_M (d + 1 + 1) 248 (0, [some (.ref 15), some (.int (Int32.ofInt (6))), none, none], [], ml_mk h σ) (ml_mk h (mNode σ 4 4 0 (pk [111, 98, 106, 101, 99, 116])), .inl (some (.int (Int32.ofInt (170 * 4 + nn))))) := by
  refine jr_1 jm_248 (show jw_cd cd_248 0 = some (.iload_n 1) by decide +kernel) rfl ?_
  refine jr_1 jm_248 (show jw_cd cd_248 1 = some (.ifCond .ne 20) by decide +kernel) (mz_t (q := .ne) (a := 6) (t := 21) (by show ¬ (6 = 0); omega) ⟨by omega, by omega⟩ (by decide) (by decide)) ?_
  refine jr_1 jm_248 (show jw_cd cd_248 21 = some (.iload_n 1) by decide +kernel) rfl ?_
  refine jr_1 jm_248 (show jw_cd cd_248 22 = some (.iconst 3) by decide +kernel) rfl ?_
  refine jr_1 jm_248 (show jw_cd cd_248 23 = some (.if_icmp .ge 21) by decide +kernel) (mb_t (q := .ge) (a := 6) (b := 3) (t := 44) (by show 3 ≤ 6; omega) ⟨by omega, by omega⟩ ⟨by omega, by omega⟩ (by decide) (by decide)) ?_
  refine jr_1 jm_248 (show jw_cd cd_248 44 = some (.iload_n 1) by decide +kernel) rfl ?_
  refine jr_1 jm_248 (show jw_cd cd_248 45 = some (.iconst 3) by decide +kernel) rfl ?_
  refine jr_1 jm_248 (show jw_cd cd_248 46 = some (.if_icmp .ne 22) by decide +kernel) (mb_t (q := .ne) (a := 6) (b := 3) (t := 68) (by show ¬ (6 = 3); omega) ⟨by omega, by omega⟩ ⟨by omega, by omega⟩ (by decide) (by decide)) ?_
  refine jr_1 jm_248 (F2 := (69, [some (.ref 15), some (.int (Int32.ofInt (6))), none, none], [.long (Int64.ofInt (0))], ml_mk h σ)) (show jw_cd cd_248 68 = some (.lconst 0) by decide +kernel) rfl ?_
  refine jr_1 jm_248 (F2 := (70, [some (.ref 15), some (.int (Int32.ofInt (6))), some (.long (Int64.ofInt (0))), none], [], ml_mk h σ)) (show jw_cd cd_248 69 = some (.lstore_n 2) by decide +kernel) rfl ?_
  refine jr_1 jm_248 (show jw_cd cd_248 70 = some (.iload_n 1) by decide +kernel) rfl ?_
  refine jr_1 jm_248 (show jw_cd cd_248 71 = some (.iconst 4) by decide +kernel) rfl ?_
  refine jr_1 jm_248 (show jw_cd cd_248 72 = some (.if_icmp .ne 20) by decide +kernel) (mb_t (q := .ne) (a := 6) (b := 4) (t := 92) (by show ¬ (6 = 4); omega) ⟨by omega, by omega⟩ ⟨by omega, by omega⟩ (by decide) (by decide)) ?_
  refine jr_1 jm_248 (show jw_cd cd_248 92 = some (.iload_n 1) by decide +kernel) rfl ?_
  refine jr_1 jm_248 (show jw_cd cd_248 93 = some (.iconst 5) by decide +kernel) rfl ?_
  refine jr_1 jm_248 (show jw_cd cd_248 94 = some (.if_icmp .ne 20) by decide +kernel) (mb_t (q := .ne) (a := 6) (b := 5) (t := 114) (by show ¬ (6 = 5); omega) ⟨by omega, by omega⟩ ⟨by omega, by omega⟩ (by decide) (by decide)) ?_
  refine jr_1 jm_248 (show jw_cd cd_248 114 = some (.iload_n 1) by decide +kernel) rfl ?_
  refine jr_1 jm_248 (show jw_cd cd_248 115 = some (.bipush 6) by decide +kernel) (mt_bi (by decide)) ?_
  refine jr_1 jm_248 (show jw_cd cd_248 117 = some (.if_icmp .ne 22) by decide +kernel) (mb_f (q := .ne) (a := 6) (b := 6) (by show ¬ (¬ (6 = 6)); omega) ⟨by omega, by omega⟩ ⟨by omega, by omega⟩ (by decide)) ?_
  refine jr_1 jm_248 (show jw_cd cd_248 120 = some (.bipush 111) by decide +kernel) (mt_bi (by decide)) ?_
  refine jr_1 jm_248 (show jw_cd cd_248 122 = some (.bipush 98) by decide +kernel) (mt_bi (by decide)) ?_
  refine jr_1 jm_248 (show jw_cd cd_248 124 = some (.bipush 106) by decide +kernel) (mt_bi (by decide)) ?_
  refine jr_1 jm_248 (show jw_cd cd_248 126 = some (.bipush 101) by decide +kernel) (mt_bi (by decide)) ?_
  refine jr_1 jm_248 (show jw_cd cd_248 128 = some (.bipush 99) by decide +kernel) (mt_bi (by decide)) ?_
  refine jr_1 jm_248 (show jw_cd cd_248 130 = some (.bipush 116) by decide +kernel) (mt_bi (by decide)) ?_
  refine jr_1 jm_248 (show jw_cd cd_248 132 = some (.iconst 0) by decide +kernel) rfl ?_
  refine jr_c jm_248 (show jw_cd cd_248 133 = some (.invokestatic 225) by decide +kernel) (mc_s (n := 7) (m2 := 236) (bs := [.int (Int32.ofInt (111)), .int (Int32.ofInt (98)), .int (Int32.ofInt (106)), .int (Int32.ofInt (101)), .int (Int32.ofInt (99)), .int (Int32.ofInt (116)), .int (Int32.ofInt (0))]) (r := []) (by decide) (show jw_find jw_csT 34 225 = some (236, 7) by decide +kernel) rfl rfl rfl) jm_236 ⟨Nat.le_of_ble_eq_true rfl, by decide⟩ (jn_packed hl ⟨by decide, by decide⟩ ⟨by decide, by decide⟩ ⟨by decide, by decide⟩ ⟨by decide, by decide⟩ ⟨by decide, by decide⟩ ⟨by decide, by decide⟩ ⟨by decide, by decide⟩) ?_
  refine jr_1 jm_248 (show jw_cd cd_248 136 = some (.goto 4) by decide +kernel) (ju_go (t := 140) (by decide)) ?_
  refine jr_1 jm_248 (F2 := (141, [some (.ref 15), some (.int (Int32.ofInt (6))), some (.long (Int64.ofInt (pk [111, 98, 106, 101, 99, 116, 0]))), none], [], ml_mk h σ)) (show jw_cd cd_248 140 = some (.lstore_n 2) by decide +kernel) rfl ?_
  refine jr_1 jm_248 (show jw_cd cd_248 141 = some (.aload_n 0) by decide +kernel) rfl ?_
  refine jr_1 jm_248 (show jw_cd cd_248 142 = some (.iconst 4) by decide +kernel) rfl ?_
  refine jr_1 jm_248 (show jw_cd cd_248 143 = some (.iconst 4) by decide +kernel) rfl ?_
  refine jr_1 jm_248 (show jw_cd cd_248 144 = some (.iconst 0) by decide +kernel) rfl ?_
  refine jr_1 jm_248 (show jw_cd cd_248 145 = some (.lload_n 2) by decide +kernel) rfl ?_
  rw [show pk [111, 98, 106, 101, 99, 116, 0] = pk [111, 98, 106, 101, 99, 116] from by decide]
  refine jr_c jm_248 (show jw_cd cd_248 146 = some (.invokevirtual 110) by decide +kernel) (mc_v hl (n := 4) (m2 := 208) (bs := [.int (Int32.ofInt (4)), .int (Int32.ofInt (4)), .int (Int32.ofInt (0)), .long (Int64.ofInt (pk [111, 98, 106, 101, 99, 116]))]) (r := []) (show jw_find jw_cvT 34 110 = some (4, [(16, 208)]) by decide +kernel) (by decide) rfl rfl rfl) jm_208 ⟨Nat.le_of_ble_eq_true rfl, by decide⟩ (jn_nodeM hl ⟨by decide, by decide⟩ (m := nn) e11 hn0 hn1) ?_
  exact jr_v jm_248 (show jw_cd cd_248 149 = some (.ireturn) by decide +kernel) rfl
theorem jn_typeOf {β : Bool} {d : Nat} {h : jx_H} {σ : mS} (hl : 49 ≤ h.length) {k nn : Int} (hk : 0 ≤ k ∧ k ≤ 6) (e11 : σ 11 4 = nn) (hn0 : 0 ≤ nn) (hn1 : 170 * 4 + nn < 1740) : jx_r (jz β) jw_M (d + 1 + 1) 248 (0, [some (.ref 15), some (.int (Int32.ofInt (k))), none, none], [], ml_mk h σ) (ml_mk h (mNode σ 4 4 0 (pk (tyS k))), .inl (some (.int (Int32.ofInt (170 * 4 + nn))))) := by
  obtain rfl | rfl | rfl | rfl | rfl | rfl | rfl : k = 0 ∨ k = 1 ∨ k = 2 ∨ k = 3 ∨ k = 4 ∨ k = 5 ∨ k = 6 := by omega
  · exact jn_type0 hl e11 hn0 hn1
  · exact jn_type1 hl e11 hn0 hn1
  · exact jn_type2 hl e11 hn0 hn1
  · exact jn_type3 hl e11 hn0 hn1
  · exact jn_type4 hl e11 hn0 hn1
  · exact jn_type5 hl e11 hn0 hn1
  · exact jn_type6 hl e11 hn0 hn1
/-- does this word take a value of this kind? -/
def fitS (w k : Int) : Bool := decide (w = 8 ∨ (w = 0 ∧ 4 ≤ k) ∨ ((w = 1 ∨ w = 2) ∧ k = 6) ∨ (w = 4 ∧ (k = 4 ∨ k = 5)) ∨ ((w = 3 ∨ w = 5 ∨ w = 6 ∨ w = 7) ∧ k = 5))
theorem jn_fit0_0 {β : Bool} {d : Nat} {h : jx_H} {σ : mS} (hl : 49 ≤ h.length)  : jx_r (jz β) jw_M (d) 247 (0, [some (.int (Int32.ofInt (0))), some (.int (Int32.ofInt (0)))], [], ml_mk h σ) (ml_mk h (σ), .inl (some (.int (Int32.ofInt (0))))) := by
  refine jr_1 jm_247 (show jw_cd cd_247 0 = some (.iload_n 0) by decide +kernel) rfl ?_
  refine jr_1 jm_247 (show jw_cd cd_247 1 = some (.bipush 8) by decide +kernel) (mt_bi (by decide)) ?_
  refine jr_1 jm_247 (show jw_cd cd_247 3 = some (.if_icmp .eq 52) by decide +kernel) (mb_f (q := .eq) (a := 0) (b := 8) (by show ¬ (0 = 8); omega) ⟨by omega, by omega⟩ ⟨by omega, by omega⟩ (by decide)) ?_
  refine jr_1 jm_247 (show jw_cd cd_247 6 = some (.iload_n 0) by decide +kernel) rfl ?_
  refine jr_1 jm_247 (show jw_cd cd_247 7 = some (.ifCond .ne 11) by decide +kernel) (mz_f (q := .ne) (a := 0) (by show ¬ (¬ (0 = 0)); omega) ⟨by omega, by omega⟩ (by decide)) ?_
  refine jr_1 jm_247 (show jw_cd cd_247 10 = some (.iload_n 1) by decide +kernel) rfl ?_
  refine jr_1 jm_247 (show jw_cd cd_247 11 = some (.iconst 4) by decide +kernel) rfl ?_
  refine jr_1 jm_247 (show jw_cd cd_247 12 = some (.if_icmp .lt 47) by decide +kernel) (mb_t (q := .lt) (a := 0) (b := 4) (t := 59) (by show 0 < 4; omega) ⟨by omega, by omega⟩ ⟨by omega, by omega⟩ (by decide) (by decide)) ?_
  refine jr_1 jm_247 (show jw_cd cd_247 59 = some (.iconst 0) by decide +kernel) rfl ?_
  exact jr_v jm_247 (show jw_cd cd_247 60 = some (.ireturn) by decide +kernel) rfl
theorem jn_fit0_1 {β : Bool} {d : Nat} {h : jx_H} {σ : mS} (hl : 49 ≤ h.length)  : jx_r (jz β) jw_M (d) 247 (0, [some (.int (Int32.ofInt (0))), some (.int (Int32.ofInt (1)))], [], ml_mk h σ) (ml_mk h (σ), .inl (some (.int (Int32.ofInt (0))))) := by
  refine jr_1 jm_247 (show jw_cd cd_247 0 = some (.iload_n 0) by decide +kernel) rfl ?_
  refine jr_1 jm_247 (show jw_cd cd_247 1 = some (.bipush 8) by decide +kernel) (mt_bi (by decide)) ?_
  refine jr_1 jm_247 (show jw_cd cd_247 3 = some (.if_icmp .eq 52) by decide +kernel) (mb_f (q := .eq) (a := 0) (b := 8) (by show ¬ (0 = 8); omega) ⟨by omega, by omega⟩ ⟨by omega, by omega⟩ (by decide)) ?_
  refine jr_1 jm_247 (show jw_cd cd_247 6 = some (.iload_n 0) by decide +kernel) rfl ?_
  refine jr_1 jm_247 (show jw_cd cd_247 7 = some (.ifCond .ne 11) by decide +kernel) (mz_f (q := .ne) (a := 0) (by show ¬ (¬ (0 = 0)); omega) ⟨by omega, by omega⟩ (by decide)) ?_
  refine jr_1 jm_247 (show jw_cd cd_247 10 = some (.iload_n 1) by decide +kernel) rfl ?_
  refine jr_1 jm_247 (show jw_cd cd_247 11 = some (.iconst 4) by decide +kernel) rfl ?_
  refine jr_1 jm_247 (show jw_cd cd_247 12 = some (.if_icmp .lt 47) by decide +kernel) (mb_t (q := .lt) (a := 1) (b := 4) (t := 59) (by show 1 < 4; omega) ⟨by omega, by omega⟩ ⟨by omega, by omega⟩ (by decide) (by decide)) ?_
  refine jr_1 jm_247 (show jw_cd cd_247 59 = some (.iconst 0) by decide +kernel) rfl ?_
  exact jr_v jm_247 (show jw_cd cd_247 60 = some (.ireturn) by decide +kernel) rfl
theorem jn_fit0_2 {β : Bool} {d : Nat} {h : jx_H} {σ : mS} (hl : 49 ≤ h.length)  : jx_r (jz β) jw_M (d) 247 (0, [some (.int (Int32.ofInt (0))), some (.int (Int32.ofInt (2)))], [], ml_mk h σ) (ml_mk h (σ), .inl (some (.int (Int32.ofInt (0))))) := by
  refine jr_1 jm_247 (show jw_cd cd_247 0 = some (.iload_n 0) by decide +kernel) rfl ?_
  refine jr_1 jm_247 (show jw_cd cd_247 1 = some (.bipush 8) by decide +kernel) (mt_bi (by decide)) ?_
  refine jr_1 jm_247 (show jw_cd cd_247 3 = some (.if_icmp .eq 52) by decide +kernel) (mb_f (q := .eq) (a := 0) (b := 8) (by show ¬ (0 = 8); omega) ⟨by omega, by omega⟩ ⟨by omega, by omega⟩ (by decide)) ?_
  refine jr_1 jm_247 (show jw_cd cd_247 6 = some (.iload_n 0) by decide +kernel) rfl ?_
  refine jr_1 jm_247 (show jw_cd cd_247 7 = some (.ifCond .ne 11) by decide +kernel) (mz_f (q := .ne) (a := 0) (by show ¬ (¬ (0 = 0)); omega) ⟨by omega, by omega⟩ (by decide)) ?_
  refine jr_1 jm_247 (show jw_cd cd_247 10 = some (.iload_n 1) by decide +kernel) rfl ?_
  refine jr_1 jm_247 (show jw_cd cd_247 11 = some (.iconst 4) by decide +kernel) rfl ?_
  refine jr_1 jm_247 (show jw_cd cd_247 12 = some (.if_icmp .lt 47) by decide +kernel) (mb_t (q := .lt) (a := 2) (b := 4) (t := 59) (by show 2 < 4; omega) ⟨by omega, by omega⟩ ⟨by omega, by omega⟩ (by decide) (by decide)) ?_
  refine jr_1 jm_247 (show jw_cd cd_247 59 = some (.iconst 0) by decide +kernel) rfl ?_
  exact jr_v jm_247 (show jw_cd cd_247 60 = some (.ireturn) by decide +kernel) rfl
theorem jn_fit0_3 {β : Bool} {d : Nat} {h : jx_H} {σ : mS} (hl : 49 ≤ h.length)  : jx_r (jz β) jw_M (d) 247 (0, [some (.int (Int32.ofInt (0))), some (.int (Int32.ofInt (3)))], [], ml_mk h σ) (ml_mk h (σ), .inl (some (.int (Int32.ofInt (0))))) := by
  refine jr_1 jm_247 (show jw_cd cd_247 0 = some (.iload_n 0) by decide +kernel) rfl ?_
  refine jr_1 jm_247 (show jw_cd cd_247 1 = some (.bipush 8) by decide +kernel) (mt_bi (by decide)) ?_
  refine jr_1 jm_247 (show jw_cd cd_247 3 = some (.if_icmp .eq 52) by decide +kernel) (mb_f (q := .eq) (a := 0) (b := 8) (by show ¬ (0 = 8); omega) ⟨by omega, by omega⟩ ⟨by omega, by omega⟩ (by decide)) ?_
  refine jr_1 jm_247 (show jw_cd cd_247 6 = some (.iload_n 0) by decide +kernel) rfl ?_
  refine jr_1 jm_247 (show jw_cd cd_247 7 = some (.ifCond .ne 11) by decide +kernel) (mz_f (q := .ne) (a := 0) (by show ¬ (¬ (0 = 0)); omega) ⟨by omega, by omega⟩ (by decide)) ?_
  refine jr_1 jm_247 (show jw_cd cd_247 10 = some (.iload_n 1) by decide +kernel) rfl ?_
  refine jr_1 jm_247 (show jw_cd cd_247 11 = some (.iconst 4) by decide +kernel) rfl ?_
  refine jr_1 jm_247 (show jw_cd cd_247 12 = some (.if_icmp .lt 47) by decide +kernel) (mb_t (q := .lt) (a := 3) (b := 4) (t := 59) (by show 3 < 4; omega) ⟨by omega, by omega⟩ ⟨by omega, by omega⟩ (by decide) (by decide)) ?_
  refine jr_1 jm_247 (show jw_cd cd_247 59 = some (.iconst 0) by decide +kernel) rfl ?_
  exact jr_v jm_247 (show jw_cd cd_247 60 = some (.ireturn) by decide +kernel) rfl
theorem jn_fit0_4 {β : Bool} {d : Nat} {h : jx_H} {σ : mS} (hl : 49 ≤ h.length)  : jx_r (jz β) jw_M (d) 247 (0, [some (.int (Int32.ofInt (0))), some (.int (Int32.ofInt (4)))], [], ml_mk h σ) (ml_mk h (σ), .inl (some (.int (Int32.ofInt (1))))) := by
  refine jr_1 jm_247 (show jw_cd cd_247 0 = some (.iload_n 0) by decide +kernel) rfl ?_
  refine jr_1 jm_247 (show jw_cd cd_247 1 = some (.bipush 8) by decide +kernel) (mt_bi (by decide)) ?_
  refine jr_1 jm_247 (show jw_cd cd_247 3 = some (.if_icmp .eq 52) by decide +kernel) (mb_f (q := .eq) (a := 0) (b := 8) (by show ¬ (0 = 8); omega) ⟨by omega, by omega⟩ ⟨by omega, by omega⟩ (by decide)) ?_
  refine jr_1 jm_247 (show jw_cd cd_247 6 = some (.iload_n 0) by decide +kernel) rfl ?_
  refine jr_1 jm_247 (show jw_cd cd_247 7 = some (.ifCond .ne 11) by decide +kernel) (mz_f (q := .ne) (a := 0) (by show ¬ (¬ (0 = 0)); omega) ⟨by omega, by omega⟩ (by decide)) ?_
  refine jr_1 jm_247 (show jw_cd cd_247 10 = some (.iload_n 1) by decide +kernel) rfl ?_
  refine jr_1 jm_247 (show jw_cd cd_247 11 = some (.iconst 4) by decide +kernel) rfl ?_
  refine jr_1 jm_247 (show jw_cd cd_247 12 = some (.if_icmp .lt 47) by decide +kernel) (mb_f (q := .lt) (a := 4) (b := 4) (by show ¬ (4 < 4); omega) ⟨by omega, by omega⟩ ⟨by omega, by omega⟩ (by decide)) ?_
  refine jr_1 jm_247 (show jw_cd cd_247 15 = some (.goto 40) by decide +kernel) (ju_go (t := 55) (by decide)) ?_
  refine jr_1 jm_247 (show jw_cd cd_247 55 = some (.iconst 1) by decide +kernel) rfl ?_
  refine jr_1 jm_247 (show jw_cd cd_247 56 = some (.goto 4) by decide +kernel) (ju_go (t := 60) (by decide)) ?_
  exact jr_v jm_247 (show jw_cd cd_247 60 = some (.ireturn) by decide +kernel) rfl
theorem jn_fit0_5 {β : Bool} {d : Nat} {h : jx_H} {σ : mS} (hl : 49 ≤ h.length)  : jx_r (jz β) jw_M (d) 247 (0, [some (.int (Int32.ofInt (0))), some (.int (Int32.ofInt (5)))], [], ml_mk h σ) (ml_mk h (σ), .inl (some (.int (Int32.ofInt (1))))) := by
  refine jr_1 jm_247 (show jw_cd cd_247 0 = some (.iload_n 0) by decide +kernel) rfl ?_
  refine jr_1 jm_247 (show jw_cd cd_247 1 = some (.bipush 8) by decide +kernel) (mt_bi (by decide)) ?_
  refine jr_1 jm_247 (show jw_cd cd_247 3 = some (.if_icmp .eq 52) by decide +kernel) (mb_f (q := .eq) (a := 0) (b := 8) (by show ¬ (0 = 8); omega) ⟨by omega, by omega⟩ ⟨by omega, by omega⟩ (by decide)) ?_
  refine jr_1 jm_247 (show jw_cd cd_247 6 = some (.iload_n 0) by decide +kernel) rfl ?_
  refine jr_1 jm_247 (show jw_cd cd_247 7 = some (.ifCond .ne 11) by decide +kernel) (mz_f (q := .ne) (a := 0) (by show ¬ (¬ (0 = 0)); omega) ⟨by omega, by omega⟩ (by decide)) ?_
  refine jr_1 jm_247 (show jw_cd cd_247 10 = some (.iload_n 1) by decide +kernel) rfl ?_
  refine jr_1 jm_247 (show jw_cd cd_247 11 = some (.iconst 4) by decide +kernel) rfl ?_
  refine jr_1 jm_247 (show jw_cd cd_247 12 = some (.if_icmp .lt 47) by decide +kernel) (mb_f (q := .lt) (a := 5) (b := 4) (by show ¬ (5 < 4); omega) ⟨by omega, by omega⟩ ⟨by omega, by omega⟩ (by decide)) ?_
  refine jr_1 jm_247 (show jw_cd cd_247 15 = some (.goto 40) by decide +kernel) (ju_go (t := 55) (by decide)) ?_
  refine jr_1 jm_247 (show jw_cd cd_247 55 = some (.iconst 1) by decide +kernel) rfl ?_
  refine jr_1 jm_247 (show jw_cd cd_247 56 = some (.goto 4) by decide +kernel) (ju_go (t := 60) (by decide)) ?_
  exact jr_v jm_247 (show jw_cd cd_247 60 = some (.ireturn) by decide +kernel) rfl
theorem jn_fit0_6 {β : Bool} {d : Nat} {h : jx_H} {σ : mS} (hl : 49 ≤ h.length)  : jx_r (jz β) jw_M (d) 247 (0, [some (.int (Int32.ofInt (0))), some (.int (Int32.ofInt (6)))], [], ml_mk h σ) (ml_mk h (σ), .inl (some (.int (Int32.ofInt (1))))) := by
  refine jr_1 jm_247 (show jw_cd cd_247 0 = some (.iload_n 0) by decide +kernel) rfl ?_
  refine jr_1 jm_247 (show jw_cd cd_247 1 = some (.bipush 8) by decide +kernel) (mt_bi (by decide)) ?_
  refine jr_1 jm_247 (show jw_cd cd_247 3 = some (.if_icmp .eq 52) by decide +kernel) (mb_f (q := .eq) (a := 0) (b := 8) (by show ¬ (0 = 8); omega) ⟨by omega, by omega⟩ ⟨by omega, by omega⟩ (by decide)) ?_
  refine jr_1 jm_247 (show jw_cd cd_247 6 = some (.iload_n 0) by decide +kernel) rfl ?_
  refine jr_1 jm_247 (show jw_cd cd_247 7 = some (.ifCond .ne 11) by decide +kernel) (mz_f (q := .ne) (a := 0) (by show ¬ (¬ (0 = 0)); omega) ⟨by omega, by omega⟩ (by decide)) ?_
  refine jr_1 jm_247 (show jw_cd cd_247 10 = some (.iload_n 1) by decide +kernel) rfl ?_
  refine jr_1 jm_247 (show jw_cd cd_247 11 = some (.iconst 4) by decide +kernel) rfl ?_
  refine jr_1 jm_247 (show jw_cd cd_247 12 = some (.if_icmp .lt 47) by decide +kernel) (mb_f (q := .lt) (a := 6) (b := 4) (by show ¬ (6 < 4); omega) ⟨by omega, by omega⟩ ⟨by omega, by omega⟩ (by decide)) ?_
  refine jr_1 jm_247 (show jw_cd cd_247 15 = some (.goto 40) by decide +kernel) (ju_go (t := 55) (by decide)) ?_
  refine jr_1 jm_247 (show jw_cd cd_247 55 = some (.iconst 1) by decide +kernel) rfl ?_
  refine jr_1 jm_247 (show jw_cd cd_247 56 = some (.goto 4) by decide +kernel) (ju_go (t := 60) (by decide)) ?_
  exact jr_v jm_247 (show jw_cd cd_247 60 = some (.ireturn) by decide +kernel) rfl
theorem jn_fit1_0 {β : Bool} {d : Nat} {h : jx_H} {σ : mS} (hl : 49 ≤ h.length)  : jx_r (jz β) jw_M (d) 247 (0, [some (.int (Int32.ofInt (1))), some (.int (Int32.ofInt (0)))], [], ml_mk h σ) (ml_mk h (σ), .inl (some (.int (Int32.ofInt (0))))) := by
  refine jr_1 jm_247 (show jw_cd cd_247 0 = some (.iload_n 0) by decide +kernel) rfl ?_
  refine jr_1 jm_247 (show jw_cd cd_247 1 = some (.bipush 8) by decide +kernel) (mt_bi (by decide)) ?_
  refine jr_1 jm_247 (show jw_cd cd_247 3 = some (.if_icmp .eq 52) by decide +kernel) (mb_f (q := .eq) (a := 1) (b := 8) (by show ¬ (1 = 8); omega) ⟨by omega, by omega⟩ ⟨by omega, by omega⟩ (by decide)) ?_
  refine jr_1 jm_247 (show jw_cd cd_247 6 = some (.iload_n 0) by decide +kernel) rfl ?_
  refine jr_1 jm_247 (show jw_cd cd_247 7 = some (.ifCond .ne 11) by decide +kernel) (mz_t (q := .ne) (a := 1) (t := 18) (by show ¬ (1 = 0); omega) ⟨by omega, by omega⟩ (by decide) (by decide)) ?_
  refine jr_1 jm_247 (show jw_cd cd_247 18 = some (.iload_n 0) by decide +kernel) rfl ?_
  refine jr_1 jm_247 (show jw_cd cd_247 19 = some (.iconst 3) by decide +kernel) rfl ?_
  refine jr_1 jm_247 (show jw_cd cd_247 20 = some (.if_icmp .ge 12) by decide +kernel) (mb_f (q := .ge) (a := 1) (b := 3) (by show ¬ (3 ≤ 1); omega) ⟨by omega, by omega⟩ ⟨by omega, by omega⟩ (by decide)) ?_
  refine jr_1 jm_247 (show jw_cd cd_247 23 = some (.iload_n 1) by decide +kernel) rfl ?_
  refine jr_1 jm_247 (show jw_cd cd_247 24 = some (.bipush 6) by decide +kernel) (mt_bi (by decide)) ?_
  refine jr_1 jm_247 (show jw_cd cd_247 26 = some (.if_icmp .ne 33) by decide +kernel) (mb_t (q := .ne) (a := 0) (b := 6) (t := 59) (by show ¬ (0 = 6); omega) ⟨by omega, by omega⟩ ⟨by omega, by omega⟩ (by decide) (by decide)) ?_
  refine jr_1 jm_247 (show jw_cd cd_247 59 = some (.iconst 0) by decide +kernel) rfl ?_
  exact jr_v jm_247 (show jw_cd cd_247 60 = some (.ireturn) by decide +kernel) rfl
theorem jn_fit1_1 {β : Bool} {d : Nat} {h : jx_H} {σ : mS} (hl : 49 ≤ h.length)  : jx_r (jz β) jw_M (d) 247 (0, [some (.int (Int32.ofInt (1))), some (.int (Int32.ofInt (1)))], [], ml_mk h σ) (ml_mk h (σ), .inl (some (.int (Int32.ofInt (0))))) := by
  refine jr_1 jm_247 (show jw_cd cd_247 0 = some (.iload_n 0) by decide +kernel) rfl ?_
  refine jr_1 jm_247 (show jw_cd cd_247 1 = some (.bipush 8) by decide +kernel) (mt_bi (by decide)) ?_
  refine jr_1 jm_247 (show jw_cd cd_247 3 = some (.if_icmp .eq 52) by decide +kernel) (mb_f (q := .eq) (a := 1) (b := 8) (by show ¬ (1 = 8); omega) ⟨by omega, by omega⟩ ⟨by omega, by omega⟩ (by decide)) ?_
  refine jr_1 jm_247 (show jw_cd cd_247 6 = some (.iload_n 0) by decide +kernel) rfl ?_
  refine jr_1 jm_247 (show jw_cd cd_247 7 = some (.ifCond .ne 11) by decide +kernel) (mz_t (q := .ne) (a := 1) (t := 18) (by show ¬ (1 = 0); omega) ⟨by omega, by omega⟩ (by decide) (by decide)) ?_
  refine jr_1 jm_247 (show jw_cd cd_247 18 = some (.iload_n 0) by decide +kernel) rfl ?_
  refine jr_1 jm_247 (show jw_cd cd_247 19 = some (.iconst 3) by decide +kernel) rfl ?_
  refine jr_1 jm_247 (show jw_cd cd_247 20 = some (.if_icmp .ge 12) by decide +kernel) (mb_f (q := .ge) (a := 1) (b := 3) (by show ¬ (3 ≤ 1); omega) ⟨by omega, by omega⟩ ⟨by omega, by omega⟩ (by decide)) ?_
  refine jr_1 jm_247 (show jw_cd cd_247 23 = some (.iload_n 1) by decide +kernel) rfl ?_
  refine jr_1 jm_247 (show jw_cd cd_247 24 = some (.bipush 6) by decide +kernel) (mt_bi (by decide)) ?_
  refine jr_1 jm_247 (show jw_cd cd_247 26 = some (.if_icmp .ne 33) by decide +kernel) (mb_t (q := .ne) (a := 1) (b := 6) (t := 59) (by show ¬ (1 = 6); omega) ⟨by omega, by omega⟩ ⟨by omega, by omega⟩ (by decide) (by decide)) ?_
  refine jr_1 jm_247 (show jw_cd cd_247 59 = some (.iconst 0) by decide +kernel) rfl ?_
  exact jr_v jm_247 (show jw_cd cd_247 60 = some (.ireturn) by decide +kernel) rfl
theorem jn_fit1_2 {β : Bool} {d : Nat} {h : jx_H} {σ : mS} (hl : 49 ≤ h.length)  : jx_r (jz β) jw_M (d) 247 (0, [some (.int (Int32.ofInt (1))), some (.int (Int32.ofInt (2)))], [], ml_mk h σ) (ml_mk h (σ), .inl (some (.int (Int32.ofInt (0))))) := by
  refine jr_1 jm_247 (show jw_cd cd_247 0 = some (.iload_n 0) by decide +kernel) rfl ?_
  refine jr_1 jm_247 (show jw_cd cd_247 1 = some (.bipush 8) by decide +kernel) (mt_bi (by decide)) ?_
  refine jr_1 jm_247 (show jw_cd cd_247 3 = some (.if_icmp .eq 52) by decide +kernel) (mb_f (q := .eq) (a := 1) (b := 8) (by show ¬ (1 = 8); omega) ⟨by omega, by omega⟩ ⟨by omega, by omega⟩ (by decide)) ?_
  refine jr_1 jm_247 (show jw_cd cd_247 6 = some (.iload_n 0) by decide +kernel) rfl ?_
  refine jr_1 jm_247 (show jw_cd cd_247 7 = some (.ifCond .ne 11) by decide +kernel) (mz_t (q := .ne) (a := 1) (t := 18) (by show ¬ (1 = 0); omega) ⟨by omega, by omega⟩ (by decide) (by decide)) ?_
  refine jr_1 jm_247 (show jw_cd cd_247 18 = some (.iload_n 0) by decide +kernel) rfl ?_
  refine jr_1 jm_247 (show jw_cd cd_247 19 = some (.iconst 3) by decide +kernel) rfl ?_
  refine jr_1 jm_247 (show jw_cd cd_247 20 = some (.if_icmp .ge 12) by decide +kernel) (mb_f (q := .ge) (a := 1) (b := 3) (by show ¬ (3 ≤ 1); omega) ⟨by omega, by omega⟩ ⟨by omega, by omega⟩ (by decide)) ?_
  refine jr_1 jm_247 (show jw_cd cd_247 23 = some (.iload_n 1) by decide +kernel) rfl ?_
  refine jr_1 jm_247 (show jw_cd cd_247 24 = some (.bipush 6) by decide +kernel) (mt_bi (by decide)) ?_
  refine jr_1 jm_247 (show jw_cd cd_247 26 = some (.if_icmp .ne 33) by decide +kernel) (mb_t (q := .ne) (a := 2) (b := 6) (t := 59) (by show ¬ (2 = 6); omega) ⟨by omega, by omega⟩ ⟨by omega, by omega⟩ (by decide) (by decide)) ?_
  refine jr_1 jm_247 (show jw_cd cd_247 59 = some (.iconst 0) by decide +kernel) rfl ?_
  exact jr_v jm_247 (show jw_cd cd_247 60 = some (.ireturn) by decide +kernel) rfl
theorem jn_fit1_3 {β : Bool} {d : Nat} {h : jx_H} {σ : mS} (hl : 49 ≤ h.length)  : jx_r (jz β) jw_M (d) 247 (0, [some (.int (Int32.ofInt (1))), some (.int (Int32.ofInt (3)))], [], ml_mk h σ) (ml_mk h (σ), .inl (some (.int (Int32.ofInt (0))))) := by
  refine jr_1 jm_247 (show jw_cd cd_247 0 = some (.iload_n 0) by decide +kernel) rfl ?_
  refine jr_1 jm_247 (show jw_cd cd_247 1 = some (.bipush 8) by decide +kernel) (mt_bi (by decide)) ?_
  refine jr_1 jm_247 (show jw_cd cd_247 3 = some (.if_icmp .eq 52) by decide +kernel) (mb_f (q := .eq) (a := 1) (b := 8) (by show ¬ (1 = 8); omega) ⟨by omega, by omega⟩ ⟨by omega, by omega⟩ (by decide)) ?_
  refine jr_1 jm_247 (show jw_cd cd_247 6 = some (.iload_n 0) by decide +kernel) rfl ?_
  refine jr_1 jm_247 (show jw_cd cd_247 7 = some (.ifCond .ne 11) by decide +kernel) (mz_t (q := .ne) (a := 1) (t := 18) (by show ¬ (1 = 0); omega) ⟨by omega, by omega⟩ (by decide) (by decide)) ?_
  refine jr_1 jm_247 (show jw_cd cd_247 18 = some (.iload_n 0) by decide +kernel) rfl ?_
  refine jr_1 jm_247 (show jw_cd cd_247 19 = some (.iconst 3) by decide +kernel) rfl ?_
  refine jr_1 jm_247 (show jw_cd cd_247 20 = some (.if_icmp .ge 12) by decide +kernel) (mb_f (q := .ge) (a := 1) (b := 3) (by show ¬ (3 ≤ 1); omega) ⟨by omega, by omega⟩ ⟨by omega, by omega⟩ (by decide)) ?_
  refine jr_1 jm_247 (show jw_cd cd_247 23 = some (.iload_n 1) by decide +kernel) rfl ?_
  refine jr_1 jm_247 (show jw_cd cd_247 24 = some (.bipush 6) by decide +kernel) (mt_bi (by decide)) ?_
  refine jr_1 jm_247 (show jw_cd cd_247 26 = some (.if_icmp .ne 33) by decide +kernel) (mb_t (q := .ne) (a := 3) (b := 6) (t := 59) (by show ¬ (3 = 6); omega) ⟨by omega, by omega⟩ ⟨by omega, by omega⟩ (by decide) (by decide)) ?_
  refine jr_1 jm_247 (show jw_cd cd_247 59 = some (.iconst 0) by decide +kernel) rfl ?_
  exact jr_v jm_247 (show jw_cd cd_247 60 = some (.ireturn) by decide +kernel) rfl
theorem jn_fit1_4 {β : Bool} {d : Nat} {h : jx_H} {σ : mS} (hl : 49 ≤ h.length)  : jx_r (jz β) jw_M (d) 247 (0, [some (.int (Int32.ofInt (1))), some (.int (Int32.ofInt (4)))], [], ml_mk h σ) (ml_mk h (σ), .inl (some (.int (Int32.ofInt (0))))) := by
  refine jr_1 jm_247 (show jw_cd cd_247 0 = some (.iload_n 0) by decide +kernel) rfl ?_
  refine jr_1 jm_247 (show jw_cd cd_247 1 = some (.bipush 8) by decide +kernel) (mt_bi (by decide)) ?_
  refine jr_1 jm_247 (show jw_cd cd_247 3 = some (.if_icmp .eq 52) by decide +kernel) (mb_f (q := .eq) (a := 1) (b := 8) (by show ¬ (1 = 8); omega) ⟨by omega, by omega⟩ ⟨by omega, by omega⟩ (by decide)) ?_
  refine jr_1 jm_247 (show jw_cd cd_247 6 = some (.iload_n 0) by decide +kernel) rfl ?_
  refine jr_1 jm_247 (show jw_cd cd_247 7 = some (.ifCond .ne 11) by decide +kernel) (mz_t (q := .ne) (a := 1) (t := 18) (by show ¬ (1 = 0); omega) ⟨by omega, by omega⟩ (by decide) (by decide)) ?_
  refine jr_1 jm_247 (show jw_cd cd_247 18 = some (.iload_n 0) by decide +kernel) rfl ?_
  refine jr_1 jm_247 (show jw_cd cd_247 19 = some (.iconst 3) by decide +kernel) rfl ?_
  refine jr_1 jm_247 (show jw_cd cd_247 20 = some (.if_icmp .ge 12) by decide +kernel) (mb_f (q := .ge) (a := 1) (b := 3) (by show ¬ (3 ≤ 1); omega) ⟨by omega, by omega⟩ ⟨by omega, by omega⟩ (by decide)) ?_
  refine jr_1 jm_247 (show jw_cd cd_247 23 = some (.iload_n 1) by decide +kernel) rfl ?_
  refine jr_1 jm_247 (show jw_cd cd_247 24 = some (.bipush 6) by decide +kernel) (mt_bi (by decide)) ?_
  refine jr_1 jm_247 (show jw_cd cd_247 26 = some (.if_icmp .ne 33) by decide +kernel) (mb_t (q := .ne) (a := 4) (b := 6) (t := 59) (by show ¬ (4 = 6); omega) ⟨by omega, by omega⟩ ⟨by omega, by omega⟩ (by decide) (by decide)) ?_
  refine jr_1 jm_247 (show jw_cd cd_247 59 = some (.iconst 0) by decide +kernel) rfl ?_
  exact jr_v jm_247 (show jw_cd cd_247 60 = some (.ireturn) by decide +kernel) rfl
theorem jn_fit1_5 {β : Bool} {d : Nat} {h : jx_H} {σ : mS} (hl : 49 ≤ h.length)  : jx_r (jz β) jw_M (d) 247 (0, [some (.int (Int32.ofInt (1))), some (.int (Int32.ofInt (5)))], [], ml_mk h σ) (ml_mk h (σ), .inl (some (.int (Int32.ofInt (0))))) := by
  refine jr_1 jm_247 (show jw_cd cd_247 0 = some (.iload_n 0) by decide +kernel) rfl ?_
  refine jr_1 jm_247 (show jw_cd cd_247 1 = some (.bipush 8) by decide +kernel) (mt_bi (by decide)) ?_
  refine jr_1 jm_247 (show jw_cd cd_247 3 = some (.if_icmp .eq 52) by decide +kernel) (mb_f (q := .eq) (a := 1) (b := 8) (by show ¬ (1 = 8); omega) ⟨by omega, by omega⟩ ⟨by omega, by omega⟩ (by decide)) ?_
  refine jr_1 jm_247 (show jw_cd cd_247 6 = some (.iload_n 0) by decide +kernel) rfl ?_
  refine jr_1 jm_247 (show jw_cd cd_247 7 = some (.ifCond .ne 11) by decide +kernel) (mz_t (q := .ne) (a := 1) (t := 18) (by show ¬ (1 = 0); omega) ⟨by omega, by omega⟩ (by decide) (by decide)) ?_
  refine jr_1 jm_247 (show jw_cd cd_247 18 = some (.iload_n 0) by decide +kernel) rfl ?_
  refine jr_1 jm_247 (show jw_cd cd_247 19 = some (.iconst 3) by decide +kernel) rfl ?_
  refine jr_1 jm_247 (show jw_cd cd_247 20 = some (.if_icmp .ge 12) by decide +kernel) (mb_f (q := .ge) (a := 1) (b := 3) (by show ¬ (3 ≤ 1); omega) ⟨by omega, by omega⟩ ⟨by omega, by omega⟩ (by decide)) ?_
  refine jr_1 jm_247 (show jw_cd cd_247 23 = some (.iload_n 1) by decide +kernel) rfl ?_
  refine jr_1 jm_247 (show jw_cd cd_247 24 = some (.bipush 6) by decide +kernel) (mt_bi (by decide)) ?_
  refine jr_1 jm_247 (show jw_cd cd_247 26 = some (.if_icmp .ne 33) by decide +kernel) (mb_t (q := .ne) (a := 5) (b := 6) (t := 59) (by show ¬ (5 = 6); omega) ⟨by omega, by omega⟩ ⟨by omega, by omega⟩ (by decide) (by decide)) ?_
  refine jr_1 jm_247 (show jw_cd cd_247 59 = some (.iconst 0) by decide +kernel) rfl ?_
  exact jr_v jm_247 (show jw_cd cd_247 60 = some (.ireturn) by decide +kernel) rfl
theorem jn_fit1_6 {β : Bool} {d : Nat} {h : jx_H} {σ : mS} (hl : 49 ≤ h.length)  : jx_r (jz β) jw_M (d) 247 (0, [some (.int (Int32.ofInt (1))), some (.int (Int32.ofInt (6)))], [], ml_mk h σ) (ml_mk h (σ), .inl (some (.int (Int32.ofInt (1))))) := by
  refine jr_1 jm_247 (show jw_cd cd_247 0 = some (.iload_n 0) by decide +kernel) rfl ?_
  refine jr_1 jm_247 (show jw_cd cd_247 1 = some (.bipush 8) by decide +kernel) (mt_bi (by decide)) ?_
  refine jr_1 jm_247 (show jw_cd cd_247 3 = some (.if_icmp .eq 52) by decide +kernel) (mb_f (q := .eq) (a := 1) (b := 8) (by show ¬ (1 = 8); omega) ⟨by omega, by omega⟩ ⟨by omega, by omega⟩ (by decide)) ?_
  refine jr_1 jm_247 (show jw_cd cd_247 6 = some (.iload_n 0) by decide +kernel) rfl ?_
  refine jr_1 jm_247 (show jw_cd cd_247 7 = some (.ifCond .ne 11) by decide +kernel) (mz_t (q := .ne) (a := 1) (t := 18) (by show ¬ (1 = 0); omega) ⟨by omega, by omega⟩ (by decide) (by decide)) ?_
  refine jr_1 jm_247 (show jw_cd cd_247 18 = some (.iload_n 0) by decide +kernel) rfl ?_
  refine jr_1 jm_247 (show jw_cd cd_247 19 = some (.iconst 3) by decide +kernel) rfl ?_
  refine jr_1 jm_247 (show jw_cd cd_247 20 = some (.if_icmp .ge 12) by decide +kernel) (mb_f (q := .ge) (a := 1) (b := 3) (by show ¬ (3 ≤ 1); omega) ⟨by omega, by omega⟩ ⟨by omega, by omega⟩ (by decide)) ?_
  refine jr_1 jm_247 (show jw_cd cd_247 23 = some (.iload_n 1) by decide +kernel) rfl ?_
  refine jr_1 jm_247 (show jw_cd cd_247 24 = some (.bipush 6) by decide +kernel) (mt_bi (by decide)) ?_
  refine jr_1 jm_247 (show jw_cd cd_247 26 = some (.if_icmp .ne 33) by decide +kernel) (mb_f (q := .ne) (a := 6) (b := 6) (by show ¬ (¬ (6 = 6)); omega) ⟨by omega, by omega⟩ ⟨by omega, by omega⟩ (by decide)) ?_
  refine jr_1 jm_247 (show jw_cd cd_247 29 = some (.goto 26) by decide +kernel) (ju_go (t := 55) (by decide)) ?_
  refine jr_1 jm_247 (show jw_cd cd_247 55 = some (.iconst 1) by decide +kernel) rfl ?_
  refine jr_1 jm_247 (show jw_cd cd_247 56 = some (.goto 4) by decide +kernel) (ju_go (t := 60) (by decide)) ?_
  exact jr_v jm_247 (show jw_cd cd_247 60 = some (.ireturn) by decide +kernel) rfl
theorem jn_fit2_0 {β : Bool} {d : Nat} {h : jx_H} {σ : mS} (hl : 49 ≤ h.length)  : jx_r (jz β) jw_M (d) 247 (0, [some (.int (Int32.ofInt (2))), some (.int (Int32.ofInt (0)))], [], ml_mk h σ) (ml_mk h (σ), .inl (some (.int (Int32.ofInt (0))))) := by
  refine jr_1 jm_247 (show jw_cd cd_247 0 = some (.iload_n 0) by decide +kernel) rfl ?_
  refine jr_1 jm_247 (show jw_cd cd_247 1 = some (.bipush 8) by decide +kernel) (mt_bi (by decide)) ?_
  refine jr_1 jm_247 (show jw_cd cd_247 3 = some (.if_icmp .eq 52) by decide +kernel) (mb_f (q := .eq) (a := 2) (b := 8) (by show ¬ (2 = 8); omega) ⟨by omega, by omega⟩ ⟨by omega, by omega⟩ (by decide)) ?_
  refine jr_1 jm_247 (show jw_cd cd_247 6 = some (.iload_n 0) by decide +kernel) rfl ?_
  refine jr_1 jm_247 (show jw_cd cd_247 7 = some (.ifCond .ne 11) by decide +kernel) (mz_t (q := .ne) (a := 2) (t := 18) (by show ¬ (2 = 0); omega) ⟨by omega, by omega⟩ (by decide) (by decide)) ?_
  refine jr_1 jm_247 (show jw_cd cd_247 18 = some (.iload_n 0) by decide +kernel) rfl ?_
  refine jr_1 jm_247 (show jw_cd cd_247 19 = some (.iconst 3) by decide +kernel) rfl ?_
  refine jr_1 jm_247 (show jw_cd cd_247 20 = some (.if_icmp .ge 12) by decide +kernel) (mb_f (q := .ge) (a := 2) (b := 3) (by show ¬ (3 ≤ 2); omega) ⟨by omega, by omega⟩ ⟨by omega, by omega⟩ (by decide)) ?_
  refine jr_1 jm_247 (show jw_cd cd_247 23 = some (.iload_n 1) by decide +kernel) rfl ?_
  refine jr_1 jm_247 (show jw_cd cd_247 24 = some (.bipush 6) by decide +kernel) (mt_bi (by decide)) ?_
  refine jr_1 jm_247 (show jw_cd cd_247 26 = some (.if_icmp .ne 33) by decide +kernel) (mb_t (q := .ne) (a := 0) (b := 6) (t := 59) (by show ¬ (0 = 6); omega) ⟨by omega, by omega⟩ ⟨by omega, by omega⟩ (by decide) (by decide)) ?_
  refine jr_1 jm_247 (show jw_cd cd_247 59 = some (.iconst 0) by decide +kernel) rfl ?_
  exact jr_v jm_247 (show jw_cd cd_247 60 = some (.ireturn) by decide +kernel) rfl
theorem jn_fit2_1 {β : Bool} {d : Nat} {h : jx_H} {σ : mS} (hl : 49 ≤ h.length)  : jx_r (jz β) jw_M (d) 247 (0, [some (.int (Int32.ofInt (2))), some (.int (Int32.ofInt (1)))], [], ml_mk h σ) (ml_mk h (σ), .inl (some (.int (Int32.ofInt (0))))) := by
  refine jr_1 jm_247 (show jw_cd cd_247 0 = some (.iload_n 0) by decide +kernel) rfl ?_
  refine jr_1 jm_247 (show jw_cd cd_247 1 = some (.bipush 8) by decide +kernel) (mt_bi (by decide)) ?_
  refine jr_1 jm_247 (show jw_cd cd_247 3 = some (.if_icmp .eq 52) by decide +kernel) (mb_f (q := .eq) (a := 2) (b := 8) (by show ¬ (2 = 8); omega) ⟨by omega, by omega⟩ ⟨by omega, by omega⟩ (by decide)) ?_
  refine jr_1 jm_247 (show jw_cd cd_247 6 = some (.iload_n 0) by decide +kernel) rfl ?_
  refine jr_1 jm_247 (show jw_cd cd_247 7 = some (.ifCond .ne 11) by decide +kernel) (mz_t (q := .ne) (a := 2) (t := 18) (by show ¬ (2 = 0); omega) ⟨by omega, by omega⟩ (by decide) (by decide)) ?_
  refine jr_1 jm_247 (show jw_cd cd_247 18 = some (.iload_n 0) by decide +kernel) rfl ?_
  refine jr_1 jm_247 (show jw_cd cd_247 19 = some (.iconst 3) by decide +kernel) rfl ?_
  refine jr_1 jm_247 (show jw_cd cd_247 20 = some (.if_icmp .ge 12) by decide +kernel) (mb_f (q := .ge) (a := 2) (b := 3) (by show ¬ (3 ≤ 2); omega) ⟨by omega, by omega⟩ ⟨by omega, by omega⟩ (by decide)) ?_
  refine jr_1 jm_247 (show jw_cd cd_247 23 = some (.iload_n 1) by decide +kernel) rfl ?_
  refine jr_1 jm_247 (show jw_cd cd_247 24 = some (.bipush 6) by decide +kernel) (mt_bi (by decide)) ?_
  refine jr_1 jm_247 (show jw_cd cd_247 26 = some (.if_icmp .ne 33) by decide +kernel) (mb_t (q := .ne) (a := 1) (b := 6) (t := 59) (by show ¬ (1 = 6); omega) ⟨by omega, by omega⟩ ⟨by omega, by omega⟩ (by decide) (by decide)) ?_
  refine jr_1 jm_247 (show jw_cd cd_247 59 = some (.iconst 0) by decide +kernel) rfl ?_
  exact jr_v jm_247 (show jw_cd cd_247 60 = some (.ireturn) by decide +kernel) rfl
theorem jn_fit2_2 {β : Bool} {d : Nat} {h : jx_H} {σ : mS} (hl : 49 ≤ h.length)  : jx_r (jz β) jw_M (d) 247 (0, [some (.int (Int32.ofInt (2))), some (.int (Int32.ofInt (2)))], [], ml_mk h σ) (ml_mk h (σ), .inl (some (.int (Int32.ofInt (0))))) := by
  refine jr_1 jm_247 (show jw_cd cd_247 0 = some (.iload_n 0) by decide +kernel) rfl ?_
  refine jr_1 jm_247 (show jw_cd cd_247 1 = some (.bipush 8) by decide +kernel) (mt_bi (by decide)) ?_
  refine jr_1 jm_247 (show jw_cd cd_247 3 = some (.if_icmp .eq 52) by decide +kernel) (mb_f (q := .eq) (a := 2) (b := 8) (by show ¬ (2 = 8); omega) ⟨by omega, by omega⟩ ⟨by omega, by omega⟩ (by decide)) ?_
  refine jr_1 jm_247 (show jw_cd cd_247 6 = some (.iload_n 0) by decide +kernel) rfl ?_
  refine jr_1 jm_247 (show jw_cd cd_247 7 = some (.ifCond .ne 11) by decide +kernel) (mz_t (q := .ne) (a := 2) (t := 18) (by show ¬ (2 = 0); omega) ⟨by omega, by omega⟩ (by decide) (by decide)) ?_
  refine jr_1 jm_247 (show jw_cd cd_247 18 = some (.iload_n 0) by decide +kernel) rfl ?_
  refine jr_1 jm_247 (show jw_cd cd_247 19 = some (.iconst 3) by decide +kernel) rfl ?_
  refine jr_1 jm_247 (show jw_cd cd_247 20 = some (.if_icmp .ge 12) by decide +kernel) (mb_f (q := .ge) (a := 2) (b := 3) (by show ¬ (3 ≤ 2); omega) ⟨by omega, by omega⟩ ⟨by omega, by omega⟩ (by decide)) ?_
  refine jr_1 jm_247 (show jw_cd cd_247 23 = some (.iload_n 1) by decide +kernel) rfl ?_
  refine jr_1 jm_247 (show jw_cd cd_247 24 = some (.bipush 6) by decide +kernel) (mt_bi (by decide)) ?_
  refine jr_1 jm_247 (show jw_cd cd_247 26 = some (.if_icmp .ne 33) by decide +kernel) (mb_t (q := .ne) (a := 2) (b := 6) (t := 59) (by show ¬ (2 = 6); omega) ⟨by omega, by omega⟩ ⟨by omega, by omega⟩ (by decide) (by decide)) ?_
  refine jr_1 jm_247 (show jw_cd cd_247 59 = some (.iconst 0) by decide +kernel) rfl ?_
  exact jr_v jm_247 (show jw_cd cd_247 60 = some (.ireturn) by decide +kernel) rfl
theorem jn_fit2_3 {β : Bool} {d : Nat} {h : jx_H} {σ : mS} (hl : 49 ≤ h.length)  : jx_r (jz β) jw_M (d) 247 (0, [some (.int (Int32.ofInt (2))), some (.int (Int32.ofInt (3)))], [], ml_mk h σ) (ml_mk h (σ), .inl (some (.int (Int32.ofInt (0))))) := by
  refine jr_1 jm_247 (show jw_cd cd_247 0 = some (.iload_n 0) by decide +kernel) rfl ?_
  refine jr_1 jm_247 (show jw_cd cd_247 1 = some (.bipush 8) by decide +kernel) (mt_bi (by decide)) ?_
  refine jr_1 jm_247 (show jw_cd cd_247 3 = some (.if_icmp .eq 52) by decide +kernel) (mb_f (q := .eq) (a := 2) (b := 8) (by show ¬ (2 = 8); omega) ⟨by omega, by omega⟩ ⟨by omega, by omega⟩ (by decide)) ?_
  refine jr_1 jm_247 (show jw_cd cd_247 6 = some (.iload_n 0) by decide +kernel) rfl ?_
  refine jr_1 jm_247 (show jw_cd cd_247 7 = some (.ifCond .ne 11) by decide +kernel) (mz_t (q := .ne) (a := 2) (t := 18) (by show ¬ (2 = 0); omega) ⟨by omega, by omega⟩ (by decide) (by decide)) ?_
  refine jr_1 jm_247 (show jw_cd cd_247 18 = some (.iload_n 0) by decide +kernel) rfl ?_
  refine jr_1 jm_247 (show jw_cd cd_247 19 = some (.iconst 3) by decide +kernel) rfl ?_
  refine jr_1 jm_247 (show jw_cd cd_247 20 = some (.if_icmp .ge 12) by decide +kernel) (mb_f (q := .ge) (a := 2) (b := 3) (by show ¬ (3 ≤ 2); omega) ⟨by omega, by omega⟩ ⟨by omega, by omega⟩ (by decide)) ?_
  refine jr_1 jm_247 (show jw_cd cd_247 23 = some (.iload_n 1) by decide +kernel) rfl ?_
  refine jr_1 jm_247 (show jw_cd cd_247 24 = some (.bipush 6) by decide +kernel) (mt_bi (by decide)) ?_
  refine jr_1 jm_247 (show jw_cd cd_247 26 = some (.if_icmp .ne 33) by decide +kernel) (mb_t (q := .ne) (a := 3) (b := 6) (t := 59) (by show ¬ (3 = 6); omega) ⟨by omega, by omega⟩ ⟨by omega, by omega⟩ (by decide) (by decide)) ?_
  refine jr_1 jm_247 (show jw_cd cd_247 59 = some (.iconst 0) by decide +kernel) rfl ?_
  exact jr_v jm_247 (show jw_cd cd_247 60 = some (.ireturn) by decide +kernel) rfl
theorem jn_fit2_4 {β : Bool} {d : Nat} {h : jx_H} {σ : mS} (hl : 49 ≤ h.length)  : jx_r (jz β) jw_M (d) 247 (0, [some (.int (Int32.ofInt (2))), some (.int (Int32.ofInt (4)))], [], ml_mk h σ) (ml_mk h (σ), .inl (some (.int (Int32.ofInt (0))))) := by
  refine jr_1 jm_247 (show jw_cd cd_247 0 = some (.iload_n 0) by decide +kernel) rfl ?_
  refine jr_1 jm_247 (show jw_cd cd_247 1 = some (.bipush 8) by decide +kernel) (mt_bi (by decide)) ?_
  refine jr_1 jm_247 (show jw_cd cd_247 3 = some (.if_icmp .eq 52) by decide +kernel) (mb_f (q := .eq) (a := 2) (b := 8) (by show ¬ (2 = 8); omega) ⟨by omega, by omega⟩ ⟨by omega, by omega⟩ (by decide)) ?_
  refine jr_1 jm_247 (show jw_cd cd_247 6 = some (.iload_n 0) by decide +kernel) rfl ?_
  refine jr_1 jm_247 (show jw_cd cd_247 7 = some (.ifCond .ne 11) by decide +kernel) (mz_t (q := .ne) (a := 2) (t := 18) (by show ¬ (2 = 0); omega) ⟨by omega, by omega⟩ (by decide) (by decide)) ?_
  refine jr_1 jm_247 (show jw_cd cd_247 18 = some (.iload_n 0) by decide +kernel) rfl ?_
  refine jr_1 jm_247 (show jw_cd cd_247 19 = some (.iconst 3) by decide +kernel) rfl ?_
  refine jr_1 jm_247 (show jw_cd cd_247 20 = some (.if_icmp .ge 12) by decide +kernel) (mb_f (q := .ge) (a := 2) (b := 3) (by show ¬ (3 ≤ 2); omega) ⟨by omega, by omega⟩ ⟨by omega, by omega⟩ (by decide)) ?_
  refine jr_1 jm_247 (show jw_cd cd_247 23 = some (.iload_n 1) by decide +kernel) rfl ?_
  refine jr_1 jm_247 (show jw_cd cd_247 24 = some (.bipush 6) by decide +kernel) (mt_bi (by decide)) ?_
  refine jr_1 jm_247 (show jw_cd cd_247 26 = some (.if_icmp .ne 33) by decide +kernel) (mb_t (q := .ne) (a := 4) (b := 6) (t := 59) (by show ¬ (4 = 6); omega) ⟨by omega, by omega⟩ ⟨by omega, by omega⟩ (by decide) (by decide)) ?_
  refine jr_1 jm_247 (show jw_cd cd_247 59 = some (.iconst 0) by decide +kernel) rfl ?_
  exact jr_v jm_247 (show jw_cd cd_247 60 = some (.ireturn) by decide +kernel) rfl
theorem jn_fit2_5 {β : Bool} {d : Nat} {h : jx_H} {σ : mS} (hl : 49 ≤ h.length)  : jx_r (jz β) jw_M (d) 247 (0, [some (.int (Int32.ofInt (2))), some (.int (Int32.ofInt (5)))], [], ml_mk h σ) (ml_mk h (σ), .inl (some (.int (Int32.ofInt (0))))) := by
  refine jr_1 jm_247 (show jw_cd cd_247 0 = some (.iload_n 0) by decide +kernel) rfl ?_
  refine jr_1 jm_247 (show jw_cd cd_247 1 = some (.bipush 8) by decide +kernel) (mt_bi (by decide)) ?_
  refine jr_1 jm_247 (show jw_cd cd_247 3 = some (.if_icmp .eq 52) by decide +kernel) (mb_f (q := .eq) (a := 2) (b := 8) (by show ¬ (2 = 8); omega) ⟨by omega, by omega⟩ ⟨by omega, by omega⟩ (by decide)) ?_
  refine jr_1 jm_247 (show jw_cd cd_247 6 = some (.iload_n 0) by decide +kernel) rfl ?_
  refine jr_1 jm_247 (show jw_cd cd_247 7 = some (.ifCond .ne 11) by decide +kernel) (mz_t (q := .ne) (a := 2) (t := 18) (by show ¬ (2 = 0); omega) ⟨by omega, by omega⟩ (by decide) (by decide)) ?_
  refine jr_1 jm_247 (show jw_cd cd_247 18 = some (.iload_n 0) by decide +kernel) rfl ?_
  refine jr_1 jm_247 (show jw_cd cd_247 19 = some (.iconst 3) by decide +kernel) rfl ?_
  refine jr_1 jm_247 (show jw_cd cd_247 20 = some (.if_icmp .ge 12) by decide +kernel) (mb_f (q := .ge) (a := 2) (b := 3) (by show ¬ (3 ≤ 2); omega) ⟨by omega, by omega⟩ ⟨by omega, by omega⟩ (by decide)) ?_
  refine jr_1 jm_247 (show jw_cd cd_247 23 = some (.iload_n 1) by decide +kernel) rfl ?_
  refine jr_1 jm_247 (show jw_cd cd_247 24 = some (.bipush 6) by decide +kernel) (mt_bi (by decide)) ?_
  refine jr_1 jm_247 (show jw_cd cd_247 26 = some (.if_icmp .ne 33) by decide +kernel) (mb_t (q := .ne) (a := 5) (b := 6) (t := 59) (by show ¬ (5 = 6); omega) ⟨by omega, by omega⟩ ⟨by omega, by omega⟩ (by decide) (by decide)) ?_
  refine jr_1 jm_247 (show jw_cd cd_247 59 = some (.iconst 0) by decide +kernel) rfl ?_
  exact jr_v jm_247 (show jw_cd cd_247 60 = some (.ireturn) by decide +kernel) rfl
theorem jn_fit2_6 {β : Bool} {d : Nat} {h : jx_H} {σ : mS} (hl : 49 ≤ h.length)  : jx_r (jz β) jw_M (d) 247 (0, [some (.int (Int32.ofInt (2))), some (.int (Int32.ofInt (6)))], [], ml_mk h σ) (ml_mk h (σ), .inl (some (.int (Int32.ofInt (1))))) := by
  refine jr_1 jm_247 (show jw_cd cd_247 0 = some (.iload_n 0) by decide +kernel) rfl ?_
  refine jr_1 jm_247 (show jw_cd cd_247 1 = some (.bipush 8) by decide +kernel) (mt_bi (by decide)) ?_
  refine jr_1 jm_247 (show jw_cd cd_247 3 = some (.if_icmp .eq 52) by decide +kernel) (mb_f (q := .eq) (a := 2) (b := 8) (by show ¬ (2 = 8); omega) ⟨by omega, by omega⟩ ⟨by omega, by omega⟩ (by decide)) ?_
  refine jr_1 jm_247 (show jw_cd cd_247 6 = some (.iload_n 0) by decide +kernel) rfl ?_
  refine jr_1 jm_247 (show jw_cd cd_247 7 = some (.ifCond .ne 11) by decide +kernel) (mz_t (q := .ne) (a := 2) (t := 18) (by show ¬ (2 = 0); omega) ⟨by omega, by omega⟩ (by decide) (by decide)) ?_
  refine jr_1 jm_247 (show jw_cd cd_247 18 = some (.iload_n 0) by decide +kernel) rfl ?_
  refine jr_1 jm_247 (show jw_cd cd_247 19 = some (.iconst 3) by decide +kernel) rfl ?_
  refine jr_1 jm_247 (show jw_cd cd_247 20 = some (.if_icmp .ge 12) by decide +kernel) (mb_f (q := .ge) (a := 2) (b := 3) (by show ¬ (3 ≤ 2); omega) ⟨by omega, by omega⟩ ⟨by omega, by omega⟩ (by decide)) ?_
  refine jr_1 jm_247 (show jw_cd cd_247 23 = some (.iload_n 1) by decide +kernel) rfl ?_
  refine jr_1 jm_247 (show jw_cd cd_247 24 = some (.bipush 6) by decide +kernel) (mt_bi (by decide)) ?_
  refine jr_1 jm_247 (show jw_cd cd_247 26 = some (.if_icmp .ne 33) by decide +kernel) (mb_f (q := .ne) (a := 6) (b := 6) (by show ¬ (¬ (6 = 6)); omega) ⟨by omega, by omega⟩ ⟨by omega, by omega⟩ (by decide)) ?_
  refine jr_1 jm_247 (show jw_cd cd_247 29 = some (.goto 26) by decide +kernel) (ju_go (t := 55) (by decide)) ?_
  refine jr_1 jm_247 (show jw_cd cd_247 55 = some (.iconst 1) by decide +kernel) rfl ?_
  refine jr_1 jm_247 (show jw_cd cd_247 56 = some (.goto 4) by decide +kernel) (ju_go (t := 60) (by decide)) ?_
  exact jr_v jm_247 (show jw_cd cd_247 60 = some (.ireturn) by decide +kernel) rfl
theorem jn_fit3_0 {β : Bool} {d : Nat} {h : jx_H} {σ : mS} (hl : 49 ≤ h.length)  : jx_r (jz β) jw_M (d) 247 (0, [some (.int (Int32.ofInt (3))), some (.int (Int32.ofInt (0)))], [], ml_mk h σ) (ml_mk h (σ), .inl (some (.int (Int32.ofInt (0))))) := by
  refine jr_1 jm_247 (show jw_cd cd_247 0 = some (.iload_n 0) by decide +kernel) rfl ?_
  refine jr_1 jm_247 (show jw_cd cd_247 1 = some (.bipush 8) by decide +kernel) (mt_bi (by decide)) ?_
  refine jr_1 jm_247 (show jw_cd cd_247 3 = some (.if_icmp .eq 52) by decide +kernel) (mb_f (q := .eq) (a := 3) (b := 8) (by show ¬ (3 = 8); omega) ⟨by omega, by omega⟩ ⟨by omega, by omega⟩ (by decide)) ?_
  refine jr_1 jm_247 (show jw_cd cd_247 6 = some (.iload_n 0) by decide +kernel) rfl ?_
  refine jr_1 jm_247 (show jw_cd cd_247 7 = some (.ifCond .ne 11) by decide +kernel) (mz_t (q := .ne) (a := 3) (t := 18) (by show ¬ (3 = 0); omega) ⟨by omega, by omega⟩ (by decide) (by decide)) ?_
  refine jr_1 jm_247 (show jw_cd cd_247 18 = some (.iload_n 0) by decide +kernel) rfl ?_
  refine jr_1 jm_247 (show jw_cd cd_247 19 = some (.iconst 3) by decide +kernel) rfl ?_
  refine jr_1 jm_247 (show jw_cd cd_247 20 = some (.if_icmp .ge 12) by decide +kernel) (mb_t (q := .ge) (a := 3) (b := 3) (t := 32) (by show 3 ≤ 3; omega) ⟨by omega, by omega⟩ ⟨by omega, by omega⟩ (by decide) (by decide)) ?_
  refine jr_1 jm_247 (show jw_cd cd_247 32 = some (.iload_n 0) by decide +kernel) rfl ?_
  refine jr_1 jm_247 (show jw_cd cd_247 33 = some (.iconst 4) by decide +kernel) rfl ?_
  refine jr_1 jm_247 (show jw_cd cd_247 34 = some (.if_icmp .ne 16) by decide +kernel) (mb_t (q := .ne) (a := 3) (b := 4) (t := 50) (by show ¬ (3 = 4); omega) ⟨by omega, by omega⟩ ⟨by omega, by omega⟩ (by decide) (by decide)) ?_
  refine jr_1 jm_247 (show jw_cd cd_247 50 = some (.iload_n 1) by decide +kernel) rfl ?_
  refine jr_1 jm_247 (show jw_cd cd_247 51 = some (.iconst 5) by decide +kernel) rfl ?_
  refine jr_1 jm_247 (show jw_cd cd_247 52 = some (.if_icmp .ne 7) by decide +kernel) (mb_t (q := .ne) (a := 0) (b := 5) (t := 59) (by show ¬ (0 = 5); omega) ⟨by omega, by omega⟩ ⟨by omega, by omega⟩ (by decide) (by decide)) ?_
  refine jr_1 jm_247 (show jw_cd cd_247 59 = some (.iconst 0) by decide +kernel) rfl ?_
  exact jr_v jm_247 (show jw_cd cd_247 60 = some (.ireturn) by decide +kernel) rfl
theorem jn_fit3_1 {β : Bool} {d : Nat} {h : jx_H} {σ : mS} (hl : 49 ≤ h.length)  : jx_r (jz β) jw_M (d) 247 (0, [some (.int (Int32.ofInt (3))), some (.int (Int32.ofInt (1)))], [], ml_mk h σ) (ml_mk h (σ), .inl (some (.int (Int32.ofInt (0))))) := by
  refine jr_1 jm_247 (show jw_cd cd_247 0 = some (.iload_n 0) by decide +kernel) rfl ?_
  refine jr_1 jm_247 (show jw_cd cd_247 1 = some (.bipush 8) by decide +kernel) (mt_bi (by decide)) ?_
  refine jr_1 jm_247 (show jw_cd cd_247 3 = some (.if_icmp .eq 52) by decide +kernel) (mb_f (q := .eq) (a := 3) (b := 8) (by show ¬ (3 = 8); omega) ⟨by omega, by omega⟩ ⟨by omega, by omega⟩ (by decide)) ?_
  refine jr_1 jm_247 (show jw_cd cd_247 6 = some (.iload_n 0) by decide +kernel) rfl ?_
  refine jr_1 jm_247 (show jw_cd cd_247 7 = some (.ifCond .ne 11) by decide +kernel) (mz_t (q := .ne) (a := 3) (t := 18) (by show ¬ (3 = 0); omega) ⟨by omega, by omega⟩ (by decide) (by decide)) ?_
  refine jr_1 jm_247 (show jw_cd cd_247 18 = some (.iload_n 0) by decide +kernel) rfl ?_
  refine jr_1 jm_247 (show jw_cd cd_247 19 = some (.iconst 3) by decide +kernel) rfl ?_
  refine jr_1 jm_247 (show jw_cd cd_247 20 = some (.if_icmp .ge 12) by decide +kernel) (mb_t (q := .ge) (a := 3) (b := 3) (t := 32) (by show 3 ≤ 3; omega) ⟨by omega, by omega⟩ ⟨by omega, by omega⟩ (by decide) (by decide)) ?_
  refine jr_1 jm_247 (show jw_cd cd_247 32 = some (.iload_n 0) by decide +kernel) rfl ?_
  refine jr_1 jm_247 (show jw_cd cd_247 33 = some (.iconst 4) by decide +kernel) rfl ?_
  refine jr_1 jm_247 (show jw_cd cd_247 34 = some (.if_icmp .ne 16) by decide +kernel) (mb_t (q := .ne) (a := 3) (b := 4) (t := 50) (by show ¬ (3 = 4); omega) ⟨by omega, by omega⟩ ⟨by omega, by omega⟩ (by decide) (by decide)) ?_
  refine jr_1 jm_247 (show jw_cd cd_247 50 = some (.iload_n 1) by decide +kernel) rfl ?_
  refine jr_1 jm_247 (show jw_cd cd_247 51 = some (.iconst 5) by decide +kernel) rfl ?_
  refine jr_1 jm_247 (show jw_cd cd_247 52 = some (.if_icmp .ne 7) by decide +kernel) (mb_t (q := .ne) (a := 1) (b := 5) (t := 59) (by show ¬ (1 = 5); omega) ⟨by omega, by omega⟩ ⟨by omega, by omega⟩ (by decide) (by decide)) ?_
  refine jr_1 jm_247 (show jw_cd cd_247 59 = some (.iconst 0) by decide +kernel) rfl ?_
  exact jr_v jm_247 (show jw_cd cd_247 60 = some (.ireturn) by decide +kernel) rfl
theorem jn_fit3_2 {β : Bool} {d : Nat} {h : jx_H} {σ : mS} (hl : 49 ≤ h.length)  : jx_r (jz β) jw_M (d) 247 (0, [some (.int (Int32.ofInt (3))), some (.int (Int32.ofInt (2)))], [], ml_mk h σ) (ml_mk h (σ), .inl (some (.int (Int32.ofInt (0))))) := by
  refine jr_1 jm_247 (show jw_cd cd_247 0 = some (.iload_n 0) by decide +kernel) rfl ?_
  refine jr_1 jm_247 (show jw_cd cd_247 1 = some (.bipush 8) by decide +kernel) (mt_bi (by decide)) ?_
  refine jr_1 jm_247 (show jw_cd cd_247 3 = some (.if_icmp .eq 52) by decide +kernel) (mb_f (q := .eq) (a := 3) (b := 8) (by show ¬ (3 = 8); omega) ⟨by omega, by omega⟩ ⟨by omega, by omega⟩ (by decide)) ?_
  refine jr_1 jm_247 (show jw_cd cd_247 6 = some (.iload_n 0) by decide +kernel) rfl ?_
  refine jr_1 jm_247 (show jw_cd cd_247 7 = some (.ifCond .ne 11) by decide +kernel) (mz_t (q := .ne) (a := 3) (t := 18) (by show ¬ (3 = 0); omega) ⟨by omega, by omega⟩ (by decide) (by decide)) ?_
  refine jr_1 jm_247 (show jw_cd cd_247 18 = some (.iload_n 0) by decide +kernel) rfl ?_
  refine jr_1 jm_247 (show jw_cd cd_247 19 = some (.iconst 3) by decide +kernel) rfl ?_
  refine jr_1 jm_247 (show jw_cd cd_247 20 = some (.if_icmp .ge 12) by decide +kernel) (mb_t (q := .ge) (a := 3) (b := 3) (t := 32) (by show 3 ≤ 3; omega) ⟨by omega, by omega⟩ ⟨by omega, by omega⟩ (by decide) (by decide)) ?_
  refine jr_1 jm_247 (show jw_cd cd_247 32 = some (.iload_n 0) by decide +kernel) rfl ?_
  refine jr_1 jm_247 (show jw_cd cd_247 33 = some (.iconst 4) by decide +kernel) rfl ?_
  refine jr_1 jm_247 (show jw_cd cd_247 34 = some (.if_icmp .ne 16) by decide +kernel) (mb_t (q := .ne) (a := 3) (b := 4) (t := 50) (by show ¬ (3 = 4); omega) ⟨by omega, by omega⟩ ⟨by omega, by omega⟩ (by decide) (by decide)) ?_
  refine jr_1 jm_247 (show jw_cd cd_247 50 = some (.iload_n 1) by decide +kernel) rfl ?_
  refine jr_1 jm_247 (show jw_cd cd_247 51 = some (.iconst 5) by decide +kernel) rfl ?_
  refine jr_1 jm_247 (show jw_cd cd_247 52 = some (.if_icmp .ne 7) by decide +kernel) (mb_t (q := .ne) (a := 2) (b := 5) (t := 59) (by show ¬ (2 = 5); omega) ⟨by omega, by omega⟩ ⟨by omega, by omega⟩ (by decide) (by decide)) ?_
  refine jr_1 jm_247 (show jw_cd cd_247 59 = some (.iconst 0) by decide +kernel) rfl ?_
  exact jr_v jm_247 (show jw_cd cd_247 60 = some (.ireturn) by decide +kernel) rfl
theorem jn_fit3_3 {β : Bool} {d : Nat} {h : jx_H} {σ : mS} (hl : 49 ≤ h.length)  : jx_r (jz β) jw_M (d) 247 (0, [some (.int (Int32.ofInt (3))), some (.int (Int32.ofInt (3)))], [], ml_mk h σ) (ml_mk h (σ), .inl (some (.int (Int32.ofInt (0))))) := by
  refine jr_1 jm_247 (show jw_cd cd_247 0 = some (.iload_n 0) by decide +kernel) rfl ?_
  refine jr_1 jm_247 (show jw_cd cd_247 1 = some (.bipush 8) by decide +kernel) (mt_bi (by decide)) ?_
  refine jr_1 jm_247 (show jw_cd cd_247 3 = some (.if_icmp .eq 52) by decide +kernel) (mb_f (q := .eq) (a := 3) (b := 8) (by show ¬ (3 = 8); omega) ⟨by omega, by omega⟩ ⟨by omega, by omega⟩ (by decide)) ?_
  refine jr_1 jm_247 (show jw_cd cd_247 6 = some (.iload_n 0) by decide +kernel) rfl ?_
  refine jr_1 jm_247 (show jw_cd cd_247 7 = some (.ifCond .ne 11) by decide +kernel) (mz_t (q := .ne) (a := 3) (t := 18) (by show ¬ (3 = 0); omega) ⟨by omega, by omega⟩ (by decide) (by decide)) ?_
  refine jr_1 jm_247 (show jw_cd cd_247 18 = some (.iload_n 0) by decide +kernel) rfl ?_
  refine jr_1 jm_247 (show jw_cd cd_247 19 = some (.iconst 3) by decide +kernel) rfl ?_
  refine jr_1 jm_247 (show jw_cd cd_247 20 = some (.if_icmp .ge 12) by decide +kernel) (mb_t (q := .ge) (a := 3) (b := 3) (t := 32) (by show 3 ≤ 3; omega) ⟨by omega, by omega⟩ ⟨by omega, by omega⟩ (by decide) (by decide)) ?_
  refine jr_1 jm_247 (show jw_cd cd_247 32 = some (.iload_n 0) by decide +kernel) rfl ?_
  refine jr_1 jm_247 (show jw_cd cd_247 33 = some (.iconst 4) by decide +kernel) rfl ?_
  refine jr_1 jm_247 (show jw_cd cd_247 34 = some (.if_icmp .ne 16) by decide +kernel) (mb_t (q := .ne) (a := 3) (b := 4) (t := 50) (by show ¬ (3 = 4); omega) ⟨by omega, by omega⟩ ⟨by omega, by omega⟩ (by decide) (by decide)) ?_
  refine jr_1 jm_247 (show jw_cd cd_247 50 = some (.iload_n 1) by decide +kernel) rfl ?_
  refine jr_1 jm_247 (show jw_cd cd_247 51 = some (.iconst 5) by decide +kernel) rfl ?_
  refine jr_1 jm_247 (show jw_cd cd_247 52 = some (.if_icmp .ne 7) by decide +kernel) (mb_t (q := .ne) (a := 3) (b := 5) (t := 59) (by show ¬ (3 = 5); omega) ⟨by omega, by omega⟩ ⟨by omega, by omega⟩ (by decide) (by decide)) ?_
  refine jr_1 jm_247 (show jw_cd cd_247 59 = some (.iconst 0) by decide +kernel) rfl ?_
  exact jr_v jm_247 (show jw_cd cd_247 60 = some (.ireturn) by decide +kernel) rfl
theorem jn_fit3_4 {β : Bool} {d : Nat} {h : jx_H} {σ : mS} (hl : 49 ≤ h.length)  : jx_r (jz β) jw_M (d) 247 (0, [some (.int (Int32.ofInt (3))), some (.int (Int32.ofInt (4)))], [], ml_mk h σ) (ml_mk h (σ), .inl (some (.int (Int32.ofInt (0))))) := by
  refine jr_1 jm_247 (show jw_cd cd_247 0 = some (.iload_n 0) by decide +kernel) rfl ?_
  refine jr_1 jm_247 (show jw_cd cd_247 1 = some (.bipush 8) by decide +kernel) (mt_bi (by decide)) ?_
  refine jr_1 jm_247 (show jw_cd cd_247 3 = some (.if_icmp .eq 52) by decide +kernel) (mb_f (q := .eq) (a := 3) (b := 8) (by show ¬ (3 = 8); omega) ⟨by omega, by omega⟩ ⟨by omega, by omega⟩ (by decide)) ?_
  refine jr_1 jm_247 (show jw_cd cd_247 6 = some (.iload_n 0) by decide +kernel) rfl ?_
  refine jr_1 jm_247 (show jw_cd cd_247 7 = some (.ifCond .ne 11) by decide +kernel) (mz_t (q := .ne) (a := 3) (t := 18) (by show ¬ (3 = 0); omega) ⟨by omega, by omega⟩ (by decide) (by decide)) ?_
  refine jr_1 jm_247 (show jw_cd cd_247 18 = some (.iload_n 0) by decide +kernel) rfl ?_
  refine jr_1 jm_247 (show jw_cd cd_247 19 = some (.iconst 3) by decide +kernel) rfl ?_
  refine jr_1 jm_247 (show jw_cd cd_247 20 = some (.if_icmp .ge 12) by decide +kernel) (mb_t (q := .ge) (a := 3) (b := 3) (t := 32) (by show 3 ≤ 3; omega) ⟨by omega, by omega⟩ ⟨by omega, by omega⟩ (by decide) (by decide)) ?_
  refine jr_1 jm_247 (show jw_cd cd_247 32 = some (.iload_n 0) by decide +kernel) rfl ?_
  refine jr_1 jm_247 (show jw_cd cd_247 33 = some (.iconst 4) by decide +kernel) rfl ?_
  refine jr_1 jm_247 (show jw_cd cd_247 34 = some (.if_icmp .ne 16) by decide +kernel) (mb_t (q := .ne) (a := 3) (b := 4) (t := 50) (by show ¬ (3 = 4); omega) ⟨by omega, by omega⟩ ⟨by omega, by omega⟩ (by decide) (by decide)) ?_
  refine jr_1 jm_247 (show jw_cd cd_247 50 = some (.iload_n 1) by decide +kernel) rfl ?_
  refine jr_1 jm_247 (show jw_cd cd_247 51 = some (.iconst 5) by decide +kernel) rfl ?_
  refine jr_1 jm_247 (show jw_cd cd_247 52 = some (.if_icmp .ne 7) by decide +kernel) (mb_t (q := .ne) (a := 4) (b := 5) (t := 59) (by show ¬ (4 = 5); omega) ⟨by omega, by omega⟩ ⟨by omega, by omega⟩ (by decide) (by decide)) ?_
  refine jr_1 jm_247 (show jw_cd cd_247 59 = some (.iconst 0) by decide +kernel) rfl ?_
  exact jr_v jm_247 (show jw_cd cd_247 60 = some (.ireturn) by decide +kernel) rfl
theorem jn_fit3_5 {β : Bool} {d : Nat} {h : jx_H} {σ : mS} (hl : 49 ≤ h.length)  : jx_r (jz β) jw_M (d) 247 (0, [some (.int (Int32.ofInt (3))), some (.int (Int32.ofInt (5)))], [], ml_mk h σ) (ml_mk h (σ), .inl (some (.int (Int32.ofInt (1))))) := by
  refine jr_1 jm_247 (show jw_cd cd_247 0 = some (.iload_n 0) by decide +kernel) rfl ?_
  refine jr_1 jm_247 (show jw_cd cd_247 1 = some (.bipush 8) by decide +kernel) (mt_bi (by decide)) ?_
  refine jr_1 jm_247 (show jw_cd cd_247 3 = some (.if_icmp .eq 52) by decide +kernel) (mb_f (q := .eq) (a := 3) (b := 8) (by show ¬ (3 = 8); omega) ⟨by omega, by omega⟩ ⟨by omega, by omega⟩ (by decide)) ?_
  refine jr_1 jm_247 (show jw_cd cd_247 6 = some (.iload_n 0) by decide +kernel) rfl ?_
  refine jr_1 jm_247 (show jw_cd cd_247 7 = some (.ifCond .ne 11) by decide +kernel) (mz_t (q := .ne) (a := 3) (t := 18) (by show ¬ (3 = 0); omega) ⟨by omega, by omega⟩ (by decide) (by decide)) ?_
  refine jr_1 jm_247 (show jw_cd cd_247 18 = some (.iload_n 0) by decide +kernel) rfl ?_
  refine jr_1 jm_247 (show jw_cd cd_247 19 = some (.iconst 3) by decide +kernel) rfl ?_
  refine jr_1 jm_247 (show jw_cd cd_247 20 = some (.if_icmp .ge 12) by decide +kernel) (mb_t (q := .ge) (a := 3) (b := 3) (t := 32) (by show 3 ≤ 3; omega) ⟨by omega, by omega⟩ ⟨by omega, by omega⟩ (by decide) (by decide)) ?_
  refine jr_1 jm_247 (show jw_cd cd_247 32 = some (.iload_n 0) by decide +kernel) rfl ?_
  refine jr_1 jm_247 (show jw_cd cd_247 33 = some (.iconst 4) by decide +kernel) rfl ?_
  refine jr_1 jm_247 (show jw_cd cd_247 34 = some (.if_icmp .ne 16) by decide +kernel) (mb_t (q := .ne) (a := 3) (b := 4) (t := 50) (by show ¬ (3 = 4); omega) ⟨by omega, by omega⟩ ⟨by omega, by omega⟩ (by decide) (by decide)) ?_
  refine jr_1 jm_247 (show jw_cd cd_247 50 = some (.iload_n 1) by decide +kernel) rfl ?_
  refine jr_1 jm_247 (show jw_cd cd_247 51 = some (.iconst 5) by decide +kernel) rfl ?_
  refine jr_1 jm_247 (show jw_cd cd_247 52 = some (.if_icmp .ne 7) by decide +kernel) (mb_f (q := .ne) (a := 5) (b := 5) (by show ¬ (¬ (5 = 5)); omega) ⟨by omega, by omega⟩ ⟨by omega, by omega⟩ (by decide)) ?_
  refine jr_1 jm_247 (show jw_cd cd_247 55 = some (.iconst 1) by decide +kernel) rfl ?_
  refine jr_1 jm_247 (show jw_cd cd_247 56 = some (.goto 4) by decide +kernel) (ju_go (t := 60) (by decide)) ?_
  exact jr_v jm_247 (show jw_cd cd_247 60 = some (.ireturn) by decide +kernel) rfl
theorem jn_fit3_6 {β : Bool} {d : Nat} {h : jx_H} {σ : mS} (hl : 49 ≤ h.length)  : jx_r (jz β) jw_M (d) 247 (0, [some (.int (Int32.ofInt (3))), some (.int (Int32.ofInt (6)))], [], ml_mk h σ) (ml_mk h (σ), .inl (some (.int (Int32.ofInt (0))))) := by
  refine jr_1 jm_247 (show jw_cd cd_247 0 = some (.iload_n 0) by decide +kernel) rfl ?_
  refine jr_1 jm_247 (show jw_cd cd_247 1 = some (.bipush 8) by decide +kernel) (mt_bi (by decide)) ?_
  refine jr_1 jm_247 (show jw_cd cd_247 3 = some (.if_icmp .eq 52) by decide +kernel) (mb_f (q := .eq) (a := 3) (b := 8) (by show ¬ (3 = 8); omega) ⟨by omega, by omega⟩ ⟨by omega, by omega⟩ (by decide)) ?_
  refine jr_1 jm_247 (show jw_cd cd_247 6 = some (.iload_n 0) by decide +kernel) rfl ?_
  refine jr_1 jm_247 (show jw_cd cd_247 7 = some (.ifCond .ne 11) by decide +kernel) (mz_t (q := .ne) (a := 3) (t := 18) (by show ¬ (3 = 0); omega) ⟨by omega, by omega⟩ (by decide) (by decide)) ?_
  refine jr_1 jm_247 (show jw_cd cd_247 18 = some (.iload_n 0) by decide +kernel) rfl ?_
  refine jr_1 jm_247 (show jw_cd cd_247 19 = some (.iconst 3) by decide +kernel) rfl ?_
  refine jr_1 jm_247 (show jw_cd cd_247 20 = some (.if_icmp .ge 12) by decide +kernel) (mb_t (q := .ge) (a := 3) (b := 3) (t := 32) (by show 3 ≤ 3; omega) ⟨by omega, by omega⟩ ⟨by omega, by omega⟩ (by decide) (by decide)) ?_
  refine jr_1 jm_247 (show jw_cd cd_247 32 = some (.iload_n 0) by decide +kernel) rfl ?_
  refine jr_1 jm_247 (show jw_cd cd_247 33 = some (.iconst 4) by decide +kernel) rfl ?_
  refine jr_1 jm_247 (show jw_cd cd_247 34 = some (.if_icmp .ne 16) by decide +kernel) (mb_t (q := .ne) (a := 3) (b := 4) (t := 50) (by show ¬ (3 = 4); omega) ⟨by omega, by omega⟩ ⟨by omega, by omega⟩ (by decide) (by decide)) ?_
  refine jr_1 jm_247 (show jw_cd cd_247 50 = some (.iload_n 1) by decide +kernel) rfl ?_
  refine jr_1 jm_247 (show jw_cd cd_247 51 = some (.iconst 5) by decide +kernel) rfl ?_
  refine jr_1 jm_247 (show jw_cd cd_247 52 = some (.if_icmp .ne 7) by decide +kernel) (mb_t (q := .ne) (a := 6) (b := 5) (t := 59) (by show ¬ (6 = 5); omega) ⟨by omega, by omega⟩ ⟨by omega, by omega⟩ (by decide) (by decide)) ?_
  refine jr_1 jm_247 (show jw_cd cd_247 59 = some (.iconst 0) by decide +kernel) rfl ?_
  exact jr_v jm_247 (show jw_cd cd_247 60 = some (.ireturn) by decide +kernel) rfl
theorem jn_fit4_0 {β : Bool} {d : Nat} {h : jx_H} {σ : mS} (hl : 49 ≤ h.length)  : jx_r (jz β) jw_M (d) 247 (0, [some (.int (Int32.ofInt (4))), some (.int (Int32.ofInt (0)))], [], ml_mk h σ) (ml_mk h (σ), .inl (some (.int (Int32.ofInt (0))))) := by
  refine jr_1 jm_247 (show jw_cd cd_247 0 = some (.iload_n 0) by decide +kernel) rfl ?_
  refine jr_1 jm_247 (show jw_cd cd_247 1 = some (.bipush 8) by decide +kernel) (mt_bi (by decide)) ?_
  refine jr_1 jm_247 (show jw_cd cd_247 3 = some (.if_icmp .eq 52) by decide +kernel) (mb_f (q := .eq) (a := 4) (b := 8) (by show ¬ (4 = 8); omega) ⟨by omega, by omega⟩ ⟨by omega, by omega⟩ (by decide)) ?_
  refine jr_1 jm_247 (show jw_cd cd_247 6 = some (.iload_n 0) by decide +kernel) rfl ?_
  refine jr_1 jm_247 (show jw_cd cd_247 7 = some (.ifCond .ne 11) by decide +kernel) (mz_t (q := .ne) (a := 4) (t := 18) (by show ¬ (4 = 0); omega) ⟨by omega, by omega⟩ (by decide) (by decide)) ?_
  refine jr_1 jm_247 (show jw_cd cd_247 18 = some (.iload_n 0) by decide +kernel) rfl ?_
  refine jr_1 jm_247 (show jw_cd cd_247 19 = some (.iconst 3) by decide +kernel) rfl ?_
  refine jr_1 jm_247 (show jw_cd cd_247 20 = some (.if_icmp .ge 12) by decide +kernel) (mb_t (q := .ge) (a := 4) (b := 3) (t := 32) (by show 3 ≤ 4; omega) ⟨by omega, by omega⟩ ⟨by omega, by omega⟩ (by decide) (by decide)) ?_
  refine jr_1 jm_247 (show jw_cd cd_247 32 = some (.iload_n 0) by decide +kernel) rfl ?_
  refine jr_1 jm_247 (show jw_cd cd_247 33 = some (.iconst 4) by decide +kernel) rfl ?_
  refine jr_1 jm_247 (show jw_cd cd_247 34 = some (.if_icmp .ne 16) by decide +kernel) (mb_f (q := .ne) (a := 4) (b := 4) (by show ¬ (¬ (4 = 4)); omega) ⟨by omega, by omega⟩ ⟨by omega, by omega⟩ (by decide)) ?_
  refine jr_1 jm_247 (show jw_cd cd_247 37 = some (.iload_n 1) by decide +kernel) rfl ?_
  refine jr_1 jm_247 (show jw_cd cd_247 38 = some (.iconst 4) by decide +kernel) rfl ?_
  refine jr_1 jm_247 (show jw_cd cd_247 39 = some (.if_icmp .eq 16) by decide +kernel) (mb_f (q := .eq) (a := 0) (b := 4) (by show ¬ (0 = 4); omega) ⟨by omega, by omega⟩ ⟨by omega, by omega⟩ (by decide)) ?_
  refine jr_1 jm_247 (show jw_cd cd_247 42 = some (.iload_n 1) by decide +kernel) rfl ?_
  refine jr_1 jm_247 (show jw_cd cd_247 43 = some (.iconst 5) by decide +kernel) rfl ?_
  refine jr_1 jm_247 (show jw_cd cd_247 44 = some (.if_icmp .ne 15) by decide +kernel) (mb_t (q := .ne) (a := 0) (b := 5) (t := 59) (by show ¬ (0 = 5); omega) ⟨by omega, by omega⟩ ⟨by omega, by omega⟩ (by decide) (by decide)) ?_
  refine jr_1 jm_247 (show jw_cd cd_247 59 = some (.iconst 0) by decide +kernel) rfl ?_
  exact jr_v jm_247 (show jw_cd cd_247 60 = some (.ireturn) by decide +kernel) rfl
theorem jn_fit4_1 {β : Bool} {d : Nat} {h : jx_H} {σ : mS} (hl : 49 ≤ h.length)  : jx_r (jz β) jw_M (d) 247 (0, [some (.int (Int32.ofInt (4))), some (.int (Int32.ofInt (1)))], [], ml_mk h σ) (ml_mk h (σ), .inl (some (.int (Int32.ofInt (0))))) := by
  refine jr_1 jm_247 (show jw_cd cd_247 0 = some (.iload_n 0) by decide +kernel) rfl ?_
  refine jr_1 jm_247 (show jw_cd cd_247 1 = some (.bipush 8) by decide +kernel) (mt_bi (by decide)) ?_
  refine jr_1 jm_247 (show jw_cd cd_247 3 = some (.if_icmp .eq 52) by decide +kernel) (mb_f (q := .eq) (a := 4) (b := 8) (by show ¬ (4 = 8); omega) ⟨by omega, by omega⟩ ⟨by omega, by omega⟩ (by decide)) ?_
  refine jr_1 jm_247 (show jw_cd cd_247 6 = some (.iload_n 0) by decide +kernel) rfl ?_
  refine jr_1 jm_247 (show jw_cd cd_247 7 = some (.ifCond .ne 11) by decide +kernel) (mz_t (q := .ne) (a := 4) (t := 18) (by show ¬ (4 = 0); omega) ⟨by omega, by omega⟩ (by decide) (by decide)) ?_
  refine jr_1 jm_247 (show jw_cd cd_247 18 = some (.iload_n 0) by decide +kernel) rfl ?_
  refine jr_1 jm_247 (show jw_cd cd_247 19 = some (.iconst 3) by decide +kernel) rfl ?_
  refine jr_1 jm_247 (show jw_cd cd_247 20 = some (.if_icmp .ge 12) by decide +kernel) (mb_t (q := .ge) (a := 4) (b := 3) (t := 32) (by show 3 ≤ 4; omega) ⟨by omega, by omega⟩ ⟨by omega, by omega⟩ (by decide) (by decide)) ?_
  refine jr_1 jm_247 (show jw_cd cd_247 32 = some (.iload_n 0) by decide +kernel) rfl ?_
  refine jr_1 jm_247 (show jw_cd cd_247 33 = some (.iconst 4) by decide +kernel) rfl ?_
  refine jr_1 jm_247 (show jw_cd cd_247 34 = some (.if_icmp .ne 16) by decide +kernel) (mb_f (q := .ne) (a := 4) (b := 4) (by show ¬ (¬ (4 = 4)); omega) ⟨by omega, by omega⟩ ⟨by omega, by omega⟩ (by decide)) ?_
  refine jr_1 jm_247 (show jw_cd cd_247 37 = some (.iload_n 1) by decide +kernel) rfl ?_
  refine jr_1 jm_247 (show jw_cd cd_247 38 = some (.iconst 4) by decide +kernel) rfl ?_
  refine jr_1 jm_247 (show jw_cd cd_247 39 = some (.if_icmp .eq 16) by decide +kernel) (mb_f (q := .eq) (a := 1) (b := 4) (by show ¬ (1 = 4); omega) ⟨by omega, by omega⟩ ⟨by omega, by omega⟩ (by decide)) ?_
  refine jr_1 jm_247 (show jw_cd cd_247 42 = some (.iload_n 1) by decide +kernel) rfl ?_
  refine jr_1 jm_247 (show jw_cd cd_247 43 = some (.iconst 5) by decide +kernel) rfl ?_
  refine jr_1 jm_247 (show jw_cd cd_247 44 = some (.if_icmp .ne 15) by decide +kernel) (mb_t (q := .ne) (a := 1) (b := 5) (t := 59) (by show ¬ (1 = 5); omega) ⟨by omega, by omega⟩ ⟨by omega, by omega⟩ (by decide) (by decide)) ?_
  refine jr_1 jm_247 (show jw_cd cd_247 59 = some (.iconst 0) by decide +kernel) rfl ?_
  exact jr_v jm_247 (show jw_cd cd_247 60 = some (.ireturn) by decide +kernel) rfl
theorem jn_fit4_2 {β : Bool} {d : Nat} {h : jx_H} {σ : mS} (hl : 49 ≤ h.length)  : jx_r (jz β) jw_M (d) 247 (0, [some (.int (Int32.ofInt (4))), some (.int (Int32.ofInt (2)))], [], ml_mk h σ) (ml_mk h (σ), .inl (some (.int (Int32.ofInt (0))))) := by
  refine jr_1 jm_247 (show jw_cd cd_247 0 = some (.iload_n 0) by decide +kernel) rfl ?_
  refine jr_1 jm_247 (show jw_cd cd_247 1 = some (.bipush 8) by decide +kernel) (mt_bi (by decide)) ?_
  refine jr_1 jm_247 (show jw_cd cd_247 3 = some (.if_icmp .eq 52) by decide +kernel) (mb_f (q := .eq) (a := 4) (b := 8) (by show ¬ (4 = 8); omega) ⟨by omega, by omega⟩ ⟨by omega, by omega⟩ (by decide)) ?_
  refine jr_1 jm_247 (show jw_cd cd_247 6 = some (.iload_n 0) by decide +kernel) rfl ?_
  refine jr_1 jm_247 (show jw_cd cd_247 7 = some (.ifCond .ne 11) by decide +kernel) (mz_t (q := .ne) (a := 4) (t := 18) (by show ¬ (4 = 0); omega) ⟨by omega, by omega⟩ (by decide) (by decide)) ?_
  refine jr_1 jm_247 (show jw_cd cd_247 18 = some (.iload_n 0) by decide +kernel) rfl ?_
  refine jr_1 jm_247 (show jw_cd cd_247 19 = some (.iconst 3) by decide +kernel) rfl ?_
  refine jr_1 jm_247 (show jw_cd cd_247 20 = some (.if_icmp .ge 12) by decide +kernel) (mb_t (q := .ge) (a := 4) (b := 3) (t := 32) (by show 3 ≤ 4; omega) ⟨by omega, by omega⟩ ⟨by omega, by omega⟩ (by decide) (by decide)) ?_
  refine jr_1 jm_247 (show jw_cd cd_247 32 = some (.iload_n 0) by decide +kernel) rfl ?_
  refine jr_1 jm_247 (show jw_cd cd_247 33 = some (.iconst 4) by decide +kernel) rfl ?_
  refine jr_1 jm_247 (show jw_cd cd_247 34 = some (.if_icmp .ne 16) by decide +kernel) (mb_f (q := .ne) (a := 4) (b := 4) (by show ¬ (¬ (4 = 4)); omega) ⟨by omega, by omega⟩ ⟨by omega, by omega⟩ (by decide)) ?_
  refine jr_1 jm_247 (show jw_cd cd_247 37 = some (.iload_n 1) by decide +kernel) rfl ?_
  refine jr_1 jm_247 (show jw_cd cd_247 38 = some (.iconst 4) by decide +kernel) rfl ?_
  refine jr_1 jm_247 (show jw_cd cd_247 39 = some (.if_icmp .eq 16) by decide +kernel) (mb_f (q := .eq) (a := 2) (b := 4) (by show ¬ (2 = 4); omega) ⟨by omega, by omega⟩ ⟨by omega, by omega⟩ (by decide)) ?_
  refine jr_1 jm_247 (show jw_cd cd_247 42 = some (.iload_n 1) by decide +kernel) rfl ?_
  refine jr_1 jm_247 (show jw_cd cd_247 43 = some (.iconst 5) by decide +kernel) rfl ?_
  refine jr_1 jm_247 (show jw_cd cd_247 44 = some (.if_icmp .ne 15) by decide +kernel) (mb_t (q := .ne) (a := 2) (b := 5) (t := 59) (by show ¬ (2 = 5); omega) ⟨by omega, by omega⟩ ⟨by omega, by omega⟩ (by decide) (by decide)) ?_
  refine jr_1 jm_247 (show jw_cd cd_247 59 = some (.iconst 0) by decide +kernel) rfl ?_
  exact jr_v jm_247 (show jw_cd cd_247 60 = some (.ireturn) by decide +kernel) rfl
theorem jn_fit4_3 {β : Bool} {d : Nat} {h : jx_H} {σ : mS} (hl : 49 ≤ h.length)  : jx_r (jz β) jw_M (d) 247 (0, [some (.int (Int32.ofInt (4))), some (.int (Int32.ofInt (3)))], [], ml_mk h σ) (ml_mk h (σ), .inl (some (.int (Int32.ofInt (0))))) := by
  refine jr_1 jm_247 (show jw_cd cd_247 0 = some (.iload_n 0) by decide +kernel) rfl ?_
  refine jr_1 jm_247 (show jw_cd cd_247 1 = some (.bipush 8) by decide +kernel) (mt_bi (by decide)) ?_
  refine jr_1 jm_247 (show jw_cd cd_247 3 = some (.if_icmp .eq 52) by decide +kernel) (mb_f (q := .eq) (a := 4) (b := 8) (by show ¬ (4 = 8); omega) ⟨by omega, by omega⟩ ⟨by omega, by omega⟩ (by decide)) ?_
  refine jr_1 jm_247 (show jw_cd cd_247 6 = some (.iload_n 0) by decide +kernel) rfl ?_
  refine jr_1 jm_247 (show jw_cd cd_247 7 = some (.ifCond .ne 11) by decide +kernel) (mz_t (q := .ne) (a := 4) (t := 18) (by show ¬ (4 = 0); omega) ⟨by omega, by omega⟩ (by decide) (by decide)) ?_
  refine jr_1 jm_247 (show jw_cd cd_247 18 = some (.iload_n 0) by decide +kernel) rfl ?_
  refine jr_1 jm_247 (show jw_cd cd_247 19 = some (.iconst 3) by decide +kernel) rfl ?_
  refine jr_1 jm_247 (show jw_cd cd_247 20 = some (.if_icmp .ge 12) by decide +kernel) (mb_t (q := .ge) (a := 4) (b := 3) (t := 32) (by show 3 ≤ 4; omega) ⟨by omega, by omega⟩ ⟨by omega, by omega⟩ (by decide) (by decide)) ?_
  refine jr_1 jm_247 (show jw_cd cd_247 32 = some (.iload_n 0) by decide +kernel) rfl ?_
  refine jr_1 jm_247 (show jw_cd cd_247 33 = some (.iconst 4) by decide +kernel) rfl ?_
  refine jr_1 jm_247 (show jw_cd cd_247 34 = some (.if_icmp .ne 16) by decide +kernel) (mb_f (q := .ne) (a := 4) (b := 4) (by show ¬ (¬ (4 = 4)); omega) ⟨by omega, by omega⟩ ⟨by omega, by omega⟩ (by decide)) ?_
  refine jr_1 jm_247 (show jw_cd cd_247 37 = some (.iload_n 1) by decide +kernel) rfl ?_
  refine jr_1 jm_247 (show jw_cd cd_247 38 = some (.iconst 4) by decide +kernel) rfl ?_
  refine jr_1 jm_247 (show jw_cd cd_247 39 = some (.if_icmp .eq 16) by decide +kernel) (mb_f (q := .eq) (a := 3) (b := 4) (by show ¬ (3 = 4); omega) ⟨by omega, by omega⟩ ⟨by omega, by omega⟩ (by decide)) ?_
  refine jr_1 jm_247 (show jw_cd cd_247 42 = some (.iload_n 1) by decide +kernel) rfl ?_
  refine jr_1 jm_247 (show jw_cd cd_247 43 = some (.iconst 5) by decide +kernel) rfl ?_
  refine jr_1 jm_247 (show jw_cd cd_247 44 = some (.if_icmp .ne 15) by decide +kernel) (mb_t (q := .ne) (a := 3) (b := 5) (t := 59) (by show ¬ (3 = 5); omega) ⟨by omega, by omega⟩ ⟨by omega, by omega⟩ (by decide) (by decide)) ?_
  refine jr_1 jm_247 (show jw_cd cd_247 59 = some (.iconst 0) by decide +kernel) rfl ?_
  exact jr_v jm_247 (show jw_cd cd_247 60 = some (.ireturn) by decide +kernel) rfl
theorem jn_fit4_4 {β : Bool} {d : Nat} {h : jx_H} {σ : mS} (hl : 49 ≤ h.length)  : jx_r (jz β) jw_M (d) 247 (0, [some (.int (Int32.ofInt (4))), some (.int (Int32.ofInt (4)))], [], ml_mk h σ) (ml_mk h (σ), .inl (some (.int (Int32.ofInt (1))))) := by
  refine jr_1 jm_247 (show jw_cd cd_247 0 = some (.iload_n 0) by decide +kernel) rfl ?_
  refine jr_1 jm_247 (show jw_cd cd_247 1 = some (.bipush 8) by decide +kernel) (mt_bi (by decide)) ?_
  refine jr_1 jm_247 (show jw_cd cd_247 3 = some (.if_icmp .eq 52) by decide +kernel) (mb_f (q := .eq) (a := 4) (b := 8) (by show ¬ (4 = 8); omega) ⟨by omega, by omega⟩ ⟨by omega, by omega⟩ (by decide)) ?_
  refine jr_1 jm_247 (show jw_cd cd_247 6 = some (.iload_n 0) by decide +kernel) rfl ?_
  refine jr_1 jm_247 (show jw_cd cd_247 7 = some (.ifCond .ne 11) by decide +kernel) (mz_t (q := .ne) (a := 4) (t := 18) (by show ¬ (4 = 0); omega) ⟨by omega, by omega⟩ (by decide) (by decide)) ?_
  refine jr_1 jm_247 (show jw_cd cd_247 18 = some (.iload_n 0) by decide +kernel) rfl ?_
  refine jr_1 jm_247 (show jw_cd cd_247 19 = some (.iconst 3) by decide +kernel) rfl ?_
  refine jr_1 jm_247 (show jw_cd cd_247 20 = some (.if_icmp .ge 12) by decide +kernel) (mb_t (q := .ge) (a := 4) (b := 3) (t := 32) (by show 3 ≤ 4; omega) ⟨by omega, by omega⟩ ⟨by omega, by omega⟩ (by decide) (by decide)) ?_
  refine jr_1 jm_247 (show jw_cd cd_247 32 = some (.iload_n 0) by decide +kernel) rfl ?_
  refine jr_1 jm_247 (show jw_cd cd_247 33 = some (.iconst 4) by decide +kernel) rfl ?_
  refine jr_1 jm_247 (show jw_cd cd_247 34 = some (.if_icmp .ne 16) by decide +kernel) (mb_f (q := .ne) (a := 4) (b := 4) (by show ¬ (¬ (4 = 4)); omega) ⟨by omega, by omega⟩ ⟨by omega, by omega⟩ (by decide)) ?_
  refine jr_1 jm_247 (show jw_cd cd_247 37 = some (.iload_n 1) by decide +kernel) rfl ?_
  refine jr_1 jm_247 (show jw_cd cd_247 38 = some (.iconst 4) by decide +kernel) rfl ?_
  refine jr_1 jm_247 (show jw_cd cd_247 39 = some (.if_icmp .eq 16) by decide +kernel) (mb_t (q := .eq) (a := 4) (b := 4) (t := 55) (by show 4 = 4; omega) ⟨by omega, by omega⟩ ⟨by omega, by omega⟩ (by decide) (by decide)) ?_
  refine jr_1 jm_247 (show jw_cd cd_247 55 = some (.iconst 1) by decide +kernel) rfl ?_
  refine jr_1 jm_247 (show jw_cd cd_247 56 = some (.goto 4) by decide +kernel) (ju_go (t := 60) (by decide)) ?_
  exact jr_v jm_247 (show jw_cd cd_247 60 = some (.ireturn) by decide +kernel) rfl
theorem jn_fit4_5 {β : Bool} {d : Nat} {h : jx_H} {σ : mS} (hl : 49 ≤ h.length)  : jx_r (jz β) jw_M (d) 247 (0, [some (.int (Int32.ofInt (4))), some (.int (Int32.ofInt (5)))], [], ml_mk h σ) (ml_mk h (σ), .inl (some (.int (Int32.ofInt (1))))) := by
  refine jr_1 jm_247 (show jw_cd cd_247 0 = some (.iload_n 0) by decide +kernel) rfl ?_
  refine jr_1 jm_247 (show jw_cd cd_247 1 = some (.bipush 8) by decide +kernel) (mt_bi (by decide)) ?_
  refine jr_1 jm_247 (show jw_cd cd_247 3 = some (.if_icmp .eq 52) by decide +kernel) (mb_f (q := .eq) (a := 4) (b := 8) (by show ¬ (4 = 8); omega) ⟨by omega, by omega⟩ ⟨by omega, by omega⟩ (by decide)) ?_
  refine jr_1 jm_247 (show jw_cd cd_247 6 = some (.iload_n 0) by decide +kernel) rfl ?_
  refine jr_1 jm_247 (show jw_cd cd_247 7 = some (.ifCond .ne 11) by decide +kernel) (mz_t (q := .ne) (a := 4) (t := 18) (by show ¬ (4 = 0); omega) ⟨by omega, by omega⟩ (by decide) (by decide)) ?_
  refine jr_1 jm_247 (show jw_cd cd_247 18 = some (.iload_n 0) by decide +kernel) rfl ?_
  refine jr_1 jm_247 (show jw_cd cd_247 19 = some (.iconst 3) by decide +kernel) rfl ?_
  refine jr_1 jm_247 (show jw_cd cd_247 20 = some (.if_icmp .ge 12) by decide +kernel) (mb_t (q := .ge) (a := 4) (b := 3) (t := 32) (by show 3 ≤ 4; omega) ⟨by omega, by omega⟩ ⟨by omega, by omega⟩ (by decide) (by decide)) ?_
  refine jr_1 jm_247 (show jw_cd cd_247 32 = some (.iload_n 0) by decide +kernel) rfl ?_
  refine jr_1 jm_247 (show jw_cd cd_247 33 = some (.iconst 4) by decide +kernel) rfl ?_
  refine jr_1 jm_247 (show jw_cd cd_247 34 = some (.if_icmp .ne 16) by decide +kernel) (mb_f (q := .ne) (a := 4) (b := 4) (by show ¬ (¬ (4 = 4)); omega) ⟨by omega, by omega⟩ ⟨by omega, by omega⟩ (by decide)) ?_
  refine jr_1 jm_247 (show jw_cd cd_247 37 = some (.iload_n 1) by decide +kernel) rfl ?_
  refine jr_1 jm_247 (show jw_cd cd_247 38 = some (.iconst 4) by decide +kernel) rfl ?_
  refine jr_1 jm_247 (show jw_cd cd_247 39 = some (.if_icmp .eq 16) by decide +kernel) (mb_f (q := .eq) (a := 5) (b := 4) (by show ¬ (5 = 4); omega) ⟨by omega, by omega⟩ ⟨by omega, by omega⟩ (by decide)) ?_
  refine jr_1 jm_247 (show jw_cd cd_247 42 = some (.iload_n 1) by decide +kernel) rfl ?_
  refine jr_1 jm_247 (show jw_cd cd_247 43 = some (.iconst 5) by decide +kernel) rfl ?_
  refine jr_1 jm_247 (show jw_cd cd_247 44 = some (.if_icmp .ne 15) by decide +kernel) (mb_f (q := .ne) (a := 5) (b := 5) (by show ¬ (¬ (5 = 5)); omega) ⟨by omega, by omega⟩ ⟨by omega, by omega⟩ (by decide)) ?_
  refine jr_1 jm_247 (show jw_cd cd_247 47 = some (.goto 8) by decide +kernel) (ju_go (t := 55) (by decide)) ?_
  refine jr_1 jm_247 (show jw_cd cd_247 55 = some (.iconst 1) by decide +kernel) rfl ?_
  refine jr_1 jm_247 (show jw_cd cd_247 56 = some (.goto 4) by decide +kernel) (ju_go (t := 60) (by decide)) ?_
  exact jr_v jm_247 (show jw_cd cd_247 60 = some (.ireturn) by decide +kernel) rfl
theorem jn_fit4_6 {β : Bool} {d : Nat} {h : jx_H} {σ : mS} (hl : 49 ≤ h.length)  : jx_r (jz β) jw_M (d) 247 (0, [some (.int (Int32.ofInt (4))), some (.int (Int32.ofInt (6)))], [], ml_mk h σ) (ml_mk h (σ), .inl (some (.int (Int32.ofInt (0))))) := by
  refine jr_1 jm_247 (show jw_cd cd_247 0 = some (.iload_n 0) by decide +kernel) rfl ?_
  refine jr_1 jm_247 (show jw_cd cd_247 1 = some (.bipush 8) by decide +kernel) (mt_bi (by decide)) ?_
  refine jr_1 jm_247 (show jw_cd cd_247 3 = some (.if_icmp .eq 52) by decide +kernel) (mb_f (q := .eq) (a := 4) (b := 8) (by show ¬ (4 = 8); omega) ⟨by omega, by omega⟩ ⟨by omega, by omega⟩ (by decide)) ?_
  refine jr_1 jm_247 (show jw_cd cd_247 6 = some (.iload_n 0) by decide +kernel) rfl ?_
  refine jr_1 jm_247 (show jw_cd cd_247 7 = some (.ifCond .ne 11) by decide +kernel) (mz_t (q := .ne) (a := 4) (t := 18) (by show ¬ (4 = 0); omega) ⟨by omega, by omega⟩ (by decide) (by decide)) ?_
  refine jr_1 jm_247 (show jw_cd cd_247 18 = some (.iload_n 0) by decide +kernel) rfl ?_
  refine jr_1 jm_247 (show jw_cd cd_247 19 = some (.iconst 3) by decide +kernel) rfl ?_
  refine jr_1 jm_247 (show jw_cd cd_247 20 = some (.if_icmp .ge 12) by decide +kernel) (mb_t (q := .ge) (a := 4) (b := 3) (t := 32) (by show 3 ≤ 4; omega) ⟨by omega, by omega⟩ ⟨by omega, by omega⟩ (by decide) (by decide)) ?_
  refine jr_1 jm_247 (show jw_cd cd_247 32 = some (.iload_n 0) by decide +kernel) rfl ?_
  refine jr_1 jm_247 (show jw_cd cd_247 33 = some (.iconst 4) by decide +kernel) rfl ?_
  refine jr_1 jm_247 (show jw_cd cd_247 34 = some (.if_icmp .ne 16) by decide +kernel) (mb_f (q := .ne) (a := 4) (b := 4) (by show ¬ (¬ (4 = 4)); omega) ⟨by omega, by omega⟩ ⟨by omega, by omega⟩ (by decide)) ?_
  refine jr_1 jm_247 (show jw_cd cd_247 37 = some (.iload_n 1) by decide +kernel) rfl ?_
  refine jr_1 jm_247 (show jw_cd cd_247 38 = some (.iconst 4) by decide +kernel) rfl ?_
  refine jr_1 jm_247 (show jw_cd cd_247 39 = some (.if_icmp .eq 16) by decide +kernel) (mb_f (q := .eq) (a := 6) (b := 4) (by show ¬ (6 = 4); omega) ⟨by omega, by omega⟩ ⟨by omega, by omega⟩ (by decide)) ?_
  refine jr_1 jm_247 (show jw_cd cd_247 42 = some (.iload_n 1) by decide +kernel) rfl ?_
  refine jr_1 jm_247 (show jw_cd cd_247 43 = some (.iconst 5) by decide +kernel) rfl ?_
  refine jr_1 jm_247 (show jw_cd cd_247 44 = some (.if_icmp .ne 15) by decide +kernel) (mb_t (q := .ne) (a := 6) (b := 5) (t := 59) (by show ¬ (6 = 5); omega) ⟨by omega, by omega⟩ ⟨by omega, by omega⟩ (by decide) (by decide)) ?_
  refine jr_1 jm_247 (show jw_cd cd_247 59 = some (.iconst 0) by decide +kernel) rfl ?_
  exact jr_v jm_247 (show jw_cd cd_247 60 = some (.ireturn) by decide +kernel) rfl
theorem jn_fit5_0 {β : Bool} {d : Nat} {h : jx_H} {σ : mS} (hl : 49 ≤ h.length)  : jx_r (jz β) jw_M (d) 247 (0, [some (.int (Int32.ofInt (5))), some (.int (Int32.ofInt (0)))], [], ml_mk h σ) (ml_mk h (σ), .inl (some (.int (Int32.ofInt (0))))) := by
  refine jr_1 jm_247 (show jw_cd cd_247 0 = some (.iload_n 0) by decide +kernel) rfl ?_
  refine jr_1 jm_247 (show jw_cd cd_247 1 = some (.bipush 8) by decide +kernel) (mt_bi (by decide)) ?_
  refine jr_1 jm_247 (show jw_cd cd_247 3 = some (.if_icmp .eq 52) by decide +kernel) (mb_f (q := .eq) (a := 5) (b := 8) (by show ¬ (5 = 8); omega) ⟨by omega, by omega⟩ ⟨by omega, by omega⟩ (by decide)) ?_
  refine jr_1 jm_247 (show jw_cd cd_247 6 = some (.iload_n 0) by decide +kernel) rfl ?_
  refine jr_1 jm_247 (show jw_cd cd_247 7 = some (.ifCond .ne 11) by decide +kernel) (mz_t (q := .ne) (a := 5) (t := 18) (by show ¬ (5 = 0); omega) ⟨by omega, by omega⟩ (by decide) (by decide)) ?_
  refine jr_1 jm_247 (show jw_cd cd_247 18 = some (.iload_n 0) by decide +kernel) rfl ?_
  refine jr_1 jm_247 (show jw_cd cd_247 19 = some (.iconst 3) by decide +kernel) rfl ?_
  refine jr_1 jm_247 (show jw_cd cd_247 20 = some (.if_icmp .ge 12) by decide +kernel) (mb_t (q := .ge) (a := 5) (b := 3) (t := 32) (by show 3 ≤ 5; omega) ⟨by omega, by omega⟩ ⟨by omega, by omega⟩ (by decide) (by decide)) ?_
  refine jr_1 jm_247 (show jw_cd cd_247 32 = some (.iload_n 0) by decide +kernel) rfl ?_
  refine jr_1 jm_247 (show jw_cd cd_247 33 = some (.iconst 4) by decide +kernel) rfl ?_
  refine jr_1 jm_247 (show jw_cd cd_247 34 = some (.if_icmp .ne 16) by decide +kernel) (mb_t (q := .ne) (a := 5) (b := 4) (t := 50) (by show ¬ (5 = 4); omega) ⟨by omega, by omega⟩ ⟨by omega, by omega⟩ (by decide) (by decide)) ?_
  refine jr_1 jm_247 (show jw_cd cd_247 50 = some (.iload_n 1) by decide +kernel) rfl ?_
  refine jr_1 jm_247 (show jw_cd cd_247 51 = some (.iconst 5) by decide +kernel) rfl ?_
  refine jr_1 jm_247 (show jw_cd cd_247 52 = some (.if_icmp .ne 7) by decide +kernel) (mb_t (q := .ne) (a := 0) (b := 5) (t := 59) (by show ¬ (0 = 5); omega) ⟨by omega, by omega⟩ ⟨by omega, by omega⟩ (by decide) (by decide)) ?_
  refine jr_1 jm_247 (show jw_cd cd_247 59 = some (.iconst 0) by decide +kernel) rfl ?_
  exact jr_v jm_247 (show jw_cd cd_247 60 = some (.ireturn) by decide +kernel) rfl
theorem jn_fit5_1 {β : Bool} {d : Nat} {h : jx_H} {σ : mS} (hl : 49 ≤ h.length)  : jx_r (jz β) jw_M (d) 247 (0, [some (.int (Int32.ofInt (5))), some (.int (Int32.ofInt (1)))], [], ml_mk h σ) (ml_mk h (σ), .inl (some (.int (Int32.ofInt (0))))) := by
  refine jr_1 jm_247 (show jw_cd cd_247 0 = some (.iload_n 0) by decide +kernel) rfl ?_
  refine jr_1 jm_247 (show jw_cd cd_247 1 = some (.bipush 8) by decide +kernel) (mt_bi (by decide)) ?_
  refine jr_1 jm_247 (show jw_cd cd_247 3 = some (.if_icmp .eq 52) by decide +kernel) (mb_f (q := .eq) (a := 5) (b := 8) (by show ¬ (5 = 8); omega) ⟨by omega, by omega⟩ ⟨by omega, by omega⟩ (by decide)) ?_
  refine jr_1 jm_247 (show jw_cd cd_247 6 = some (.iload_n 0) by decide +kernel) rfl ?_
  refine jr_1 jm_247 (show jw_cd cd_247 7 = some (.ifCond .ne 11) by decide +kernel) (mz_t (q := .ne) (a := 5) (t := 18) (by show ¬ (5 = 0); omega) ⟨by omega, by omega⟩ (by decide) (by decide)) ?_
  refine jr_1 jm_247 (show jw_cd cd_247 18 = some (.iload_n 0) by decide +kernel) rfl ?_
  refine jr_1 jm_247 (show jw_cd cd_247 19 = some (.iconst 3) by decide +kernel) rfl ?_
  refine jr_1 jm_247 (show jw_cd cd_247 20 = some (.if_icmp .ge 12) by decide +kernel) (mb_t (q := .ge) (a := 5) (b := 3) (t := 32) (by show 3 ≤ 5; omega) ⟨by omega, by omega⟩ ⟨by omega, by omega⟩ (by decide) (by decide)) ?_
  refine jr_1 jm_247 (show jw_cd cd_247 32 = some (.iload_n 0) by decide +kernel) rfl ?_
  refine jr_1 jm_247 (show jw_cd cd_247 33 = some (.iconst 4) by decide +kernel) rfl ?_
  refine jr_1 jm_247 (show jw_cd cd_247 34 = some (.if_icmp .ne 16) by decide +kernel) (mb_t (q := .ne) (a := 5) (b := 4) (t := 50) (by show ¬ (5 = 4); omega) ⟨by omega, by omega⟩ ⟨by omega, by omega⟩ (by decide) (by decide)) ?_
  refine jr_1 jm_247 (show jw_cd cd_247 50 = some (.iload_n 1) by decide +kernel) rfl ?_
  refine jr_1 jm_247 (show jw_cd cd_247 51 = some (.iconst 5) by decide +kernel) rfl ?_
  refine jr_1 jm_247 (show jw_cd cd_247 52 = some (.if_icmp .ne 7) by decide +kernel) (mb_t (q := .ne) (a := 1) (b := 5) (t := 59) (by show ¬ (1 = 5); omega) ⟨by omega, by omega⟩ ⟨by omega, by omega⟩ (by decide) (by decide)) ?_
  refine jr_1 jm_247 (show jw_cd cd_247 59 = some (.iconst 0) by decide +kernel) rfl ?_
  exact jr_v jm_247 (show jw_cd cd_247 60 = some (.ireturn) by decide +kernel) rfl
theorem jn_fit5_2 {β : Bool} {d : Nat} {h : jx_H} {σ : mS} (hl : 49 ≤ h.length)  : jx_r (jz β) jw_M (d) 247 (0, [some (.int (Int32.ofInt (5))), some (.int (Int32.ofInt (2)))], [], ml_mk h σ) (ml_mk h (σ), .inl (some (.int (Int32.ofInt (0))))) := by
  refine jr_1 jm_247 (show jw_cd cd_247 0 = some (.iload_n 0) by decide +kernel) rfl ?_
  refine jr_1 jm_247 (show jw_cd cd_247 1 = some (.bipush 8) by decide +kernel) (mt_bi (by decide)) ?_
  refine jr_1 jm_247 (show jw_cd cd_247 3 = some (.if_icmp .eq 52) by decide +kernel) (mb_f (q := .eq) (a := 5) (b := 8) (by show ¬ (5 = 8); omega) ⟨by omega, by omega⟩ ⟨by omega, by omega⟩ (by decide)) ?_
  refine jr_1 jm_247 (show jw_cd cd_247 6 = some (.iload_n 0) by decide +kernel) rfl ?_
  refine jr_1 jm_247 (show jw_cd cd_247 7 = some (.ifCond .ne 11) by decide +kernel) (mz_t (q := .ne) (a := 5) (t := 18) (by show ¬ (5 = 0); omega) ⟨by omega, by omega⟩ (by decide) (by decide)) ?_
  refine jr_1 jm_247 (show jw_cd cd_247 18 = some (.iload_n 0) by decide +kernel) rfl ?_
  refine jr_1 jm_247 (show jw_cd cd_247 19 = some (.iconst 3) by decide +kernel) rfl ?_
  refine jr_1 jm_247 (show jw_cd cd_247 20 = some (.if_icmp .ge 12) by decide +kernel) (mb_t (q := .ge) (a := 5) (b := 3) (t := 32) (by show 3 ≤ 5; omega) ⟨by omega, by omega⟩ ⟨by omega, by omega⟩ (by decide) (by decide)) ?_
  refine jr_1 jm_247 (show jw_cd cd_247 32 = some (.iload_n 0) by decide +kernel) rfl ?_
  refine jr_1 jm_247 (show jw_cd cd_247 33 = some (.iconst 4) by decide +kernel) rfl ?_
  refine jr_1 jm_247 (show jw_cd cd_247 34 = some (.if_icmp .ne 16) by decide +kernel) (mb_t (q := .ne) (a := 5) (b := 4) (t := 50) (by show ¬ (5 = 4); omega) ⟨by omega, by omega⟩ ⟨by omega, by omega⟩ (by decide) (by decide)) ?_
  refine jr_1 jm_247 (show jw_cd cd_247 50 = some (.iload_n 1) by decide +kernel) rfl ?_
  refine jr_1 jm_247 (show jw_cd cd_247 51 = some (.iconst 5) by decide +kernel) rfl ?_
  refine jr_1 jm_247 (show jw_cd cd_247 52 = some (.if_icmp .ne 7) by decide +kernel) (mb_t (q := .ne) (a := 2) (b := 5) (t := 59) (by show ¬ (2 = 5); omega) ⟨by omega, by omega⟩ ⟨by omega, by omega⟩ (by decide) (by decide)) ?_
  refine jr_1 jm_247 (show jw_cd cd_247 59 = some (.iconst 0) by decide +kernel) rfl ?_
  exact jr_v jm_247 (show jw_cd cd_247 60 = some (.ireturn) by decide +kernel) rfl
theorem jn_fit5_3 {β : Bool} {d : Nat} {h : jx_H} {σ : mS} (hl : 49 ≤ h.length)  : jx_r (jz β) jw_M (d) 247 (0, [some (.int (Int32.ofInt (5))), some (.int (Int32.ofInt (3)))], [], ml_mk h σ) (ml_mk h (σ), .inl (some (.int (Int32.ofInt (0))))) := by
  refine jr_1 jm_247 (show jw_cd cd_247 0 = some (.iload_n 0) by decide +kernel) rfl ?_
  refine jr_1 jm_247 (show jw_cd cd_247 1 = some (.bipush 8) by decide +kernel) (mt_bi (by decide)) ?_
  refine jr_1 jm_247 (show jw_cd cd_247 3 = some (.if_icmp .eq 52) by decide +kernel) (mb_f (q := .eq) (a := 5) (b := 8) (by show ¬ (5 = 8); omega) ⟨by omega, by omega⟩ ⟨by omega, by omega⟩ (by decide)) ?_
  refine jr_1 jm_247 (show jw_cd cd_247 6 = some (.iload_n 0) by decide +kernel) rfl ?_
  refine jr_1 jm_247 (show jw_cd cd_247 7 = some (.ifCond .ne 11) by decide +kernel) (mz_t (q := .ne) (a := 5) (t := 18) (by show ¬ (5 = 0); omega) ⟨by omega, by omega⟩ (by decide) (by decide)) ?_
  refine jr_1 jm_247 (show jw_cd cd_247 18 = some (.iload_n 0) by decide +kernel) rfl ?_
  refine jr_1 jm_247 (show jw_cd cd_247 19 = some (.iconst 3) by decide +kernel) rfl ?_
  refine jr_1 jm_247 (show jw_cd cd_247 20 = some (.if_icmp .ge 12) by decide +kernel) (mb_t (q := .ge) (a := 5) (b := 3) (t := 32) (by show 3 ≤ 5; omega) ⟨by omega, by omega⟩ ⟨by omega, by omega⟩ (by decide) (by decide)) ?_
  refine jr_1 jm_247 (show jw_cd cd_247 32 = some (.iload_n 0) by decide +kernel) rfl ?_
  refine jr_1 jm_247 (show jw_cd cd_247 33 = some (.iconst 4) by decide +kernel) rfl ?_
  refine jr_1 jm_247 (show jw_cd cd_247 34 = some (.if_icmp .ne 16) by decide +kernel) (mb_t (q := .ne) (a := 5) (b := 4) (t := 50) (by show ¬ (5 = 4); omega) ⟨by omega, by omega⟩ ⟨by omega, by omega⟩ (by decide) (by decide)) ?_
  refine jr_1 jm_247 (show jw_cd cd_247 50 = some (.iload_n 1) by decide +kernel) rfl ?_
  refine jr_1 jm_247 (show jw_cd cd_247 51 = some (.iconst 5) by decide +kernel) rfl ?_
  refine jr_1 jm_247 (show jw_cd cd_247 52 = some (.if_icmp .ne 7) by decide +kernel) (mb_t (q := .ne) (a := 3) (b := 5) (t := 59) (by show ¬ (3 = 5); omega) ⟨by omega, by omega⟩ ⟨by omega, by omega⟩ (by decide) (by decide)) ?_
  refine jr_1 jm_247 (show jw_cd cd_247 59 = some (.iconst 0) by decide +kernel) rfl ?_
  exact jr_v jm_247 (show jw_cd cd_247 60 = some (.ireturn) by decide +kernel) rfl
theorem jn_fit5_4 {β : Bool} {d : Nat} {h : jx_H} {σ : mS} (hl : 49 ≤ h.length)  : jx_r (jz β) jw_M (d) 247 (0, [some (.int (Int32.ofInt (5))), some (.int (Int32.ofInt (4)))], [], ml_mk h σ) (ml_mk h (σ), .inl (some (.int (Int32.ofInt (0))))) := by
  refine jr_1 jm_247 (show jw_cd cd_247 0 = some (.iload_n 0) by decide +kernel) rfl ?_
  refine jr_1 jm_247 (show jw_cd cd_247 1 = some (.bipush 8) by decide +kernel) (mt_bi (by decide)) ?_
  refine jr_1 jm_247 (show jw_cd cd_247 3 = some (.if_icmp .eq 52) by decide +kernel) (mb_f (q := .eq) (a := 5) (b := 8) (by show ¬ (5 = 8); omega) ⟨by omega, by omega⟩ ⟨by omega, by omega⟩ (by decide)) ?_
  refine jr_1 jm_247 (show jw_cd cd_247 6 = some (.iload_n 0) by decide +kernel) rfl ?_
  refine jr_1 jm_247 (show jw_cd cd_247 7 = some (.ifCond .ne 11) by decide +kernel) (mz_t (q := .ne) (a := 5) (t := 18) (by show ¬ (5 = 0); omega) ⟨by omega, by omega⟩ (by decide) (by decide)) ?_
  refine jr_1 jm_247 (show jw_cd cd_247 18 = some (.iload_n 0) by decide +kernel) rfl ?_
  refine jr_1 jm_247 (show jw_cd cd_247 19 = some (.iconst 3) by decide +kernel) rfl ?_
  refine jr_1 jm_247 (show jw_cd cd_247 20 = some (.if_icmp .ge 12) by decide +kernel) (mb_t (q := .ge) (a := 5) (b := 3) (t := 32) (by show 3 ≤ 5; omega) ⟨by omega, by omega⟩ ⟨by omega, by omega⟩ (by decide) (by decide)) ?_
  refine jr_1 jm_247 (show jw_cd cd_247 32 = some (.iload_n 0) by decide +kernel) rfl ?_
  refine jr_1 jm_247 (show jw_cd cd_247 33 = some (.iconst 4) by decide +kernel) rfl ?_
  refine jr_1 jm_247 (show jw_cd cd_247 34 = some (.if_icmp .ne 16) by decide +kernel) (mb_t (q := .ne) (a := 5) (b := 4) (t := 50) (by show ¬ (5 = 4); omega) ⟨by omega, by omega⟩ ⟨by omega, by omega⟩ (by decide) (by decide)) ?_
  refine jr_1 jm_247 (show jw_cd cd_247 50 = some (.iload_n 1) by decide +kernel) rfl ?_
  refine jr_1 jm_247 (show jw_cd cd_247 51 = some (.iconst 5) by decide +kernel) rfl ?_
  refine jr_1 jm_247 (show jw_cd cd_247 52 = some (.if_icmp .ne 7) by decide +kernel) (mb_t (q := .ne) (a := 4) (b := 5) (t := 59) (by show ¬ (4 = 5); omega) ⟨by omega, by omega⟩ ⟨by omega, by omega⟩ (by decide) (by decide)) ?_
  refine jr_1 jm_247 (show jw_cd cd_247 59 = some (.iconst 0) by decide +kernel) rfl ?_
  exact jr_v jm_247 (show jw_cd cd_247 60 = some (.ireturn) by decide +kernel) rfl
theorem jn_fit5_5 {β : Bool} {d : Nat} {h : jx_H} {σ : mS} (hl : 49 ≤ h.length)  : jx_r (jz β) jw_M (d) 247 (0, [some (.int (Int32.ofInt (5))), some (.int (Int32.ofInt (5)))], [], ml_mk h σ) (ml_mk h (σ), .inl (some (.int (Int32.ofInt (1))))) := by
  refine jr_1 jm_247 (show jw_cd cd_247 0 = some (.iload_n 0) by decide +kernel) rfl ?_
  refine jr_1 jm_247 (show jw_cd cd_247 1 = some (.bipush 8) by decide +kernel) (mt_bi (by decide)) ?_
  refine jr_1 jm_247 (show jw_cd cd_247 3 = some (.if_icmp .eq 52) by decide +kernel) (mb_f (q := .eq) (a := 5) (b := 8) (by show ¬ (5 = 8); omega) ⟨by omega, by omega⟩ ⟨by omega, by omega⟩ (by decide)) ?_
  refine jr_1 jm_247 (show jw_cd cd_247 6 = some (.iload_n 0) by decide +kernel) rfl ?_
  refine jr_1 jm_247 (show jw_cd cd_247 7 = some (.ifCond .ne 11) by decide +kernel) (mz_t (q := .ne) (a := 5) (t := 18) (by show ¬ (5 = 0); omega) ⟨by omega, by omega⟩ (by decide) (by decide)) ?_
  refine jr_1 jm_247 (show jw_cd cd_247 18 = some (.iload_n 0) by decide +kernel) rfl ?_
  refine jr_1 jm_247 (show jw_cd cd_247 19 = some (.iconst 3) by decide +kernel) rfl ?_
  refine jr_1 jm_247 (show jw_cd cd_247 20 = some (.if_icmp .ge 12) by decide +kernel) (mb_t (q := .ge) (a := 5) (b := 3) (t := 32) (by show 3 ≤ 5; omega) ⟨by omega, by omega⟩ ⟨by omega, by omega⟩ (by decide) (by decide)) ?_
  refine jr_1 jm_247 (show jw_cd cd_247 32 = some (.iload_n 0) by decide +kernel) rfl ?_
  refine jr_1 jm_247 (show jw_cd cd_247 33 = some (.iconst 4) by decide +kernel) rfl ?_
  refine jr_1 jm_247 (show jw_cd cd_247 34 = some (.if_icmp .ne 16) by decide +kernel) (mb_t (q := .ne) (a := 5) (b := 4) (t := 50) (by show ¬ (5 = 4); omega) ⟨by omega, by omega⟩ ⟨by omega, by omega⟩ (by decide) (by decide)) ?_
  refine jr_1 jm_247 (show jw_cd cd_247 50 = some (.iload_n 1) by decide +kernel) rfl ?_
  refine jr_1 jm_247 (show jw_cd cd_247 51 = some (.iconst 5) by decide +kernel) rfl ?_
  refine jr_1 jm_247 (show jw_cd cd_247 52 = some (.if_icmp .ne 7) by decide +kernel) (mb_f (q := .ne) (a := 5) (b := 5) (by show ¬ (¬ (5 = 5)); omega) ⟨by omega, by omega⟩ ⟨by omega, by omega⟩ (by decide)) ?_
  refine jr_1 jm_247 (show jw_cd cd_247 55 = some (.iconst 1) by decide +kernel) rfl ?_
  refine jr_1 jm_247 (show jw_cd cd_247 56 = some (.goto 4) by decide +kernel) (ju_go (t := 60) (by decide)) ?_
  exact jr_v jm_247 (show jw_cd cd_247 60 = some (.ireturn) by decide +kernel) rfl
theorem jn_fit5_6 {β : Bool} {d : Nat} {h : jx_H} {σ : mS} (hl : 49 ≤ h.length)  : jx_r (jz β) jw_M (d) 247 (0, [some (.int (Int32.ofInt (5))), some (.int (Int32.ofInt (6)))], [], ml_mk h σ) (ml_mk h (σ), .inl (some (.int (Int32.ofInt (0))))) := by
  refine jr_1 jm_247 (show jw_cd cd_247 0 = some (.iload_n 0) by decide +kernel) rfl ?_
  refine jr_1 jm_247 (show jw_cd cd_247 1 = some (.bipush 8) by decide +kernel) (mt_bi (by decide)) ?_
  refine jr_1 jm_247 (show jw_cd cd_247 3 = some (.if_icmp .eq 52) by decide +kernel) (mb_f (q := .eq) (a := 5) (b := 8) (by show ¬ (5 = 8); omega) ⟨by omega, by omega⟩ ⟨by omega, by omega⟩ (by decide)) ?_
  refine jr_1 jm_247 (show jw_cd cd_247 6 = some (.iload_n 0) by decide +kernel) rfl ?_
  refine jr_1 jm_247 (show jw_cd cd_247 7 = some (.ifCond .ne 11) by decide +kernel) (mz_t (q := .ne) (a := 5) (t := 18) (by show ¬ (5 = 0); omega) ⟨by omega, by omega⟩ (by decide) (by decide)) ?_
  refine jr_1 jm_247 (show jw_cd cd_247 18 = some (.iload_n 0) by decide +kernel) rfl ?_
  refine jr_1 jm_247 (show jw_cd cd_247 19 = some (.iconst 3) by decide +kernel) rfl ?_
  refine jr_1 jm_247 (show jw_cd cd_247 20 = some (.if_icmp .ge 12) by decide +kernel) (mb_t (q := .ge) (a := 5) (b := 3) (t := 32) (by show 3 ≤ 5; omega) ⟨by omega, by omega⟩ ⟨by omega, by omega⟩ (by decide) (by decide)) ?_
  refine jr_1 jm_247 (show jw_cd cd_247 32 = some (.iload_n 0) by decide +kernel) rfl ?_
  refine jr_1 jm_247 (show jw_cd cd_247 33 = some (.iconst 4) by decide +kernel) rfl ?_
  refine jr_1 jm_247 (show jw_cd cd_247 34 = some (.if_icmp .ne 16) by decide +kernel) (mb_t (q := .ne) (a := 5) (b := 4) (t := 50) (by show ¬ (5 = 4); omega) ⟨by omega, by omega⟩ ⟨by omega, by omega⟩ (by decide) (by decide)) ?_
  refine jr_1 jm_247 (show jw_cd cd_247 50 = some (.iload_n 1) by decide +kernel) rfl ?_
  refine jr_1 jm_247 (show jw_cd cd_247 51 = some (.iconst 5) by decide +kernel) rfl ?_
  refine jr_1 jm_247 (show jw_cd cd_247 52 = some (.if_icmp .ne 7) by decide +kernel) (mb_t (q := .ne) (a := 6) (b := 5) (t := 59) (by show ¬ (6 = 5); omega) ⟨by omega, by omega⟩ ⟨by omega, by omega⟩ (by decide) (by decide)) ?_
  refine jr_1 jm_247 (show jw_cd cd_247 59 = some (.iconst 0) by decide +kernel) rfl ?_
  exact jr_v jm_247 (show jw_cd cd_247 60 = some (.ireturn) by decide +kernel) rfl
theorem jn_fit6_0 {β : Bool} {d : Nat} {h : jx_H} {σ : mS} (hl : 49 ≤ h.length)  : jx_r (jz β) jw_M (d) 247 (0, [some (.int (Int32.ofInt (6))), some (.int (Int32.ofInt (0)))], [], ml_mk h σ) (ml_mk h (σ), .inl (some (.int (Int32.ofInt (0))))) := by
  refine jr_1 jm_247 (show jw_cd cd_247 0 = some (.iload_n 0) by decide +kernel) rfl ?_
  refine jr_1 jm_247 (show jw_cd cd_247 1 = some (.bipush 8) by decide +kernel) (mt_bi (by decide)) ?_
  refine jr_1 jm_247 (show jw_cd cd_247 3 = some (.if_icmp .eq 52) by decide +kernel) (mb_f (q := .eq) (a := 6) (b := 8) (by show ¬ (6 = 8); omega) ⟨by omega, by omega⟩ ⟨by omega, by omega⟩ (by decide)) ?_
  refine jr_1 jm_247 (show jw_cd cd_247 6 = some (.iload_n 0) by decide +kernel) rfl ?_
  refine jr_1 jm_247 (show jw_cd cd_247 7 = some (.ifCond .ne 11) by decide +kernel) (mz_t (q := .ne) (a := 6) (t := 18) (by show ¬ (6 = 0); omega) ⟨by omega, by omega⟩ (by decide) (by decide)) ?_
  refine jr_1 jm_247 (show jw_cd cd_247 18 = some (.iload_n 0) by decide +kernel) rfl ?_
  refine jr_1 jm_247 (show jw_cd cd_247 19 = some (.iconst 3) by decide +kernel) rfl ?_
  refine jr_1 jm_247 (show jw_cd cd_247 20 = some (.if_icmp .ge 12) by decide +kernel) (mb_t (q := .ge) (a := 6) (b := 3) (t := 32) (by show 3 ≤ 6; omega) ⟨by omega, by omega⟩ ⟨by omega, by omega⟩ (by decide) (by decide)) ?_
  refine jr_1 jm_247 (show jw_cd cd_247 32 = some (.iload_n 0) by decide +kernel) rfl ?_
  refine jr_1 jm_247 (show jw_cd cd_247 33 = some (.iconst 4) by decide +kernel) rfl ?_
  refine jr_1 jm_247 (show jw_cd cd_247 34 = some (.if_icmp .ne 16) by decide +kernel) (mb_t (q := .ne) (a := 6) (b := 4) (t := 50) (by show ¬ (6 = 4); omega) ⟨by omega, by omega⟩ ⟨by omega, by omega⟩ (by decide) (by decide)) ?_
  refine jr_1 jm_247 (show jw_cd cd_247 50 = some (.iload_n 1) by decide +kernel) rfl ?_
  refine jr_1 jm_247 (show jw_cd cd_247 51 = some (.iconst 5) by decide +kernel) rfl ?_
  refine jr_1 jm_247 (show jw_cd cd_247 52 = some (.if_icmp .ne 7) by decide +kernel) (mb_t (q := .ne) (a := 0) (b := 5) (t := 59) (by show ¬ (0 = 5); omega) ⟨by omega, by omega⟩ ⟨by omega, by omega⟩ (by decide) (by decide)) ?_
  refine jr_1 jm_247 (show jw_cd cd_247 59 = some (.iconst 0) by decide +kernel) rfl ?_
  exact jr_v jm_247 (show jw_cd cd_247 60 = some (.ireturn) by decide +kernel) rfl
theorem jn_fit6_1 {β : Bool} {d : Nat} {h : jx_H} {σ : mS} (hl : 49 ≤ h.length)  : jx_r (jz β) jw_M (d) 247 (0, [some (.int (Int32.ofInt (6))), some (.int (Int32.ofInt (1)))], [], ml_mk h σ) (ml_mk h (σ), .inl (some (.int (Int32.ofInt (0))))) := by
  refine jr_1 jm_247 (show jw_cd cd_247 0 = some (.iload_n 0) by decide +kernel) rfl ?_
  refine jr_1 jm_247 (show jw_cd cd_247 1 = some (.bipush 8) by decide +kernel) (mt_bi (by decide)) ?_
  refine jr_1 jm_247 (show jw_cd cd_247 3 = some (.if_icmp .eq 52) by decide +kernel) (mb_f (q := .eq) (a := 6) (b := 8) (by show ¬ (6 = 8); omega) ⟨by omega, by omega⟩ ⟨by omega, by omega⟩ (by decide)) ?_
  refine jr_1 jm_247 (show jw_cd cd_247 6 = some (.iload_n 0) by decide +kernel) rfl ?_
  refine jr_1 jm_247 (show jw_cd cd_247 7 = some (.ifCond .ne 11) by decide +kernel) (mz_t (q := .ne) (a := 6) (t := 18) (by show ¬ (6 = 0); omega) ⟨by omega, by omega⟩ (by decide) (by decide)) ?_
  refine jr_1 jm_247 (show jw_cd cd_247 18 = some (.iload_n 0) by decide +kernel) rfl ?_
  refine jr_1 jm_247 (show jw_cd cd_247 19 = some (.iconst 3) by decide +kernel) rfl ?_
  refine jr_1 jm_247 (show jw_cd cd_247 20 = some (.if_icmp .ge 12) by decide +kernel) (mb_t (q := .ge) (a := 6) (b := 3) (t := 32) (by show 3 ≤ 6; omega) ⟨by omega, by omega⟩ ⟨by omega, by omega⟩ (by decide) (by decide)) ?_
  refine jr_1 jm_247 (show jw_cd cd_247 32 = some (.iload_n 0) by decide +kernel) rfl ?_
  refine jr_1 jm_247 (show jw_cd cd_247 33 = some (.iconst 4) by decide +kernel) rfl ?_
  refine jr_1 jm_247 (show jw_cd cd_247 34 = some (.if_icmp .ne 16) by decide +kernel) (mb_t (q := .ne) (a := 6) (b := 4) (t := 50) (by show ¬ (6 = 4); omega) ⟨by omega, by omega⟩ ⟨by omega, by omega⟩ (by decide) (by decide)) ?_
  refine jr_1 jm_247 (show jw_cd cd_247 50 = some (.iload_n 1) by decide +kernel) rfl ?_
  refine jr_1 jm_247 (show jw_cd cd_247 51 = some (.iconst 5) by decide +kernel) rfl ?_
  refine jr_1 jm_247 (show jw_cd cd_247 52 = some (.if_icmp .ne 7) by decide +kernel) (mb_t (q := .ne) (a := 1) (b := 5) (t := 59) (by show ¬ (1 = 5); omega) ⟨by omega, by omega⟩ ⟨by omega, by omega⟩ (by decide) (by decide)) ?_
  refine jr_1 jm_247 (show jw_cd cd_247 59 = some (.iconst 0) by decide +kernel) rfl ?_
  exact jr_v jm_247 (show jw_cd cd_247 60 = some (.ireturn) by decide +kernel) rfl
theorem jn_fit6_2 {β : Bool} {d : Nat} {h : jx_H} {σ : mS} (hl : 49 ≤ h.length)  : jx_r (jz β) jw_M (d) 247 (0, [some (.int (Int32.ofInt (6))), some (.int (Int32.ofInt (2)))], [], ml_mk h σ) (ml_mk h (σ), .inl (some (.int (Int32.ofInt (0))))) := by
  refine jr_1 jm_247 (show jw_cd cd_247 0 = some (.iload_n 0) by decide +kernel) rfl ?_
  refine jr_1 jm_247 (show jw_cd cd_247 1 = some (.bipush 8) by decide +kernel) (mt_bi (by decide)) ?_
  refine jr_1 jm_247 (show jw_cd cd_247 3 = some (.if_icmp .eq 52) by decide +kernel) (mb_f (q := .eq) (a := 6) (b := 8) (by show ¬ (6 = 8); omega) ⟨by omega, by omega⟩ ⟨by omega, by omega⟩ (by decide)) ?_
  refine jr_1 jm_247 (show jw_cd cd_247 6 = some (.iload_n 0) by decide +kernel) rfl ?_
  refine jr_1 jm_247 (show jw_cd cd_247 7 = some (.ifCond .ne 11) by decide +kernel) (mz_t (q := .ne) (a := 6) (t := 18) (by show ¬ (6 = 0); omega) ⟨by omega, by omega⟩ (by decide) (by decide)) ?_
  refine jr_1 jm_247 (show jw_cd cd_247 18 = some (.iload_n 0) by decide +kernel) rfl ?_
  refine jr_1 jm_247 (show jw_cd cd_247 19 = some (.iconst 3) by decide +kernel) rfl ?_
  refine jr_1 jm_247 (show jw_cd cd_247 20 = some (.if_icmp .ge 12) by decide +kernel) (mb_t (q := .ge) (a := 6) (b := 3) (t := 32) (by show 3 ≤ 6; omega) ⟨by omega, by omega⟩ ⟨by omega, by omega⟩ (by decide) (by decide)) ?_
  refine jr_1 jm_247 (show jw_cd cd_247 32 = some (.iload_n 0) by decide +kernel) rfl ?_
  refine jr_1 jm_247 (show jw_cd cd_247 33 = some (.iconst 4) by decide +kernel) rfl ?_
  refine jr_1 jm_247 (show jw_cd cd_247 34 = some (.if_icmp .ne 16) by decide +kernel) (mb_t (q := .ne) (a := 6) (b := 4) (t := 50) (by show ¬ (6 = 4); omega) ⟨by omega, by omega⟩ ⟨by omega, by omega⟩ (by decide) (by decide)) ?_
  refine jr_1 jm_247 (show jw_cd cd_247 50 = some (.iload_n 1) by decide +kernel) rfl ?_
  refine jr_1 jm_247 (show jw_cd cd_247 51 = some (.iconst 5) by decide +kernel) rfl ?_
  refine jr_1 jm_247 (show jw_cd cd_247 52 = some (.if_icmp .ne 7) by decide +kernel) (mb_t (q := .ne) (a := 2) (b := 5) (t := 59) (by show ¬ (2 = 5); omega) ⟨by omega, by omega⟩ ⟨by omega, by omega⟩ (by decide) (by decide)) ?_
  refine jr_1 jm_247 (show jw_cd cd_247 59 = some (.iconst 0) by decide +kernel) rfl ?_
  exact jr_v jm_247 (show jw_cd cd_247 60 = some (.ireturn) by decide +kernel) rfl
theorem jn_fit6_3 {β : Bool} {d : Nat} {h : jx_H} {σ : mS} (hl : 49 ≤ h.length)  : jx_r (jz β) jw_M (d) 247 (0, [some (.int (Int32.ofInt (6))), some (.int (Int32.ofInt (3)))], [], ml_mk h σ) (ml_mk h (σ), .inl (some (.int (Int32.ofInt (0))))) := by
  refine jr_1 jm_247 (show jw_cd cd_247 0 = some (.iload_n 0) by decide +kernel) rfl ?_
  refine jr_1 jm_247 (show jw_cd cd_247 1 = some (.bipush 8) by decide +kernel) (mt_bi (by decide)) ?_
  refine jr_1 jm_247 (show jw_cd cd_247 3 = some (.if_icmp .eq 52) by decide +kernel) (mb_f (q := .eq) (a := 6) (b := 8) (by show ¬ (6 = 8); omega) ⟨by omega, by omega⟩ ⟨by omega, by omega⟩ (by decide)) ?_
  refine jr_1 jm_247 (show jw_cd cd_247 6 = some (.iload_n 0) by decide +kernel) rfl ?_
  refine jr_1 jm_247 (show jw_cd cd_247 7 = some (.ifCond .ne 11) by decide +kernel) (mz_t (q := .ne) (a := 6) (t := 18) (by show ¬ (6 = 0); omega) ⟨by omega, by omega⟩ (by decide) (by decide)) ?_
  refine jr_1 jm_247 (show jw_cd cd_247 18 = some (.iload_n 0) by decide +kernel) rfl ?_
  refine jr_1 jm_247 (show jw_cd cd_247 19 = some (.iconst 3) by decide +kernel) rfl ?_
  refine jr_1 jm_247 (show jw_cd cd_247 20 = some (.if_icmp .ge 12) by decide +kernel) (mb_t (q := .ge) (a := 6) (b := 3) (t := 32) (by show 3 ≤ 6; omega) ⟨by omega, by omega⟩ ⟨by omega, by omega⟩ (by decide) (by decide)) ?_
  refine jr_1 jm_247 (show jw_cd cd_247 32 = some (.iload_n 0) by decide +kernel) rfl ?_
  refine jr_1 jm_247 (show jw_cd cd_247 33 = some (.iconst 4) by decide +kernel) rfl ?_
  refine jr_1 jm_247 (show jw_cd cd_247 34 = some (.if_icmp .ne 16) by decide +kernel) (mb_t (q := .ne) (a := 6) (b := 4) (t := 50) (by show ¬ (6 = 4); omega) ⟨by omega, by omega⟩ ⟨by omega, by omega⟩ (by decide) (by decide)) ?_
  refine jr_1 jm_247 (show jw_cd cd_247 50 = some (.iload_n 1) by decide +kernel) rfl ?_
  refine jr_1 jm_247 (show jw_cd cd_247 51 = some (.iconst 5) by decide +kernel) rfl ?_
  refine jr_1 jm_247 (show jw_cd cd_247 52 = some (.if_icmp .ne 7) by decide +kernel) (mb_t (q := .ne) (a := 3) (b := 5) (t := 59) (by show ¬ (3 = 5); omega) ⟨by omega, by omega⟩ ⟨by omega, by omega⟩ (by decide) (by decide)) ?_
  refine jr_1 jm_247 (show jw_cd cd_247 59 = some (.iconst 0) by decide +kernel) rfl ?_
  exact jr_v jm_247 (show jw_cd cd_247 60 = some (.ireturn) by decide +kernel) rfl
theorem jn_fit6_4 {β : Bool} {d : Nat} {h : jx_H} {σ : mS} (hl : 49 ≤ h.length)  : jx_r (jz β) jw_M (d) 247 (0, [some (.int (Int32.ofInt (6))), some (.int (Int32.ofInt (4)))], [], ml_mk h σ) (ml_mk h (σ), .inl (some (.int (Int32.ofInt (0))))) := by
  refine jr_1 jm_247 (show jw_cd cd_247 0 = some (.iload_n 0) by decide +kernel) rfl ?_
  refine jr_1 jm_247 (show jw_cd cd_247 1 = some (.bipush 8) by decide +kernel) (mt_bi (by decide)) ?_
  refine jr_1 jm_247 (show jw_cd cd_247 3 = some (.if_icmp .eq 52) by decide +kernel) (mb_f (q := .eq) (a := 6) (b := 8) (by show ¬ (6 = 8); omega) ⟨by omega, by omega⟩ ⟨by omega, by omega⟩ (by decide)) ?_
  refine jr_1 jm_247 (show jw_cd cd_247 6 = some (.iload_n 0) by decide +kernel) rfl ?_
  refine jr_1 jm_247 (show jw_cd cd_247 7 = some (.ifCond .ne 11) by decide +kernel) (mz_t (q := .ne) (a := 6) (t := 18) (by show ¬ (6 = 0); omega) ⟨by omega, by omega⟩ (by decide) (by decide)) ?_
  refine jr_1 jm_247 (show jw_cd cd_247 18 = some (.iload_n 0) by decide +kernel) rfl ?_
  refine jr_1 jm_247 (show jw_cd cd_247 19 = some (.iconst 3) by decide +kernel) rfl ?_
  refine jr_1 jm_247 (show jw_cd cd_247 20 = some (.if_icmp .ge 12) by decide +kernel) (mb_t (q := .ge) (a := 6) (b := 3) (t := 32) (by show 3 ≤ 6; omega) ⟨by omega, by omega⟩ ⟨by omega, by omega⟩ (by decide) (by decide)) ?_
  refine jr_1 jm_247 (show jw_cd cd_247 32 = some (.iload_n 0) by decide +kernel) rfl ?_
  refine jr_1 jm_247 (show jw_cd cd_247 33 = some (.iconst 4) by decide +kernel) rfl ?_
  refine jr_1 jm_247 (show jw_cd cd_247 34 = some (.if_icmp .ne 16) by decide +kernel) (mb_t (q := .ne) (a := 6) (b := 4) (t := 50) (by show ¬ (6 = 4); omega) ⟨by omega, by omega⟩ ⟨by omega, by omega⟩ (by decide) (by decide)) ?_
  refine jr_1 jm_247 (show jw_cd cd_247 50 = some (.iload_n 1) by decide +kernel) rfl ?_
  refine jr_1 jm_247 (show jw_cd cd_247 51 = some (.iconst 5) by decide +kernel) rfl ?_
  refine jr_1 jm_247 (show jw_cd cd_247 52 = some (.if_icmp .ne 7) by decide +kernel) (mb_t (q := .ne) (a := 4) (b := 5) (t := 59) (by show ¬ (4 = 5); omega) ⟨by omega, by omega⟩ ⟨by omega, by omega⟩ (by decide) (by decide)) ?_
  refine jr_1 jm_247 (show jw_cd cd_247 59 = some (.iconst 0) by decide +kernel) rfl ?_
  exact jr_v jm_247 (show jw_cd cd_247 60 = some (.ireturn) by decide +kernel) rfl
theorem jn_fit6_5 {β : Bool} {d : Nat} {h : jx_H} {σ : mS} (hl : 49 ≤ h.length)  : jx_r (jz β) jw_M (d) 247 (0, [some (.int (Int32.ofInt (6))), some (.int (Int32.ofInt (5)))], [], ml_mk h σ) (ml_mk h (σ), .inl (some (.int (Int32.ofInt (1))))) := by
  refine jr_1 jm_247 (show jw_cd cd_247 0 = some (.iload_n 0) by decide +kernel) rfl ?_
  refine jr_1 jm_247 (show jw_cd cd_247 1 = some (.bipush 8) by decide +kernel) (mt_bi (by decide)) ?_
  refine jr_1 jm_247 (show jw_cd cd_247 3 = some (.if_icmp .eq 52) by decide +kernel) (mb_f (q := .eq) (a := 6) (b := 8) (by show ¬ (6 = 8); omega) ⟨by omega, by omega⟩ ⟨by omega, by omega⟩ (by decide)) ?_
  refine jr_1 jm_247 (show jw_cd cd_247 6 = some (.iload_n 0) by decide +kernel) rfl ?_
  refine jr_1 jm_247 (show jw_cd cd_247 7 = some (.ifCond .ne 11) by decide +kernel) (mz_t (q := .ne) (a := 6) (t := 18) (by show ¬ (6 = 0); omega) ⟨by omega, by omega⟩ (by decide) (by decide)) ?_
  refine jr_1 jm_247 (show jw_cd cd_247 18 = some (.iload_n 0) by decide +kernel) rfl ?_
  refine jr_1 jm_247 (show jw_cd cd_247 19 = some (.iconst 3) by decide +kernel) rfl ?_
  refine jr_1 jm_247 (show jw_cd cd_247 20 = some (.if_icmp .ge 12) by decide +kernel) (mb_t (q := .ge) (a := 6) (b := 3) (t := 32) (by show 3 ≤ 6; omega) ⟨by omega, by omega⟩ ⟨by omega, by omega⟩ (by decide) (by decide)) ?_
  refine jr_1 jm_247 (show jw_cd cd_247 32 = some (.iload_n 0) by decide +kernel) rfl ?_
  refine jr_1 jm_247 (show jw_cd cd_247 33 = some (.iconst 4) by decide +kernel) rfl ?_
  refine jr_1 jm_247 (show jw_cd cd_247 34 = some (.if_icmp .ne 16) by decide +kernel) (mb_t (q := .ne) (a := 6) (b := 4) (t := 50) (by show ¬ (6 = 4); omega) ⟨by omega, by omega⟩ ⟨by omega, by omega⟩ (by decide) (by decide)) ?_
  refine jr_1 jm_247 (show jw_cd cd_247 50 = some (.iload_n 1) by decide +kernel) rfl ?_
  refine jr_1 jm_247 (show jw_cd cd_247 51 = some (.iconst 5) by decide +kernel) rfl ?_
  refine jr_1 jm_247 (show jw_cd cd_247 52 = some (.if_icmp .ne 7) by decide +kernel) (mb_f (q := .ne) (a := 5) (b := 5) (by show ¬ (¬ (5 = 5)); omega) ⟨by omega, by omega⟩ ⟨by omega, by omega⟩ (by decide)) ?_
  refine jr_1 jm_247 (show jw_cd cd_247 55 = some (.iconst 1) by decide +kernel) rfl ?_
  refine jr_1 jm_247 (show jw_cd cd_247 56 = some (.goto 4) by decide +kernel) (ju_go (t := 60) (by decide)) ?_
  exact jr_v jm_247 (show jw_cd cd_247 60 = some (.ireturn) by decide +kernel) rfl
theorem jn_fit6_6 {β : Bool} {d : Nat} {h : jx_H} {σ : mS} (hl : 49 ≤ h.length)  : jx_r (jz β) jw_M (d) 247 (0, [some (.int (Int32.ofInt (6))), some (.int (Int32.ofInt (6)))], [], ml_mk h σ) (ml_mk h (σ), .inl (some (.int (Int32.ofInt (0))))) := by
  refine jr_1 jm_247 (show jw_cd cd_247 0 = some (.iload_n 0) by decide +kernel) rfl ?_
  refine jr_1 jm_247 (show jw_cd cd_247 1 = some (.bipush 8) by decide +kernel) (mt_bi (by decide)) ?_
  refine jr_1 jm_247 (show jw_cd cd_247 3 = some (.if_icmp .eq 52) by decide +kernel) (mb_f (q := .eq) (a := 6) (b := 8) (by show ¬ (6 = 8); omega) ⟨by omega, by omega⟩ ⟨by omega, by omega⟩ (by decide)) ?_
  refine jr_1 jm_247 (show jw_cd cd_247 6 = some (.iload_n 0) by decide +kernel) rfl ?_
  refine jr_1 jm_247 (show jw_cd cd_247 7 = some (.ifCond .ne 11) by decide +kernel) (mz_t (q := .ne) (a := 6) (t := 18) (by show ¬ (6 = 0); omega) ⟨by omega, by omega⟩ (by decide) (by decide)) ?_
  refine jr_1 jm_247 (show jw_cd cd_247 18 = some (.iload_n 0) by decide +kernel) rfl ?_
  refine jr_1 jm_247 (show jw_cd cd_247 19 = some (.iconst 3) by decide +kernel) rfl ?_
  refine jr_1 jm_247 (show jw_cd cd_247 20 = some (.if_icmp .ge 12) by decide +kernel) (mb_t (q := .ge) (a := 6) (b := 3) (t := 32) (by show 3 ≤ 6; omega) ⟨by omega, by omega⟩ ⟨by omega, by omega⟩ (by decide) (by decide)) ?_
  refine jr_1 jm_247 (show jw_cd cd_247 32 = some (.iload_n 0) by decide +kernel) rfl ?_
  refine jr_1 jm_247 (show jw_cd cd_247 33 = some (.iconst 4) by decide +kernel) rfl ?_
  refine jr_1 jm_247 (show jw_cd cd_247 34 = some (.if_icmp .ne 16) by decide +kernel) (mb_t (q := .ne) (a := 6) (b := 4) (t := 50) (by show ¬ (6 = 4); omega) ⟨by omega, by omega⟩ ⟨by omega, by omega⟩ (by decide) (by decide)) ?_
  refine jr_1 jm_247 (show jw_cd cd_247 50 = some (.iload_n 1) by decide +kernel) rfl ?_
  refine jr_1 jm_247 (show jw_cd cd_247 51 = some (.iconst 5) by decide +kernel) rfl ?_
  refine jr_1 jm_247 (show jw_cd cd_247 52 = some (.if_icmp .ne 7) by decide +kernel) (mb_t (q := .ne) (a := 6) (b := 5) (t := 59) (by show ¬ (6 = 5); omega) ⟨by omega, by omega⟩ ⟨by omega, by omega⟩ (by decide) (by decide)) ?_
  refine jr_1 jm_247 (show jw_cd cd_247 59 = some (.iconst 0) by decide +kernel) rfl ?_
  exact jr_v jm_247 (show jw_cd cd_247 60 = some (.ireturn) by decide +kernel) rfl
theorem jn_fit7_0 {β : Bool} {d : Nat} {h : jx_H} {σ : mS} (hl : 49 ≤ h.length)  : jx_r (jz β) jw_M (d) 247 (0, [some (.int (Int32.ofInt (7))), some (.int (Int32.ofInt (0)))], [], ml_mk h σ) (ml_mk h (σ), .inl (some (.int (Int32.ofInt (0))))) := by
  refine jr_1 jm_247 (show jw_cd cd_247 0 = some (.iload_n 0) by decide +kernel) rfl ?_
  refine jr_1 jm_247 (show jw_cd cd_247 1 = some (.bipush 8) by decide +kernel) (mt_bi (by decide)) ?_
  refine jr_1 jm_247 (show jw_cd cd_247 3 = some (.if_icmp .eq 52) by decide +kernel) (mb_f (q := .eq) (a := 7) (b := 8) (by show ¬ (7 = 8); omega) ⟨by omega, by omega⟩ ⟨by omega, by omega⟩ (by decide)) ?_
  refine jr_1 jm_247 (show jw_cd cd_247 6 = some (.iload_n 0) by decide +kernel) rfl ?_
  refine jr_1 jm_247 (show jw_cd cd_247 7 = some (.ifCond .ne 11) by decide +kernel) (mz_t (q := .ne) (a := 7) (t := 18) (by show ¬ (7 = 0); omega) ⟨by omega, by omega⟩ (by decide) (by decide)) ?_
  refine jr_1 jm_247 (show jw_cd cd_247 18 = some (.iload_n 0) by decide +kernel) rfl ?_
  refine jr_1 jm_247 (show jw_cd cd_247 19 = some (.iconst 3) by decide +kernel) rfl ?_
  refine jr_1 jm_247 (show jw_cd cd_247 20 = some (.if_icmp .ge 12) by decide +kernel) (mb_t (q := .ge) (a := 7) (b := 3) (t := 32) (by show 3 ≤ 7; omega) ⟨by omega, by omega⟩ ⟨by omega, by omega⟩ (by decide) (by decide)) ?_
  refine jr_1 jm_247 (show jw_cd cd_247 32 = some (.iload_n 0) by decide +kernel) rfl ?_
  refine jr_1 jm_247 (show jw_cd cd_247 33 = some (.iconst 4) by decide +kernel) rfl ?_
  refine jr_1 jm_247 (show jw_cd cd_247 34 = some (.if_icmp .ne 16) by decide +kernel) (mb_t (q := .ne) (a := 7) (b := 4) (t := 50) (by show ¬ (7 = 4); omega) ⟨by omega, by omega⟩ ⟨by omega, by omega⟩ (by decide) (by decide)) ?_
  refine jr_1 jm_247 (show jw_cd cd_247 50 = some (.iload_n 1) by decide +kernel) rfl ?_
  refine jr_1 jm_247 (show jw_cd cd_247 51 = some (.iconst 5) by decide +kernel) rfl ?_
  refine jr_1 jm_247 (show jw_cd cd_247 52 = some (.if_icmp .ne 7) by decide +kernel) (mb_t (q := .ne) (a := 0) (b := 5) (t := 59) (by show ¬ (0 = 5); omega) ⟨by omega, by omega⟩ ⟨by omega, by omega⟩ (by decide) (by decide)) ?_
  refine jr_1 jm_247 (show jw_cd cd_247 59 = some (.iconst 0) by decide +kernel) rfl ?_
  exact jr_v jm_247 (show jw_cd cd_247 60 = some (.ireturn) by decide +kernel) rfl
theorem jn_fit7_1 {β : Bool} {d : Nat} {h : jx_H} {σ : mS} (hl : 49 ≤ h.length)  : jx_r (jz β) jw_M (d) 247 (0, [some (.int (Int32.ofInt (7))), some (.int (Int32.ofInt (1)))], [], ml_mk h σ) (ml_mk h (σ), .inl (some (.int (Int32.ofInt (0))))) := by
  refine jr_1 jm_247 (show jw_cd cd_247 0 = some (.iload_n 0) by decide +kernel) rfl ?_
  refine jr_1 jm_247 (show jw_cd cd_247 1 = some (.bipush 8) by decide +kernel) (mt_bi (by decide)) ?_
  refine jr_1 jm_247 (show jw_cd cd_247 3 = some (.if_icmp .eq 52) by decide +kernel) (mb_f (q := .eq) (a := 7) (b := 8) (by show ¬ (7 = 8); omega) ⟨by omega, by omega⟩ ⟨by omega, by omega⟩ (by decide)) ?_
  refine jr_1 jm_247 (show jw_cd cd_247 6 = some (.iload_n 0) by decide +kernel) rfl ?_
  refine jr_1 jm_247 (show jw_cd cd_247 7 = some (.ifCond .ne 11) by decide +kernel) (mz_t (q := .ne) (a := 7) (t := 18) (by show ¬ (7 = 0); omega) ⟨by omega, by omega⟩ (by decide) (by decide)) ?_
  refine jr_1 jm_247 (show jw_cd cd_247 18 = some (.iload_n 0) by decide +kernel) rfl ?_
  refine jr_1 jm_247 (show jw_cd cd_247 19 = some (.iconst 3) by decide +kernel) rfl ?_
  refine jr_1 jm_247 (show jw_cd cd_247 20 = some (.if_icmp .ge 12) by decide +kernel) (mb_t (q := .ge) (a := 7) (b := 3) (t := 32) (by show 3 ≤ 7; omega) ⟨by omega, by omega⟩ ⟨by omega, by omega⟩ (by decide) (by decide)) ?_
  refine jr_1 jm_247 (show jw_cd cd_247 32 = some (.iload_n 0) by decide +kernel) rfl ?_
  refine jr_1 jm_247 (show jw_cd cd_247 33 = some (.iconst 4) by decide +kernel) rfl ?_
  refine jr_1 jm_247 (show jw_cd cd_247 34 = some (.if_icmp .ne 16) by decide +kernel) (mb_t (q := .ne) (a := 7) (b := 4) (t := 50) (by show ¬ (7 = 4); omega) ⟨by omega, by omega⟩ ⟨by omega, by omega⟩ (by decide) (by decide)) ?_
  refine jr_1 jm_247 (show jw_cd cd_247 50 = some (.iload_n 1) by decide +kernel) rfl ?_
  refine jr_1 jm_247 (show jw_cd cd_247 51 = some (.iconst 5) by decide +kernel) rfl ?_
  refine jr_1 jm_247 (show jw_cd cd_247 52 = some (.if_icmp .ne 7) by decide +kernel) (mb_t (q := .ne) (a := 1) (b := 5) (t := 59) (by show ¬ (1 = 5); omega) ⟨by omega, by omega⟩ ⟨by omega, by omega⟩ (by decide) (by decide)) ?_
  refine jr_1 jm_247 (show jw_cd cd_247 59 = some (.iconst 0) by decide +kernel) rfl ?_
  exact jr_v jm_247 (show jw_cd cd_247 60 = some (.ireturn) by decide +kernel) rfl
theorem jn_fit7_2 {β : Bool} {d : Nat} {h : jx_H} {σ : mS} (hl : 49 ≤ h.length)  : jx_r (jz β) jw_M (d) 247 (0, [some (.int (Int32.ofInt (7))), some (.int (Int32.ofInt (2)))], [], ml_mk h σ) (ml_mk h (σ), .inl (some (.int (Int32.ofInt (0))))) := by
  refine jr_1 jm_247 (show jw_cd cd_247 0 = some (.iload_n 0) by decide +kernel) rfl ?_
  refine jr_1 jm_247 (show jw_cd cd_247 1 = some (.bipush 8) by decide +kernel) (mt_bi (by decide)) ?_
  refine jr_1 jm_247 (show jw_cd cd_247 3 = some (.if_icmp .eq 52) by decide +kernel) (mb_f (q := .eq) (a := 7) (b := 8) (by show ¬ (7 = 8); omega) ⟨by omega, by omega⟩ ⟨by omega, by omega⟩ (by decide)) ?_
  refine jr_1 jm_247 (show jw_cd cd_247 6 = some (.iload_n 0) by decide +kernel) rfl ?_
  refine jr_1 jm_247 (show jw_cd cd_247 7 = some (.ifCond .ne 11) by decide +kernel) (mz_t (q := .ne) (a := 7) (t := 18) (by show ¬ (7 = 0); omega) ⟨by omega, by omega⟩ (by decide) (by decide)) ?_
  refine jr_1 jm_247 (show jw_cd cd_247 18 = some (.iload_n 0) by decide +kernel) rfl ?_
  refine jr_1 jm_247 (show jw_cd cd_247 19 = some (.iconst 3) by decide +kernel) rfl ?_
  refine jr_1 jm_247 (show jw_cd cd_247 20 = some (.if_icmp .ge 12) by decide +kernel) (mb_t (q := .ge) (a := 7) (b := 3) (t := 32) (by show 3 ≤ 7; omega) ⟨by omega, by omega⟩ ⟨by omega, by omega⟩ (by decide) (by decide)) ?_
  refine jr_1 jm_247 (show jw_cd cd_247 32 = some (.iload_n 0) by decide +kernel) rfl ?_
  refine jr_1 jm_247 (show jw_cd cd_247 33 = some (.iconst 4) by decide +kernel) rfl ?_
  refine jr_1 jm_247 (show jw_cd cd_247 34 = some (.if_icmp .ne 16) by decide +kernel) (mb_t (q := .ne) (a := 7) (b := 4) (t := 50) (by show ¬ (7 = 4); omega) ⟨by omega, by omega⟩ ⟨by omega, by omega⟩ (by decide) (by decide)) ?_
  refine jr_1 jm_247 (show jw_cd cd_247 50 = some (.iload_n 1) by decide +kernel) rfl ?_
  refine jr_1 jm_247 (show jw_cd cd_247 51 = some (.iconst 5) by decide +kernel) rfl ?_
  refine jr_1 jm_247 (show jw_cd cd_247 52 = some (.if_icmp .ne 7) by decide +kernel) (mb_t (q := .ne) (a := 2) (b := 5) (t := 59) (by show ¬ (2 = 5); omega) ⟨by omega, by omega⟩ ⟨by omega, by omega⟩ (by decide) (by decide)) ?_
  refine jr_1 jm_247 (show jw_cd cd_247 59 = some (.iconst 0) by decide +kernel) rfl ?_
  exact jr_v jm_247 (show jw_cd cd_247 60 = some (.ireturn) by decide +kernel) rfl
theorem jn_fit7_3 {β : Bool} {d : Nat} {h : jx_H} {σ : mS} (hl : 49 ≤ h.length)  : jx_r (jz β) jw_M (d) 247 (0, [some (.int (Int32.ofInt (7))), some (.int (Int32.ofInt (3)))], [], ml_mk h σ) (ml_mk h (σ), .inl (some (.int (Int32.ofInt (0))))) := by
  refine jr_1 jm_247 (show jw_cd cd_247 0 = some (.iload_n 0) by decide +kernel) rfl ?_
  refine jr_1 jm_247 (show jw_cd cd_247 1 = some (.bipush 8) by decide +kernel) (mt_bi (by decide)) ?_
  refine jr_1 jm_247 (show jw_cd cd_247 3 = some (.if_icmp .eq 52) by decide +kernel) (mb_f (q := .eq) (a := 7) (b := 8) (by show ¬ (7 = 8); omega) ⟨by omega, by omega⟩ ⟨by omega, by omega⟩ (by decide)) ?_
  refine jr_1 jm_247 (show jw_cd cd_247 6 = some (.iload_n 0) by decide +kernel) rfl ?_
  refine jr_1 jm_247 (show jw_cd cd_247 7 = some (.ifCond .ne 11) by decide +kernel) (mz_t (q := .ne) (a := 7) (t := 18) (by show ¬ (7 = 0); omega) ⟨by omega, by omega⟩ (by decide) (by decide)) ?_
  refine jr_1 jm_247 (show jw_cd cd_247 18 = some (.iload_n 0) by decide +kernel) rfl ?_
  refine jr_1 jm_247 (show jw_cd cd_247 19 = some (.iconst 3) by decide +kernel) rfl ?_
  refine jr_1 jm_247 (show jw_cd cd_247 20 = some (.if_icmp .ge 12) by decide +kernel) (mb_t (q := .ge) (a := 7) (b := 3) (t := 32) (by show 3 ≤ 7; omega) ⟨by omega, by omega⟩ ⟨by omega, by omega⟩ (by decide) (by decide)) ?_
  refine jr_1 jm_247 (show jw_cd cd_247 32 = some (.iload_n 0) by decide +kernel) rfl ?_
  refine jr_1 jm_247 (show jw_cd cd_247 33 = some (.iconst 4) by decide +kernel) rfl ?_
  refine jr_1 jm_247 (show jw_cd cd_247 34 = some (.if_icmp .ne 16) by decide +kernel) (mb_t (q := .ne) (a := 7) (b := 4) (t := 50) (by show ¬ (7 = 4); omega) ⟨by omega, by omega⟩ ⟨by omega, by omega⟩ (by decide) (by decide)) ?_
  refine jr_1 jm_247 (show jw_cd cd_247 50 = some (.iload_n 1) by decide +kernel) rfl ?_
  refine jr_1 jm_247 (show jw_cd cd_247 51 = some (.iconst 5) by decide +kernel) rfl ?_
  refine jr_1 jm_247 (show jw_cd cd_247 52 = some (.if_icmp .ne 7) by decide +kernel) (mb_t (q := .ne) (a := 3) (b := 5) (t := 59) (by show ¬ (3 = 5); omega) ⟨by omega, by omega⟩ ⟨by omega, by omega⟩ (by decide) (by decide)) ?_
  refine jr_1 jm_247 (show jw_cd cd_247 59 = some (.iconst 0) by decide +kernel) rfl ?_
  exact jr_v jm_247 (show jw_cd cd_247 60 = some (.ireturn) by decide +kernel) rfl
theorem jn_fit7_4 {β : Bool} {d : Nat} {h : jx_H} {σ : mS} (hl : 49 ≤ h.length)  : jx_r (jz β) jw_M (d) 247 (0, [some (.int (Int32.ofInt (7))), some (.int (Int32.ofInt (4)))], [], ml_mk h σ) (ml_mk h (σ), .inl (some (.int (Int32.ofInt (0))))) := by
  refine jr_1 jm_247 (show jw_cd cd_247 0 = some (.iload_n 0) by decide +kernel) rfl ?_
  refine jr_1 jm_247 (show jw_cd cd_247 1 = some (.bipush 8) by decide +kernel) (mt_bi (by decide)) ?_
  refine jr_1 jm_247 (show jw_cd cd_247 3 = some (.if_icmp .eq 52) by decide +kernel) (mb_f (q := .eq) (a := 7) (b := 8) (by show ¬ (7 = 8); omega) ⟨by omega, by omega⟩ ⟨by omega, by omega⟩ (by decide)) ?_
  refine jr_1 jm_247 (show jw_cd cd_247 6 = some (.iload_n 0) by decide +kernel) rfl ?_
  refine jr_1 jm_247 (show jw_cd cd_247 7 = some (.ifCond .ne 11) by decide +kernel) (mz_t (q := .ne) (a := 7) (t := 18) (by show ¬ (7 = 0); omega) ⟨by omega, by omega⟩ (by decide) (by decide)) ?_
  refine jr_1 jm_247 (show jw_cd cd_247 18 = some (.iload_n 0) by decide +kernel) rfl ?_
  refine jr_1 jm_247 (show jw_cd cd_247 19 = some (.iconst 3) by decide +kernel) rfl ?_
  refine jr_1 jm_247 (show jw_cd cd_247 20 = some (.if_icmp .ge 12) by decide +kernel) (mb_t (q := .ge) (a := 7) (b := 3) (t := 32) (by show 3 ≤ 7; omega) ⟨by omega, by omega⟩ ⟨by omega, by omega⟩ (by decide) (by decide)) ?_
  refine jr_1 jm_247 (show jw_cd cd_247 32 = some (.iload_n 0) by decide +kernel) rfl ?_
  refine jr_1 jm_247 (show jw_cd cd_247 33 = some (.iconst 4) by decide +kernel) rfl ?_
  refine jr_1 jm_247 (show jw_cd cd_247 34 = some (.if_icmp .ne 16) by decide +kernel) (mb_t (q := .ne) (a := 7) (b := 4) (t := 50) (by show ¬ (7 = 4); omega) ⟨by omega, by omega⟩ ⟨by omega, by omega⟩ (by decide) (by decide)) ?_
  refine jr_1 jm_247 (show jw_cd cd_247 50 = some (.iload_n 1) by decide +kernel) rfl ?_
  refine jr_1 jm_247 (show jw_cd cd_247 51 = some (.iconst 5) by decide +kernel) rfl ?_
  refine jr_1 jm_247 (show jw_cd cd_247 52 = some (.if_icmp .ne 7) by decide +kernel) (mb_t (q := .ne) (a := 4) (b := 5) (t := 59) (by show ¬ (4 = 5); omega) ⟨by omega, by omega⟩ ⟨by omega, by omega⟩ (by decide) (by decide)) ?_
  refine jr_1 jm_247 (show jw_cd cd_247 59 = some (.iconst 0) by decide +kernel) rfl ?_
  exact jr_v jm_247 (show jw_cd cd_247 60 = some (.ireturn) by decide +kernel) rfl
theorem jn_fit7_5 {β : Bool} {d : Nat} {h : jx_H} {σ : mS} (hl : 49 ≤ h.length)  : jx_r (jz β) jw_M (d) 247 (0, [some (.int (Int32.ofInt (7))), some (.int (Int32.ofInt (5)))], [], ml_mk h σ) (ml_mk h (σ), .inl (some (.int (Int32.ofInt (1))))) := by
  refine jr_1 jm_247 (show jw_cd cd_247 0 = some (.iload_n 0) by decide +kernel) rfl ?_
  refine jr_1 jm_247 (show jw_cd cd_247 1 = some (.bipush 8) by decide +kernel) (mt_bi (by decide)) ?_
  refine jr_1 jm_247 (show jw_cd cd_247 3 = some (.if_icmp .eq 52) by decide +kernel) (mb_f (q := .eq) (a := 7) (b := 8) (by show ¬ (7 = 8); omega) ⟨by omega, by omega⟩ ⟨by omega, by omega⟩ (by decide)) ?_
  refine jr_1 jm_247 (show jw_cd cd_247 6 = some (.iload_n 0) by decide +kernel) rfl ?_
  refine jr_1 jm_247 (show jw_cd cd_247 7 = some (.ifCond .ne 11) by decide +kernel) (mz_t (q := .ne) (a := 7) (t := 18) (by show ¬ (7 = 0); omega) ⟨by omega, by omega⟩ (by decide) (by decide)) ?_
  refine jr_1 jm_247 (show jw_cd cd_247 18 = some (.iload_n 0) by decide +kernel) rfl ?_
  refine jr_1 jm_247 (show jw_cd cd_247 19 = some (.iconst 3) by decide +kernel) rfl ?_
  refine jr_1 jm_247 (show jw_cd cd_247 20 = some (.if_icmp .ge 12) by decide +kernel) (mb_t (q := .ge) (a := 7) (b := 3) (t := 32) (by show 3 ≤ 7; omega) ⟨by omega, by omega⟩ ⟨by omega, by omega⟩ (by decide) (by decide)) ?_
  refine jr_1 jm_247 (show jw_cd cd_247 32 = some (.iload_n 0) by decide +kernel) rfl ?_
  refine jr_1 jm_247 (show jw_cd cd_247 33 = some (.iconst 4) by decide +kernel) rfl ?_
  refine jr_1 jm_247 (show jw_cd cd_247 34 = some (.if_icmp .ne 16) by decide +kernel) (mb_t (q := .ne) (a := 7) (b := 4) (t := 50) (by show ¬ (7 = 4); omega) ⟨by omega, by omega⟩ ⟨by omega, by omega⟩ (by decide) (by decide)) ?_
  refine jr_1 jm_247 (show jw_cd cd_247 50 = some (.iload_n 1) by decide +kernel) rfl ?_
  refine jr_1 jm_247 (show jw_cd cd_247 51 = some (.iconst 5) by decide +kernel) rfl ?_
  refine jr_1 jm_247 (show jw_cd cd_247 52 = some (.if_icmp .ne 7) by decide +kernel) (mb_f (q := .ne) (a := 5) (b := 5) (by show ¬ (¬ (5 = 5)); omega) ⟨by omega, by omega⟩ ⟨by omega, by omega⟩ (by decide)) ?_
  refine jr_1 jm_247 (show jw_cd cd_247 55 = some (.iconst 1) by decide +kernel) rfl ?_
  refine jr_1 jm_247 (show jw_cd cd_247 56 = some (.goto 4) by decide +kernel) (ju_go (t := 60) (by decide)) ?_
  exact jr_v jm_247 (show jw_cd cd_247 60 = some (.ireturn) by decide +kernel) rfl
theorem jn_fit7_6 {β : Bool} {d : Nat} {h : jx_H} {σ : mS} (hl : 49 ≤ h.length)  : jx_r (jz β) jw_M (d) 247 (0, [some (.int (Int32.ofInt (7))), some (.int (Int32.ofInt (6)))], [], ml_mk h σ) (ml_mk h (σ), .inl (some (.int (Int32.ofInt (0))))) := by
  refine jr_1 jm_247 (show jw_cd cd_247 0 = some (.iload_n 0) by decide +kernel) rfl ?_
  refine jr_1 jm_247 (show jw_cd cd_247 1 = some (.bipush 8) by decide +kernel) (mt_bi (by decide)) ?_
  refine jr_1 jm_247 (show jw_cd cd_247 3 = some (.if_icmp .eq 52) by decide +kernel) (mb_f (q := .eq) (a := 7) (b := 8) (by show ¬ (7 = 8); omega) ⟨by omega, by omega⟩ ⟨by omega, by omega⟩ (by decide)) ?_
  refine jr_1 jm_247 (show jw_cd cd_247 6 = some (.iload_n 0) by decide +kernel) rfl ?_
  refine jr_1 jm_247 (show jw_cd cd_247 7 = some (.ifCond .ne 11) by decide +kernel) (mz_t (q := .ne) (a := 7) (t := 18) (by show ¬ (7 = 0); omega) ⟨by omega, by omega⟩ (by decide) (by decide)) ?_
  refine jr_1 jm_247 (show jw_cd cd_247 18 = some (.iload_n 0) by decide +kernel) rfl ?_
  refine jr_1 jm_247 (show jw_cd cd_247 19 = some (.iconst 3) by decide +kernel) rfl ?_
  refine jr_1 jm_247 (show jw_cd cd_247 20 = some (.if_icmp .ge 12) by decide +kernel) (mb_t (q := .ge) (a := 7) (b := 3) (t := 32) (by show 3 ≤ 7; omega) ⟨by omega, by omega⟩ ⟨by omega, by omega⟩ (by decide) (by decide)) ?_
  refine jr_1 jm_247 (show jw_cd cd_247 32 = some (.iload_n 0) by decide +kernel) rfl ?_
  refine jr_1 jm_247 (show jw_cd cd_247 33 = some (.iconst 4) by decide +kernel) rfl ?_
  refine jr_1 jm_247 (show jw_cd cd_247 34 = some (.if_icmp .ne 16) by decide +kernel) (mb_t (q := .ne) (a := 7) (b := 4) (t := 50) (by show ¬ (7 = 4); omega) ⟨by omega, by omega⟩ ⟨by omega, by omega⟩ (by decide) (by decide)) ?_
  refine jr_1 jm_247 (show jw_cd cd_247 50 = some (.iload_n 1) by decide +kernel) rfl ?_
  refine jr_1 jm_247 (show jw_cd cd_247 51 = some (.iconst 5) by decide +kernel) rfl ?_
  refine jr_1 jm_247 (show jw_cd cd_247 52 = some (.if_icmp .ne 7) by decide +kernel) (mb_t (q := .ne) (a := 6) (b := 5) (t := 59) (by show ¬ (6 = 5); omega) ⟨by omega, by omega⟩ ⟨by omega, by omega⟩ (by decide) (by decide)) ?_
  refine jr_1 jm_247 (show jw_cd cd_247 59 = some (.iconst 0) by decide +kernel) rfl ?_
  exact jr_v jm_247 (show jw_cd cd_247 60 = some (.ireturn) by decide +kernel) rfl
theorem jn_fit8_0 {β : Bool} {d : Nat} {h : jx_H} {σ : mS} (hl : 49 ≤ h.length)  : jx_r (jz β) jw_M (d) 247 (0, [some (.int (Int32.ofInt (8))), some (.int (Int32.ofInt (0)))], [], ml_mk h σ) (ml_mk h (σ), .inl (some (.int (Int32.ofInt (1))))) := by
  refine jr_1 jm_247 (show jw_cd cd_247 0 = some (.iload_n 0) by decide +kernel) rfl ?_
  refine jr_1 jm_247 (show jw_cd cd_247 1 = some (.bipush 8) by decide +kernel) (mt_bi (by decide)) ?_
  refine jr_1 jm_247 (show jw_cd cd_247 3 = some (.if_icmp .eq 52) by decide +kernel) (mb_t (q := .eq) (a := 8) (b := 8) (t := 55) (by show 8 = 8; omega) ⟨by omega, by omega⟩ ⟨by omega, by omega⟩ (by decide) (by decide)) ?_
  refine jr_1 jm_247 (show jw_cd cd_247 55 = some (.iconst 1) by decide +kernel) rfl ?_
  refine jr_1 jm_247 (show jw_cd cd_247 56 = some (.goto 4) by decide +kernel) (ju_go (t := 60) (by decide)) ?_
  exact jr_v jm_247 (show jw_cd cd_247 60 = some (.ireturn) by decide +kernel) rfl
theorem jn_fit8_1 {β : Bool} {d : Nat} {h : jx_H} {σ : mS} (hl : 49 ≤ h.length)  : jx_r (jz β) jw_M (d) 247 (0, [some (.int (Int32.ofInt (8))), some (.int (Int32.ofInt (1)))], [], ml_mk h σ) (ml_mk h (σ), .inl (some (.int (Int32.ofInt (1))))) := by
  refine jr_1 jm_247 (show jw_cd cd_247 0 = some (.iload_n 0) by decide +kernel) rfl ?_
  refine jr_1 jm_247 (show jw_cd cd_247 1 = some (.bipush 8) by decide +kernel) (mt_bi (by decide)) ?_
  refine jr_1 jm_247 (show jw_cd cd_247 3 = some (.if_icmp .eq 52) by decide +kernel) (mb_t (q := .eq) (a := 8) (b := 8) (t := 55) (by show 8 = 8; omega) ⟨by omega, by omega⟩ ⟨by omega, by omega⟩ (by decide) (by decide)) ?_
  refine jr_1 jm_247 (show jw_cd cd_247 55 = some (.iconst 1) by decide +kernel) rfl ?_
  refine jr_1 jm_247 (show jw_cd cd_247 56 = some (.goto 4) by decide +kernel) (ju_go (t := 60) (by decide)) ?_
  exact jr_v jm_247 (show jw_cd cd_247 60 = some (.ireturn) by decide +kernel) rfl
theorem jn_fit8_2 {β : Bool} {d : Nat} {h : jx_H} {σ : mS} (hl : 49 ≤ h.length)  : jx_r (jz β) jw_M (d) 247 (0, [some (.int (Int32.ofInt (8))), some (.int (Int32.ofInt (2)))], [], ml_mk h σ) (ml_mk h (σ), .inl (some (.int (Int32.ofInt (1))))) := by
  refine jr_1 jm_247 (show jw_cd cd_247 0 = some (.iload_n 0) by decide +kernel) rfl ?_
  refine jr_1 jm_247 (show jw_cd cd_247 1 = some (.bipush 8) by decide +kernel) (mt_bi (by decide)) ?_
  refine jr_1 jm_247 (show jw_cd cd_247 3 = some (.if_icmp .eq 52) by decide +kernel) (mb_t (q := .eq) (a := 8) (b := 8) (t := 55) (by show 8 = 8; omega) ⟨by omega, by omega⟩ ⟨by omega, by omega⟩ (by decide) (by decide)) ?_
  refine jr_1 jm_247 (show jw_cd cd_247 55 = some (.iconst 1) by decide +kernel) rfl ?_
  refine jr_1 jm_247 (show jw_cd cd_247 56 = some (.goto 4) by decide +kernel) (ju_go (t := 60) (by decide)) ?_
  exact jr_v jm_247 (show jw_cd cd_247 60 = some (.ireturn) by decide +kernel) rfl
theorem jn_fit8_3 {β : Bool} {d : Nat} {h : jx_H} {σ : mS} (hl : 49 ≤ h.length)  : jx_r (jz β) jw_M (d) 247 (0, [some (.int (Int32.ofInt (8))), some (.int (Int32.ofInt (3)))], [], ml_mk h σ) (ml_mk h (σ), .inl (some (.int (Int32.ofInt (1))))) := by
  refine jr_1 jm_247 (show jw_cd cd_247 0 = some (.iload_n 0) by decide +kernel) rfl ?_
  refine jr_1 jm_247 (show jw_cd cd_247 1 = some (.bipush 8) by decide +kernel) (mt_bi (by decide)) ?_
  refine jr_1 jm_247 (show jw_cd cd_247 3 = some (.if_icmp .eq 52) by decide +kernel) (mb_t (q := .eq) (a := 8) (b := 8) (t := 55) (by show 8 = 8; omega) ⟨by omega, by omega⟩ ⟨by omega, by omega⟩ (by decide) (by decide)) ?_
  refine jr_1 jm_247 (show jw_cd cd_247 55 = some (.iconst 1) by decide +kernel) rfl ?_
  refine jr_1 jm_247 (show jw_cd cd_247 56 = some (.goto 4) by decide +kernel) (ju_go (t := 60) (by decide)) ?_
  exact jr_v jm_247 (show jw_cd cd_247 60 = some (.ireturn) by decide +kernel) rfl
theorem jn_fit8_4 {β : Bool} {d : Nat} {h : jx_H} {σ : mS} (hl : 49 ≤ h.length)  : jx_r (jz β) jw_M (d) 247 (0, [some (.int (Int32.ofInt (8))), some (.int (Int32.ofInt (4)))], [], ml_mk h σ) (ml_mk h (σ), .inl (some (.int (Int32.ofInt (1))))) := by
  refine jr_1 jm_247 (show jw_cd cd_247 0 = some (.iload_n 0) by decide +kernel) rfl ?_
  refine jr_1 jm_247 (show jw_cd cd_247 1 = some (.bipush 8) by decide +kernel) (mt_bi (by decide)) ?_
  refine jr_1 jm_247 (show jw_cd cd_247 3 = some (.if_icmp .eq 52) by decide +kernel) (mb_t (q := .eq) (a := 8) (b := 8) (t := 55) (by show 8 = 8; omega) ⟨by omega, by omega⟩ ⟨by omega, by omega⟩ (by decide) (by decide)) ?_
  refine jr_1 jm_247 (show jw_cd cd_247 55 = some (.iconst 1) by decide +kernel) rfl ?_
  refine jr_1 jm_247 (show jw_cd cd_247 56 = some (.goto 4) by decide +kernel) (ju_go (t := 60) (by decide)) ?_
  exact jr_v jm_247 (show jw_cd cd_247 60 = some (.ireturn) by decide +kernel) rfl
theorem jn_fit8_5 {β : Bool} {d : Nat} {h : jx_H} {σ : mS} (hl : 49 ≤ h.length)  : jx_r (jz β) jw_M (d) 247 (0, [some (.int (Int32.ofInt (8))), some (.int (Int32.ofInt (5)))], [], ml_mk h σ) (ml_mk h (σ), .inl (some (.int (Int32.ofInt (1))))) := by
  refine jr_1 jm_247 (show jw_cd cd_247 0 = some (.iload_n 0) by decide +kernel) rfl ?_
  refine jr_1 jm_247 (show jw_cd cd_247 1 = some (.bipush 8) by decide +kernel) (mt_bi (by decide)) ?_
  refine jr_1 jm_247 (show jw_cd cd_247 3 = some (.if_icmp .eq 52) by decide +kernel) (mb_t (q := .eq) (a := 8) (b := 8) (t := 55) (by show 8 = 8; omega) ⟨by omega, by omega⟩ ⟨by omega, by omega⟩ (by decide) (by decide)) ?_
  refine jr_1 jm_247 (show jw_cd cd_247 55 = some (.iconst 1) by decide +kernel) rfl ?_
  refine jr_1 jm_247 (show jw_cd cd_247 56 = some (.goto 4) by decide +kernel) (ju_go (t := 60) (by decide)) ?_
  exact jr_v jm_247 (show jw_cd cd_247 60 = some (.ireturn) by decide +kernel) rfl
theorem jn_fit8_6 {β : Bool} {d : Nat} {h : jx_H} {σ : mS} (hl : 49 ≤ h.length)  : jx_r (jz β) jw_M (d) 247 (0, [some (.int (Int32.ofInt (8))), some (.int (Int32.ofInt (6)))], [], ml_mk h σ) (ml_mk h (σ), .inl (some (.int (Int32.ofInt (1))))) := by
  refine jr_1 jm_247 (show jw_cd cd_247 0 = some (.iload_n 0) by decide +kernel) rfl ?_
  refine jr_1 jm_247 (show jw_cd cd_247 1 = some (.bipush 8) by decide +kernel) (mt_bi (by decide)) ?_
  refine jr_1 jm_247 (show jw_cd cd_247 3 = some (.if_icmp .eq 52) by decide +kernel) (mb_t (q := .eq) (a := 8) (b := 8) (t := 55) (by show 8 = 8; omega) ⟨by omega, by omega⟩ ⟨by omega, by omega⟩ (by decide) (by decide)) ?_
  refine jr_1 jm_247 (show jw_cd cd_247 55 = some (.iconst 1) by decide +kernel) rfl ?_
  refine jr_1 jm_247 (show jw_cd cd_247 56 = some (.goto 4) by decide +kernel) (ju_go (t := 60) (by decide)) ?_
  exact jr_v jm_247 (show jw_cd cd_247 60 = some (.ireturn) by decide +kernel) rfl
theorem jn_fits {β : Bool} {d : Nat} {h : jx_H} {σ : mS} (hl : 49 ≤ h.length) {w k : Int} (hw : 0 ≤ w ∧ w ≤ 8) (hk : 0 ≤ k ∧ k ≤ 6) : jx_r (jz β) jw_M (d) 247 (0, [some (.int (Int32.ofInt (w))), some (.int (Int32.ofInt (k)))], [], ml_mk h σ) (ml_mk h (σ), .inl (some (.int (Int32.ofInt (if fitS w k = true then 1 else 0))))) := by
  obtain rfl | rfl | rfl | rfl | rfl | rfl | rfl | rfl | rfl : w = 0 ∨ w = 1 ∨ w = 2 ∨ w = 3 ∨ w = 4 ∨ w = 5 ∨ w = 6 ∨ w = 7 ∨ w = 8 := by omega
  · obtain rfl | rfl | rfl | rfl | rfl | rfl | rfl : k = 0 ∨ k = 1 ∨ k = 2 ∨ k = 3 ∨ k = 4 ∨ k = 5 ∨ k = 6 := by omega
    · exact jn_fit0_0 hl
    · exact jn_fit0_1 hl
    · exact jn_fit0_2 hl
    · exact jn_fit0_3 hl
    · exact jn_fit0_4 hl
    · exact jn_fit0_5 hl
    · exact jn_fit0_6 hl
  · obtain rfl | rfl | rfl | rfl | rfl | rfl | rfl : k = 0 ∨ k = 1 ∨ k = 2 ∨ k = 3 ∨ k = 4 ∨ k = 5 ∨ k = 6 := by omega
    · exact jn_fit1_0 hl
    · exact jn_fit1_1 hl
    · exact jn_fit1_2 hl
    · exact jn_fit1_3 hl
    · exact jn_fit1_4 hl
    · exact jn_fit1_5 hl
    · exact jn_fit1_6 hl
  · obtain rfl | rfl | rfl | rfl | rfl | rfl | rfl : k = 0 ∨ k = 1 ∨ k = 2 ∨ k = 3 ∨ k = 4 ∨ k = 5 ∨ k = 6 := by omega
    · exact jn_fit2_0 hl
    · exact jn_fit2_1 hl
    · exact jn_fit2_2 hl
    · exact jn_fit2_3 hl
    · exact jn_fit2_4 hl
    · exact jn_fit2_5 hl
    · exact jn_fit2_6 hl
  · obtain rfl | rfl | rfl | rfl | rfl | rfl | rfl : k = 0 ∨ k = 1 ∨ k = 2 ∨ k = 3 ∨ k = 4 ∨ k = 5 ∨ k = 6 := by omega
    · exact jn_fit3_0 hl
    · exact jn_fit3_1 hl
    · exact jn_fit3_2 hl
    · exact jn_fit3_3 hl
    · exact jn_fit3_4 hl
    · exact jn_fit3_5 hl
    · exact jn_fit3_6 hl
  · obtain rfl | rfl | rfl | rfl | rfl | rfl | rfl : k = 0 ∨ k = 1 ∨ k = 2 ∨ k = 3 ∨ k = 4 ∨ k = 5 ∨ k = 6 := by omega
    · exact jn_fit4_0 hl
    · exact jn_fit4_1 hl
    · exact jn_fit4_2 hl
    · exact jn_fit4_3 hl
    · exact jn_fit4_4 hl
    · exact jn_fit4_5 hl
    · exact jn_fit4_6 hl
  · obtain rfl | rfl | rfl | rfl | rfl | rfl | rfl : k = 0 ∨ k = 1 ∨ k = 2 ∨ k = 3 ∨ k = 4 ∨ k = 5 ∨ k = 6 := by omega
    · exact jn_fit5_0 hl
    · exact jn_fit5_1 hl
    · exact jn_fit5_2 hl
    · exact jn_fit5_3 hl
    · exact jn_fit5_4 hl
    · exact jn_fit5_5 hl
    · exact jn_fit5_6 hl
  · obtain rfl | rfl | rfl | rfl | rfl | rfl | rfl : k = 0 ∨ k = 1 ∨ k = 2 ∨ k = 3 ∨ k = 4 ∨ k = 5 ∨ k = 6 := by omega
    · exact jn_fit6_0 hl
    · exact jn_fit6_1 hl
    · exact jn_fit6_2 hl
    · exact jn_fit6_3 hl
    · exact jn_fit6_4 hl
    · exact jn_fit6_5 hl
    · exact jn_fit6_6 hl
  · obtain rfl | rfl | rfl | rfl | rfl | rfl | rfl : k = 0 ∨ k = 1 ∨ k = 2 ∨ k = 3 ∨ k = 4 ∨ k = 5 ∨ k = 6 := by omega
    · exact jn_fit7_0 hl
    · exact jn_fit7_1 hl
    · exact jn_fit7_2 hl
    · exact jn_fit7_3 hl
    · exact jn_fit7_4 hl
    · exact jn_fit7_5 hl
    · exact jn_fit7_6 hl
  · obtain rfl | rfl | rfl | rfl | rfl | rfl | rfl : k = 0 ∨ k = 1 ∨ k = 2 ∨ k = 3 ∨ k = 4 ∨ k = 5 ∨ k = 6 := by omega
    · exact jn_fit8_0 hl
    · exact jn_fit8_1 hl
    · exact jn_fit8_2 hl
    · exact jn_fit8_3 hl
    · exact jn_fit8_4 hl
    · exact jn_fit8_5 hl
    · exact jn_fit8_6 hl
