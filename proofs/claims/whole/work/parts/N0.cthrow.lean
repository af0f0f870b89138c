/-! ===== the class: letter; what query and run throw (printed by program: gen137.py) ===== -/
theorem cthr {β : Bool} {cd : Nat → Option Instr} {own pc : Nat} {rt : Option FieldType × Bool} {lo : jx_L} {h : jx_H} {κ : mS} {k ic ci : Nat} (hl : 50 ≤ h.length) (hb : h.length < 4000000000) (hx : jw_find jw_xcT own k = some (ic, ci)) (h3 : cd (pc + 3) = some .dup) (h4 : cd (pc + 4) = some (.invokespecial ic)) (h7 : cd (pc + 7) = some .athrow) : jx_do (jz β) cd own pc rt (.new k) lo [] (cl_mk h κ) = some (.inr (.inr (.inr (h.length, cl_mk (h ++ [.inr (ci, [])]) κ)))) := by
  have e0 : (cl_mk h κ).length = h.length := cl_len (by omega)
  have e := jr_new (T := jz β) (own := own) (pc := pc) (rt := rt) (lo := lo) (h := cl_mk h κ) (k := k) (ic := ic) (ci := ci) hx h3 h4 h7 (by rw [e0]; exact jbg (by omega))
  rw [e0, ← cl_appL (by omega)] at e
  exact e
theorem jc_letA {β : Bool} {d : Nat} {h : jx_H} {κ : mS} (hl : 50 ≤ h.length) (hb : h.length < 4000000000) {x : Int} (hx : mr x) (h1 : x < 32) : jx_r (jz β) jw_M (d) 114 (0, [some (.ref 0), some (.int (Int32.ofInt (x)))], [], (cl_mk h κ)) (cl_mk (h ++ [.inr (8, [])]) κ, .inr h.length) := by
  obtain ⟨x1, x2⟩ := hx
  refine jr_1 jm_114 (show jw_cd cd_114 0 = some (.iload_n 1) by decide +kernel) rfl ?_
  refine jr_1 jm_114 (show jw_cd cd_114 1 = some (.bipush 32) by decide +kernel) (mt_bi (by decide)) ?_
  refine jr_1 jm_114 (show jw_cd cd_114 3 = some (.if_icmp .lt 9) by decide +kernel) (mb_t (q := .lt) (a := x) (b := 32) (t := 12) (by show x < 32; omega) ⟨by omega, by omega⟩ ⟨by omega, by omega⟩ (by decide) (by decide)) ?_
  exact jr_x jm_114 (show jw_cd cd_114 12 = some (.new 75) by decide +kernel) (cthr (ic := 77) hl (by omega) (by decide +kernel) (by decide +kernel) (by decide +kernel) (by decide +kernel))
theorem jc_letB {β : Bool} {d : Nat} {h : jx_H} {κ : mS} (hl : 50 ≤ h.length) (hb : h.length < 4000000000) {x : Int} (hx : mr x) (h1 : 126 < x) : jx_r (jz β) jw_M (d) 114 (0, [some (.ref 0), some (.int (Int32.ofInt (x)))], [], (cl_mk h κ)) (cl_mk (h ++ [.inr (8, [])]) κ, .inr h.length) := by
  obtain ⟨x1, x2⟩ := hx
  refine jr_1 jm_114 (show jw_cd cd_114 0 = some (.iload_n 1) by decide +kernel) rfl ?_
  refine jr_1 jm_114 (show jw_cd cd_114 1 = some (.bipush 32) by decide +kernel) (mt_bi (by decide)) ?_
  refine jr_1 jm_114 (show jw_cd cd_114 3 = some (.if_icmp .lt 9) by decide +kernel) (mb_f (q := .lt) (a := x) (b := 32) (by show ¬ (x < 32); omega) ⟨by omega, by omega⟩ ⟨by omega, by omega⟩ (by decide)) ?_
  refine jr_1 jm_114 (show jw_cd cd_114 6 = some (.iload_n 1) by decide +kernel) rfl ?_
  refine jr_1 jm_114 (show jw_cd cd_114 7 = some (.bipush 126) by decide +kernel) (mt_bi (by decide)) ?_
  refine jr_1 jm_114 (show jw_cd cd_114 9 = some (.if_icmp .le 11) by decide +kernel) (mb_f (q := .le) (a := x) (b := 126) (by show ¬ (x ≤ 126); omega) ⟨by omega, by omega⟩ ⟨by omega, by omega⟩ (by decide)) ?_
  exact jr_x jm_114 (show jw_cd cd_114 12 = some (.new 75) by decide +kernel) (cthr (ic := 77) hl (by omega) (by decide +kernel) (by decide +kernel) (by decide +kernel) (by decide +kernel))
theorem jc_letF {β : Bool} {d : Nat} {h : jx_H} {κ : mS} (hl : 50 ≤ h.length) (hb : h.length < 4000000000) {x : Int} (hx : 32 ≤ x ∧ x ≤ 126) (e3 : κ 3 0 = 160) : jx_r (jz β) jw_M (d + 1) 114 (0, [some (.ref 0), some (.int (Int32.ofInt (x)))], [], (cl_mk h κ)) (cl_mk (h ++ [.inr (10, [])]) κ, .inr h.length) := by
  obtain ⟨x1, x2⟩ := hx
  refine jr_1 jm_114 (show jw_cd cd_114 0 = some (.iload_n 1) by decide +kernel) rfl ?_
  refine jr_1 jm_114 (show jw_cd cd_114 1 = some (.bipush 32) by decide +kernel) (mt_bi (by decide)) ?_
  refine jr_1 jm_114 (show jw_cd cd_114 3 = some (.if_icmp .lt 9) by decide +kernel) (mb_f (q := .lt) (a := x) (b := 32) (by show ¬ (x < 32); omega) ⟨by omega, by omega⟩ ⟨by omega, by omega⟩ (by decide)) ?_
  refine jr_1 jm_114 (show jw_cd cd_114 6 = some (.iload_n 1) by decide +kernel) rfl ?_
  refine jr_1 jm_114 (show jw_cd cd_114 7 = some (.bipush 126) by decide +kernel) (mt_bi (by decide)) ?_
  refine jr_1 jm_114 (show jw_cd cd_114 9 = some (.if_icmp .le 11) by decide +kernel) (mb_t (q := .le) (a := x) (b := 126) (t := 20) (by show x ≤ 126; omega) ⟨by omega, by omega⟩ ⟨by omega, by omega⟩ (by decide) (by decide)) ?_
  refine jr_1 jm_114 (show jw_cd cd_114 20 = some (.aload_n 0) by decide +kernel) rfl ?_
  refine jr_1 jm_114 (show jw_cd cd_114 21 = some (.getfield 10) by decide +kernel) (cgr_0_0 (show jw_fld 0 10 0 = some 0 by decide +kernel)) ?_
  refine jr_c jm_114 (show jw_cd cd_114 24 = some (.invokevirtual 78) by decide +kernel) (ccv (n := 0) (m2 := 118) (ci := 1) (a := 1) (bs := []) (r := []) (js_cls cl_c1 (by decide)) (show jw_find jw_cvT 0 78 = some (0, [(1, 118)]) by decide +kernel) (by decide) rfl rfl rfl) jm_118 ⟨Nat.le_of_ble_eq_true rfl, by decide⟩ (jc_full_t hl rfl e3) ?_
  refine jr_1 jm_114 (show jw_cd cd_114 27 = some (.ifCond .eq 11) by decide +kernel) (mz_f (q := .eq) (a := 1) (by show ¬ (1 = 0); omega) ⟨by omega, by omega⟩ (by decide)) ?_
  exact jr_x jm_114 (show jw_cd cd_114 30 = some (.new 82) by decide +kernel) (cthr (ic := 84) hl (by omega) (by decide +kernel) (by decide +kernel) (by decide +kernel) (by decide +kernel))
theorem jc_let {β : Bool} {d : Nat} {h : jx_H} {κ : mS} (hl : 50 ≤ h.length) {x n : Int} (hx : 32 ≤ x ∧ x ≤ 126) (e3 : κ 3 0 = n) (hn : 0 ≤ n ∧ n < 160) : jx_r (jz β) jw_M (d + 1) 114 (0, [some (.ref 0), some (.int (Int32.ofInt (x)))], [], (cl_mk h κ)) (cl_mk h ((su (su κ 6 (n) (x)) 3 (0) (n + 1))), .inl (some (.int (Int32.ofInt (n + 1))))) := by
  obtain ⟨x1, x2⟩ := hx
  refine jr_1 jm_114 (show jw_cd cd_114 0 = some (.iload_n 1) by decide +kernel) rfl ?_
  refine jr_1 jm_114 (show jw_cd cd_114 1 = some (.bipush 32) by decide +kernel) (mt_bi (by decide)) ?_
  refine jr_1 jm_114 (show jw_cd cd_114 3 = some (.if_icmp .lt 9) by decide +kernel) (mb_f (q := .lt) (a := x) (b := 32) (by show ¬ (x < 32); omega) ⟨by omega, by omega⟩ ⟨by omega, by omega⟩ (by decide)) ?_
  refine jr_1 jm_114 (show jw_cd cd_114 6 = some (.iload_n 1) by decide +kernel) rfl ?_
  refine jr_1 jm_114 (show jw_cd cd_114 7 = some (.bipush 126) by decide +kernel) (mt_bi (by decide)) ?_
  refine jr_1 jm_114 (show jw_cd cd_114 9 = some (.if_icmp .le 11) by decide +kernel) (mb_t (q := .le) (a := x) (b := 126) (t := 20) (by show x ≤ 126; omega) ⟨by omega, by omega⟩ ⟨by omega, by omega⟩ (by decide) (by decide)) ?_
  refine jr_1 jm_114 (show jw_cd cd_114 20 = some (.aload_n 0) by decide +kernel) rfl ?_
  refine jr_1 jm_114 (show jw_cd cd_114 21 = some (.getfield 10) by decide +kernel) (cgr_0_0 (show jw_fld 0 10 0 = some 0 by decide +kernel)) ?_
  refine jr_c jm_114 (show jw_cd cd_114 24 = some (.invokevirtual 78) by decide +kernel) (ccv (n := 0) (m2 := 118) (ci := 1) (a := 1) (bs := []) (r := []) (js_cls cl_c1 (by decide)) (show jw_find jw_cvT 0 78 = some (0, [(1, 118)]) by decide +kernel) (by decide) rfl rfl rfl) jm_118 ⟨Nat.le_of_ble_eq_true rfl, by decide⟩ (jc_full_f hl e3 hn) ?_
  refine jr_1 jm_114 (show jw_cd cd_114 27 = some (.ifCond .eq 11) by decide +kernel) (mz_t (q := .eq) (a := 0) (t := 38) (by show 0 = 0; omega) ⟨by omega, by omega⟩ (by decide) (by decide)) ?_
  refine jr_1 jm_114 (show jw_cd cd_114 38 = some (.aload_n 0) by decide +kernel) rfl ?_
  refine jr_1 jm_114 (show jw_cd cd_114 39 = some (.getfield 10) by decide +kernel) (cgr_0_0 (show jw_fld 0 10 0 = some 0 by decide +kernel)) ?_
  refine jr_1 jm_114 (show jw_cd cd_114 42 = some (.iload_n 1) by decide +kernel) rfl ?_
  refine jr_1 jm_114 (show jw_cd cd_114 43 = some (.i2c) by decide +kernel) (mt_i2c ⟨by omega, by omega⟩) ?_
  refine jr_c jm_114 (show jw_cd cd_114 44 = some (.invokevirtual 85) by decide +kernel) (ccv (n := 1) (m2 := 120) (ci := 1) (a := 1) (bs := [.int (Int32.ofInt (x))]) (r := []) (js_cls cl_c1 (by decide)) (show jw_find jw_cvT 0 85 = some (1, [(1, 120)]) by decide +kernel) (by decide) rfl rfl rfl) jm_120 ⟨Nat.le_of_ble_eq_true rfl, by decide⟩ (jc_addC hl e3 hn ⟨by omega, by omega⟩) ?_
  refine jr_1 jm_114 (show jw_cd cd_114 47 = some (.aload_n 0) by decide +kernel) rfl ?_
  refine jr_1 jm_114 (show jw_cd cd_114 48 = some (.getfield 10) by decide +kernel) (cgr_0_0 (show jw_fld 0 10 0 = some 0 by decide +kernel)) ?_
  refine jr_1 jm_114 (show jw_cd cd_114 51 = some (.getfield 89) by decide +kernel) (cg_3 (e := n + 1) (su_eq _ _ _ _) (show jw_fld 0 89 1 = some 1 by decide +kernel)) ?_
  exact jr_v jm_114 (show jw_cd cd_114 54 = some (.ireturn) by decide +kernel) rfl
theorem jc_qryX {β : Bool} {d : Nat} {h : jx_H} {κ : mS} (hl : 50 ≤ h.length) (hb : h.length < 4000000000) (e0 : κ 0 0 = 12) : jx_r (jz β) jw_M (d) 122 (0, [some (.ref 0), none, none], [], (cl_mk h κ)) (cl_mk (h ++ [.inr (10, [])]) κ, .inr h.length) := by
  refine jr_1 jm_122 (show jw_cd cd_122 0 = some (.aload_n 0) by decide +kernel) rfl ?_
  refine jr_1 jm_122 (show jw_cd cd_122 1 = some (.getfield 53) by decide +kernel) (cg_0 (e := κ 0 0) rfl (show jw_fld 0 53 0 = some 5 by decide +kernel)) ?_
  refine jr_1 jm_122 (show jw_cd cd_122 4 = some (.bipush 12) by decide +kernel) (mt_bi (by decide)) ?_
  refine jr_1 jm_122 (show jw_cd cd_122 6 = some (.if_icmp .lt 11) by decide +kernel) (mb_f (q := .lt) (a := κ 0 0) (b := 12) (by show ¬ (κ 0 0 < 12); omega) ⟨by omega, by omega⟩ ⟨by omega, by omega⟩ (by decide)) ?_
  exact jr_x jm_122 (show jw_cd cd_122 9 = some (.new 82) by decide +kernel) (cthr (ic := 84) hl (by omega) (by decide +kernel) (by decide +kernel) (by decide +kernel) (by decide +kernel))
theorem jc_runX {β : Bool} {d : Nat} {h : jx_H} {κ : mS} (hl : 50 ≤ h.length) (hb : h.length < 4000000000) {q : Int} (hq : mr q) (h1 : q < 0) : jx_r (jz β) jw_M (d) 157 (0, [some (.ref 0), some (.int (Int32.ofInt (q)))], [], (cl_mk h κ)) (cl_mk (h ++ [.inr (8, [])]) κ, .inr h.length) := by
  obtain ⟨q1, q2⟩ := hq
  refine jr_1 jm_157 (show jw_cd cd_157 0 = some (.iload_n 1) by decide +kernel) rfl ?_
  refine jr_1 jm_157 (show jw_cd cd_157 1 = some (.ifCond .lt 11) by decide +kernel) (mz_t (q := .lt) (a := q) (t := 12) (by show q < 0; omega) ⟨by omega, by omega⟩ (by decide) (by decide)) ?_
  exact jr_x jm_157 (show jw_cd cd_157 12 = some (.new 75) by decide +kernel) (cthr (ic := 77) hl (by omega) (by decide +kernel) (by decide +kernel) (by decide +kernel) (by decide +kernel))
theorem jc_runY {β : Bool} {d : Nat} {h : jx_H} {κ : mS} (hl : 50 ≤ h.length) (hb : h.length < 4000000000) {q : Int} (hq : mr q) (h0 : 0 ≤ q) (h12 : 0 ≤ κ 0 0 ∧ κ 0 0 ≤ 12) (h1 : κ 0 0 ≤ q) : jx_r (jz β) jw_M (d) 157 (0, [some (.ref 0), some (.int (Int32.ofInt (q)))], [], (cl_mk h κ)) (cl_mk (h ++ [.inr (8, [])]) κ, .inr h.length) := by
  obtain ⟨q1, q2⟩ := hq
  refine jr_1 jm_157 (show jw_cd cd_157 0 = some (.iload_n 1) by decide +kernel) rfl ?_
  refine jr_1 jm_157 (show jw_cd cd_157 1 = some (.ifCond .lt 11) by decide +kernel) (mz_f (q := .lt) (a := q) (by show ¬ (q < 0); omega) ⟨by omega, by omega⟩ (by decide)) ?_
  refine jr_1 jm_157 (show jw_cd cd_157 4 = some (.iload_n 1) by decide +kernel) rfl ?_
  refine jr_1 jm_157 (show jw_cd cd_157 5 = some (.aload_n 0) by decide +kernel) rfl ?_
  refine jr_1 jm_157 (show jw_cd cd_157 6 = some (.getfield 53) by decide +kernel) (cg_0 (e := κ 0 0) rfl (show jw_fld 0 53 0 = some 5 by decide +kernel)) ?_
  refine jr_1 jm_157 (show jw_cd cd_157 9 = some (.if_icmp .lt 11) by decide +kernel) (mb_f (q := .lt) (a := q) (b := κ 0 0) (by show ¬ (q < κ 0 0); omega) ⟨by omega, by omega⟩ ⟨by omega, by omega⟩ (by decide)) ?_
  exact jr_x jm_157 (show jw_cd cd_157 12 = some (.new 75) by decide +kernel) (cthr (ic := 77) hl (by omega) (by decide +kernel) (by decide +kernel) (by decide +kernel) (by decide +kernel))
