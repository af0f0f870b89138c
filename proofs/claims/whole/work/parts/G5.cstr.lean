/-! ===== the scratch text becomes a String (printed by program: gen77.py) ===== -/
theorem ccyE {β : Bool} {cd : Nat → Option Instr} {own pc k : Nat} {rt : Option FieldType × Bool} {lo : jx_L} {st : List Value} {H H' : jx_H} {a a0 n0 n1 : Nat} {f g : Nat → Value} {n sp dp : Int} (hbi : jw_biB own k = some 2) (ho : H[a]? = some (.inl (3, n1, g))) (ha : a < jx_big) (ho0 : jx_arr (jz β) H a0 = some (3, n0, f)) (h0 : 0 ≤ n ∧ 0 ≤ sp ∧ 0 ≤ dp) (hn0 : sp.toNat + n.toNat ≤ n0) (hn1 : dp.toNat + n.toNat ≤ n1) (hr : n0 ≤ 60000000 ∧ n1 ≤ 60000000) (hw : jx_wt st = true) (hf : ∀ i, i < n.toNat → ∃ c : Int, f (sp.toNat + i) = .int (Int32.ofInt c) ∧ 0 ≤ c ∧ c ≤ 127) (hs : H.set a (.inl (3, n1, va_cpy f g sp.toNat dp.toNat n.toNat)) = H') : jx_do (jz β) cd own pc rt (.invokestatic k) lo (.int (Int32.ofInt n) :: .int (Int32.ofInt dp) :: .ref a :: .int (Int32.ofInt sp) :: .ref a0 :: st) H = some (.inl (pc + 3, lo, st, H')) := by
  rw [← hs]
  exact ccy hbi ho ha ho0 h0 hn0 hn1 hr hw hf
theorem cmin {β : Bool} {cd : Nat → Option Instr} {own pc k : Nat} {rt : Option FieldType × Bool} {lo : jx_L} {st : List Value} {H : jx_H} {x y c : Int} (hbi : jw_biB own k = some 1) (hx : mr x) (hy : mr y) (hc : c = if y < x then y else x) (hw : jx_wt st = true) : jx_do (jz β) cd own pc rt (.invokestatic k) lo (.int (Int32.ofInt y) :: .int (Int32.ofInt x) :: st) H = some (.inl (pc + 3, lo, .int (Int32.ofInt c) :: st, H)) := by
  have e0 : jx_bi (jz β) own k = some 1 := hbi
  have ex : (Int32.ofInt x).toInt = x := Int32.toInt_ofInt_of_le hx.1 (by have := hx.2; show x < (2 ^ 31 : Int); omega)
  have ey : (Int32.ofInt y).toInt = y := Int32.toInt_ofInt_of_le hy.1 (by have := hy.2; show y < (2 ^ 31 : Int); omega)
  have hlt : (Int32.ofInt y < Int32.ofInt x) ↔ y < x := by rw [Int32.lt_iff_toInt_lt, ex, ey]
  simp only [jx_do, e0, hw]
  rw [hc]
  by_cases h : y < x
  · rw [if_pos h, if_pos (hlt.mpr h)]
    rfl
  · rw [if_neg h, if_neg (fun z => h (hlt.mp z))]
    rfl
theorem jc_ens {β : Bool} {d : Nat} {h : jx_H} {κ : mS} (hl : 50 ≤ h.length) {m : Int} (hm : 0 ≤ m ∧ m ≤ 16) : jx_r (jz β) jw_M (d) 16 (0, [some (.ref 3), some (.int (Int32.ofInt (m))), none], [], (cl_mk h κ)) (cl_mk h (κ), .inl none) := by
  obtain ⟨m0, m1⟩ := hm
  refine jr_1 jm_16 (show jw_cd cd_16 0 = some (.aload_n 0) by decide +kernel) rfl ?_
  refine jr_1 jm_16 (show jw_cd cd_16 1 = some (.getfield 15) by decide +kernel) (cgr_3_0 (show jw_fld 4 15 2 = some 0 by decide +kernel)) ?_
  refine jr_1 jm_16 (show jw_cd cd_16 4 = some (.arraylength) by decide +kernel) cln_4 ?_
  refine jr_1 jm_16 (show jw_cd cd_16 5 = some (.aload_n 0) by decide +kernel) rfl ?_
  refine jr_1 jm_16 (show jw_cd cd_16 6 = some (.getfield 22) by decide +kernel) (cgc_3 (show jw_fld 4 22 2 = some 1 by decide +kernel)) ?_
  refine jr_1 jm_16 (show jw_cd cd_16 9 = some (.ishr) by decide +kernel) (mt_ishr (c := 16) (by decide)) ?_
  refine jr_1 jm_16 (F2 := (11, [some (.ref 3), some (.int (Int32.ofInt (m))), some (.int (Int32.ofInt (16)))], [], (cl_mk h κ))) (show jw_cd cd_16 10 = some (.istore_n 2) by decide +kernel) rfl ?_
  refine jr_1 jm_16 (show jw_cd cd_16 11 = some (.iload_n 1) by decide +kernel) rfl ?_
  refine jr_1 jm_16 (show jw_cd cd_16 12 = some (.iload_n 2) by decide +kernel) rfl ?_
  refine jr_1 jm_16 (show jw_cd cd_16 13 = some (.isub) by decide +kernel) (mt_sub (c := m - 16) rfl) ?_
  refine jr_1 jm_16 (show jw_cd cd_16 14 = some (.ifCond .le 24) by decide +kernel) (mz_t (q := .le) (a := m - 16) (t := 38) (by show m - 16 ≤ 0; omega) ⟨by omega, by omega⟩ (by decide) (by decide)) ?_
  exact jr_v jm_16 (show jw_cd cd_16 38 = some (.return_) by decide +kernel) rfl
theorem jc_lat {β : Bool} {d : Nat} {h : jx_H} {κ : mS} (hl : 50 ≤ h.length) : jx_r (jz β) jw_M (d) 23 (0, [some (.ref 3)], [], (cl_mk h κ)) (cl_mk h (κ), .inl (some (.int (Int32.ofInt (1))))) := by
  refine jr_1 jm_23 (show jw_cd cd_23 0 = some (.getstatic 18) by decide +kernel) (cgs (v := .int (Int32.ofInt (1))) (by decide) rfl) ?_
  refine jr_1 jm_23 (show jw_cd cd_23 3 = some (.ifCond .eq 14) by decide +kernel) (mz_f (q := .eq) (a := 1) (by show ¬ (1 = 0); omega) ⟨by omega, by omega⟩ (by decide)) ?_
  refine jr_1 jm_23 (show jw_cd cd_23 6 = some (.aload_n 0) by decide +kernel) rfl ?_
  refine jr_1 jm_23 (show jw_cd cd_23 7 = some (.getfield 22) by decide +kernel) (cgc_3 (show jw_fld 4 22 2 = some 1 by decide +kernel)) ?_
  refine jr_1 jm_23 (show jw_cd cd_23 10 = some (.ifCond .ne 7) by decide +kernel) (mz_f (q := .ne) (a := 0) (by show ¬ (¬ (0 = 0)); omega) ⟨by omega, by omega⟩ (by decide)) ?_
  refine jr_1 jm_23 (show jw_cd cd_23 13 = some (.iconst 1) by decide +kernel) rfl ?_
  refine jr_1 jm_23 (show jw_cd cd_23 14 = some (.goto 4) by decide +kernel) (ju_go (t := 18) (by decide)) ?_
  exact jr_v jm_23 (show jw_cd cd_23 18 = some (.ireturn) by decide +kernel) rfl
theorem jc_enc {β : Bool} {d : Nat} {h : jx_H} {κ : mS} (hl : 50 ≤ h.length) {c : Int} (hc : 0 ≤ c ∧ c ≤ 127) : jx_r (jz β) jw_M (d) 24 (0, [some (.int (Int32.ofInt (c)))], [], (cl_mk h κ)) (cl_mk h (κ), .inl (some (.int (Int32.ofInt (1))))) := by
  obtain ⟨c0, c1⟩ := hc
  refine jr_1 jm_24 (show jw_cd cd_24 0 = some (.iload_n 0) by decide +kernel) rfl ?_
  refine jr_1 jm_24 (show jw_cd cd_24 1 = some (.sipush 255) by decide +kernel) (mt_si (by decide)) ?_
  refine jr_1 jm_24 (show jw_cd cd_24 4 = some (.if_icmp .gt 7) by decide +kernel) (mb_f (q := .gt) (a := c) (b := 255) (by show ¬ (255 < c); omega) ⟨by omega, by omega⟩ ⟨by omega, by omega⟩ (by decide)) ?_
  refine jr_1 jm_24 (show jw_cd cd_24 7 = some (.iconst 1) by decide +kernel) rfl ?_
  refine jr_1 jm_24 (show jw_cd cd_24 8 = some (.goto 4) by decide +kernel) (ju_go (t := 12) (by decide)) ?_
  exact jr_v jm_24 (show jw_cd cd_24 12 = some (.ireturn) by decide +kernel) rfl
theorem jc_app1 {β : Bool} {d : Nat} {h : jx_H} {κ : mS} (hl : 50 ≤ h.length) {c x : Int} (e7 : κ 7 0 = c) (hc : 0 ≤ c ∧ c < 16) (hx : 0 ≤ x ∧ x ≤ 127) : jx_r (jz β) jw_M (d + 1) 15 (0, [some (.ref 3), some (.int (Int32.ofInt (x)))], [], (cl_mk h κ)) (cl_mk h ((su (su κ 7 (0) (c + 1)) 8 (c) (x))), .inl (some (.ref (3)))) := by
  obtain ⟨c0, c1⟩ := hc
  obtain ⟨x0, x1⟩ := hx
  refine jr_1 jm_15 (show jw_cd cd_15 0 = some (.aload_n 0) by decide +kernel) rfl ?_
  refine jr_1 jm_15 (show jw_cd cd_15 1 = some (.aload_n 0) by decide +kernel) rfl ?_
  refine jr_1 jm_15 (show jw_cd cd_15 2 = some (.getfield 79) by decide +kernel) (cg_7 (e := c) e7 (show jw_fld 4 79 2 = some 3 by decide +kernel)) ?_
  refine jr_1 jm_15 (show jw_cd cd_15 5 = some (.iconst 1) by decide +kernel) rfl ?_
  refine jr_1 jm_15 (show jw_cd cd_15 6 = some (.iadd) by decide +kernel) (mt_add (c := c + 1) rfl) ?_
  refine jr_c jm_15 (show jw_cd cd_15 7 = some (.invokevirtual 100) by decide +kernel) (ccv (n := 1) (m2 := 16) (ci := 2) (a := 3) (bs := [.int (Int32.ofInt (c + 1))]) (r := []) (js_cls cl_c3 (by decide)) (show jw_find jw_cvT 4 100 = some (1, [(2, 16)]) by decide +kernel) (by decide) rfl rfl rfl) jm_16 ⟨Nat.le_of_ble_eq_true rfl, by decide⟩ (jc_ens hl ⟨by omega, by omega⟩) ?_
  refine jr_1 jm_15 (show jw_cd cd_15 10 = some (.aload_n 0) by decide +kernel) rfl ?_
  refine jr_c jm_15 (show jw_cd cd_15 11 = some (.invokevirtual 83) by decide +kernel) (ccv (n := 0) (m2 := 23) (ci := 2) (a := 3) (bs := []) (r := []) (js_cls cl_c3 (by decide)) (show jw_find jw_cvT 4 83 = some (0, [(2, 23)]) by decide +kernel) (by decide) rfl rfl rfl) jm_23 ⟨Nat.le_of_ble_eq_true rfl, by decide⟩ (jc_lat hl) ?_
  refine jr_1 jm_15 (show jw_cd cd_15 14 = some (.ifCond .eq 31) by decide +kernel) (mz_f (q := .eq) (a := 1) (by show ¬ (1 = 0); omega) ⟨by omega, by omega⟩ (by decide)) ?_
  refine jr_1 jm_15 (show jw_cd cd_15 17 = some (.iload_n 1) by decide +kernel) rfl ?_
  refine jr_c jm_15 (show jw_cd cd_15 18 = some (.invokestatic 191) by decide +kernel) (mc_s (n := 1) (m2 := 24) (bs := [.int (Int32.ofInt (x))]) (r := []) (by decide) (show jw_find jw_csT 4 191 = some (24, 1) by decide +kernel) rfl rfl rfl) jm_24 ⟨Nat.le_of_ble_eq_true rfl, by decide⟩ (jc_enc hl ⟨by omega, by omega⟩) ?_
  refine jr_1 jm_15 (show jw_cd cd_15 21 = some (.ifCond .eq 24) by decide +kernel) (mz_f (q := .eq) (a := 1) (by show ¬ (1 = 0); omega) ⟨by omega, by omega⟩ (by decide)) ?_
  refine jr_1 jm_15 (show jw_cd cd_15 24 = some (.aload_n 0) by decide +kernel) rfl ?_
  refine jr_1 jm_15 (show jw_cd cd_15 25 = some (.getfield 15) by decide +kernel) (cgr_3_0 (show jw_fld 4 15 2 = some 0 by decide +kernel)) ?_
  refine jr_1 jm_15 (show jw_cd cd_15 28 = some (.aload_n 0) by decide +kernel) rfl ?_
  refine jr_1 jm_15 (show jw_cd cd_15 29 = some (.dup) by decide +kernel) rfl ?_
  refine jr_1 jm_15 (show jw_cd cd_15 30 = some (.getfield 79) by decide +kernel) (cg_7 (e := c) e7 (show jw_fld 4 79 2 = some 3 by decide +kernel)) ?_
  refine jr_1 jm_15 (show jw_cd cd_15 33 = some (.dup_x1) by decide +kernel) rfl ?_
  refine jr_1 jm_15 (show jw_cd cd_15 34 = some (.iconst 1) by decide +kernel) rfl ?_
  refine jr_1 jm_15 (show jw_cd cd_15 35 = some (.iadd) by decide +kernel) (mt_add (c := c + 1) rfl) ?_
  refine jr_1 jm_15 (show jw_cd cd_15 36 = some (.putfield 79) by decide +kernel) (cp_7 (x := c + 1) (show jw_fld 4 79 2 = some 3 by decide +kernel) (show jw_fm 4 2 3 = some false by decide +kernel)) ?_
  refine jr_1 jm_15 (show jw_cd cd_15 39 = some (.iload_n 1) by decide +kernel) rfl ?_
  refine jr_1 jm_15 (show jw_cd cd_15 40 = some (.i2b) by decide +kernel) (mt_i2b ⟨by omega, by omega⟩) ?_
  refine jr_1 jm_15 (show jw_cd cd_15 41 = some (.bastore) by decide +kernel) (cs_8 (i := c) (x := x) (by omega) (by omega) ⟨by omega, by omega⟩) ?_
  refine jr_1 jm_15 (show jw_cd cd_15 42 = some (.goto 33) by decide +kernel) (ju_go (t := 75) (by decide)) ?_
  refine jr_1 jm_15 (show jw_cd cd_15 75 = some (.aload_n 0) by decide +kernel) rfl ?_
  exact jr_v jm_15 (show jw_cd cd_15 76 = some (.areturn) by decide +kernel) rfl
theorem jc_app {β : Bool} {d : Nat} {h : jx_H} {κ : mS} (hl : 50 ≤ h.length) {c x : Int} (e7 : κ 7 0 = c) (hc : 0 ≤ c ∧ c < 16) (hx : 0 ≤ x ∧ x ≤ 127) : jx_r (jz β) jw_M (d + 2) 14 (0, [some (.ref 3), some (.int (Int32.ofInt (x)))], [], (cl_mk h κ)) (cl_mk h ((su (su κ 7 (0) (c + 1)) 8 (c) (x))), .inl (some (.ref (3)))) := by
  refine jr_1 jm_14 (show jw_cd cd_14 0 = some (.aload_n 0) by decide +kernel) rfl ?_
  refine jr_1 jm_14 (show jw_cd cd_14 1 = some (.iload_n 1) by decide +kernel) rfl ?_
  refine jr_c jm_14 (show jw_cd cd_14 2 = some (.invokespecial 50) by decide +kernel) (ccp (n := 1) (m2 := 15) (ci := 2) (a := 3) (bs := [.int (Int32.ofInt (x))]) (r := []) (by decide +kernel) (js_cls cl_c3 (by decide)) (by decide) (by decide) (show jw_find jw_cpT 3 50 = some (1, 15) by decide +kernel) rfl rfl rfl) jm_15 ⟨Nat.le_of_ble_eq_true rfl, by decide⟩ (jc_app1 hl e7 hc hx) ?_
  refine jr_1 jm_14 (show jw_cd cd_14 5 = some (.pop) by decide +kernel) rfl ?_
  refine jr_1 jm_14 (show jw_cd cd_14 6 = some (.aload_n 0) by decide +kernel) rfl ?_
  exact jr_v jm_14 (show jw_cd cd_14 7 = some (.areturn) by decide +kernel) rfl
theorem jc_set0a {β : Bool} {d : Nat} {h : jx_H} {κ : mS} (hl : 50 ≤ h.length) {c : Int} (e7 : κ 7 0 = c) (hc : 0 ≤ c ∧ c ≤ 16) : ∃ κ' : mS, jx_r (jz β) jw_M (d + 1) 67 (0, [some (.ref 3), some (.int (Int32.ofInt (0)))], [], (cl_mk h κ)) (cl_mk h (κ'), .inl none) ∧ κ' 7 0 = 0 ∧ mEq [7, 15] κ κ' := by
  obtain ⟨c0, c1⟩ := hc
  by_cases h0 : c = 0
  · refine ⟨(su κ 7 (0) (0)), ?_, su_eq _ _ _ _, fun g hg => su_row (by simp only [List.mem_cons, List.mem_nil_iff, or_false] at hg; omega)⟩
    refine jr_1 jm_67 (show jw_cd cd_67 0 = some (.iload_n 1) by decide +kernel) rfl ?_
    refine jr_1 jm_67 (show jw_cd cd_67 1 = some (.ifCond .ge 12) by decide +kernel) (mz_t (q := .ge) (a := 0) (t := 13) (by show 0 ≤ 0; omega) ⟨by omega, by omega⟩ (by decide) (by decide)) ?_
    refine jr_1 jm_67 (show jw_cd cd_67 13 = some (.aload_n 0) by decide +kernel) rfl ?_
    refine jr_1 jm_67 (show jw_cd cd_67 14 = some (.iload_n 1) by decide +kernel) rfl ?_
    refine jr_c jm_67 (show jw_cd cd_67 15 = some (.invokevirtual 100) by decide +kernel) (ccv (n := 1) (m2 := 16) (ci := 2) (a := 3) (bs := [.int (Int32.ofInt (0))]) (r := []) (js_cls cl_c3 (by decide)) (show jw_find jw_cvT 4 100 = some (1, [(2, 16)]) by decide +kernel) (by decide) rfl rfl rfl) jm_16 ⟨Nat.le_of_ble_eq_true rfl, by decide⟩ (jc_ens hl ⟨by omega, by omega⟩) ?_
    refine jr_1 jm_67 (show jw_cd cd_67 18 = some (.aload_n 0) by decide +kernel) rfl ?_
    refine jr_1 jm_67 (show jw_cd cd_67 19 = some (.getfield 79) by decide +kernel) (cg_7 (e := c) e7 (show jw_fld 4 79 2 = some 3 by decide +kernel)) ?_
    refine jr_1 jm_67 (show jw_cd cd_67 22 = some (.iload_n 1) by decide +kernel) rfl ?_
    refine jr_1 jm_67 (show jw_cd cd_67 23 = some (.if_icmp .ge 40) by decide +kernel) (mb_t (q := .ge) (a := c) (b := 0) (t := 63) (by show 0 ≤ c; omega) ⟨by omega, by omega⟩ ⟨by omega, by omega⟩ (by decide) (by decide)) ?_
    refine jr_1 jm_67 (show jw_cd cd_67 63 = some (.aload_n 0) by decide +kernel) rfl ?_
    refine jr_1 jm_67 (show jw_cd cd_67 64 = some (.getfield 79) by decide +kernel) (cg_7 (e := c) e7 (show jw_fld 4 79 2 = some 3 by decide +kernel)) ?_
    refine jr_1 jm_67 (show jw_cd cd_67 67 = some (.iload_n 1) by decide +kernel) rfl ?_
    refine jr_1 jm_67 (show jw_cd cd_67 68 = some (.if_icmp .le 8) by decide +kernel) (mb_t (q := .le) (a := c) (b := 0) (t := 76) (by show c ≤ 0; omega) ⟨by omega, by omega⟩ ⟨by omega, by omega⟩ (by decide) (by decide)) ?_
    refine jr_1 jm_67 (show jw_cd cd_67 76 = some (.aload_n 0) by decide +kernel) rfl ?_
    refine jr_1 jm_67 (show jw_cd cd_67 77 = some (.iload_n 1) by decide +kernel) rfl ?_
    refine jr_1 jm_67 (show jw_cd cd_67 78 = some (.putfield 79) by decide +kernel) (cp_7 (x := 0) (show jw_fld 4 79 2 = some 3 by decide +kernel) (show jw_fm 4 2 3 = some false by decide +kernel)) ?_
    exact jr_v jm_67 (show jw_cd cd_67 81 = some (.return_) by decide +kernel) rfl
  · refine ⟨(su (su κ 15 (0) (1)) 7 (0) (0)), ?_, su_eq _ _ _ _, fun g hg => (su_row (by simp only [List.mem_cons, List.mem_nil_iff, or_false] at hg; omega)).trans (su_row (by simp only [List.mem_cons, List.mem_nil_iff, or_false] at hg; omega))⟩
    refine jr_1 jm_67 (show jw_cd cd_67 0 = some (.iload_n 1) by decide +kernel) rfl ?_
    refine jr_1 jm_67 (show jw_cd cd_67 1 = some (.ifCond .ge 12) by decide +kernel) (mz_t (q := .ge) (a := 0) (t := 13) (by show 0 ≤ 0; omega) ⟨by omega, by omega⟩ (by decide) (by decide)) ?_
    refine jr_1 jm_67 (show jw_cd cd_67 13 = some (.aload_n 0) by decide +kernel) rfl ?_
    refine jr_1 jm_67 (show jw_cd cd_67 14 = some (.iload_n 1) by decide +kernel) rfl ?_
    refine jr_c jm_67 (show jw_cd cd_67 15 = some (.invokevirtual 100) by decide +kernel) (ccv (n := 1) (m2 := 16) (ci := 2) (a := 3) (bs := [.int (Int32.ofInt (0))]) (r := []) (js_cls cl_c3 (by decide)) (show jw_find jw_cvT 4 100 = some (1, [(2, 16)]) by decide +kernel) (by decide) rfl rfl rfl) jm_16 ⟨Nat.le_of_ble_eq_true rfl, by decide⟩ (jc_ens hl ⟨by omega, by omega⟩) ?_
    refine jr_1 jm_67 (show jw_cd cd_67 18 = some (.aload_n 0) by decide +kernel) rfl ?_
    refine jr_1 jm_67 (show jw_cd cd_67 19 = some (.getfield 79) by decide +kernel) (cg_7 (e := c) e7 (show jw_fld 4 79 2 = some 3 by decide +kernel)) ?_
    refine jr_1 jm_67 (show jw_cd cd_67 22 = some (.iload_n 1) by decide +kernel) rfl ?_
    refine jr_1 jm_67 (show jw_cd cd_67 23 = some (.if_icmp .ge 40) by decide +kernel) (mb_t (q := .ge) (a := c) (b := 0) (t := 63) (by show 0 ≤ c; omega) ⟨by omega, by omega⟩ ⟨by omega, by omega⟩ (by decide) (by decide)) ?_
    refine jr_1 jm_67 (show jw_cd cd_67 63 = some (.aload_n 0) by decide +kernel) rfl ?_
    refine jr_1 jm_67 (show jw_cd cd_67 64 = some (.getfield 79) by decide +kernel) (cg_7 (e := c) e7 (show jw_fld 4 79 2 = some 3 by decide +kernel)) ?_
    refine jr_1 jm_67 (show jw_cd cd_67 67 = some (.iload_n 1) by decide +kernel) rfl ?_
    refine jr_1 jm_67 (show jw_cd cd_67 68 = some (.if_icmp .le 8) by decide +kernel) (mb_f (q := .le) (a := c) (b := 0) (by show ¬ (c ≤ 0); omega) ⟨by omega, by omega⟩ ⟨by omega, by omega⟩ (by decide)) ?_
    refine jr_1 jm_67 (show jw_cd cd_67 71 = some (.aload_n 0) by decide +kernel) rfl ?_
    refine jr_1 jm_67 (show jw_cd cd_67 72 = some (.iconst 1) by decide +kernel) rfl ?_
    refine jr_1 jm_67 (show jw_cd cd_67 73 = some (.putfield 73) by decide +kernel) (cp_15 (x := 1) (show jw_fld 4 73 2 = some 2 by decide +kernel) (show jw_fm 4 2 2 = some false by decide +kernel) (by decide)) ?_
    refine jr_1 jm_67 (show jw_cd cd_67 76 = some (.aload_n 0) by decide +kernel) rfl ?_
    refine jr_1 jm_67 (show jw_cd cd_67 77 = some (.iload_n 1) by decide +kernel) rfl ?_
    refine jr_1 jm_67 (show jw_cd cd_67 78 = some (.putfield 79) by decide +kernel) (cp_7 (x := 0) (show jw_fld 4 79 2 = some 3 by decide +kernel) (show jw_fm 4 2 3 = some false by decide +kernel)) ?_
    exact jr_v jm_67 (show jw_cd cd_67 81 = some (.return_) by decide +kernel) rfl
theorem jc_set0 {β : Bool} {d : Nat} {h : jx_H} {κ : mS} (hl : 50 ≤ h.length) {c : Int} (e7 : κ 7 0 = c) (hc : 0 ≤ c ∧ c ≤ 16) : ∃ κ' : mS, jx_r (jz β) jw_M (d + 2) 66 (0, [some (.ref 3), some (.int (Int32.ofInt (0)))], [], (cl_mk h κ)) (cl_mk h (κ'), .inl none) ∧ κ' 7 0 = 0 ∧ mEq [7, 15] κ κ' := by
  obtain ⟨κ', r1, r2, r3⟩ := jc_set0a (β := β) (d := d) (h := h) hl e7 hc
  refine ⟨κ', ?_, r2, r3⟩
  refine jr_1 jm_66 (show jw_cd cd_66 0 = some (.aload_n 0) by decide +kernel) rfl ?_
  refine jr_1 jm_66 (show jw_cd cd_66 1 = some (.iload_n 1) by decide +kernel) rfl ?_
  refine jr_c jm_66 (show jw_cd cd_66 2 = some (.invokespecial 333) by decide +kernel) (ccp (n := 1) (m2 := 67) (ci := 2) (a := 3) (bs := [.int (Int32.ofInt (0))]) (r := []) (by decide +kernel) (js_cls cl_c3 (by decide)) (by decide) (by decide) (show jw_find jw_cpT 3 333 = some (1, 67) by decide +kernel) rfl rfl rfl) jm_67 ⟨Nat.le_of_ble_eq_true rfl, by decide⟩ r1 ?_
  exact jr_v jm_66 (show jw_cd cd_66 5 = some (.return_) by decide +kernel) rfl
theorem jc_len1 {β : Bool} {d : Nat} {h : jx_H} {κ : mS} (hl : 50 ≤ h.length) {c : Int} (e7 : κ 7 0 = c) : jx_r (jz β) jw_M (d) 78 (0, [some (.ref 3)], [], (cl_mk h κ)) (cl_mk h (κ), .inl (some (.int (Int32.ofInt (c))))) := by
  refine jr_1 jm_78 (show jw_cd cd_78 0 = some (.aload_n 0) by decide +kernel) rfl ?_
  refine jr_1 jm_78 (show jw_cd cd_78 1 = some (.getfield 79) by decide +kernel) (cg_7 (e := c) e7 (show jw_fld 4 79 2 = some 3 by decide +kernel)) ?_
  exact jr_v jm_78 (show jw_cd cd_78 4 = some (.ireturn) by decide +kernel) rfl
theorem jc_len {β : Bool} {d : Nat} {h : jx_H} {κ : mS} (hl : 50 ≤ h.length) {c : Int} (e7 : κ 7 0 = c) : jx_r (jz β) jw_M (d + 1) 77 (0, [some (.ref 3)], [], (cl_mk h κ)) (cl_mk h (κ), .inl (some (.int (Int32.ofInt (c))))) := by
  refine jr_1 jm_77 (show jw_cd cd_77 0 = some (.aload_n 0) by decide +kernel) rfl ?_
  refine jr_c jm_77 (show jw_cd cd_77 1 = some (.invokespecial 343) by decide +kernel) (ccp (n := 0) (m2 := 78) (ci := 2) (a := 3) (bs := []) (r := []) (by decide +kernel) (js_cls cl_c3 (by decide)) (by decide) (by decide) (show jw_find jw_cpT 3 343 = some (0, 78) by decide +kernel) rfl rfl rfl) jm_78 ⟨Nat.le_of_ble_eq_true rfl, by decide⟩ (jc_len1 hl e7) ?_
  exact jr_v jm_77 (show jw_cd cd_77 4 = some (.ireturn) by decide +kernel) rfl
theorem jc_val {β : Bool} {d : Nat} {h : jx_H} {κ : mS} (hl : 50 ≤ h.length) : jx_r (jz β) jw_M (d) 76 (0, [some (.ref 3)], [], (cl_mk h κ)) (cl_mk h (κ), .inl (some (.ref (4)))) := by
  refine jr_1 jm_76 (show jw_cd cd_76 0 = some (.aload_n 0) by decide +kernel) rfl ?_
  refine jr_1 jm_76 (show jw_cd cd_76 1 = some (.getfield 15) by decide +kernel) (cgr_3_0 (show jw_fld 4 15 2 = some 0 by decide +kernel)) ?_
  exact jr_v jm_76 (show jw_cd cd_76 4 = some (.areturn) by decide +kernel) rfl
theorem jc_chkL {β : Bool} {d : Nat} {h : jx_H} {κ : mS} (hl : 50 ≤ h.length) {c : Int} (hc : 0 ≤ c ∧ c ≤ 16) : jx_r (jz β) jw_M (d) 81 (0, [some (.int (Int32.ofInt (0))), some (.int (Int32.ofInt (c)))], [], (cl_mk h κ)) (cl_mk h (κ), .inl none) := by
  obtain ⟨c0, c1⟩ := hc
  refine jr_1 jm_81 (show jw_cd cd_81 0 = some (.iload_n 1) by decide +kernel) rfl ?_
  refine jr_1 jm_81 (show jw_cd cd_81 1 = some (.iload_n 0) by decide +kernel) rfl ?_
  refine jr_1 jm_81 (show jw_cd cd_81 2 = some (.if_icmp .ge 35) by decide +kernel) (mb_t (q := .ge) (a := c) (b := 0) (t := 37) (by show 0 ≤ c; omega) ⟨by omega, by omega⟩ ⟨by omega, by omega⟩ (by decide) (by decide)) ?_
  exact jr_v jm_81 (show jw_cd cd_81 37 = some (.return_) by decide +kernel) rfl
theorem jc_copyB {β : Bool} {d : Nat} {h : jx_H} {κ : mS} (hl : 50 ≤ h.length) {N : Nat} (hN : h.length = N) (hb32 : N < 4000000000) {c : Int} (hc : 0 ≤ c ∧ c < 16) (hb : ∀ i : Int, 0 ≤ i → i < c → 0 ≤ κ 8 i ∧ κ 8 i ≤ 127) {h' : jx_H} (hh : h ++ [.inl (3, (c).toNat, va_cpy (fun i : Nat => .int (Int32.ofInt (κ 8 i))) (fun _ => .int 0) (0 : Int).toNat (0 : Int).toNat (c).toNat)] = h') : jx_r (jz β) jw_M (d + 1) 80 (0, [some (.ref 4), some (.int (Int32.ofInt (0))), some (.int (Int32.ofInt (c))), none, none], [], (cl_mk h κ)) (cl_mk h' (κ), .inl (some (.ref (N)))) := by
  obtain ⟨c0, c1⟩ := hc
  refine jr_1 jm_80 (show jw_cd cd_80 0 = some (.iload_n 1) by decide +kernel) rfl ?_
  refine jr_1 jm_80 (show jw_cd cd_80 1 = some (.iload_n 2) by decide +kernel) rfl ?_
  refine jr_c jm_80 (show jw_cd cd_80 2 = some (.invokestatic 343) by decide +kernel) (mc_s (n := 2) (m2 := 81) (bs := [.int (Int32.ofInt (0)), .int (Int32.ofInt (c))]) (r := []) (by decide) (show jw_find jw_csT 13 343 = some (81, 2) by decide +kernel) rfl rfl rfl) jm_81 ⟨Nat.le_of_ble_eq_true rfl, by decide⟩ (jc_chkL hl ⟨c0, by omega⟩) ?_
  refine jr_1 jm_80 (show jw_cd cd_80 5 = some (.iload_n 2) by decide +kernel) rfl ?_
  refine jr_1 jm_80 (show jw_cd cd_80 6 = some (.iload_n 1) by decide +kernel) rfl ?_
  refine jr_1 jm_80 (show jw_cd cd_80 7 = some (.isub) by decide +kernel) (mt_sub (c := c) (by omega)) ?_
  refine jr_1 jm_80 (F2 := (9, [some (.ref 4), some (.int (Int32.ofInt (0))), some (.int (Int32.ofInt (c))), some (.int (Int32.ofInt (c))), none], [], (cl_mk h κ))) (show jw_cd cd_80 8 = some (.istore_n 3) by decide +kernel) rfl ?_
  refine jr_1 jm_80 (show jw_cd cd_80 9 = some (.iload_n 3) by decide +kernel) rfl ?_
  refine jr_1 jm_80 (F2 := (12, [some (.ref 4), some (.int (Int32.ofInt (0))), some (.int (Int32.ofInt (c))), some (.int (Int32.ofInt (c))), none], [.ref N], (cl_mk (h ++ [.inl (3, (c).toNat, fun _ => .int 0)]) κ))) (show jw_cd cd_80 10 = some (.newarray .byte) by decide +kernel) (cna_byte0 hl hN (by omega) (by omega) (by omega)) ?_
  refine jr_1 jm_80 (F2 := (14, [some (.ref 4), some (.int (Int32.ofInt (0))), some (.int (Int32.ofInt (c))), some (.int (Int32.ofInt (c))), some (.ref N)], [], (cl_mk (h ++ [.inl (3, (c).toNat, fun _ => .int 0)]) κ))) (show jw_cd cd_80 12 = some (.astore 4) by decide +kernel) rfl ?_
  refine jr_1 jm_80 (show jw_cd cd_80 14 = some (.aload_n 0) by decide +kernel) rfl ?_
  refine jr_1 jm_80 (show jw_cd cd_80 15 = some (.iload_n 1) by decide +kernel) rfl ?_
  refine jr_1 jm_80 (show jw_cd cd_80 16 = some (.aload 4) by decide +kernel) rfl ?_
  refine jr_1 jm_80 (show jw_cd cd_80 18 = some (.iconst 0) by decide +kernel) rfl ?_
  refine jr_1 jm_80 (show jw_cd cd_80 19 = some (.aload_n 0) by decide +kernel) rfl ?_
  refine jr_1 jm_80 (show jw_cd cd_80 20 = some (.arraylength) by decide +kernel) cln_4 ?_
  refine jr_1 jm_80 (show jw_cd cd_80 21 = some (.iload_n 1) by decide +kernel) rfl ?_
  refine jr_1 jm_80 (show jw_cd cd_80 22 = some (.isub) by decide +kernel) (mt_sub (c := 16) (by decide)) ?_
  refine jr_1 jm_80 (show jw_cd cd_80 23 = some (.iload_n 3) by decide +kernel) rfl ?_
  refine jr_1 jm_80 (show jw_cd cd_80 24 = some (.invokestatic 304) by decide +kernel) (cmin (c := c) (by decide) ⟨by omega, by omega⟩ ⟨by omega, by omega⟩ (by rw [if_pos (by omega)]) rfl) ?_
  refine jr_1 jm_80 (F2 := (30, [some (.ref 4), some (.int (Int32.ofInt (0))), some (.int (Int32.ofInt (c))), some (.int (Int32.ofInt (c))), some (.ref N)], [], (cl_mk (h ++ [.inl (3, (c).toNat, va_cpy (fun i : Nat => .int (Int32.ofInt (κ 8 i))) (fun _ => .int 0) (0 : Int).toNat (0 : Int).toNat (c).toNat)]) κ))) (show jw_cd cd_80 27 = some (.invokestatic 150) by decide +kernel) (ccyE (by decide) (ap_get hl hN 0 rfl) (jbg (by omega)) (jx_ar_h cl_c4 (by decide)) ⟨by omega, by decide, by decide⟩ (by show 0 + (c).toNat ≤ 16; omega) (by show 0 + (c).toNat ≤ (c).toNat; omega) ⟨by decide, by omega⟩ rfl (fun i hi => ⟨κ 8 i, by show Value.int (Int32.ofInt (κ 8 ((0 + i : Nat) : Int))) = _; rw [Nat.zero_add], hb i (by omega) (by omega)⟩) (ap_set hl hN 0 rfl)) ?_
  refine jr_1 jm_80 (show jw_cd cd_80 30 = some (.aload 4) by decide +kernel) rfl ?_
  rw [hh]
  exact jr_v jm_80 (show jw_cd cd_80 32 = some (.areturn) by decide +kernel) rfl
theorem jc_copyR {β : Bool} {d : Nat} {h : jx_H} {κ : mS} (hl : 50 ≤ h.length) {N : Nat} (hN : h.length = N) (hb32 : N < 4000000000) {c : Int} (hc : 0 ≤ c ∧ c < 16) (hb : ∀ i : Int, 0 ≤ i → i < c → 0 ≤ κ 8 i ∧ κ 8 i ≤ 127) {h' : jx_H} (hh : h ++ [.inl (3, (c).toNat, va_cpy (fun i : Nat => .int (Int32.ofInt (κ 8 i))) (fun _ => .int 0) (0 : Int).toNat (0 : Int).toNat (c).toNat)] = h') : jx_r (jz β) jw_M (d + 2) 79 (0, [some (.ref 4), some (.int (Int32.ofInt (0))), some (.int (Int32.ofInt (c)))], [], (cl_mk h κ)) (cl_mk h' (κ), .inl (some (.ref (N)))) := by
  have r1 := jc_copyB (β := β) (d := d) (κ := κ) hl hN hb32 hc hb hh
  obtain ⟨c0, c1⟩ := hc
  refine jr_1 jm_79 (show jw_cd cd_79 0 = some (.iload_n 1) by decide +kernel) rfl ?_
  refine jr_1 jm_79 (show jw_cd cd_79 1 = some (.ifCond .ne 9) by decide +kernel) (mz_f (q := .ne) (a := 0) (by show ¬ (¬ (0 = 0)); omega) ⟨by omega, by omega⟩ (by decide)) ?_
  refine jr_1 jm_79 (show jw_cd cd_79 4 = some (.iload_n 2) by decide +kernel) rfl ?_
  refine jr_1 jm_79 (show jw_cd cd_79 5 = some (.aload_n 0) by decide +kernel) rfl ?_
  refine jr_1 jm_79 (show jw_cd cd_79 6 = some (.arraylength) by decide +kernel) cln_4 ?_
  refine jr_1 jm_79 (show jw_cd cd_79 7 = some (.if_icmp .eq 10) by decide +kernel) (mb_f (q := .eq) (a := c) (b := 16) (by show ¬ (c = 16); omega) ⟨by omega, by omega⟩ ⟨by omega, by omega⟩ (by decide)) ?_
  refine jr_1 jm_79 (show jw_cd cd_79 10 = some (.aload_n 0) by decide +kernel) rfl ?_
  refine jr_1 jm_79 (show jw_cd cd_79 11 = some (.iload_n 1) by decide +kernel) rfl ?_
  refine jr_1 jm_79 (show jw_cd cd_79 12 = some (.iload_n 2) by decide +kernel) rfl ?_
  refine jr_c jm_79 (show jw_cd cd_79 13 = some (.invokestatic 339) by decide +kernel) (mc_s (n := 3) (m2 := 80) (bs := [.ref 4, .int (Int32.ofInt (0)), .int (Int32.ofInt (c))]) (r := []) (by decide) (show jw_find jw_csT 13 339 = some (80, 3) by decide +kernel) rfl rfl rfl) jm_80 ⟨Nat.le_of_ble_eq_true rfl, by decide⟩ r1 ?_
  exact jr_v jm_79 (show jw_cd cd_79 16 = some (.areturn) by decide +kernel) rfl
theorem jc_strI {β : Bool} {d : Nat} {h : jx_H} {κ : mS} (hl : 50 ≤ h.length) {N : Nat} (hN : h.length = N) (hb32 : N < 3999999999) {c : Int} (e7 : κ 7 0 = c) (hc : 0 ≤ c ∧ c < 16) (hb : ∀ i : Int, 0 ≤ i → i < c → 0 ≤ κ 8 i ∧ κ 8 i ≤ 127) : jx_r (jz β) jw_M (d + 3) 75 (0, [some (.ref N), some (.ref 3), some (.null), none, none], [], (cl_mk (h ++ [.inr (9, [.null, .int (Int32.ofInt (0)), .int (Int32.ofInt (0)), .int (Int32.ofInt (0))])]) κ)) (cl_mk (h ++ [.inr (9, [.ref (N + 1), .int (Int32.ofInt (0)), .int (Int32.ofInt (0)), .int (Int32.ofInt (0))]), .inl (3, (c).toNat, va_cpy (fun i : Nat => .int (Int32.ofInt (κ 8 i))) (fun _ => .int 0) (0 : Int).toNat (0 : Int).toNat (c).toNat)]) (κ), .inl none) := by
  have hl2 : 50 ≤ (h ++ [.inr (9, [.null, .int (Int32.ofInt (0)), .int (Int32.ofInt (0)), .int (Int32.ofInt (0))])] : jx_H).length := by rw [List.length_append]; omega
  have hN2 : (h ++ [.inr (9, [.null, .int (Int32.ofInt (0)), .int (Int32.ofInt (0)), .int (Int32.ofInt (0))])] : jx_H).length = N + 1 := by rw [List.length_append, hN]; rfl
  have r1 := jc_copyR (β := β) (d := d) (κ := κ) hl2 hN2 (by omega) hc hb (h' := (h ++ [.inr (9, [.null, .int (Int32.ofInt (0)), .int (Int32.ofInt (0)), .int (Int32.ofInt (0))]), .inl (3, (c).toNat, va_cpy (fun i : Nat => .int (Int32.ofInt (κ 8 i))) (fun _ => .int 0) (0 : Int).toNat (0 : Int).toNat (c).toNat)])) (by rw [List.append_assoc]; rfl)
  refine jr_1 jm_75 (show jw_cd cd_75 0 = some (.aload_n 0) by decide +kernel) rfl ?_
  refine jr_1 jm_75 (show jw_cd cd_75 1 = some (.invokespecial 1) by decide +kernel) (coi rfl rfl) ?_
  refine jr_1 jm_75 (show jw_cd cd_75 4 = some (.aload_n 1) by decide +kernel) rfl ?_
  refine jr_c jm_75 (show jw_cd cd_75 5 = some (.invokevirtual 552) by decide +kernel) (ccv (n := 0) (m2 := 76) (ci := 2) (a := 3) (bs := []) (r := []) (js_cls cl_c3 (by decide)) (show jw_find jw_cvT 15 552 = some (0, [(2, 76)]) by decide +kernel) (by decide) rfl rfl rfl) jm_76 ⟨Nat.le_of_ble_eq_true rfl, by decide⟩ (jc_val hl2) ?_
  refine jr_1 jm_75 (F2 := (9, [some (.ref N), some (.ref 3), some (.null), some (.ref 4), none], [], (cl_mk (h ++ [.inr (9, [.null, .int (Int32.ofInt (0)), .int (Int32.ofInt (0)), .int (Int32.ofInt (0))])]) κ))) (show jw_cd cd_75 8 = some (.astore_n 3) by decide +kernel) rfl ?_
  refine jr_1 jm_75 (show jw_cd cd_75 9 = some (.aload_n 1) by decide +kernel) rfl ?_
  refine jr_c jm_75 (show jw_cd cd_75 10 = some (.invokevirtual 549) by decide +kernel) (ccv (n := 0) (m2 := 77) (ci := 2) (a := 3) (bs := []) (r := []) (js_cls cl_c3 (by decide)) (show jw_find jw_cvT 15 549 = some (0, [(2, 77)]) by decide +kernel) (by decide) rfl rfl rfl) jm_77 ⟨Nat.le_of_ble_eq_true rfl, by decide⟩ (jc_len hl2 e7) ?_
  refine jr_1 jm_75 (F2 := (15, [some (.ref N), some (.ref 3), some (.null), some (.ref 4), some (.int (Int32.ofInt (c)))], [], (cl_mk (h ++ [.inr (9, [.null, .int (Int32.ofInt (0)), .int (Int32.ofInt (0)), .int (Int32.ofInt (0))])]) κ))) (show jw_cd cd_75 13 = some (.istore 4) by decide +kernel) rfl ?_
  refine jr_1 jm_75 (show jw_cd cd_75 15 = some (.aload_n 1) by decide +kernel) rfl ?_
  refine jr_c jm_75 (show jw_cd cd_75 16 = some (.invokevirtual 1047) by decide +kernel) (ccv (n := 0) (m2 := 23) (ci := 2) (a := 3) (bs := []) (r := []) (js_cls cl_c3 (by decide)) (show jw_find jw_cvT 15 1047 = some (0, [(2, 23)]) by decide +kernel) (by decide) rfl rfl rfl) jm_23 ⟨Nat.le_of_ble_eq_true rfl, by decide⟩ (jc_lat hl2) ?_
  refine jr_1 jm_75 (show jw_cd cd_75 19 = some (.ifCond .eq 22) by decide +kernel) (mz_f (q := .eq) (a := 1) (by show ¬ (1 = 0); omega) ⟨by omega, by omega⟩ (by decide)) ?_
  refine jr_1 jm_75 (show jw_cd cd_75 22 = some (.aload_n 0) by decide +kernel) rfl ?_
  refine jr_1 jm_75 (show jw_cd cd_75 23 = some (.iconst 0) by decide +kernel) rfl ?_
  refine jr_1 jm_75 (F2 := (27, [some (.ref N), some (.ref 3), some (.null), some (.ref 4), some (.int (Int32.ofInt (c)))], [], (cl_mk (h ++ [.inr (9, [.null, .int (Int32.ofInt (0)), .int (Int32.ofInt (0)), .int (Int32.ofInt (0))])]) κ))) (show jw_cd cd_75 24 = some (.putfield 15) by decide +kernel) (cpf (ap_get hl hN 0 rfl) (jbg (by omega)) (show jw_fld 15 15 9 = some 1 by decide +kernel) (show jw_ft 9 1 = some (.byte) from rfl) (show jw_fm 15 9 1 = some true by decide +kernel) (by decide) rfl (ap_set hl hN 0 rfl)) ?_
  refine jr_1 jm_75 (show jw_cd cd_75 27 = some (.aload_n 0) by decide +kernel) rfl ?_
  refine jr_1 jm_75 (show jw_cd cd_75 28 = some (.aload_n 3) by decide +kernel) rfl ?_
  refine jr_1 jm_75 (show jw_cd cd_75 29 = some (.iconst 0) by decide +kernel) rfl ?_
  refine jr_1 jm_75 (show jw_cd cd_75 30 = some (.iload 4) by decide +kernel) rfl ?_
  refine jr_c jm_75 (show jw_cd cd_75 32 = some (.invokestatic 54) by decide +kernel) (mc_s (n := 3) (m2 := 79) (bs := [.ref 4, .int (Int32.ofInt (0)), .int (Int32.ofInt (c))]) (r := [.ref N]) (by decide) (show jw_find jw_csT 15 54 = some (79, 3) by decide +kernel) rfl rfl rfl) jm_79 ⟨Nat.le_of_ble_eq_true rfl, by decide⟩ r1 ?_
  refine jr_1 jm_75 (F2 := (38, [some (.ref N), some (.ref 3), some (.null), some (.ref 4), some (.int (Int32.ofInt (c)))], [], (cl_mk (h ++ [.inr (9, [.ref (N + 1), .int (Int32.ofInt (0)), .int (Int32.ofInt (0)), .int (Int32.ofInt (0))]), .inl (3, (c).toNat, va_cpy (fun i : Nat => .int (Int32.ofInt (κ 8 i))) (fun _ => .int 0) (0 : Int).toNat (0 : Int).toNat (c).toNat)]) κ))) (show jw_cd cd_75 35 = some (.putfield 9) by decide +kernel) (cpf (ap_get hl hN 0 rfl) (jbg (by omega)) (show jw_fld 15 9 9 = some 0 by decide +kernel) (show jw_ft 9 0 = some (.array .byte) from rfl) (show jw_fm 15 9 0 = some true by decide +kernel) rfl rfl (ap_set hl hN 0 rfl)) ?_
  refine jr_1 jm_75 (show jw_cd cd_75 38 = some (.goto 59) by decide +kernel) (ju_go (t := 97) (by decide)) ?_
  exact jr_v jm_75 (show jw_cd cd_75 97 = some (.return_) by decide +kernel) rfl
theorem jc_strJ {β : Bool} {d : Nat} {h : jx_H} {κ : mS} (hl : 50 ≤ h.length) {N : Nat} (hN : h.length = N) (hb32 : N < 3999999999) {c : Int} (e7 : κ 7 0 = c) (hc : 0 ≤ c ∧ c < 16) (hb : ∀ i : Int, 0 ≤ i → i < c → 0 ≤ κ 8 i ∧ κ 8 i ≤ 127) : jx_r (jz β) jw_M (d + 4) 74 (0, [some (.ref N), some (.ref 3)], [], (cl_mk (h ++ [.inr (9, [.null, .int (Int32.ofInt (0)), .int (Int32.ofInt (0)), .int (Int32.ofInt (0))])]) κ)) (cl_mk (h ++ [.inr (9, [.ref (N + 1), .int (Int32.ofInt (0)), .int (Int32.ofInt (0)), .int (Int32.ofInt (0))]), .inl (3, (c).toNat, va_cpy (fun i : Nat => .int (Int32.ofInt (κ 8 i))) (fun _ => .int 0) (0 : Int).toNat (0 : Int).toNat (c).toNat)]) (κ), .inl none) := by
  refine jr_1 jm_74 (show jw_cd cd_74 0 = some (.aload_n 0) by decide +kernel) rfl ?_
  refine jr_1 jm_74 (show jw_cd cd_74 1 = some (.aload_n 1) by decide +kernel) rfl ?_
  refine jr_1 jm_74 (show jw_cd cd_74 2 = some (.aconst_null) by decide +kernel) rfl ?_
  refine jr_c jm_74 (show jw_cd cd_74 3 = some (.invokespecial 489) by decide +kernel) (ccp (n := 2) (m2 := 75) (ci := 9) (a := N) (bs := [.ref 3, .null]) (r := []) (by decide +kernel) (js_cls (ap_get hl hN 0 rfl) (jbg (by omega))) (by decide) (jbg (by omega)) (show jw_find jw_cpT 15 489 = some (2, 75) by decide +kernel) rfl rfl rfl) jm_75 ⟨Nat.le_of_ble_eq_true rfl, by decide⟩ (jc_strI hl hN hb32 e7 hc hb) ?_
  exact jr_v jm_74 (show jw_cd cd_74 6 = some (.return_) by decide +kernel) rfl
theorem jc_toS {β : Bool} {d : Nat} {h : jx_H} {κ : mS} (hl : 50 ≤ h.length) {N : Nat} (hN : h.length = N) (hb32 : N < 3999999999) {c : Int} (e7 : κ 7 0 = c) (hc : 0 ≤ c ∧ c < 16) (hb : ∀ i : Int, 0 ≤ i → i < c → 0 ≤ κ 8 i ∧ κ 8 i ≤ 127) : jx_r (jz β) jw_M (d + 5) 73 (0, [some (.ref 3)], [], (cl_mk h κ)) (cl_mk (h ++ [.inr (9, [.ref (N + 1), .int (Int32.ofInt (0)), .int (Int32.ofInt (0)), .int (Int32.ofInt (0))]), .inl (3, (c).toNat, va_cpy (fun i : Nat => .int (Int32.ofInt (κ 8 i))) (fun _ => .int 0) (0 : Int).toNat (0 : Int).toNat (c).toNat)]) (κ), .inl (some (.ref (N)))) := by
  refine jr_1 jm_73 (F2 := (3, [some (.ref 3)], [.ref N], (cl_mk (h ++ [.inr (9, [.null, .int (Int32.ofInt (0)), .int (Int32.ofInt (0)), .int (Int32.ofInt (0))])]) κ))) (show jw_cd cd_73 0 = some (.new 18) by decide +kernel) (cnw0 hl hN (by omega) (show jw_find jw_xcT 3 18 = none by decide +kernel) (show jw_find jw_nwT 3 18 = some 9 by decide +kernel)) ?_
  refine jr_1 jm_73 (show jw_cd cd_73 3 = some (.dup) by decide +kernel) rfl ?_
  refine jr_1 jm_73 (show jw_cd cd_73 4 = some (.aload_n 0) by decide +kernel) rfl ?_
  refine jr_c jm_73 (show jw_cd cd_73 5 = some (.invokespecial 137) by decide +kernel) (ccp (n := 1) (m2 := 74) (ci := 9) (a := N) (bs := [.ref 3]) (r := [.ref N]) (by decide +kernel) (js_cls (ap_get hl hN 0 rfl) (jbg (by omega))) (by decide) (jbg (by omega)) (show jw_find jw_cpT 3 137 = some (1, 74) by decide +kernel) rfl rfl rfl) jm_74 ⟨Nat.le_of_ble_eq_true rfl, by decide⟩ (jc_strJ hl hN hb32 e7 hc hb) ?_
  exact jr_v jm_73 (show jw_cd cd_73 8 = some (.areturn) by decide +kernel) rfl
