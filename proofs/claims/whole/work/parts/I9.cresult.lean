/-! ===== the class: result, written (printed by program: gen101.py) ===== -/
theorem jm_35 : jw_M 35 = some (15, 2, (none, false), jw_cd cd_35, fun _ _ => none) := rfl
theorem jm_36 : jw_M 36 = some (16, 3, ((Option.some Jvm.ClassFile.FieldType.int), false), jw_cd cd_36, fun _ _ => none) := rfl
theorem jm_107 : jw_M 107 = some (0, 2, ((Option.some Jvm.ClassFile.FieldType.int), false), jw_cd cd_107, fun _ _ => none) := rfl
theorem jm_109 : jw_M 109 = some (0, 2, ((Option.some Jvm.ClassFile.FieldType.int), false), jw_cd cd_109, fun _ _ => none) := rfl
theorem jm_110 : jw_M 110 = some (3, 2, ((Option.some Jvm.ClassFile.FieldType.char), false), jw_cd cd_110, fun _ _ => none) := rfl
theorem jm_111 : jw_M 111 = some (4, 5, ((Option.some Jvm.ClassFile.FieldType.char), false), jw_cd cd_111, fun _ _ => none) := rfl
theorem cgsB {β : Bool} {cd : Nat → Option Instr} {pc : Nat} {rt : Option FieldType × Bool} {lo : jx_L} {st : List Value} {H : jx_H} : jx_do (jz β) cd 15 pc rt (.getstatic 1053) lo st H = some (.inl (pc + 3, lo, (bif β then .ref (jx_big + 55) else .null) :: st, H)) := by
  have e : jx_sv (jz β) 15 1053 = some (bif β then .ref (jx_big + 55) else .null) := rfl
  simp only [jx_do, e]
theorem jc_chkI {β : Bool} {d : Nat} {h : jx_H} {κ : mS} (hl : 50 ≤ h.length) {i n : Int} {v : Value} (hi : 0 ≤ i ∧ i < n) (hn : n ≤ 2000000000) : jx_r (jz β) jw_M (d) 36 (0, [some (.int (Int32.ofInt (i))), some (.int (Int32.ofInt (n))), some (v)], [], (cl_mk h κ)) (cl_mk h (κ), .inl (some (.int (Int32.ofInt (i))))) := by
  refine jr_1 jm_36 (show jw_cd cd_36 0 = some (.iload_n 0) by decide +kernel) rfl ?_
  refine jr_1 jm_36 (show jw_cd cd_36 1 = some (.ifCond .lt 8) by decide +kernel) (mz_f (q := .lt) (a := i) (by show ¬ (i < 0); omega) ⟨by omega, by omega⟩ (by decide)) ?_
  refine jr_1 jm_36 (show jw_cd cd_36 4 = some (.iload_n 0) by decide +kernel) rfl ?_
  refine jr_1 jm_36 (show jw_cd cd_36 5 = some (.iload_n 1) by decide +kernel) rfl ?_
  refine jr_1 jm_36 (show jw_cd cd_36 6 = some (.if_icmp .lt 10) by decide +kernel) (mb_t (q := .lt) (a := i) (b := n) (t := 16) (by show i < n; omega) ⟨by omega, by omega⟩ ⟨by omega, by omega⟩ (by decide) (by decide)) ?_
  refine jr_1 jm_36 (show jw_cd cd_36 16 = some (.iload_n 0) by decide +kernel) rfl ?_
  exact jr_v jm_36 (show jw_cd cd_36 17 = some (.ireturn) by decide +kernel) rfl
theorem jc_chkS {β : Bool} {d : Nat} {h : jx_H} {κ : mS} (hl : 50 ≤ h.length) {i n : Int} (hi : 0 ≤ i ∧ i < n) (hn : n ≤ 2000000000) : jx_r (jz β) jw_M (d + 1) 35 (0, [some (.int (Int32.ofInt (i))), some (.int (Int32.ofInt (n)))], [], (cl_mk h κ)) (cl_mk h (κ), .inl none) := by
  cases β
  · refine jr_1 jm_35 (show jw_cd cd_35 0 = some (.iload_n 0) by decide +kernel) rfl ?_
    refine jr_1 jm_35 (show jw_cd cd_35 1 = some (.iload_n 1) by decide +kernel) rfl ?_
    refine jr_1 jm_35 (show jw_cd cd_35 2 = some (.getstatic 1053) by decide +kernel) cgsB ?_
    refine jr_c jm_35 (show jw_cd cd_35 5 = some (.invokestatic 1059) by decide +kernel) (mc_s (n := 3) (m2 := 36) (bs := [.int (Int32.ofInt (i)), .int (Int32.ofInt (n)), (.null)]) (r := []) (by decide) (show jw_find jw_csT 15 1059 = some (36, 3) by decide +kernel) rfl rfl rfl) jm_36 ⟨Nat.le_of_ble_eq_true rfl, by decide⟩ (jc_chkI hl hi hn) ?_
    refine jr_1 jm_35 (show jw_cd cd_35 8 = some (.pop) by decide +kernel) rfl ?_
    exact jr_v jm_35 (show jw_cd cd_35 9 = some (.return_) by decide +kernel) rfl
  · refine jr_1 jm_35 (show jw_cd cd_35 0 = some (.iload_n 0) by decide +kernel) rfl ?_
    refine jr_1 jm_35 (show jw_cd cd_35 1 = some (.iload_n 1) by decide +kernel) rfl ?_
    refine jr_1 jm_35 (show jw_cd cd_35 2 = some (.getstatic 1053) by decide +kernel) cgsB ?_
    refine jr_c jm_35 (show jw_cd cd_35 5 = some (.invokestatic 1059) by decide +kernel) (mc_s (n := 3) (m2 := 36) (bs := [.int (Int32.ofInt (i)), .int (Int32.ofInt (n)), (.ref (jx_big + 55))]) (r := []) (by decide) (show jw_find jw_csT 15 1059 = some (36, 3) by decide +kernel) rfl rfl rfl) jm_36 ⟨Nat.le_of_ble_eq_true rfl, by decide⟩ (jc_chkI hl hi hn) ?_
    refine jr_1 jm_35 (show jw_cd cd_35 8 = some (.pop) by decide +kernel) rfl ?_
    exact jr_v jm_35 (show jw_cd cd_35 9 = some (.return_) by decide +kernel) rfl
theorem sb_k {h : jx_H} {κ κ' : mS} {r cap : Nat} {fb : Nat → Value} {l : List Int} (hs : sbR h κ r cap fb l) (hl : 50 ≤ h.length) (hq : mEq [12, 16] κ κ') (h0 : κ' 12 0 = 0) : sbR h κ' r cap fb [] ∧ sbF h κ r cap h κ' r cap := by
  refine ⟨⟨(congrFun (hq 13 (by decide)) 0).trans hs.1, h0, hs.2.2.1, rt_k hl hs.2.2.1 (hq 14 (by decide)) hs.2.2.2.1, Nat.zero_le _, hs.2.2.2.2.2.1, hs.2.2.2.2.2.2.1, fun i hi => absurd hi (Nat.not_lt_zero i)⟩, mEq_sub hq (by decide), Nat.le_refl _, fun c y hc hy => ⟨hc, hy⟩, Nat.le_refl _, Nat.le_refl _⟩
theorem js_set0a {β : Bool} {d : Nat} {h : jx_H} {κ : mS} (hl : 50 ≤ h.length) {r cap : Nat} {fb : Nat → Value} {l : List Int} (hs : sbR h κ r cap fb l) : ∃ κ' : mS, jx_r (jz β) jw_M (d + 1) 67 (0, [some (.ref 13), some (.int (Int32.ofInt (0)))], [], (cl_mk h κ)) (cl_mk h (κ'), .inl none) ∧ sbR h κ' r cap fb [] ∧ sbF h κ r cap h κ' r cap := by
  have e13 := sb_13 hs
  have s2 := hs.2.1
  have hcap := sb_cp (sbR_B hs)
  have hle := hs.2.2.2.2.1
  by_cases h0 : l.length = 0
  · refine ⟨(su κ 12 (0) (0)), ?_, sb_k hs hl (mEq_su (mEq_refl _ _) (by decide)) (su_eq _ _ _ _)⟩
    refine jr_1 jm_67 (show jw_cd cd_67 0 = some (.iload_n 1) by decide +kernel) rfl ?_
    refine jr_1 jm_67 (show jw_cd cd_67 1 = some (.ifCond .ge 12) by decide +kernel) (mz_t (q := .ge) (a := 0) (t := 13) (by show 0 ≤ 0; omega) ⟨by omega, by omega⟩ (by decide) (by decide)) ?_
    refine jr_1 jm_67 (show jw_cd cd_67 13 = some (.aload_n 0) by decide +kernel) rfl ?_
    refine jr_1 jm_67 (show jw_cd cd_67 14 = some (.iload_n 1) by decide +kernel) rfl ?_
    refine jr_c jm_67 (show jw_cd cd_67 15 = some (.invokevirtual 100) by decide +kernel) (ccv (n := 1) (m2 := 16) (ci := 2) (a := 13) (bs := [.int (Int32.ofInt (0))]) (r := []) (js_cls cl_c13 (by decide)) (show jw_find jw_cvT 4 100 = some (1, [(2, 16)]) by decide +kernel) (by decide) rfl rfl rfl) jm_16 ⟨Nat.le_of_ble_eq_true rfl, by decide⟩ (js_en0 hl e13 hcap.2.2 hs.2.2.2.1 (by omega) ⟨by omega, by omega⟩) ?_
    refine jr_1 jm_67 (show jw_cd cd_67 18 = some (.aload_n 0) by decide +kernel) rfl ?_
    refine jr_1 jm_67 (show jw_cd cd_67 19 = some (.getfield 79) by decide +kernel) (cg_12 (e := ((l.length : Nat) : Int)) s2 (show jw_fld 4 79 2 = some 3 by decide +kernel)) ?_
    refine jr_1 jm_67 (show jw_cd cd_67 22 = some (.iload_n 1) by decide +kernel) rfl ?_
    refine jr_1 jm_67 (show jw_cd cd_67 23 = some (.if_icmp .ge 40) by decide +kernel) (mb_t (q := .ge) (a := ((l.length : Nat) : Int)) (b := 0) (t := 63) (by show 0 ≤ ((l.length : Nat) : Int); omega) ⟨by omega, by omega⟩ ⟨by omega, by omega⟩ (by decide) (by decide)) ?_
    refine jr_1 jm_67 (show jw_cd cd_67 63 = some (.aload_n 0) by decide +kernel) rfl ?_
    refine jr_1 jm_67 (show jw_cd cd_67 64 = some (.getfield 79) by decide +kernel) (cg_12 (e := ((l.length : Nat) : Int)) s2 (show jw_fld 4 79 2 = some 3 by decide +kernel)) ?_
    refine jr_1 jm_67 (show jw_cd cd_67 67 = some (.iload_n 1) by decide +kernel) rfl ?_
    refine jr_1 jm_67 (show jw_cd cd_67 68 = some (.if_icmp .le 8) by decide +kernel) (mb_t (q := .le) (a := ((l.length : Nat) : Int)) (b := 0) (t := 76) (by show ((l.length : Nat) : Int) ≤ 0; omega) ⟨by omega, by omega⟩ ⟨by omega, by omega⟩ (by decide) (by decide)) ?_
    refine jr_1 jm_67 (show jw_cd cd_67 76 = some (.aload_n 0) by decide +kernel) rfl ?_
    refine jr_1 jm_67 (show jw_cd cd_67 77 = some (.iload_n 1) by decide +kernel) rfl ?_
    refine jr_1 jm_67 (show jw_cd cd_67 78 = some (.putfield 79) by decide +kernel) (cp_12 (x := 0) (show jw_fld 4 79 2 = some 3 by decide +kernel) (show jw_fm 4 2 3 = some false by decide +kernel)) ?_
    exact jr_v jm_67 (show jw_cd cd_67 81 = some (.return_) by decide +kernel) rfl
  · refine ⟨(su (su κ 16 (0) (1)) 12 (0) (0)), ?_, sb_k hs hl (mEq_su (mEq_su (mEq_refl _ _) (by decide)) (by decide)) (su_eq _ _ _ _)⟩
    refine jr_1 jm_67 (show jw_cd cd_67 0 = some (.iload_n 1) by decide +kernel) rfl ?_
    refine jr_1 jm_67 (show jw_cd cd_67 1 = some (.ifCond .ge 12) by decide +kernel) (mz_t (q := .ge) (a := 0) (t := 13) (by show 0 ≤ 0; omega) ⟨by omega, by omega⟩ (by decide) (by decide)) ?_
    refine jr_1 jm_67 (show jw_cd cd_67 13 = some (.aload_n 0) by decide +kernel) rfl ?_
    refine jr_1 jm_67 (show jw_cd cd_67 14 = some (.iload_n 1) by decide +kernel) rfl ?_
    refine jr_c jm_67 (show jw_cd cd_67 15 = some (.invokevirtual 100) by decide +kernel) (ccv (n := 1) (m2 := 16) (ci := 2) (a := 13) (bs := [.int (Int32.ofInt (0))]) (r := []) (js_cls cl_c13 (by decide)) (show jw_find jw_cvT 4 100 = some (1, [(2, 16)]) by decide +kernel) (by decide) rfl rfl rfl) jm_16 ⟨Nat.le_of_ble_eq_true rfl, by decide⟩ (js_en0 hl e13 hcap.2.2 hs.2.2.2.1 (by omega) ⟨by omega, by omega⟩) ?_
    refine jr_1 jm_67 (show jw_cd cd_67 18 = some (.aload_n 0) by decide +kernel) rfl ?_
    refine jr_1 jm_67 (show jw_cd cd_67 19 = some (.getfield 79) by decide +kernel) (cg_12 (e := ((l.length : Nat) : Int)) s2 (show jw_fld 4 79 2 = some 3 by decide +kernel)) ?_
    refine jr_1 jm_67 (show jw_cd cd_67 22 = some (.iload_n 1) by decide +kernel) rfl ?_
    refine jr_1 jm_67 (show jw_cd cd_67 23 = some (.if_icmp .ge 40) by decide +kernel) (mb_t (q := .ge) (a := ((l.length : Nat) : Int)) (b := 0) (t := 63) (by show 0 ≤ ((l.length : Nat) : Int); omega) ⟨by omega, by omega⟩ ⟨by omega, by omega⟩ (by decide) (by decide)) ?_
    refine jr_1 jm_67 (show jw_cd cd_67 63 = some (.aload_n 0) by decide +kernel) rfl ?_
    refine jr_1 jm_67 (show jw_cd cd_67 64 = some (.getfield 79) by decide +kernel) (cg_12 (e := ((l.length : Nat) : Int)) s2 (show jw_fld 4 79 2 = some 3 by decide +kernel)) ?_
    refine jr_1 jm_67 (show jw_cd cd_67 67 = some (.iload_n 1) by decide +kernel) rfl ?_
    refine jr_1 jm_67 (show jw_cd cd_67 68 = some (.if_icmp .le 8) by decide +kernel) (mb_f (q := .le) (a := ((l.length : Nat) : Int)) (b := 0) (by show ¬ (((l.length : Nat) : Int) ≤ 0); omega) ⟨by omega, by omega⟩ ⟨by omega, by omega⟩ (by decide)) ?_
    refine jr_1 jm_67 (show jw_cd cd_67 71 = some (.aload_n 0) by decide +kernel) rfl ?_
    refine jr_1 jm_67 (show jw_cd cd_67 72 = some (.iconst 1) by decide +kernel) rfl ?_
    refine jr_1 jm_67 (show jw_cd cd_67 73 = some (.putfield 73) by decide +kernel) (cp_16 (x := 1) (show jw_fld 4 73 2 = some 2 by decide +kernel) (show jw_fm 4 2 2 = some false by decide +kernel) (by decide)) ?_
    refine jr_1 jm_67 (show jw_cd cd_67 76 = some (.aload_n 0) by decide +kernel) rfl ?_
    refine jr_1 jm_67 (show jw_cd cd_67 77 = some (.iload_n 1) by decide +kernel) rfl ?_
    refine jr_1 jm_67 (show jw_cd cd_67 78 = some (.putfield 79) by decide +kernel) (cp_12 (x := 0) (show jw_fld 4 79 2 = some 3 by decide +kernel) (show jw_fm 4 2 3 = some false by decide +kernel)) ?_
    exact jr_v jm_67 (show jw_cd cd_67 81 = some (.return_) by decide +kernel) rfl
theorem js_set0 {β : Bool} {d : Nat} {h : jx_H} {κ : mS} (hl : 50 ≤ h.length) {r cap : Nat} {fb : Nat → Value} {l : List Int} (hs : sbR h κ r cap fb l) : ∃ κ' : mS, jx_r (jz β) jw_M (d + 2) 66 (0, [some (.ref 13), some (.int (Int32.ofInt (0)))], [], (cl_mk h κ)) (cl_mk h (κ'), .inl none) ∧ sbR h κ' r cap fb [] ∧ sbF h κ r cap h κ' r cap := by
  obtain ⟨κ', hr, hc⟩ := js_set0a (β := β) (d := d) hl hs
  refine ⟨κ', ?_, hc⟩
  refine jr_1 jm_66 (show jw_cd cd_66 0 = some (.aload_n 0) by decide +kernel) rfl ?_
  refine jr_1 jm_66 (show jw_cd cd_66 1 = some (.iload_n 1) by decide +kernel) rfl ?_
  refine jr_c jm_66 (show jw_cd cd_66 2 = some (.invokespecial 333) by decide +kernel) (ccp (n := 1) (m2 := 67) (ci := 2) (a := 13) (bs := [.int (Int32.ofInt (0))]) (r := []) (by decide +kernel) (js_cls cl_c13 (by decide)) (by decide) (by decide) (show jw_find jw_cpT 3 333 = some (1, 67) by decide +kernel) rfl rfl rfl) jm_67 ⟨Nat.le_of_ble_eq_true rfl, by decide⟩ hr ?_
  exact jr_v jm_66 (show jw_cd cd_66 5 = some (.return_) by decide +kernel) rfl
theorem js_ln1 {β : Bool} {d : Nat} {h : jx_H} {κ : mS} (hl : 50 ≤ h.length) {r cap : Nat} {fb : Nat → Value} {l : List Int} (hs : sbR h κ r cap fb l) : jx_r (jz β) jw_M (d) 78 (0, [some (.ref 13)], [], (cl_mk h κ)) (cl_mk h (κ), .inl (some (.int (Int32.ofInt (((l.length : Nat) : Int)))))) := by
  have e13 := sb_13 hs
  have s2 := hs.2.1
  have hcap := sb_cp (sbR_B hs)
  refine jr_1 jm_78 (show jw_cd cd_78 0 = some (.aload_n 0) by decide +kernel) rfl ?_
  refine jr_1 jm_78 (show jw_cd cd_78 1 = some (.getfield 79) by decide +kernel) (cg_12 (e := ((l.length : Nat) : Int)) s2 (show jw_fld 4 79 2 = some 3 by decide +kernel)) ?_
  exact jr_v jm_78 (show jw_cd cd_78 4 = some (.ireturn) by decide +kernel) rfl
theorem js_ln {β : Bool} {d : Nat} {h : jx_H} {κ : mS} (hl : 50 ≤ h.length) {r cap : Nat} {fb : Nat → Value} {l : List Int} (hs : sbR h κ r cap fb l) : jx_r (jz β) jw_M (d + 1) 77 (0, [some (.ref 13)], [], (cl_mk h κ)) (cl_mk h (κ), .inl (some (.int (Int32.ofInt (((l.length : Nat) : Int)))))) := by
  refine jr_1 jm_77 (show jw_cd cd_77 0 = some (.aload_n 0) by decide +kernel) rfl ?_
  refine jr_c jm_77 (show jw_cd cd_77 1 = some (.invokespecial 343) by decide +kernel) (ccp (n := 0) (m2 := 78) (ci := 2) (a := 13) (bs := []) (r := []) (by decide +kernel) (js_cls cl_c13 (by decide)) (by decide) (by decide) (show jw_find jw_cpT 3 343 = some (0, 78) by decide +kernel) rfl rfl rfl) jm_78 ⟨Nat.le_of_ble_eq_true rfl, by decide⟩ (js_ln1 hl hs) ?_
  exact jr_v jm_77 (show jw_cd cd_77 4 = some (.ireturn) by decide +kernel) rfl
theorem and255_s : ∀ t : Fin 128, Int32.ofInt (t.1 : Int) &&& Int32.ofInt 255 = Int32.ofInt (t.1 : Int) := by decide +kernel
theorem mt_and255 {β : Bool} {cd : Nat → Option Instr} {own pc : Nat} {rt : Option FieldType × Bool} {lo : jx_L} {st : List Value} {H : jx_H} {c : Int} (hc : 0 ≤ c ∧ c ≤ 127) : jx_do (jz β) cd own pc rt .iand lo (.int (Int32.ofInt 255) :: .int (Int32.ofInt c) :: st) H = some (.inl (pc + 1, lo, .int (Int32.ofInt c) :: st, H)) := by
  have e := and255_s ⟨c.toNat, by omega⟩
  have e2 : ((c.toNat : Nat) : Int) = c := by omega
  have e : Int32.ofInt ((c.toNat : Nat) : Int) &&& Int32.ofInt 255 = Int32.ofInt ((c.toNat : Nat) : Int) := e
  rw [e2] at e
  simp only [jx_do, e]
theorem js_chA1 {β : Bool} {d : Nat} {h : jx_H} {κ : mS} (hl : 50 ≤ h.length) {r cap : Nat} {fb : Nat → Value} {l : List Int} (hs : sbR h κ r cap fb l) {x : Int} (hx : 0 ≤ x ∧ x < l.length) (hlo : ∀ c ∈ l, 0 ≤ c ∧ c ≤ 127) : jx_r (jz β) jw_M (d + 2) 111 (0, [some (.ref 13), some (.int (Int32.ofInt (x))), none, none, none], [], (cl_mk h κ)) (cl_mk h (κ), .inl (some (.int (Int32.ofInt (l.getD x.toNat 0))))) := by
  have e13 := sb_13 hs
  have s2 := hs.2.1
  have hcap := sb_cp (sbR_B hs)
  have hle := hs.2.2.2.2.1
  have hb := getD_mem hlo (i := x.toNat) (by omega)
  refine jr_1 jm_111 (show jw_cd cd_111 0 = some (.aload_n 0) by decide +kernel) rfl ?_
  refine jr_1 jm_111 (show jw_cd cd_111 1 = some (.getfield 22) by decide +kernel) (cgc_13 (show jw_fld 4 22 2 = some 1 by decide +kernel)) ?_
  refine jr_1 jm_111 (F2 := (5, [some (.ref 13), some (.int (Int32.ofInt (x))), some (.int (Int32.ofInt (0))), none, none], [], (cl_mk h κ))) (show jw_cd cd_111 4 = some (.istore_n 2) by decide +kernel) rfl ?_
  refine jr_1 jm_111 (show jw_cd cd_111 5 = some (.aload_n 0) by decide +kernel) rfl ?_
  refine jr_1 jm_111 (show jw_cd cd_111 6 = some (.getfield 15) by decide +kernel) (cgk_13 (e := r) e13 (show jw_fld 4 15 2 = some 0 by decide +kernel)) ?_
  refine jr_1 jm_111 (F2 := (10, [some (.ref 13), some (.int (Int32.ofInt (x))), some (.int (Int32.ofInt (0))), some (.ref r), none], [], (cl_mk h κ))) (show jw_cd cd_111 9 = some (.astore_n 3) by decide +kernel) rfl ?_
  refine jr_1 jm_111 (show jw_cd cd_111 10 = some (.aload_n 0) by decide +kernel) rfl ?_
  refine jr_1 jm_111 (show jw_cd cd_111 11 = some (.getfield 79) by decide +kernel) (cg_12 (e := ((l.length : Nat) : Int)) s2 (show jw_fld 4 79 2 = some 3 by decide +kernel)) ?_
  refine jr_1 jm_111 (show jw_cd cd_111 14 = some (.aload_n 3) by decide +kernel) rfl ?_
  refine jr_1 jm_111 (show jw_cd cd_111 15 = some (.arraylength) by decide +kernel) (cln (js_arr hs.2.2.2.1 (jbg (by omega))) (by decide)) ?_
  refine jr_1 jm_111 (show jw_cd cd_111 16 = some (.iload_n 2) by decide +kernel) rfl ?_
  refine jr_1 jm_111 (show jw_cd cd_111 17 = some (.ishr) by decide +kernel) mt_shr0 ?_
  refine jr_1 jm_111 (show jw_cd cd_111 18 = some (.invokestatic 138) by decide +kernel) (cmin (c := ((l.length : Nat) : Int)) (by decide) ⟨by omega, by omega⟩ ⟨by omega, by omega⟩ (by split <;> omega) rfl) ?_
  refine jr_1 jm_111 (F2 := (23, [some (.ref 13), some (.int (Int32.ofInt (x))), some (.int (Int32.ofInt (0))), some (.ref r), some (.int (Int32.ofInt (((l.length : Nat) : Int))))], [], (cl_mk h κ))) (show jw_cd cd_111 21 = some (.istore 4) by decide +kernel) rfl ?_
  refine jr_1 jm_111 (show jw_cd cd_111 23 = some (.iload_n 1) by decide +kernel) rfl ?_
  refine jr_1 jm_111 (show jw_cd cd_111 24 = some (.iload 4) by decide +kernel) rfl ?_
  refine jr_c jm_111 (show jw_cd cd_111 26 = some (.invokestatic 144) by decide +kernel) (mc_s (n := 2) (m2 := 35) (bs := [.int (Int32.ofInt (x)), .int (Int32.ofInt (((l.length : Nat) : Int)))]) (r := []) (by decide) (show jw_find jw_csT 4 144 = some (35, 2) by decide +kernel) rfl rfl rfl) jm_35 ⟨Nat.le_of_ble_eq_true rfl, by decide⟩ (jc_chkS hl ⟨by omega, by omega⟩ (by omega)) ?_
  refine jr_1 jm_111 (show jw_cd cd_111 29 = some (.iload_n 2) by decide +kernel) rfl ?_
  refine jr_1 jm_111 (show jw_cd cd_111 30 = some (.ifCond .ne 12) by decide +kernel) (mz_f (q := .ne) (a := 0) (by show ¬ (¬ (0 = 0)); omega) ⟨by omega, by omega⟩ (by decide)) ?_
  refine jr_1 jm_111 (show jw_cd cd_111 33 = some (.aload_n 3) by decide +kernel) rfl ?_
  refine jr_1 jm_111 (show jw_cd cd_111 34 = some (.iload_n 1) by decide +kernel) rfl ?_
  refine jr_1 jm_111 (show jw_cd cd_111 35 = some (.baload) by decide +kernel) (cal_b (e := .int (Int32.ofInt (l.getD x.toNat 0))) (js_arr hs.2.2.2.1 (jbg (by omega))) (by omega) (by omega) (by omega) (hs.2.2.2.2.2.2.2 _ (by omega))) ?_
  refine jr_1 jm_111 (show jw_cd cd_111 36 = some (.sipush 255) by decide +kernel) (mt_si (by decide)) ?_
  refine jr_1 jm_111 (show jw_cd cd_111 39 = some (.iand) by decide +kernel) (mt_and255 ⟨by omega, by omega⟩) ?_
  refine jr_1 jm_111 (show jw_cd cd_111 40 = some (.i2c) by decide +kernel) (mt_i2c ⟨by omega, by omega⟩) ?_
  exact jr_v jm_111 (show jw_cd cd_111 41 = some (.ireturn) by decide +kernel) (crC ⟨by omega, by omega⟩ rfl)
theorem js_chA {β : Bool} {d : Nat} {h : jx_H} {κ : mS} (hl : 50 ≤ h.length) {r cap : Nat} {fb : Nat → Value} {l : List Int} (hs : sbR h κ r cap fb l) {x : Int} (hx : 0 ≤ x ∧ x < l.length) (hlo : ∀ c ∈ l, 0 ≤ c ∧ c ≤ 127) : jx_r (jz β) jw_M (d + 3) 110 (0, [some (.ref 13), some (.int (Int32.ofInt (x)))], [], (cl_mk h κ)) (cl_mk h (κ), .inl (some (.int (Int32.ofInt (l.getD x.toNat 0))))) := by
  have hb := getD_mem hlo (i := x.toNat) (by omega)
  refine jr_1 jm_110 (show jw_cd cd_110 0 = some (.aload_n 0) by decide +kernel) rfl ?_
  refine jr_1 jm_110 (show jw_cd cd_110 1 = some (.iload_n 1) by decide +kernel) rfl ?_
  refine jr_c jm_110 (show jw_cd cd_110 2 = some (.invokespecial 329) by decide +kernel) (ccp (n := 1) (m2 := 111) (ci := 2) (a := 13) (bs := [.int (Int32.ofInt (x))]) (r := []) (by decide +kernel) (js_cls cl_c13 (by decide)) (by decide) (by decide) (show jw_find jw_cpT 3 329 = some (1, 111) by decide +kernel) rfl rfl rfl) jm_111 ⟨Nat.le_of_ble_eq_true rfl, by decide⟩ (js_chA1 hl hs hx hlo) ?_
  exact jr_v jm_110 (show jw_cd cd_110 5 = some (.ireturn) by decide +kernel) (crC ⟨by omega, by omega⟩ rfl)
theorem jc_written {β : Bool} {d : Nat} {h : jx_H} {κ : mS} (hl : 50 ≤ h.length) {r cap : Nat} {fb : Nat → Value} {l : List Int} (hs : sbR h κ r cap fb l) {x : Int} {v : vT} (hlo : ∀ c ∈ l, 0 ≤ c ∧ c ≤ 127) (hv : l = wV v.1 v.2) (hx : mr x) : jx_r (jz β) jw_M (d + 4) 109 (0, [some (.ref 0), some (.int (Int32.ofInt (x)))], [], (cl_mk h κ)) (cl_mk h (κ), .inl (some (.int (Int32.ofInt (wrtS v x))))) := by
  unfold wrtS
  rw [← hv]
  obtain ⟨x1, x2⟩ := hx
  have hle := hs.2.2.2.2.1
  have hcap := sb_cp (sbR_B hs)
  by_cases h1 : x < 0
  · rw [if_neg (by omega)]
    refine jr_1 jm_109 (show jw_cd cd_109 0 = some (.iload_n 1) by decide +kernel) rfl ?_
    refine jr_1 jm_109 (show jw_cd cd_109 1 = some (.ifCond .lt 14) by decide +kernel) (mz_t (q := .lt) (a := x) (t := 15) (by show x < 0; omega) ⟨by omega, by omega⟩ (by decide) (by decide)) ?_
    refine jr_1 jm_109 (show jw_cd cd_109 15 = some (.iconst (-1)) by decide +kernel) rfl ?_
    exact jr_v jm_109 (show jw_cd cd_109 16 = some (.ireturn) by decide +kernel) rfl
  by_cases h2 : x < l.length
  · rw [if_pos ⟨by omega, h2⟩]
    refine jr_1 jm_109 (show jw_cd cd_109 0 = some (.iload_n 1) by decide +kernel) rfl ?_
    refine jr_1 jm_109 (show jw_cd cd_109 1 = some (.ifCond .lt 14) by decide +kernel) (mz_f (q := .lt) (a := x) (by show ¬ (x < 0); omega) ⟨by omega, by omega⟩ (by decide)) ?_
    refine jr_1 jm_109 (show jw_cd cd_109 4 = some (.iload_n 1) by decide +kernel) rfl ?_
    refine jr_1 jm_109 (show jw_cd cd_109 5 = some (.aload_n 0) by decide +kernel) rfl ?_
    refine jr_1 jm_109 (show jw_cd cd_109 6 = some (.getfield 67) by decide +kernel) (cgr_0_8 (show jw_fld 0 67 0 = some 8 by decide +kernel)) ?_
    refine jr_c jm_109 (show jw_cd cd_109 9 = some (.invokevirtual 127) by decide +kernel) (ccv (n := 0) (m2 := 77) (ci := 2) (a := 13) (bs := []) (r := [.int (Int32.ofInt (x))]) (js_cls cl_c13 (by decide)) (show jw_find jw_cvT 0 127 = some (0, [(2, 77)]) by decide +kernel) (by decide) rfl rfl rfl) jm_77 ⟨Nat.le_of_ble_eq_true rfl, by decide⟩ (js_ln hl hs) ?_
    refine jr_1 jm_109 (show jw_cd cd_109 12 = some (.if_icmp .lt 5) by decide +kernel) (mb_t (q := .lt) (a := x) (b := ((l.length : Nat) : Int)) (t := 17) (by show x < ((l.length : Nat) : Int); omega) ⟨by omega, by omega⟩ ⟨by omega, by omega⟩ (by decide) (by decide)) ?_
    refine jr_1 jm_109 (show jw_cd cd_109 17 = some (.aload_n 0) by decide +kernel) rfl ?_
    refine jr_1 jm_109 (show jw_cd cd_109 18 = some (.getfield 67) by decide +kernel) (cgr_0_8 (show jw_fld 0 67 0 = some 8 by decide +kernel)) ?_
    refine jr_1 jm_109 (show jw_cd cd_109 21 = some (.iload_n 1) by decide +kernel) rfl ?_
    refine jr_c jm_109 (show jw_cd cd_109 22 = some (.invokevirtual 129) by decide +kernel) (ccv (n := 1) (m2 := 110) (ci := 2) (a := 13) (bs := [.int (Int32.ofInt (x))]) (r := []) (js_cls cl_c13 (by decide)) (show jw_find jw_cvT 0 129 = some (1, [(2, 110)]) by decide +kernel) (by decide) rfl rfl rfl) jm_110 ⟨Nat.le_of_ble_eq_true rfl, by decide⟩ (js_chA hl hs ⟨by omega, by omega⟩ hlo) ?_
    exact jr_v jm_109 (show jw_cd cd_109 25 = some (.ireturn) by decide +kernel) rfl
  · rw [if_neg (by omega)]
    refine jr_1 jm_109 (show jw_cd cd_109 0 = some (.iload_n 1) by decide +kernel) rfl ?_
    refine jr_1 jm_109 (show jw_cd cd_109 1 = some (.ifCond .lt 14) by decide +kernel) (mz_f (q := .lt) (a := x) (by show ¬ (x < 0); omega) ⟨by omega, by omega⟩ (by decide)) ?_
    refine jr_1 jm_109 (show jw_cd cd_109 4 = some (.iload_n 1) by decide +kernel) rfl ?_
    refine jr_1 jm_109 (show jw_cd cd_109 5 = some (.aload_n 0) by decide +kernel) rfl ?_
    refine jr_1 jm_109 (show jw_cd cd_109 6 = some (.getfield 67) by decide +kernel) (cgr_0_8 (show jw_fld 0 67 0 = some 8 by decide +kernel)) ?_
    refine jr_c jm_109 (show jw_cd cd_109 9 = some (.invokevirtual 127) by decide +kernel) (ccv (n := 0) (m2 := 77) (ci := 2) (a := 13) (bs := []) (r := [.int (Int32.ofInt (x))]) (js_cls cl_c13 (by decide)) (show jw_find jw_cvT 0 127 = some (0, [(2, 77)]) by decide +kernel) (by decide) rfl rfl rfl) jm_77 ⟨Nat.le_of_ble_eq_true rfl, by decide⟩ (js_ln hl hs) ?_
    refine jr_1 jm_109 (show jw_cd cd_109 12 = some (.if_icmp .lt 5) by decide +kernel) (mb_f (q := .lt) (a := x) (b := ((l.length : Nat) : Int)) (by show ¬ (x < ((l.length : Nat) : Int)); omega) ⟨by omega, by omega⟩ ⟨by omega, by omega⟩ (by decide)) ?_
    refine jr_1 jm_109 (show jw_cd cd_109 15 = some (.iconst (-1)) by decide +kernel) rfl ?_
    exact jr_v jm_109 (show jw_cd cd_109 16 = some (.ireturn) by decide +kernel) rfl
theorem jc_result {β : Bool} {d : Nat} {h : jx_H} {κ : mS} (hl : 50 ≤ h.length) {X : Nat → Prop} {ra : Nat} {r cap : Nat} {fb : Nat → Value} {l : List Int} (hs : sbR h κ r cap fb l) {v : vT} {x : Int} (hra : (κ 2 0).toNat = ra) (hv : vR h X ra v) (hd : fdp v.2 ≤ 4) (hi : iok v.1) (hl2 : l = wV v.1 v.2) (hx : mr x) : jx_r (jz β) jw_M (d + 5) 107 (0, [some (.ref 0), some (.int (Int32.ofInt (x)))], [], (cl_mk h κ)) (cl_mk h (κ), .inl (some (.int (Int32.ofInt (resS v x))))) := by
  have hvo := vR_O (κ := κ) hl hv
  obtain ⟨h0, t, ka, ia, kc, ic, f, g, h1, hA, -⟩ := id hvo
  have i1 := hi.1
  have i2 := hi.2.1
  unfold resS
  by_cases hk : x = 0
  · rw [if_pos hk]
    refine jr_1 jm_107 (show jw_cd cd_107 0 = some (.iload_n 1) by decide +kernel) rfl ?_
    refine jr_1 jm_107 (show jw_cd cd_107 1 = some (.tableswitch 85 0 3 #[31, 39, 68, 76]) by decide +kernel) (mt_ts (t := 32) (off := 31) hx (by omega) (by rw [hk]; rfl) (by decide)) ?_
    refine jr_1 jm_107 (show jw_cd cd_107 32 = some (.aload_n 0) by decide +kernel) rfl ?_
    refine jr_1 jm_107 (show jw_cd cd_107 33 = some (.getfield 61) by decide +kernel) (cgk_2 (e := ra) hra (show jw_fld 0 61 0 = some 7 by decide +kernel)) ?_
    refine jr_1 jm_107 (show jw_cd cd_107 36 = some (.getfield 118) by decide +kernel) (js_getf hA (jbg (by omega)) (show jw_fld 0 118 5 = some 0 by decide +kernel) rfl) ?_
    exact jr_v jm_107 (show jw_cd cd_107 39 = some (.ireturn) by decide +kernel) rfl
  rw [if_neg hk]
  by_cases hk : x = 1
  · rw [if_pos hk]
    unfold vext
    by_cases h3 : v.1.1 = 3
    · rw [if_pos h3]
      refine jr_1 jm_107 (show jw_cd cd_107 0 = some (.iload_n 1) by decide +kernel) rfl ?_
      refine jr_1 jm_107 (show jw_cd cd_107 1 = some (.tableswitch 85 0 3 #[31, 39, 68, 76]) by decide +kernel) (mt_ts (t := 40) (off := 39) hx (by omega) (by rw [hk]; rfl) (by decide)) ?_
      refine jr_1 jm_107 (show jw_cd cd_107 40 = some (.aload_n 0) by decide +kernel) rfl ?_
      refine jr_1 jm_107 (show jw_cd cd_107 41 = some (.getfield 61) by decide +kernel) (cgk_2 (e := ra) hra (show jw_fld 0 61 0 = some 7 by decide +kernel)) ?_
      refine jr_1 jm_107 (show jw_cd cd_107 44 = some (.getfield 118) by decide +kernel) (js_getf hA (jbg (by omega)) (show jw_fld 0 118 5 = some 0 by decide +kernel) rfl) ?_
      refine jr_1 jm_107 (show jw_cd cd_107 47 = some (.iconst 3) by decide +kernel) rfl ?_
      refine jr_1 jm_107 (show jw_cd cd_107 48 = some (.if_icmp .ne 13) by decide +kernel) (mb_f (q := .ne) (a := v.1.1) (b := 3) (by show ¬ (¬ (v.1.1 = 3)); omega) ⟨by omega, by omega⟩ ⟨by omega, by omega⟩ (by decide)) ?_
      refine jr_1 jm_107 (show jw_cd cd_107 51 = some (.aload_n 0) by decide +kernel) rfl ?_
      refine jr_1 jm_107 (show jw_cd cd_107 52 = some (.getfield 61) by decide +kernel) (cgk_2 (e := ra) hra (show jw_fld 0 61 0 = some 7 by decide +kernel)) ?_
      refine jr_1 jm_107 (show jw_cd cd_107 55 = some (.getfield 121) by decide +kernel) (js_getf hA (jbg (by omega)) (show jw_fld 0 121 5 = some 1 by decide +kernel) rfl) ?_
      refine jr_1 jm_107 (show jw_cd cd_107 58 = some (.goto 10) by decide +kernel) (ju_go (t := 68) (by decide)) ?_
      exact jr_v jm_107 (show jw_cd cd_107 68 = some (.ireturn) by decide +kernel) rfl
    · rw [if_neg h3]
      by_cases h4 : v.1.1 = 4
      · rw [if_pos h4]
        refine jr_1 jm_107 (show jw_cd cd_107 0 = some (.iload_n 1) by decide +kernel) rfl ?_
        refine jr_1 jm_107 (show jw_cd cd_107 1 = some (.tableswitch 85 0 3 #[31, 39, 68, 76]) by decide +kernel) (mt_ts (t := 40) (off := 39) hx (by omega) (by rw [hk]; rfl) (by decide)) ?_
        refine jr_1 jm_107 (show jw_cd cd_107 40 = some (.aload_n 0) by decide +kernel) rfl ?_
        refine jr_1 jm_107 (show jw_cd cd_107 41 = some (.getfield 61) by decide +kernel) (cgk_2 (e := ra) hra (show jw_fld 0 61 0 = some 7 by decide +kernel)) ?_
        refine jr_1 jm_107 (show jw_cd cd_107 44 = some (.getfield 118) by decide +kernel) (js_getf hA (jbg (by omega)) (show jw_fld 0 118 5 = some 0 by decide +kernel) rfl) ?_
        refine jr_1 jm_107 (show jw_cd cd_107 47 = some (.iconst 3) by decide +kernel) rfl ?_
        refine jr_1 jm_107 (show jw_cd cd_107 48 = some (.if_icmp .ne 13) by decide +kernel) (mb_t (q := .ne) (a := v.1.1) (b := 3) (t := 61) (by show ¬ (v.1.1 = 3); omega) ⟨by omega, by omega⟩ ⟨by omega, by omega⟩ (by decide) (by decide)) ?_
        refine jr_1 jm_107 (show jw_cd cd_107 61 = some (.aload_n 0) by decide +kernel) rfl ?_
        refine jr_1 jm_107 (show jw_cd cd_107 62 = some (.getfield 61) by decide +kernel) (cgk_2 (e := ra) hra (show jw_fld 0 61 0 = some 7 by decide +kernel)) ?_
        refine jr_c jm_107 (show jw_cd cd_107 65 = some (.invokevirtual 124) by decide +kernel) (ccv (n := 0) (m2 := 108) (ci := 5) (a := ra) (bs := []) (r := []) (js_cls hA (jbg (by omega))) (show jw_find jw_cvT 0 124 = some (0, [(5, 108)]) by decide +kernel) (by decide) rfl rfl rfl) jm_108 ⟨Nat.le_of_ble_eq_true rfl, by decide⟩ ((jc_ext hl hvo hi).1 h4) ?_
        exact jr_v jm_107 (show jw_cd cd_107 68 = some (.ireturn) by decide +kernel) rfl
      · rw [if_neg h4]
        refine jr_1 jm_107 (show jw_cd cd_107 0 = some (.iload_n 1) by decide +kernel) rfl ?_
        refine jr_1 jm_107 (show jw_cd cd_107 1 = some (.tableswitch 85 0 3 #[31, 39, 68, 76]) by decide +kernel) (mt_ts (t := 40) (off := 39) hx (by omega) (by rw [hk]; rfl) (by decide)) ?_
        refine jr_1 jm_107 (show jw_cd cd_107 40 = some (.aload_n 0) by decide +kernel) rfl ?_
        refine jr_1 jm_107 (show jw_cd cd_107 41 = some (.getfield 61) by decide +kernel) (cgk_2 (e := ra) hra (show jw_fld 0 61 0 = some 7 by decide +kernel)) ?_
        refine jr_1 jm_107 (show jw_cd cd_107 44 = some (.getfield 118) by decide +kernel) (js_getf hA (jbg (by omega)) (show jw_fld 0 118 5 = some 0 by decide +kernel) rfl) ?_
        refine jr_1 jm_107 (show jw_cd cd_107 47 = some (.iconst 3) by decide +kernel) rfl ?_
        refine jr_1 jm_107 (show jw_cd cd_107 48 = some (.if_icmp .ne 13) by decide +kernel) (mb_t (q := .ne) (a := v.1.1) (b := 3) (t := 61) (by show ¬ (v.1.1 = 3); omega) ⟨by omega, by omega⟩ ⟨by omega, by omega⟩ (by decide) (by decide)) ?_
        refine jr_1 jm_107 (show jw_cd cd_107 61 = some (.aload_n 0) by decide +kernel) rfl ?_
        refine jr_1 jm_107 (show jw_cd cd_107 62 = some (.getfield 61) by decide +kernel) (cgk_2 (e := ra) hra (show jw_fld 0 61 0 = some 7 by decide +kernel)) ?_
        refine jr_c jm_107 (show jw_cd cd_107 65 = some (.invokevirtual 124) by decide +kernel) (ccv (n := 0) (m2 := 108) (ci := 5) (a := ra) (bs := []) (r := []) (js_cls hA (jbg (by omega))) (show jw_find jw_cvT 0 124 = some (0, [(5, 108)]) by decide +kernel) (by decide) rfl rfl rfl) jm_108 ⟨Nat.le_of_ble_eq_true rfl, by decide⟩ ((jc_ext hl hvo hi).2 h4) ?_
        exact jr_v jm_107 (show jw_cd cd_107 68 = some (.ireturn) by decide +kernel) rfl
  rw [if_neg hk]
  by_cases hk : x = 2
  · rw [if_pos hk]
    unfold vl
    rw [← hl2]
    refine jr_1 jm_107 (show jw_cd cd_107 0 = some (.iload_n 1) by decide +kernel) rfl ?_
    refine jr_1 jm_107 (show jw_cd cd_107 1 = some (.tableswitch 85 0 3 #[31, 39, 68, 76]) by decide +kernel) (mt_ts (t := 69) (off := 68) hx (by omega) (by rw [hk]; rfl) (by decide)) ?_
    refine jr_1 jm_107 (show jw_cd cd_107 69 = some (.aload_n 0) by decide +kernel) rfl ?_
    refine jr_1 jm_107 (show jw_cd cd_107 70 = some (.getfield 67) by decide +kernel) (cgr_0_8 (show jw_fld 0 67 0 = some 8 by decide +kernel)) ?_
    refine jr_c jm_107 (show jw_cd cd_107 73 = some (.invokevirtual 127) by decide +kernel) (ccv (n := 0) (m2 := 77) (ci := 2) (a := 13) (bs := []) (r := []) (js_cls cl_c13 (by decide)) (show jw_find jw_cvT 0 127 = some (0, [(2, 77)]) by decide +kernel) (by decide) rfl rfl rfl) jm_77 ⟨Nat.le_of_ble_eq_true rfl, by decide⟩ (js_ln hl hs) ?_
    exact jr_v jm_107 (show jw_cd cd_107 76 = some (.ireturn) by decide +kernel) rfl
  rw [if_neg hk]
  by_cases hk : x = 3
  · rw [if_pos hk]
    refine jr_1 jm_107 (show jw_cd cd_107 0 = some (.iload_n 1) by decide +kernel) rfl ?_
    refine jr_1 jm_107 (show jw_cd cd_107 1 = some (.tableswitch 85 0 3 #[31, 39, 68, 76]) by decide +kernel) (mt_ts (t := 77) (off := 76) hx (by omega) (by rw [hk]; rfl) (by decide)) ?_
    refine jr_1 jm_107 (show jw_cd cd_107 77 = some (.aload_n 0) by decide +kernel) rfl ?_
    refine jr_1 jm_107 (show jw_cd cd_107 78 = some (.getfield 61) by decide +kernel) (cgk_2 (e := ra) hra (show jw_fld 0 61 0 = some 7 by decide +kernel)) ?_
    refine jr_1 jm_107 (show jw_cd cd_107 81 = some (.iconst 0) by decide +kernel) rfl ?_
    refine jr_c jm_107 (show jw_cd cd_107 82 = some (.invokevirtual 99) by decide +kernel) (ccv (n := 1) (m2 := 105) (ci := 5) (a := ra) (bs := [.int (Int32.ofInt (0))]) (r := []) (js_cls hA (jbg (by omega))) (show jw_find jw_cvT 0 99 = some (1, [(5, 105)]) by decide +kernel) (by decide) rfl rfl rfl) jm_105 ⟨Nat.le_of_ble_eq_true rfl, by decide⟩ (jc_cnt hl hvo hd) ?_
    exact jr_v jm_107 (show jw_cd cd_107 85 = some (.ireturn) by decide +kernel) rfl
  · rw [if_neg hk]
    refine jr_1 jm_107 (show jw_cd cd_107 0 = some (.iload_n 1) by decide +kernel) rfl ?_
    refine jr_1 jm_107 (show jw_cd cd_107 1 = some (.tableswitch 85 0 3 #[31, 39, 68, 76]) by decide +kernel) (mt_td (t := 86) hx (by omega) (by decide)) ?_
    refine jr_1 jm_107 (show jw_cd cd_107 86 = some (.iconst (-1)) by decide +kernel) rfl ?_
    exact jr_v jm_107 (show jw_cd cd_107 87 = some (.ireturn) by decide +kernel) rfl
