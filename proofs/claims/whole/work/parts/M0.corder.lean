/-! ===== the class: order of numbers and texts (printed by program: gen128.py) ===== -/
theorem jm_185 : jw_M 185 = some (8, 4, ((Option.some Jvm.ClassFile.FieldType.int), false), jw_cd cd_185, fun _ _ => none) := rfl
theorem jm_186 : jw_M 186 = some (17, 2, ((Option.some Jvm.ClassFile.FieldType.int), false), jw_cd cd_186, fun _ _ => none) := rfl
theorem jm_187 : jw_M 187 = some (15, 2, ((Option.some Jvm.ClassFile.FieldType.char), false), jw_cd cd_187, fun _ _ => none) := rfl
theorem jm_188 : jw_M 188 = some (15, 1, ((Option.some Jvm.ClassFile.FieldType.boolean), false), jw_cd cd_188, fun _ _ => none) := rfl
theorem jm_189 : jw_M 189 = some (14, 2, ((Option.some Jvm.ClassFile.FieldType.char), false), jw_cd cd_189, fun _ _ => none) := rfl
theorem jc_sLat {β : Bool} {d : Nat} {h : jx_H} {κ : mS} (hl : 50 ≤ h.length) {X : Nat → Prop} {t : Nat} {s : List Int} (ht : strR h X t s) (hm : s.length ≤ 100) (hc : ∀ c ∈ s, 0 ≤ c ∧ c ≤ 127) : jx_r (jz β) jw_M (d) 188 (0, [some (.ref t)], [], (cl_mk h κ)) (cl_mk h (κ), .inl (some (.int (Int32.ofInt (1))))) := by
  obtain ⟨qc, qs, b, f, q0, q1, qa, qf⟩ := strR_q (β := β) (κ := κ) hl ht
  refine jr_1 jm_188 (show jw_cd cd_188 0 = some (.getstatic 38) by decide +kernel) (cgs (v := .int (Int32.ofInt (1))) (by decide) rfl) ?_
  refine jr_1 jm_188 (show jw_cd cd_188 3 = some (.ifCond .eq 14) by decide +kernel) (mz_f (q := .eq) (a := 1) (by show ¬ (1 = 0); omega) ⟨by omega, by omega⟩ (by decide)) ?_
  refine jr_1 jm_188 (show jw_cd cd_188 6 = some (.aload_n 0) by decide +kernel) rfl ?_
  refine jr_1 jm_188 (show jw_cd cd_188 7 = some (.getfield 15) by decide +kernel) (cgf qc (show jw_fld 15 15 9 = some 1 by decide +kernel) q1) ?_
  refine jr_1 jm_188 (show jw_cd cd_188 10 = some (.ifCond .ne 7) by decide +kernel) (mz_f (q := .ne) (a := 0) (by show ¬ (¬ (0 = 0)); omega) ⟨by omega, by omega⟩ (by decide)) ?_
  refine jr_1 jm_188 (show jw_cd cd_188 13 = some (.iconst 1) by decide +kernel) rfl ?_
  refine jr_1 jm_188 (show jw_cd cd_188 14 = some (.goto 4) by decide +kernel) (ju_go (t := 18) (by decide)) ?_
  exact jr_v jm_188 (show jw_cd cd_188 18 = some (.ireturn) by decide +kernel) rfl
theorem jc_lcA {β : Bool} {d : Nat} {h : jx_H} {κ : mS} (hl : 50 ≤ h.length) {b j : Nat} {f : Nat → Value} {s : List Int} (qa : jx_arr (jz β) (cl_mk h κ) b = some (3, s.length, f)) (qf : ∀ i, i < s.length → f i = .int (Int32.ofInt (s.getD i 0))) (hm : s.length ≤ 100) (hc : ∀ c ∈ s, 0 ≤ c ∧ c ≤ 127) (hj : j < s.length) : jx_r (jz β) jw_M (d + 2) 189 (0, [some (.ref b), some (.int (Int32.ofInt (((j : Nat) : Int))))], [], (cl_mk h κ)) (cl_mk h (κ), .inl (some (.int (Int32.ofInt (s.getD j 0))))) := by
  have hb := getD_mem hc hj
  refine jr_1 jm_189 (show jw_cd cd_189 0 = some (.iload_n 1) by decide +kernel) rfl ?_
  refine jr_1 jm_189 (show jw_cd cd_189 1 = some (.aload_n 0) by decide +kernel) rfl ?_
  refine jr_1 jm_189 (show jw_cd cd_189 2 = some (.arraylength) by decide +kernel) (cln qa (by decide)) ?_
  refine jr_c jm_189 (show jw_cd cd_189 3 = some (.invokestatic 9) by decide +kernel) (mc_s (n := 2) (m2 := 35) (bs := [.int (Int32.ofInt (((j : Nat) : Int))), .int (Int32.ofInt (((s.length : Nat) : Int)))]) (r := []) (by decide) (show jw_find jw_csT 14 9 = some (35, 2) by decide +kernel) rfl rfl rfl) jm_35 ⟨Nat.le_of_ble_eq_true rfl, by decide⟩ (jc_chkS hl ⟨by omega, by omega⟩ (by omega)) ?_
  refine jr_1 jm_189 (show jw_cd cd_189 6 = some (.aload_n 0) by decide +kernel) rfl ?_
  refine jr_1 jm_189 (show jw_cd cd_189 7 = some (.iload_n 1) by decide +kernel) rfl ?_
  refine jr_1 jm_189 (show jw_cd cd_189 8 = some (.baload) by decide +kernel) (cal_b (e := .int (Int32.ofInt (s.getD j 0))) qa (by omega) (by omega) (by omega) (by rw [Int.toNat_natCast]; exact qf j hj)) ?_
  refine jr_1 jm_189 (show jw_cd cd_189 9 = some (.sipush 255) by decide +kernel) (mt_si (by decide)) ?_
  refine jr_1 jm_189 (show jw_cd cd_189 12 = some (.iand) by decide +kernel) (mt_and255 ⟨by omega, by omega⟩) ?_
  refine jr_1 jm_189 (show jw_cd cd_189 13 = some (.i2c) by decide +kernel) (mt_i2c ⟨by omega, by omega⟩) ?_
  exact jr_v jm_189 (show jw_cd cd_189 14 = some (.ireturn) by decide +kernel) (crC ⟨by omega, by omega⟩ rfl)
theorem jc_strAt {β : Bool} {d : Nat} {h : jx_H} {κ : mS} (hl : 50 ≤ h.length) {X : Nat → Prop} {t : Nat} {s : List Int} (ht : strR h X t s) (hm : s.length ≤ 100) (hc : ∀ c ∈ s, 0 ≤ c ∧ c ≤ 127) {j : Nat} (hj : j < s.length) : jx_r (jz β) jw_M (d + 3) 187 (0, [some (.ref t), some (.int (Int32.ofInt (((j : Nat) : Int))))], [], (cl_mk h κ)) (cl_mk h (κ), .inl (some (.int (Int32.ofInt (s.getD j 0))))) := by
  obtain ⟨qc, qs, b, f, q0, q1, qa, qf⟩ := strR_q (β := β) (κ := κ) hl ht
  have hb := getD_mem hc hj
  refine jr_1 jm_187 (show jw_cd cd_187 0 = some (.aload_n 0) by decide +kernel) rfl ?_
  refine jr_c jm_187 (show jw_cd cd_187 1 = some (.invokevirtual 492) by decide +kernel) (ccv (n := 0) (m2 := 188) (ci := 9) (a := t) (bs := []) (r := []) qc (show jw_find jw_cvT 15 492 = some (0, [(9, 188)]) by decide +kernel) (by decide) rfl rfl rfl) jm_188 ⟨Nat.le_of_ble_eq_true rfl, by decide⟩ (jc_sLat hl ht hm hc) ?_
  refine jr_1 jm_187 (show jw_cd cd_187 4 = some (.ifCond .eq 12) by decide +kernel) (mz_f (q := .eq) (a := 1) (by show ¬ (1 = 0); omega) ⟨by omega, by omega⟩ (by decide)) ?_
  refine jr_1 jm_187 (show jw_cd cd_187 7 = some (.aload_n 0) by decide +kernel) rfl ?_
  refine jr_1 jm_187 (show jw_cd cd_187 8 = some (.getfield 9) by decide +kernel) (cgf qc (show jw_fld 15 9 9 = some 0 by decide +kernel) q0) ?_
  refine jr_1 jm_187 (show jw_cd cd_187 11 = some (.iload_n 1) by decide +kernel) rfl ?_
  refine jr_c jm_187 (show jw_cd cd_187 12 = some (.invokestatic 495) by decide +kernel) (mc_s (n := 2) (m2 := 189) (bs := [.ref b, .int (Int32.ofInt (((j : Nat) : Int)))]) (r := []) (by decide) (show jw_find jw_csT 15 495 = some (189, 2) by decide +kernel) rfl rfl rfl) jm_189 ⟨Nat.le_of_ble_eq_true rfl, by decide⟩ (jc_lcA hl qa qf hm hc hj) ?_
  exact jr_v jm_187 (show jw_cd cd_187 15 = some (.ireturn) by decide +kernel) (crC ⟨by omega, by omega⟩ rfl)
def cmpZ (x y : Int) : Int := if x < y then -1 else if x = y then 0 else 1
theorem cmpZ_s (x y : Int) : (0 < cmpZ x y ↔ y < x) ∧ (cmpZ x y < 0 ↔ x < y) ∧ -1 ≤ cmpZ x y ∧ cmpZ x y ≤ 1 := by
  unfold cmpZ
  split
  · omega
  · split <;> omega
theorem jc_icmp {β : Bool} {d : Nat} {h : jx_H} {κ : mS} (hl : 50 ≤ h.length) {x y : Int} (hx : mr x) (hy : mr y) : jx_r (jz β) jw_M (d) 186 (0, [some (.int (Int32.ofInt (x))), some (.int (Int32.ofInt (y)))], [], (cl_mk h κ)) (cl_mk h (κ), .inl (some (.int (Int32.ofInt (cmpZ x y))))) := by
  obtain ⟨x1, x2⟩ := hx
  obtain ⟨y1, y2⟩ := hy
  unfold cmpZ
  by_cases h1 : x < y
  · rw [if_pos h1]
    refine jr_1 jm_186 (show jw_cd cd_186 0 = some (.iload_n 0) by decide +kernel) rfl ?_
    refine jr_1 jm_186 (show jw_cd cd_186 1 = some (.iload_n 1) by decide +kernel) rfl ?_
    refine jr_1 jm_186 (show jw_cd cd_186 2 = some (.if_icmp .ge 7) by decide +kernel) (mb_f (q := .ge) (a := x) (b := y) (by show ¬ (y ≤ x); omega) ⟨by omega, by omega⟩ ⟨by omega, by omega⟩ (by decide)) ?_
    refine jr_1 jm_186 (show jw_cd cd_186 5 = some (.iconst (-1)) by decide +kernel) rfl ?_
    refine jr_1 jm_186 (show jw_cd cd_186 6 = some (.goto 13) by decide +kernel) (ju_go (t := 19) (by decide)) ?_
    exact jr_v jm_186 (show jw_cd cd_186 19 = some (.ireturn) by decide +kernel) rfl
  rw [if_neg h1]
  by_cases h2 : x = y
  · rw [if_pos h2]
    refine jr_1 jm_186 (show jw_cd cd_186 0 = some (.iload_n 0) by decide +kernel) rfl ?_
    refine jr_1 jm_186 (show jw_cd cd_186 1 = some (.iload_n 1) by decide +kernel) rfl ?_
    refine jr_1 jm_186 (show jw_cd cd_186 2 = some (.if_icmp .ge 7) by decide +kernel) (mb_t (q := .ge) (a := x) (b := y) (t := 9) (by show y ≤ x; omega) ⟨by omega, by omega⟩ ⟨by omega, by omega⟩ (by decide) (by decide)) ?_
    refine jr_1 jm_186 (show jw_cd cd_186 9 = some (.iload_n 0) by decide +kernel) rfl ?_
    refine jr_1 jm_186 (show jw_cd cd_186 10 = some (.iload_n 1) by decide +kernel) rfl ?_
    refine jr_1 jm_186 (show jw_cd cd_186 11 = some (.if_icmp .ne 7) by decide +kernel) (mb_f (q := .ne) (a := x) (b := y) (by show ¬ (¬ (x = y)); omega) ⟨by omega, by omega⟩ ⟨by omega, by omega⟩ (by decide)) ?_
    refine jr_1 jm_186 (show jw_cd cd_186 14 = some (.iconst 0) by decide +kernel) rfl ?_
    refine jr_1 jm_186 (show jw_cd cd_186 15 = some (.goto 4) by decide +kernel) (ju_go (t := 19) (by decide)) ?_
    exact jr_v jm_186 (show jw_cd cd_186 19 = some (.ireturn) by decide +kernel) rfl
  · rw [if_neg h2]
    refine jr_1 jm_186 (show jw_cd cd_186 0 = some (.iload_n 0) by decide +kernel) rfl ?_
    refine jr_1 jm_186 (show jw_cd cd_186 1 = some (.iload_n 1) by decide +kernel) rfl ?_
    refine jr_1 jm_186 (show jw_cd cd_186 2 = some (.if_icmp .ge 7) by decide +kernel) (mb_t (q := .ge) (a := x) (b := y) (t := 9) (by show y ≤ x; omega) ⟨by omega, by omega⟩ ⟨by omega, by omega⟩ (by decide) (by decide)) ?_
    refine jr_1 jm_186 (show jw_cd cd_186 9 = some (.iload_n 0) by decide +kernel) rfl ?_
    refine jr_1 jm_186 (show jw_cd cd_186 10 = some (.iload_n 1) by decide +kernel) rfl ?_
    refine jr_1 jm_186 (show jw_cd cd_186 11 = some (.if_icmp .ne 7) by decide +kernel) (mb_t (q := .ne) (a := x) (b := y) (t := 18) (by show ¬ (x = y); omega) ⟨by omega, by omega⟩ ⟨by omega, by omega⟩ (by decide) (by decide)) ?_
    refine jr_1 jm_186 (show jw_cd cd_186 18 = some (.iconst 1) by decide +kernel) rfl ?_
    exact jr_v jm_186 (show jw_cd cd_186 19 = some (.ireturn) by decide +kernel) rfl
theorem pk_lt1 {j : Nat} {c1 c2 : Int} {l1 l2 : List Int} (h1 : j + 1 + l1.length ≤ 7) (h2 : j + 1 + l2.length ≤ 7) (k1 : ∀ c ∈ l1, 0 ≤ c ∧ c ≤ 127) (k2 : ∀ c ∈ l2, 0 ≤ c ∧ c ≤ 127) (hc : c1 < c2) : pkA j (c1 :: l1) < pkA j (c2 :: l2) := by
  have b1 := pkA_b l1 (j + 1) h1 k1
  have b2 := pkA_b l2 (j + 1) h2 k2
  show c1 * 2 ^ (7 * (6 - j)) + pkA (j + 1) l1 < c2 * 2 ^ (7 * (6 - j)) + pkA (j + 1) l2
  rw [show 7 - (j + 1) = 6 - j by omega] at b1
  have hW := p2_pos (7 * (6 - j))
  have hm : (c1 + 1) * 2 ^ (7 * (6 - j)) ≤ c2 * 2 ^ (7 * (6 - j)) := Int.mul_le_mul_of_nonneg_right (by omega) (by omega)
  rw [Int.add_mul, Int.one_mul] at hm
  omega
theorem pk_pos1 {j : Nat} {c : Int} {l : List Int} (h1 : j + 1 + l.length ≤ 7) (k1 : ∀ c ∈ l, 0 ≤ c ∧ c ≤ 127) (hc : 1 ≤ c) : 0 < pkA j (c :: l) := by
  have b1 := pkA_b l (j + 1) h1 k1
  show 0 < c * 2 ^ (7 * (6 - j)) + pkA (j + 1) l
  have hW := p2_pos (7 * (6 - j))
  have := Int.mul_pos (show 0 < c by omega) hW
  omega
theorem jc_orL {β : Bool} {d : Nat} {h : jx_H} {κ : mS} (hl : 50 ≤ h.length) {X Y : Nat → Prop} {a b mn : Nat} {i y : tI} {F G : FT} (hv : vO h κ X a i F) (hw : vO h κ Y b y G) (hi : iok i) (hy : iok y) (hmn : mn = min i.2.2.1.length y.2.2.1.length) : ∀ (r1 r2 : List Int) (j : Nat), r1 = i.2.2.1.drop j → r2 = y.2.2.1.drop j → j ≤ i.2.2.1.length → j ≤ y.2.2.1.length → ∃ o : Int, jx_r (jz β) jw_M (d + 4) 185 (40, [some (.ref a), some (.ref b), some (.int (Int32.ofInt (((mn : Nat) : Int)))), some (.int (Int32.ofInt (((j : Nat) : Int))))], [], (cl_mk h κ)) (cl_mk h (κ), .inl (some (.int (Int32.ofInt (o))))) ∧ (0 < o ↔ pkA j r2 < pkA j r1) ∧ (o < 0 ↔ pkA j r1 < pkA j r2) ∧ -1 ≤ o ∧ o ≤ 1 := by
  obtain ⟨l0, t, ka, ia, kc, ic, f, g, ⟨l1, l2⟩, hA, hS, -⟩ := id hv
  obtain ⟨ql0, qt, qka, qia, qkc, qic, qf, qg, ⟨ql1, ql2⟩, hqA, hqS, -⟩ := id hw
  have wi := hi.2.2.2.1
  have wy := hy.2.2.2.1
  have wi7 := wi.1
  have wy7 := wy.1
  have hc1 : ∀ c ∈ i.2.2.1, 0 ≤ c ∧ c ≤ 127 := fun c hc => by have := wi.2 c hc; omega
  have hc2 : ∀ c ∈ y.2.2.1, 0 ≤ c ∧ c ≤ 127 := fun c hc => by have := wy.2 c hc; omega
  obtain ⟨uc, ua, ub, uf, u0, u1, -⟩ := strR_q (β := β) (κ := κ) hl hS
  obtain ⟨wc, wa, wb, wf, w0, w1, -⟩ := strR_q (β := β) (κ := κ) hl hqS
  intro r1
  induction r1 with
  | nil =>
    intro r2 j e1 e2 hj hjy
    have l1' : i.2.2.1.length ≤ j := List.drop_eq_nil_iff.mp e1.symm
    have hmj : mn ≤ j := by omega
    have cs := cmpZ_s ((i.2.2.1.length : Nat) : Int) ((y.2.2.1.length : Nat) : Int)
    refine ⟨cmpZ ((i.2.2.1.length : Nat) : Int) ((y.2.2.1.length : Nat) : Int), ?_, ?_⟩
    · refine jr_1 jm_185 (show jw_cd cd_185 40 = some (.iload_n 3) by decide +kernel) rfl ?_
      refine jr_1 jm_185 (show jw_cd cd_185 41 = some (.iload_n 2) by decide +kernel) rfl ?_
      refine jr_1 jm_185 (show jw_cd cd_185 42 = some (.if_icmp .ge 48) by decide +kernel) (mb_t (q := .ge) (a := ((j : Nat) : Int)) (b := ((mn : Nat) : Int)) (t := 90) (by show ((mn : Nat) : Int) ≤ ((j : Nat) : Int); omega) ⟨by omega, by omega⟩ ⟨by omega, by omega⟩ (by decide) (by decide)) ?_
      refine jr_1 jm_185 (show jw_cd cd_185 90 = some (.aload_n 0) by decide +kernel) rfl ?_
      refine jr_1 jm_185 (show jw_cd cd_185 91 = some (.getfield 18) by decide +kernel) (js_getf hA (jbg (by omega)) (show jw_fld 8 18 5 = some 2 by decide +kernel) rfl) ?_
      refine jr_c jm_185 (show jw_cd cd_185 94 = some (.invokevirtual 61) by decide +kernel) (ccv (n := 0) (m2 := 50) (ci := 9) (a := t) (bs := []) (r := []) uc (show jw_find jw_cvT 8 61 = some (0, [(9, 50)]) by decide +kernel) (by decide) rfl rfl rfl) jm_50 ⟨Nat.le_of_ble_eq_true rfl, by decide⟩ (jc_strlen hl hS (by omega)) ?_
      refine jr_1 jm_185 (show jw_cd cd_185 97 = some (.aload_n 1) by decide +kernel) rfl ?_
      refine jr_1 jm_185 (show jw_cd cd_185 98 = some (.getfield 18) by decide +kernel) (js_getf hqA (jbg (by omega)) (show jw_fld 8 18 5 = some 2 by decide +kernel) rfl) ?_
      refine jr_c jm_185 (show jw_cd cd_185 101 = some (.invokevirtual 61) by decide +kernel) (ccv (n := 0) (m2 := 50) (ci := 9) (a := qt) (bs := []) (r := [.int (Int32.ofInt (((i.2.2.1.length : Nat) : Int)))]) wc (show jw_find jw_cvT 8 61 = some (0, [(9, 50)]) by decide +kernel) (by decide) rfl rfl rfl) jm_50 ⟨Nat.le_of_ble_eq_true rfl, by decide⟩ (jc_strlen hl hqS (by omega)) ?_
      refine jr_c jm_185 (show jw_cd cd_185 104 = some (.invokestatic 80) by decide +kernel) (mc_s (n := 2) (m2 := 186) (bs := [.int (Int32.ofInt (((i.2.2.1.length : Nat) : Int))), .int (Int32.ofInt (((y.2.2.1.length : Nat) : Int)))]) (r := []) (by decide) (show jw_find jw_csT 8 80 = some (186, 2) by decide +kernel) rfl rfl rfl) jm_186 ⟨Nat.le_of_ble_eq_true rfl, by decide⟩ (jc_icmp hl ⟨by omega, by omega⟩ ⟨by omega, by omega⟩) ?_
      exact jr_v jm_185 (show jw_cd cd_185 107 = some (.ireturn) by decide +kernel) rfl
    · have hl2 : r2.length = y.2.2.1.length - j := by rw [e2, List.length_drop]
      cases r2 with
      | nil =>
        have : ([] : List Int).length = 0 := rfl
        have p0 : pkA j [] = 0 := by unfold pkA; rfl
        rw [p0]
        omega
      | cons c2 t2 =>
        have hl2 : t2.length + 1 = y.2.2.1.length - j := hl2
        have hm : ∀ c ∈ (c2 :: t2), c ∈ y.2.2.1 := fun c hc => by rw [e2] at hc; exact List.mem_of_mem_drop hc
        have hp := pk_pos1 (j := j) (c := c2) (l := t2) (by omega) (fun c hc => hc2 c (hm c (List.mem_cons_of_mem _ hc))) (by have := wy.2 c2 (hm c2 List.mem_cons_self); omega)
        have p0 : pkA j [] = 0 := by unfold pkA; rfl
        rw [p0]
        omega
  | cons c1 t1 ih =>
    intro r2 j e1 e2 hj hjy
    have hl1 : t1.length + 1 = i.2.2.1.length - j := by
      have := congrArg List.length e1
      rw [List.length_drop] at this
      exact this
    have hm1 : ∀ c ∈ (c1 :: t1), c ∈ i.2.2.1 := fun c hc => by rw [e1] at hc; exact List.mem_of_mem_drop hc
    have k1 : ∀ c ∈ t1, 0 ≤ c ∧ c ≤ 127 := fun c hc => hc1 c (hm1 c (List.mem_cons_of_mem _ hc))
    have kc1 := wi.2 c1 (hm1 c1 List.mem_cons_self)
    cases r2 with
    | nil =>
      have l2' : y.2.2.1.length ≤ j := List.drop_eq_nil_iff.mp e2.symm
      have hmj : mn ≤ j := by omega
      have cs := cmpZ_s ((i.2.2.1.length : Nat) : Int) ((y.2.2.1.length : Nat) : Int)
      have hp := pk_pos1 (j := j) (c := c1) (l := t1) (by omega) k1 (by omega)
      have p0 : pkA j [] = 0 := by unfold pkA; rfl
      refine ⟨cmpZ ((i.2.2.1.length : Nat) : Int) ((y.2.2.1.length : Nat) : Int), ?_, by rw [p0]; omega⟩
      refine jr_1 jm_185 (show jw_cd cd_185 40 = some (.iload_n 3) by decide +kernel) rfl ?_
      refine jr_1 jm_185 (show jw_cd cd_185 41 = some (.iload_n 2) by decide +kernel) rfl ?_
      refine jr_1 jm_185 (show jw_cd cd_185 42 = some (.if_icmp .ge 48) by decide +kernel) (mb_t (q := .ge) (a := ((j : Nat) : Int)) (b := ((mn : Nat) : Int)) (t := 90) (by show ((mn : Nat) : Int) ≤ ((j : Nat) : Int); omega) ⟨by omega, by omega⟩ ⟨by omega, by omega⟩ (by decide) (by decide)) ?_
      refine jr_1 jm_185 (show jw_cd cd_185 90 = some (.aload_n 0) by decide +kernel) rfl ?_
      refine jr_1 jm_185 (show jw_cd cd_185 91 = some (.getfield 18) by decide +kernel) (js_getf hA (jbg (by omega)) (show jw_fld 8 18 5 = some 2 by decide +kernel) rfl) ?_
      refine jr_c jm_185 (show jw_cd cd_185 94 = some (.invokevirtual 61) by decide +kernel) (ccv (n := 0) (m2 := 50) (ci := 9) (a := t) (bs := []) (r := []) uc (show jw_find jw_cvT 8 61 = some (0, [(9, 50)]) by decide +kernel) (by decide) rfl rfl rfl) jm_50 ⟨Nat.le_of_ble_eq_true rfl, by decide⟩ (jc_strlen hl hS (by omega)) ?_
      refine jr_1 jm_185 (show jw_cd cd_185 97 = some (.aload_n 1) by decide +kernel) rfl ?_
      refine jr_1 jm_185 (show jw_cd cd_185 98 = some (.getfield 18) by decide +kernel) (js_getf hqA (jbg (by omega)) (show jw_fld 8 18 5 = some 2 by decide +kernel) rfl) ?_
      refine jr_c jm_185 (show jw_cd cd_185 101 = some (.invokevirtual 61) by decide +kernel) (ccv (n := 0) (m2 := 50) (ci := 9) (a := qt) (bs := []) (r := [.int (Int32.ofInt (((i.2.2.1.length : Nat) : Int)))]) wc (show jw_find jw_cvT 8 61 = some (0, [(9, 50)]) by decide +kernel) (by decide) rfl rfl rfl) jm_50 ⟨Nat.le_of_ble_eq_true rfl, by decide⟩ (jc_strlen hl hqS (by omega)) ?_
      refine jr_c jm_185 (show jw_cd cd_185 104 = some (.invokestatic 80) by decide +kernel) (mc_s (n := 2) (m2 := 186) (bs := [.int (Int32.ofInt (((i.2.2.1.length : Nat) : Int))), .int (Int32.ofInt (((y.2.2.1.length : Nat) : Int)))]) (r := []) (by decide) (show jw_find jw_csT 8 80 = some (186, 2) by decide +kernel) rfl rfl rfl) jm_186 ⟨Nat.le_of_ble_eq_true rfl, by decide⟩ (jc_icmp hl ⟨by omega, by omega⟩ ⟨by omega, by omega⟩) ?_
      exact jr_v jm_185 (show jw_cd cd_185 107 = some (.ireturn) by decide +kernel) rfl
    | cons c2 t2 =>
      have hl2 : t2.length + 1 = y.2.2.1.length - j := by
        have := congrArg List.length e2
        rw [List.length_drop] at this
        exact this
      have hm2 : ∀ c ∈ (c2 :: t2), c ∈ y.2.2.1 := fun c hc => by rw [e2] at hc; exact List.mem_of_mem_drop hc
      have k2 : ∀ c ∈ t2, 0 ≤ c ∧ c ≤ 127 := fun c hc => hc2 c (hm2 c (List.mem_cons_of_mem _ hc))
      have kc2 := wy.2 c2 (hm2 c2 List.mem_cons_self)
      have g1 : i.2.2.1.getD j 0 = c1 := by
        rw [List.getD_eq_getElem?_getD, ← List.head?_drop, ← e1]
        rfl
      have g2 : y.2.2.1.getD j 0 = c2 := by
        rw [List.getD_eq_getElem?_getD, ← List.head?_drop, ← e2]
        rfl
      have ca := jc_strAt (β := β) (d := d) (κ := κ) (j := j) hl hS (by omega) hc1 (by omega)
      have cb := jc_strAt (β := β) (d := d) (κ := κ) (j := j) hl hqS (by omega) hc2 (by omega)
      rw [g1] at ca
      rw [g2] at cb
      by_cases hcc : c1 = c2
      · obtain ⟨o, r, s⟩ := ih t2 (j + 1) (by rw [← List.tail_drop, ← e1]; rfl) (by rw [← List.tail_drop, ← e2]; rfl) (by omega) (by omega)
        refine ⟨o, ?_, ?_⟩
        · refine jr_1 jm_185 (show jw_cd cd_185 40 = some (.iload_n 3) by decide +kernel) rfl ?_
          refine jr_1 jm_185 (show jw_cd cd_185 41 = some (.iload_n 2) by decide +kernel) rfl ?_
          refine jr_1 jm_185 (show jw_cd cd_185 42 = some (.if_icmp .ge 48) by decide +kernel) (mb_f (q := .ge) (a := ((j : Nat) : Int)) (b := ((mn : Nat) : Int)) (by show ¬ (((mn : Nat) : Int) ≤ ((j : Nat) : Int)); omega) ⟨by omega, by omega⟩ ⟨by omega, by omega⟩ (by decide)) ?_
          refine jr_1 jm_185 (show jw_cd cd_185 45 = some (.aload_n 0) by decide +kernel) rfl ?_
          refine jr_1 jm_185 (show jw_cd cd_185 46 = some (.getfield 18) by decide +kernel) (js_getf hA (jbg (by omega)) (show jw_fld 8 18 5 = some 2 by decide +kernel) rfl) ?_
          refine jr_1 jm_185 (show jw_cd cd_185 49 = some (.iload_n 3) by decide +kernel) rfl ?_
          refine jr_c jm_185 (show jw_cd cd_185 50 = some (.invokevirtual 91) by decide +kernel) (ccv (n := 1) (m2 := 187) (ci := 9) (a := t) (bs := [.int (Int32.ofInt (((j : Nat) : Int)))]) (r := []) uc (show jw_find jw_cvT 8 91 = some (1, [(9, 187)]) by decide +kernel) (by decide) rfl rfl rfl) jm_187 ⟨Nat.le_of_ble_eq_true rfl, by decide⟩ ca ?_
          refine jr_1 jm_185 (show jw_cd cd_185 53 = some (.aload_n 1) by decide +kernel) rfl ?_
          refine jr_1 jm_185 (show jw_cd cd_185 54 = some (.getfield 18) by decide +kernel) (js_getf hqA (jbg (by omega)) (show jw_fld 8 18 5 = some 2 by decide +kernel) rfl) ?_
          refine jr_1 jm_185 (show jw_cd cd_185 57 = some (.iload_n 3) by decide +kernel) rfl ?_
          refine jr_c jm_185 (show jw_cd cd_185 58 = some (.invokevirtual 91) by decide +kernel) (ccv (n := 1) (m2 := 187) (ci := 9) (a := qt) (bs := [.int (Int32.ofInt (((j : Nat) : Int)))]) (r := [.int (Int32.ofInt (c1))]) wc (show jw_find jw_cvT 8 91 = some (1, [(9, 187)]) by decide +kernel) (by decide) rfl rfl rfl) jm_187 ⟨Nat.le_of_ble_eq_true rfl, by decide⟩ cb ?_
          refine jr_1 jm_185 (show jw_cd cd_185 61 = some (.if_icmp .eq 23) by decide +kernel) (mb_t (q := .eq) (a := c1) (b := c2) (t := 84) (by show c1 = c2; omega) ⟨by omega, by omega⟩ ⟨by omega, by omega⟩ (by decide) (by decide)) ?_
          refine jr_1 jm_185 (F2 := (87, [some (.ref a), some (.ref b), some (.int (Int32.ofInt (((mn : Nat) : Int)))), some (.int (Int32.ofInt (((j : Nat) : Int) + 1)))], [], (cl_mk h κ))) (show jw_cd cd_185 84 = some (.iinc 3 1) by decide +kernel) (mt_inc (a := ((j : Nat) : Int)) (c := ((j : Nat) : Int) + 1) rfl (by omega) rfl) ?_
          refine jr_1 jm_185 (show jw_cd cd_185 87 = some (.goto (-47)) by decide +kernel) (ju_go (t := 40) (by decide)) ?_
          exact r
        · have q1 : pkA j (c1 :: t1) = c1 * 2 ^ (7 * (6 - j)) + pkA (j + 1) t1 := rfl
          have q2 : pkA j (c2 :: t2) = c2 * 2 ^ (7 * (6 - j)) + pkA (j + 1) t2 := rfl
          rw [q1, q2, hcc]
          generalize c2 * 2 ^ (7 * (6 - j)) = z
          omega
      · have cs := cmpZ_s c1 c2
        refine ⟨cmpZ c1 c2, ?_, ?_⟩
        · refine jr_1 jm_185 (show jw_cd cd_185 40 = some (.iload_n 3) by decide +kernel) rfl ?_
          refine jr_1 jm_185 (show jw_cd cd_185 41 = some (.iload_n 2) by decide +kernel) rfl ?_
          refine jr_1 jm_185 (show jw_cd cd_185 42 = some (.if_icmp .ge 48) by decide +kernel) (mb_f (q := .ge) (a := ((j : Nat) : Int)) (b := ((mn : Nat) : Int)) (by show ¬ (((mn : Nat) : Int) ≤ ((j : Nat) : Int)); omega) ⟨by omega, by omega⟩ ⟨by omega, by omega⟩ (by decide)) ?_
          refine jr_1 jm_185 (show jw_cd cd_185 45 = some (.aload_n 0) by decide +kernel) rfl ?_
          refine jr_1 jm_185 (show jw_cd cd_185 46 = some (.getfield 18) by decide +kernel) (js_getf hA (jbg (by omega)) (show jw_fld 8 18 5 = some 2 by decide +kernel) rfl) ?_
          refine jr_1 jm_185 (show jw_cd cd_185 49 = some (.iload_n 3) by decide +kernel) rfl ?_
          refine jr_c jm_185 (show jw_cd cd_185 50 = some (.invokevirtual 91) by decide +kernel) (ccv (n := 1) (m2 := 187) (ci := 9) (a := t) (bs := [.int (Int32.ofInt (((j : Nat) : Int)))]) (r := []) uc (show jw_find jw_cvT 8 91 = some (1, [(9, 187)]) by decide +kernel) (by decide) rfl rfl rfl) jm_187 ⟨Nat.le_of_ble_eq_true rfl, by decide⟩ ca ?_
          refine jr_1 jm_185 (show jw_cd cd_185 53 = some (.aload_n 1) by decide +kernel) rfl ?_
          refine jr_1 jm_185 (show jw_cd cd_185 54 = some (.getfield 18) by decide +kernel) (js_getf hqA (jbg (by omega)) (show jw_fld 8 18 5 = some 2 by decide +kernel) rfl) ?_
          refine jr_1 jm_185 (show jw_cd cd_185 57 = some (.iload_n 3) by decide +kernel) rfl ?_
          refine jr_c jm_185 (show jw_cd cd_185 58 = some (.invokevirtual 91) by decide +kernel) (ccv (n := 1) (m2 := 187) (ci := 9) (a := qt) (bs := [.int (Int32.ofInt (((j : Nat) : Int)))]) (r := [.int (Int32.ofInt (c1))]) wc (show jw_find jw_cvT 8 91 = some (1, [(9, 187)]) by decide +kernel) (by decide) rfl rfl rfl) jm_187 ⟨Nat.le_of_ble_eq_true rfl, by decide⟩ cb ?_
          refine jr_1 jm_185 (show jw_cd cd_185 61 = some (.if_icmp .eq 23) by decide +kernel) (mb_f (q := .eq) (a := c1) (b := c2) (by show ¬ (c1 = c2); omega) ⟨by omega, by omega⟩ ⟨by omega, by omega⟩ (by decide)) ?_
          refine jr_1 jm_185 (show jw_cd cd_185 64 = some (.aload_n 0) by decide +kernel) rfl ?_
          refine jr_1 jm_185 (show jw_cd cd_185 65 = some (.getfield 18) by decide +kernel) (js_getf hA (jbg (by omega)) (show jw_fld 8 18 5 = some 2 by decide +kernel) rfl) ?_
          refine jr_1 jm_185 (show jw_cd cd_185 68 = some (.iload_n 3) by decide +kernel) rfl ?_
          refine jr_c jm_185 (show jw_cd cd_185 69 = some (.invokevirtual 91) by decide +kernel) (ccv (n := 1) (m2 := 187) (ci := 9) (a := t) (bs := [.int (Int32.ofInt (((j : Nat) : Int)))]) (r := []) uc (show jw_find jw_cvT 8 91 = some (1, [(9, 187)]) by decide +kernel) (by decide) rfl rfl rfl) jm_187 ⟨Nat.le_of_ble_eq_true rfl, by decide⟩ ca ?_
          refine jr_1 jm_185 (show jw_cd cd_185 72 = some (.aload_n 1) by decide +kernel) rfl ?_
          refine jr_1 jm_185 (show jw_cd cd_185 73 = some (.getfield 18) by decide +kernel) (js_getf hqA (jbg (by omega)) (show jw_fld 8 18 5 = some 2 by decide +kernel) rfl) ?_
          refine jr_1 jm_185 (show jw_cd cd_185 76 = some (.iload_n 3) by decide +kernel) rfl ?_
          refine jr_c jm_185 (show jw_cd cd_185 77 = some (.invokevirtual 91) by decide +kernel) (ccv (n := 1) (m2 := 187) (ci := 9) (a := qt) (bs := [.int (Int32.ofInt (((j : Nat) : Int)))]) (r := [.int (Int32.ofInt (c1))]) wc (show jw_find jw_cvT 8 91 = some (1, [(9, 187)]) by decide +kernel) (by decide) rfl rfl rfl) jm_187 ⟨Nat.le_of_ble_eq_true rfl, by decide⟩ cb ?_
          refine jr_c jm_185 (show jw_cd cd_185 80 = some (.invokestatic 80) by decide +kernel) (mc_s (n := 2) (m2 := 186) (bs := [.int (Int32.ofInt (c1)), .int (Int32.ofInt (c2))]) (r := []) (by decide) (show jw_find jw_csT 8 80 = some (186, 2) by decide +kernel) rfl rfl rfl) jm_186 ⟨Nat.le_of_ble_eq_true rfl, by decide⟩ (jc_icmp hl ⟨by omega, by omega⟩ ⟨by omega, by omega⟩) ?_
          exact jr_v jm_185 (show jw_cd cd_185 83 = some (.ireturn) by decide +kernel) rfl
        · by_cases hlt : c1 < c2
          · have := pk_lt1 (j := j) (l1 := t1) (l2 := t2) (by omega) (by omega) k1 k2 hlt
            omega
          · have := pk_lt1 (j := j) (l1 := t2) (l2 := t1) (by omega) (by omega) k2 k1 (show c2 < c1 by omega)
            omega
theorem jc_order {β : Bool} {d : Nat} {h : jx_H} {κ : mS} (hl : 50 ≤ h.length) {X Y : Nat → Prop} {a b : Nat} {i y : tI} {F G : FT} (hv : vO h κ X a i F) (hw : vO h κ Y b y G) (hi : iok i) (hy : iok y) (hk : i.1 = y.1) : ∃ o : Int, jx_r (jz β) jw_M (d + 4) 185 (0, [some (.ref a), some (.ref b), none, none], [], (cl_mk h κ)) (cl_mk h (κ), .inl (some (.int (Int32.ofInt (o))))) ∧ (0 < o ↔ abv i y = true) ∧ (o < 0 ↔ abv y i = true) ∧ -1 ≤ o ∧ o ≤ 1 := by
  obtain ⟨l0, t, ka, ia, kc, ic, f, g, ⟨l1, l2⟩, hA, hS, -⟩ := id hv
  obtain ⟨ql0, qt, qka, qia, qkc, qic, qf, qg, ⟨ql1, ql2⟩, hqA, hqS, -⟩ := id hw
  have ik1 := hi.1
  have ik2 := hi.2.1
  by_cases h3 : i.1 = 3
  · have cs := cmpZ_s i.2.1 y.2.1
    refine ⟨cmpZ i.2.1 y.2.1, ?_, ?_, ?_, cs.2.2⟩
    · refine jr_1 jm_185 (show jw_cd cd_185 0 = some (.aload_n 0) by decide +kernel) rfl ?_
      refine jr_1 jm_185 (show jw_cd cd_185 1 = some (.getfield 9) by decide +kernel) (js_getf hA (jbg (by omega)) (show jw_fld 8 9 5 = some 0 by decide +kernel) rfl) ?_
      refine jr_1 jm_185 (show jw_cd cd_185 4 = some (.iconst 3) by decide +kernel) rfl ?_
      refine jr_1 jm_185 (show jw_cd cd_185 5 = some (.if_icmp .ne 15) by decide +kernel) (mb_f (q := .ne) (a := i.1) (b := 3) (by show ¬ (¬ (i.1 = 3)); omega) ⟨by omega, by omega⟩ ⟨by omega, by omega⟩ (by decide)) ?_
      refine jr_1 jm_185 (show jw_cd cd_185 8 = some (.aload_n 0) by decide +kernel) rfl ?_
      refine jr_1 jm_185 (show jw_cd cd_185 9 = some (.getfield 15) by decide +kernel) (js_getf hA (jbg (by omega)) (show jw_fld 8 15 5 = some 1 by decide +kernel) rfl) ?_
      refine jr_1 jm_185 (show jw_cd cd_185 12 = some (.aload_n 1) by decide +kernel) rfl ?_
      refine jr_1 jm_185 (show jw_cd cd_185 13 = some (.getfield 15) by decide +kernel) (js_getf hqA (jbg (by omega)) (show jw_fld 8 15 5 = some 1 by decide +kernel) rfl) ?_
      refine jr_c jm_185 (show jw_cd cd_185 16 = some (.invokestatic 80) by decide +kernel) (mc_s (n := 2) (m2 := 186) (bs := [.int (Int32.ofInt (i.2.1)), .int (Int32.ofInt (y.2.1))]) (r := []) (by decide) (show jw_find jw_csT 8 80 = some (186, 2) by decide +kernel) rfl rfl rfl) jm_186 ⟨Nat.le_of_ble_eq_true rfl, by decide⟩ (jc_icmp hl hi.2.2.1 hy.2.2.1) ?_
      exact jr_v jm_185 (show jw_cd cd_185 19 = some (.ireturn) by decide +kernel) rfl
    · unfold abv
      rw [if_pos h3, decide_eq_true_eq]
      exact cs.1
    · unfold abv
      rw [if_pos (by omega), decide_eq_true_eq]
      exact cs.2.1
  · obtain ⟨mn, hmn⟩ : ∃ mn, mn = min i.2.2.1.length y.2.2.1.length := ⟨_, rfl⟩
    have wi7 := hi.2.2.2.1.1
    have wy7 := hy.2.2.2.1.1
    obtain ⟨uc, ua, ub, uf, u0, u1, -⟩ := strR_q (β := β) (κ := κ) hl hS
    obtain ⟨wc, wa, wb, wf, w0, w1, -⟩ := strR_q (β := β) (κ := κ) hl hqS
    obtain ⟨o, r, s1, s2, s3⟩ := jc_orL (β := β) (d := d) (κ := κ) hl hv hw hi hy hmn _ _ 0 rfl rfl (Nat.zero_le _) (Nat.zero_le _)
    refine ⟨o, ?_, ?_, ?_, s3⟩
    · refine jr_1 jm_185 (show jw_cd cd_185 0 = some (.aload_n 0) by decide +kernel) rfl ?_
      refine jr_1 jm_185 (show jw_cd cd_185 1 = some (.getfield 9) by decide +kernel) (js_getf hA (jbg (by omega)) (show jw_fld 8 9 5 = some 0 by decide +kernel) rfl) ?_
      refine jr_1 jm_185 (show jw_cd cd_185 4 = some (.iconst 3) by decide +kernel) rfl ?_
      refine jr_1 jm_185 (show jw_cd cd_185 5 = some (.if_icmp .ne 15) by decide +kernel) (mb_t (q := .ne) (a := i.1) (b := 3) (t := 20) (by show ¬ (i.1 = 3); omega) ⟨by omega, by omega⟩ ⟨by omega, by omega⟩ (by decide) (by decide)) ?_
      refine jr_1 jm_185 (show jw_cd cd_185 20 = some (.aload_n 0) by decide +kernel) rfl ?_
      refine jr_1 jm_185 (show jw_cd cd_185 21 = some (.getfield 18) by decide +kernel) (js_getf hA (jbg (by omega)) (show jw_fld 8 18 5 = some 2 by decide +kernel) rfl) ?_
      refine jr_c jm_185 (show jw_cd cd_185 24 = some (.invokevirtual 61) by decide +kernel) (ccv (n := 0) (m2 := 50) (ci := 9) (a := t) (bs := []) (r := []) uc (show jw_find jw_cvT 8 61 = some (0, [(9, 50)]) by decide +kernel) (by decide) rfl rfl rfl) jm_50 ⟨Nat.le_of_ble_eq_true rfl, by decide⟩ (jc_strlen hl hS (by omega)) ?_
      refine jr_1 jm_185 (show jw_cd cd_185 27 = some (.aload_n 1) by decide +kernel) rfl ?_
      refine jr_1 jm_185 (show jw_cd cd_185 28 = some (.getfield 18) by decide +kernel) (js_getf hqA (jbg (by omega)) (show jw_fld 8 18 5 = some 2 by decide +kernel) rfl) ?_
      refine jr_c jm_185 (show jw_cd cd_185 31 = some (.invokevirtual 61) by decide +kernel) (ccv (n := 0) (m2 := 50) (ci := 9) (a := qt) (bs := []) (r := [.int (Int32.ofInt (((i.2.2.1.length : Nat) : Int)))]) wc (show jw_find jw_cvT 8 61 = some (0, [(9, 50)]) by decide +kernel) (by decide) rfl rfl rfl) jm_50 ⟨Nat.le_of_ble_eq_true rfl, by decide⟩ (jc_strlen hl hqS (by omega)) ?_
      refine jr_1 jm_185 (show jw_cd cd_185 34 = some (.invokestatic 86) by decide +kernel) (cmin (c := ((mn : Nat) : Int)) (by decide) ⟨by omega, by omega⟩ ⟨by omega, by omega⟩ (by split <;> omega) rfl) ?_
      refine jr_1 jm_185 (F2 := (38, [some (.ref a), some (.ref b), some (.int (Int32.ofInt (((mn : Nat) : Int)))), none], [], (cl_mk h κ))) (show jw_cd cd_185 37 = some (.istore_n 2) by decide +kernel) rfl ?_
      refine jr_1 jm_185 (show jw_cd cd_185 38 = some (.iconst 0) by decide +kernel) rfl ?_
      refine jr_1 jm_185 (F2 := (40, [some (.ref a), some (.ref b), some (.int (Int32.ofInt (((mn : Nat) : Int)))), some (.int (Int32.ofInt (0)))], [], (cl_mk h κ))) (show jw_cd cd_185 39 = some (.istore_n 3) by decide +kernel) rfl ?_
      exact r
    · unfold abv
      rw [if_neg h3, decide_eq_true_eq]
      exact s1
    · unfold abv
      rw [if_neg (by omega), decide_eq_true_eq]
      exact s2
