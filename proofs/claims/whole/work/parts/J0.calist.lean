/-! ===== the class: ArrayList (printed by program: gen102.py) ===== -/
theorem jm_124 : jw_M 124 = some (24, 1, (none, true), jw_cd cd_124, fun _ _ => none) := rfl
theorem jm_125 : jw_M 125 = some (25, 1, (none, true), jw_cd cd_125, fun _ _ => none) := rfl
theorem jm_126 : jw_M 126 = some (26, 1, (none, true), jw_cd cd_126, fun _ _ => none) := rfl
theorem jm_127 : jw_M 127 = some (27, 1, (none, true), jw_cd cd_127, fun _ _ => none) := rfl
theorem jm_129 : jw_M 129 = some (28, 1, (none, true), jw_cd cd_129, fun _ _ => none) := rfl
theorem jm_136 : jw_M 136 = some (25, 2, ((Option.some Jvm.ClassFile.FieldType.boolean), false), jw_cd cd_136, fun _ _ => none) := rfl
theorem jm_137 : jw_M 137 = some (25, 4, (none, false), jw_cd cd_137, fun _ _ => none) := rfl
theorem jm_138 : jw_M 138 = some (25, 1, ((Option.some (Jvm.ClassFile.FieldType.array (Jvm.ClassFile.FieldType.object "java/lang/Object"))), false), jw_cd cd_138, fun _ _ => none) := rfl
theorem jm_139 : jw_M 139 = some (25, 4, ((Option.some (Jvm.ClassFile.FieldType.array (Jvm.ClassFile.FieldType.object "java/lang/Object"))), false), jw_cd cd_139, fun _ _ => none) := rfl
theorem jm_140 : jw_M 140 = some (13, 2, ((Option.some (Jvm.ClassFile.FieldType.array (Jvm.ClassFile.FieldType.object "java/lang/Object"))), false), jw_cd cd_140, fun _ _ => none) := rfl
theorem jm_141 : jw_M 141 = some (13, 4, ((Option.some (Jvm.ClassFile.FieldType.array (Jvm.ClassFile.FieldType.object "java/lang/Object"))), false), jw_cd cd_141, fun _ _ => none) := rfl
theorem jm_159 : jw_M 159 = some (25, 1, ((Option.some Jvm.ClassFile.FieldType.int), false), jw_cd cd_159, fun _ _ => none) := rfl
theorem jm_160 : jw_M 160 = some (25, 2, ((Option.some (Jvm.ClassFile.FieldType.object "java/lang/Object")), false), jw_cd cd_160, fun _ _ => none) := rfl
theorem jm_161 : jw_M 161 = some (32, 2, ((Option.some Jvm.ClassFile.FieldType.int), false), jw_cd cd_161, fun _ _ => none) := rfl
theorem jm_162 : jw_M 162 = some (25, 2, ((Option.some (Jvm.ClassFile.FieldType.object "java/lang/Object")), false), jw_cd cd_162, fun _ _ => none) := rfl
section CA
variable {β : Bool} {cd : Nat → Option Instr} {own pc k : Nat} {rt : Option FieldType × Bool} {lo : jx_L} {st : List Value} {H : jx_H}
theorem may6 {v ci : Nat} (hv : jx_cls (jz β) H v = some ci) (hc : ci = 13 ∨ ci = 14) : jx_may (jz β) H 6 (.ref v) = true := by
  unfold jx_may
  simp only [hv]
  rcases hc with rfl | rfl <;> rfl
theorem csa6 {H' : jx_H} {a n v ci : Nat} {g : Nat → Value} {i : Int} (ho : H[a]? = some (.inl (6, n, g))) (ha : a < jx_big) (hv : jx_cls (jz β) H v = some ci) (hc : ci = 13 ∨ ci = 14) (hn : n ≤ 2000000000) (h0 : 0 ≤ i) (h1 : i < n) (hs : H.set a (.inl (6, n, updV g i.toNat (.ref v))) = H') : jx_do (jz β) cd own pc rt .aastore lo (.ref v :: .int (Int32.ofInt i) :: .ref a :: st) H = some (.inl (pc + 1, lo, st, H')) := by
  obtain ⟨k1, k2⟩ := ci_nat hn h0 h1
  have e0 : jx_arr (jz β) H a = some (6, n, g) := js_arr ho ha
  have e1 := may6 hv hc
  have e := js_ast (T := jz β) (ok := jx_isRefTy) (pc := pc) (lo := lo) (st := st) (v := .ref v) ho ha (ty := .object "java/lang/Object") rfl rfl rfl k1
  rw [narrow_of_fits (by rfl), k2, hs] at e
  simp only [jx_do, e0, e1]
  exact e
theorem ccy6 {H' : jx_H} {a a0 n0 n1 : Nat} {f g : Nat → Value} {n sp dp : Int} (hbi : jw_biB own k = some 2) (ho : H[a]? = some (.inl (6, n1, g))) (ha : a < jx_big) (ho0 : jx_arr (jz β) H a0 = some (6, n0, f)) (h0 : 0 ≤ n ∧ 0 ≤ sp ∧ 0 ≤ dp) (hn0 : sp.toNat + n.toNat ≤ n0) (hn1 : dp.toNat + n.toNat ≤ n1) (hr : n0 ≤ 60000000 ∧ n1 ≤ 60000000) (hw : jx_wt st = true) (hf : ∀ i, i < n.toNat → ∃ b ci, f (sp.toNat + i) = .ref b ∧ jx_cls (jz β) H b = some ci ∧ (ci = 13 ∨ ci = 14)) (hs : H.set a (.inl (6, n1, va_cpy f g sp.toNat dp.toNat n.toNat)) = H') : jx_do (jz β) cd own pc rt (.invokestatic k) lo (.int (Int32.ofInt n) :: .int (Int32.ofInt dp) :: .ref a :: .int (Int32.ofInt sp) :: .ref a0 :: st) H = some (.inl (pc + 3, lo, st, H')) := by
  rw [← hs]
  have e0 : jx_bi (jz β) own k = some 2 := hbi
  obtain ⟨i1, i2⟩ := ofI_n (x := n) h0.1 (by omega)
  obtain ⟨j1, j2⟩ := ofI_n (x := sp) h0.2.1 (by omega)
  obtain ⟨k1, k2⟩ := ofI_n (x := dp) h0.2.2 (by omega)
  rw [Bool.and_eq_true] at i1 j1 k1
  have hall : ((List.range n.toNat).all fun i => jx_cpok (jz β) H 6 (.object "java/lang/Object") (f (sp.toNat + i))) = true := by
    rw [List.all_eq_true]
    intro i hi
    obtain ⟨b, ci, c1, c2, c3⟩ := hf i (List.mem_range.mp hi)
    rw [c1]
    show (true && jx_may (jz β) H 6 (.ref b)) = true
    rw [may6 c2 c3]
    rfl
  have ety : jx_ty (jz β) 6 = some (.object "java/lang/Object") := rfl
  have ewr : jx_wr (jz β) a = true := rfl
  show (match jx_bi (jz β) own k with
    | some b => _
    | none => _) = _
  simp only [e0]
  show jx_cpy (jz β) (Int32.ofInt n) (Int32.ofInt dp) a (Int32.ofInt sp) a0 pc lo st H = _
  unfold jx_cpy
  simp only [ho, ho0, ety, i2, j2, k2, hw, hall, ewr, i1.1, j1.1, k1.1, decide_eq_true ha, decide_eq_true hn0, decide_eq_true hn1]
  rfl
theorem cgcl {a n : Nat} {f : Nat → Value} (ho : H[a]? = some (.inl (6, n, f))) (ha : a < jx_big) (hw : jx_wt st = true) : jx_do (jz β) cd 13 pc rt (.invokevirtual 86) lo (.ref a :: st) H = some (.inl (pc + 3, lo, .ref (jx_big + 56) :: st, H)) := by
  have e1 : jx_cv (jz β) 13 86 = none := rfl
  have e2 : jx_bi (jz β) 13 86 = some 9 := rfl
  simp only [jx_do, e1, e2]
  unfold jx_gcl
  simp only [ho, hw, decide_eq_true ha]
  rfl
theorem cac_eq_t {a t : Nat} {off : Int} (h0 : 0 ≤ (pc : Int) + off) (ht : jx_to pc off = some t) : jx_do (jz β) cd own pc rt (.if_acmp .eq off) lo (.ref a :: .ref a :: st) H = some (.inl (t, lo, st, H)) := by
  simp only [jx_do, if_pos, jx_holdA, jx_br, jx_go, ht, if_pos h0]
theorem shr1_s : ∀ t : Fin 400, Int32.ofInt (t.1 : Int) >>> (Int32.ofInt 1 &&& 31) = Int32.ofInt ((t.1 : Int) / 2) := by decide +kernel
theorem mt_shr1 {c : Int} (hc : 0 ≤ c ∧ c < 400) : jx_do (jz β) cd own pc rt .ishr lo (.int (Int32.ofInt 1) :: .int (Int32.ofInt c) :: st) H = some (.inl (pc + 1, lo, .int (Int32.ofInt (c / 2)) :: st, H)) := by
  have e := shr1_s ⟨c.toNat, by omega⟩
  have e2 : ((c.toNat : Nat) : Int) = c := by omega
  have e : Int32.ofInt ((c.toNat : Nat) : Int) >>> (Int32.ofInt 1 &&& 31) = Int32.ofInt (((c.toNat : Nat) : Int) / 2) := e
  rw [e2] at e
  simp only [jx_do, e]
end CA
/-- an ArrayList: its cell, its row -/
def alU (h : jx_H) (a ea cap n : Nat) (f : Nat → Value) : Prop := (50 ≤ a ∧ a < 4000000000) ∧ (∃ md : Int, h[a]? = some (.inr (12, [.ref ea, .int (Int32.ofInt ((n : Nat) : Int)), .int (Int32.ofInt md)]))) ∧ ((ea = jx_big + 53 ∧ cap = 0 ∧ n = 0) ∨ (50 ≤ ea ∧ ea < 4000000000 ∧ ¬ ea = a ∧ h[ea]? = some (.inl (6, cap, f)) ∧ n ≤ cap ∧ 10 ≤ cap ∧ cap ≤ 300)) ∧ (∀ i, i < n → ∃ (b ci : Nat) (fs : List Value), f i = .ref b ∧ (50 ≤ b ∧ b < 4000000000) ∧ h[b]? = some (.inr (ci, fs)) ∧ (ci = 13 ∨ ci = 14))
theorem jc_al127 {β : Bool} {d : Nat} {h : jx_H} {κ : mS} (hl : 50 ≤ h.length) {N : Nat} (hN : h.length = N) (hb32 : N < 3000000000) {c0 : jx_C} : jx_r (jz β) jw_M (d) 127 (0, [some (.ref (N + 1))], [], (cl_mk (h ++ [c0, .inr (12, [.null, .int (Int32.ofInt (0)), .int (Int32.ofInt (0))])]) κ)) (cl_mk (h ++ [c0, .inr (12, [.null, .int (Int32.ofInt (0)), .int (Int32.ofInt (0))])]) (κ), .inl none) := by
  refine jr_1 jm_127 (show jw_cd cd_127 0 = some (.aload_n 0) by decide +kernel) rfl ?_
  refine jr_1 jm_127 (show jw_cd cd_127 1 = some (.invokespecial 1) by decide +kernel) (coi rfl rfl) ?_
  exact jr_v jm_127 (show jw_cd cd_127 4 = some (.return_) by decide +kernel) rfl
theorem jc_al126 {β : Bool} {d : Nat} {h : jx_H} {κ : mS} (hl : 50 ≤ h.length) {N : Nat} (hN : h.length = N) (hb32 : N < 3000000000) {c0 : jx_C} : jx_r (jz β) jw_M (d + 1) 126 (0, [some (.ref (N + 1))], [], (cl_mk (h ++ [c0, .inr (12, [.null, .int (Int32.ofInt (0)), .int (Int32.ofInt (0))])]) κ)) (cl_mk (h ++ [c0, .inr (12, [.null, .int (Int32.ofInt (0)), .int (Int32.ofInt (0))])]) (κ), .inl none) := by
  refine jr_1 jm_126 (show jw_cd cd_126 0 = some (.aload_n 0) by decide +kernel) rfl ?_
  refine jr_c jm_126 (show jw_cd cd_126 1 = some (.invokespecial 1) by decide +kernel) (ccp (n := 0) (m2 := 127) (ci := 12) (a := N + 1) (bs := []) (r := []) (by decide +kernel) (js_cls (ap_get hl hN 1 rfl) (jbg (by omega))) (by decide) (jbg (by omega)) (show jw_find jw_cpT 26 1 = some (0, 127) by decide +kernel) rfl rfl rfl) jm_127 ⟨Nat.le_of_ble_eq_true rfl, by decide⟩ (jc_al127 hl hN hb32) ?_
  refine jr_1 jm_126 (show jw_cd cd_126 4 = some (.aload_n 0) by decide +kernel) rfl ?_
  refine jr_1 jm_126 (show jw_cd cd_126 5 = some (.iconst 0) by decide +kernel) rfl ?_
  refine jr_1 jm_126 (F2 := (9, [some (.ref (N + 1))], [], (cl_mk (h ++ [c0, .inr (12, [.null, .int (Int32.ofInt (0)), .int (Int32.ofInt (0))])]) κ))) (show jw_cd cd_126 6 = some (.putfield 7) by decide +kernel) (cpf (ap_get hl hN 1 rfl) (jbg (by omega)) (show jw_fld 26 7 12 = some 2 by decide +kernel) (show jw_ft 12 2 = some (.int) from rfl) (show jw_fm 26 12 2 = some false by decide +kernel) rfl rfl (ap_set hl hN 1 rfl)) ?_
  exact jr_v jm_126 (show jw_cd cd_126 9 = some (.return_) by decide +kernel) rfl
theorem jc_al125 {β : Bool} {d : Nat} {h : jx_H} {κ : mS} (hl : 50 ≤ h.length) {N : Nat} (hN : h.length = N) (hb32 : N < 3000000000) {c0 : jx_C} : jx_r (jz β) jw_M (d + 2) 125 (0, [some (.ref (N + 1))], [], (cl_mk (h ++ [c0, .inr (12, [.null, .int (Int32.ofInt (0)), .int (Int32.ofInt (0))])]) κ)) (cl_mk (h ++ [c0, .inr (12, [.ref (jx_big + 53), .int (Int32.ofInt (0)), .int (Int32.ofInt (0))])]) (κ), .inl none) := by
  refine jr_1 jm_125 (show jw_cd cd_125 0 = some (.aload_n 0) by decide +kernel) rfl ?_
  refine jr_c jm_125 (show jw_cd cd_125 1 = some (.invokespecial 1) by decide +kernel) (ccp (n := 0) (m2 := 126) (ci := 12) (a := N + 1) (bs := []) (r := []) (by decide +kernel) (js_cls (ap_get hl hN 1 rfl) (jbg (by omega))) (by decide) (jbg (by omega)) (show jw_find jw_cpT 25 1 = some (0, 126) by decide +kernel) rfl rfl rfl) jm_126 ⟨Nat.le_of_ble_eq_true rfl, by decide⟩ (jc_al126 hl hN hb32) ?_
  refine jr_1 jm_125 (show jw_cd cd_125 4 = some (.aload_n 0) by decide +kernel) rfl ?_
  refine jr_1 jm_125 (show jw_cd cd_125 5 = some (.getstatic 39) by decide +kernel) (cgs (v := .ref (jx_big + 53)) (by decide) rfl) ?_
  refine jr_1 jm_125 (F2 := (11, [some (.ref (N + 1))], [], (cl_mk (h ++ [c0, .inr (12, [.ref (jx_big + 53), .int (Int32.ofInt (0)), .int (Int32.ofInt (0))])]) κ))) (show jw_cd cd_125 8 = some (.putfield 9) by decide +kernel) (cpf (ap_get hl hN 1 rfl) (jbg (by omega)) (show jw_fld 25 9 12 = some 0 by decide +kernel) (show jw_ft 12 0 = some (.array (.object "java/lang/Object")) from rfl) (show jw_fm 25 12 0 = some false by decide +kernel) rfl rfl (ap_set hl hN 1 rfl)) ?_
  exact jr_v jm_125 (show jw_cd cd_125 11 = some (.return_) by decide +kernel) rfl
theorem jc_qI {β : Bool} {d : Nat} {h : jx_H} {κ : mS} (hl : 50 ≤ h.length) {N : Nat} (hN : h.length = N) (hb32 : N < 3000000000) : jx_r (jz β) jw_M (d + 3) 124 (0, [some (.ref N)], [], (cl_mk (h ++ [.inr (11, [.null])]) κ)) (cl_mk (h ++ [.inr (11, [.ref (N + 1)]), .inr (12, [.ref (jx_big + 53), .int (Int32.ofInt (0)), .int (Int32.ofInt (0))])]) (κ), .inl none) := by
  refine jr_1 jm_124 (show jw_cd cd_124 0 = some (.aload_n 0) by decide +kernel) rfl ?_
  refine jr_1 jm_124 (show jw_cd cd_124 1 = some (.invokespecial 1) by decide +kernel) (coi rfl rfl) ?_
  refine jr_1 jm_124 (show jw_cd cd_124 4 = some (.aload_n 0) by decide +kernel) rfl ?_
  refine jr_1 jm_124 (F2 := (8, [some (.ref N)], [.ref (N + 1), .ref N], (cl_mk (h ++ [.inr (11, [.null]), .inr (12, [.null, .int (Int32.ofInt (0)), .int (Int32.ofInt (0))])]) κ))) (show jw_cd cd_124 5 = some (.new 7) by decide +kernel) (cnw hl hN 1 rfl (by omega) (show jw_find jw_xcT 24 7 = none by decide +kernel) (show jw_find jw_nwT 24 7 = some 12 by decide +kernel)) ?_
  refine jr_1 jm_124 (show jw_cd cd_124 8 = some (.dup) by decide +kernel) rfl ?_
  refine jr_c jm_124 (show jw_cd cd_124 9 = some (.invokespecial 9) by decide +kernel) (ccp (n := 0) (m2 := 125) (ci := 12) (a := N + 1) (bs := []) (r := [.ref (N + 1), .ref N]) (by decide +kernel) (js_cls (ap_get hl hN 1 rfl) (jbg (by omega))) (by decide) (jbg (by omega)) (show jw_find jw_cpT 24 9 = some (0, 125) by decide +kernel) rfl rfl rfl) jm_125 ⟨Nat.le_of_ble_eq_true rfl, by decide⟩ (jc_al125 hl hN hb32) ?_
  refine jr_1 jm_124 (F2 := (15, [some (.ref N)], [], (cl_mk (h ++ [.inr (11, [.ref (N + 1)]), .inr (12, [.ref (jx_big + 53), .int (Int32.ofInt (0)), .int (Int32.ofInt (0))])]) κ))) (show jw_cd cd_124 12 = some (.putfield 10) by decide +kernel) (cpf (ap_get hl hN 0 rfl) (jbg (by omega)) (show jw_fld 24 10 11 = some 0 by decide +kernel) (show jw_ft 11 0 = some (.object "java/util/ArrayList") from rfl) (show jw_fm 24 11 0 = some true by decide +kernel) rfl rfl (ap_set hl hN 0 rfl)) ?_
  exact jr_v jm_124 (show jw_cd cd_124 15 = some (.return_) by decide +kernel) rfl
theorem jc_sI {β : Bool} {d : Nat} {h : jx_H} {κ : mS} (hl : 50 ≤ h.length) {N : Nat} (hN : h.length = N) (hb32 : N < 3000000000) : jx_r (jz β) jw_M (d + 3) 129 (0, [some (.ref N)], [], (cl_mk (h ++ [.inr (13, [.null, .null, .null])]) κ)) (cl_mk (h ++ [.inr (13, [.null, .ref (jx_big + 9), .ref (N + 1)]), .inr (12, [.ref (jx_big + 53), .int (Int32.ofInt (0)), .int (Int32.ofInt (0))])]) (κ), .inl none) := by
  refine jr_1 jm_129 (show jw_cd cd_129 0 = some (.aload_n 0) by decide +kernel) rfl ?_
  refine jr_1 jm_129 (show jw_cd cd_129 1 = some (.invokespecial 1) by decide +kernel) (coi rfl rfl) ?_
  refine jr_1 jm_129 (show jw_cd cd_129 4 = some (.aload_n 0) by decide +kernel) rfl ?_
  refine jr_1 jm_129 (show jw_cd cd_129 5 = some (.aconst_null) by decide +kernel) rfl ?_
  refine jr_1 jm_129 (F2 := (9, [some (.ref N)], [], (cl_mk (h ++ [.inr (13, [.null, .null, .null])]) κ))) (show jw_cd cd_129 6 = some (.putfield 7) by decide +kernel) (cpf (ap_get hl hN 0 rfl) (jbg (by omega)) (show jw_fld 28 7 13 = some 0 by decide +kernel) (show jw_ft 13 0 = some (.object "PickDesk$Word") from rfl) (show jw_fm 28 13 0 = some false by decide +kernel) rfl rfl (ap_set hl hN 0 rfl)) ?_
  refine jr_1 jm_129 (show jw_cd cd_129 9 = some (.aload_n 0) by decide +kernel) rfl ?_
  refine jr_1 jm_129 (show jw_cd cd_129 10 = some (.ldc 13) by decide +kernel) (cld (a := jx_big + 9) rfl) ?_
  refine jr_1 jm_129 (F2 := (15, [some (.ref N)], [], (cl_mk (h ++ [.inr (13, [.null, .ref (jx_big + 9), .null])]) κ))) (show jw_cd cd_129 12 = some (.putfield 15) by decide +kernel) (cpf (ap_get hl hN 0 rfl) (jbg (by omega)) (show jw_fld 28 15 13 = some 1 by decide +kernel) (show jw_ft 13 1 = some (.object "java/lang/String") from rfl) (show jw_fm 28 13 1 = some false by decide +kernel) rfl rfl (ap_set hl hN 0 rfl)) ?_
  refine jr_1 jm_129 (show jw_cd cd_129 15 = some (.aload_n 0) by decide +kernel) rfl ?_
  refine jr_1 jm_129 (F2 := (19, [some (.ref N)], [.ref (N + 1), .ref N], (cl_mk (h ++ [.inr (13, [.null, .ref (jx_big + 9), .null]), .inr (12, [.null, .int (Int32.ofInt (0)), .int (Int32.ofInt (0))])]) κ))) (show jw_cd cd_129 16 = some (.new 19) by decide +kernel) (cnw hl hN 1 rfl (by omega) (show jw_find jw_xcT 28 19 = none by decide +kernel) (show jw_find jw_nwT 28 19 = some 12 by decide +kernel)) ?_
  refine jr_1 jm_129 (show jw_cd cd_129 19 = some (.dup) by decide +kernel) rfl ?_
  refine jr_c jm_129 (show jw_cd cd_129 20 = some (.invokespecial 21) by decide +kernel) (ccp (n := 0) (m2 := 125) (ci := 12) (a := N + 1) (bs := []) (r := [.ref (N + 1), .ref N]) (by decide +kernel) (js_cls (ap_get hl hN 1 rfl) (jbg (by omega))) (by decide) (jbg (by omega)) (show jw_find jw_cpT 28 21 = some (0, 125) by decide +kernel) rfl rfl rfl) jm_125 ⟨Nat.le_of_ble_eq_true rfl, by decide⟩ (jc_al125 hl hN hb32) ?_
  refine jr_1 jm_129 (F2 := (26, [some (.ref N)], [], (cl_mk (h ++ [.inr (13, [.null, .ref (jx_big + 9), .ref (N + 1)]), .inr (12, [.ref (jx_big + 53), .int (Int32.ofInt (0)), .int (Int32.ofInt (0))])]) κ))) (show jw_cd cd_129 23 = some (.putfield 22) by decide +kernel) (cpf (ap_get hl hN 0 rfl) (jbg (by omega)) (show jw_fld 28 22 13 = some 2 by decide +kernel) (show jw_ft 13 2 = some (.object "java/util/ArrayList") from rfl) (show jw_fm 28 13 2 = some true by decide +kernel) rfl rfl (ap_set hl hN 0 rfl)) ?_
  exact jr_v jm_129 (show jw_cd cd_129 26 = some (.return_) by decide +kernel) rfl
theorem jc_alSz {β : Bool} {d : Nat} {h : jx_H} {κ : mS} (hl : 50 ≤ h.length) {a ea cap n : Nat} {f : Nat → Value} (hU : alU h a ea cap n f) : jx_r (jz β) jw_M (d) 159 (0, [some (.ref a)], [], (cl_mk h κ)) (cl_mk h (κ), .inl (some (.int (Int32.ofInt (((n : Nat) : Int)))))) := by
  obtain ⟨⟨a1, a2⟩, ⟨md, hA⟩, hor, hel⟩ := hU
  refine jr_1 jm_159 (show jw_cd cd_159 0 = some (.aload_n 0) by decide +kernel) rfl ?_
  refine jr_1 jm_159 (show jw_cd cd_159 1 = some (.getfield 48) by decide +kernel) (js_getf (cl_old hl ⟨by omega, hA⟩) (jbg (by omega)) (show jw_fld 25 48 12 = some 1 by decide +kernel) rfl) ?_
  exact jr_v jm_159 (show jw_cd cd_159 4 = some (.ireturn) by decide +kernel) rfl
theorem jc_chkO {β : Bool} {d : Nat} {h : jx_H} {κ : mS} (hl : 50 ≤ h.length) {i m : Int} (hi : 0 ≤ i ∧ i < m) (hm : m ≤ 2000000000) : jx_r (jz β) jw_M (d + 1) 161 (0, [some (.int (Int32.ofInt (i))), some (.int (Int32.ofInt (m)))], [], (cl_mk h κ)) (cl_mk h (κ), .inl (some (.int (Int32.ofInt (i))))) := by
  refine jr_1 jm_161 (show jw_cd cd_161 0 = some (.iload_n 0) by decide +kernel) rfl ?_
  refine jr_1 jm_161 (show jw_cd cd_161 1 = some (.iload_n 1) by decide +kernel) rfl ?_
  refine jr_1 jm_161 (show jw_cd cd_161 2 = some (.aconst_null) by decide +kernel) rfl ?_
  refine jr_c jm_161 (show jw_cd cd_161 3 = some (.invokestatic 105) by decide +kernel) (mc_s (n := 3) (m2 := 36) (bs := [.int (Int32.ofInt (i)), .int (Int32.ofInt (m)), .null]) (r := []) (by decide) (show jw_find jw_csT 32 105 = some (36, 3) by decide +kernel) rfl rfl rfl) jm_36 ⟨Nat.le_of_ble_eq_true rfl, by decide⟩ (jc_chkI hl hi hm) ?_
  exact jr_v jm_161 (show jw_cd cd_161 6 = some (.ireturn) by decide +kernel) rfl
theorem jc_alEl {β : Bool} {d : Nat} {h : jx_H} {κ : mS} (hl : 50 ≤ h.length) {a ea cap n : Nat} {f : Nat → Value} (hU : alU h a ea cap n f) {i b : Nat} (hi : i < n) (hb : f i = .ref b) : jx_r (jz β) jw_M (d) 162 (0, [some (.ref a), some (.int (Int32.ofInt (((i : Nat) : Int))))], [], (cl_mk h κ)) (cl_mk h (κ), .inl (some (.ref (b)))) := by
  obtain ⟨⟨a1, a2⟩, ⟨md, hA⟩, hor, hel⟩ := hU
  rcases hor with ⟨-, -, e0⟩ | ⟨e1, e2, e3, hE, e5, e6, e7⟩
  · omega
  refine jr_1 jm_162 (show jw_cd cd_162 0 = some (.aload_n 0) by decide +kernel) rfl ?_
  refine jr_1 jm_162 (show jw_cd cd_162 1 = some (.getfield 9) by decide +kernel) (js_getf (cl_old hl ⟨by omega, hA⟩) (jbg (by omega)) (show jw_fld 25 9 12 = some 0 by decide +kernel) rfl) ?_
  refine jr_1 jm_162 (show jw_cd cd_162 4 = some (.iload_n 1) by decide +kernel) rfl ?_
  refine jr_1 jm_162 (show jw_cd cd_162 5 = some (.aaload) by decide +kernel) (cal_a (e := .ref b) (jx_ar_h (cl_old hl ⟨by omega, hE⟩) (jbg (by omega))) (by decide) (by omega) (by omega) (by omega) (by rw [Int.toNat_natCast]; exact hb)) ?_
  exact jr_v jm_162 (show jw_cd cd_162 6 = some (.areturn) by decide +kernel) rfl
theorem jc_alGet {β : Bool} {d : Nat} {h : jx_H} {κ : mS} (hl : 50 ≤ h.length) {a ea cap n : Nat} {f : Nat → Value} (hU : alU h a ea cap n f) {i b : Nat} (hi : i < n) (hb : f i = .ref b) : jx_r (jz β) jw_M (d + 2) 160 (0, [some (.ref a), some (.int (Int32.ofInt (((i : Nat) : Int))))], [], (cl_mk h κ)) (cl_mk h (κ), .inl (some (.ref (b)))) := by
  have hU0 := hU
  obtain ⟨⟨a1, a2⟩, ⟨md, hA⟩, hor, hel⟩ := hU
  rcases hor with ⟨-, -, e0⟩ | ⟨e1, e2, e3, hE, e5, e6, e7⟩
  · omega
  refine jr_1 jm_160 (show jw_cd cd_160 0 = some (.iload_n 1) by decide +kernel) rfl ?_
  refine jr_1 jm_160 (show jw_cd cd_160 1 = some (.aload_n 0) by decide +kernel) rfl ?_
  refine jr_1 jm_160 (show jw_cd cd_160 2 = some (.getfield 48) by decide +kernel) (js_getf (cl_old hl ⟨by omega, hA⟩) (jbg (by omega)) (show jw_fld 25 48 12 = some 1 by decide +kernel) rfl) ?_
  refine jr_c jm_160 (show jw_cd cd_160 5 = some (.invokestatic 118) by decide +kernel) (mc_s (n := 2) (m2 := 161) (bs := [.int (Int32.ofInt (((i : Nat) : Int))), .int (Int32.ofInt (((n : Nat) : Int)))]) (r := []) (by decide) (show jw_find jw_csT 25 118 = some (161, 2) by decide +kernel) rfl rfl rfl) jm_161 ⟨Nat.le_of_ble_eq_true rfl, by decide⟩ (jc_chkO hl ⟨by omega, by omega⟩ (by omega)) ?_
  refine jr_1 jm_160 (show jw_cd cd_160 8 = some (.pop) by decide +kernel) rfl ?_
  refine jr_1 jm_160 (show jw_cd cd_160 9 = some (.aload_n 0) by decide +kernel) rfl ?_
  refine jr_1 jm_160 (show jw_cd cd_160 10 = some (.iload_n 1) by decide +kernel) rfl ?_
  refine jr_c jm_160 (show jw_cd cd_160 11 = some (.invokevirtual 123) by decide +kernel) (ccv (n := 1) (m2 := 162) (ci := 12) (a := a) (bs := [.int (Int32.ofInt (((i : Nat) : Int)))]) (r := []) (js_cls (cl_old hl ⟨by omega, hA⟩) (jbg (by omega))) (show jw_find jw_cvT 25 123 = some (1, [(12, 162)]) by decide +kernel) (by decide) rfl rfl rfl) jm_162 ⟨Nat.le_of_ble_eq_true rfl, by decide⟩ (jc_alEl hl hU0 hi hb) ?_
  exact jr_v jm_160 (show jw_cd cd_160 14 = some (.areturn) by decide +kernel) rfl
theorem jc_al11 {β : Bool} {d : Nat} {h : jx_H} {κ : mS} (hl : 50 ≤ h.length) {a ea cap n b ci : Nat} {md : Int} {f : Nat → Value} (ha : 50 ≤ a ∧ a < 4000000000) (hA : h[a]? = some (.inr (12, [.ref ea, .int (Int32.ofInt (((n : Nat) : Int))), .int (Int32.ofInt (md))]))) (he : 50 ≤ ea ∧ ea < 4000000000) (e3 : ¬ ea = a) (hE : h[ea]? = some (.inl (6, cap, f))) (hn : n < cap ∧ cap ≤ 1000) (hb : jx_cls (jz β) (cl_mk h κ) b = some ci) (hci : ci = 13 ∨ ci = 14) : jx_r (jz β) jw_M (d) 137 (11, [some (.ref a), some (.ref b), some (.ref ea), some (.int (Int32.ofInt (((n : Nat) : Int))))], [], (cl_mk h κ)) (cl_mk (List.set (List.set h ea (.inl (6, cap, updV f (((n : Nat) : Int)).toNat (.ref b)))) a (.inr (12, [.ref ea, .int (Int32.ofInt (((n : Nat) : Int) + 1)), .int (Int32.ofInt (md))]))) (κ), .inl none) := by
  refine jr_1 jm_137 (show jw_cd cd_137 11 = some (.aload_n 2) by decide +kernel) rfl ?_
  refine jr_1 jm_137 (show jw_cd cd_137 12 = some (.iload_n 3) by decide +kernel) rfl ?_
  refine jr_1 jm_137 (show jw_cd cd_137 13 = some (.aload_n 1) by decide +kernel) rfl ?_
  refine jr_1 jm_137 (F2 := (15, [some (.ref a), some (.ref b), some (.ref ea), some (.int (Int32.ofInt (((n : Nat) : Int))))], [], (cl_mk (List.set h ea (.inl (6, cap, updV f (((n : Nat) : Int)).toNat (.ref b)))) κ))) (show jw_cd cd_137 14 = some (.aastore) by decide +kernel) (csa6 (cl_old hl ⟨by omega, hE⟩) (jbg (by omega)) hb hci (by omega) (by omega) (by omega) (cl_set (by omega) (by omega))) ?_
  refine jr_1 jm_137 (show jw_cd cd_137 15 = some (.aload_n 0) by decide +kernel) rfl ?_
  refine jr_1 jm_137 (show jw_cd cd_137 16 = some (.iload_n 3) by decide +kernel) rfl ?_
  refine jr_1 jm_137 (show jw_cd cd_137 17 = some (.iconst 1) by decide +kernel) rfl ?_
  refine jr_1 jm_137 (show jw_cd cd_137 18 = some (.iadd) by decide +kernel) (mt_add (c := ((n : Nat) : Int) + 1) rfl) ?_
  refine jr_1 jm_137 (F2 := (22, [some (.ref a), some (.ref b), some (.ref ea), some (.int (Int32.ofInt (((n : Nat) : Int))))], [], (cl_mk (List.set (List.set h ea (.inl (6, cap, updV f (((n : Nat) : Int)).toNat (.ref b)))) a (.inr (12, [.ref ea, .int (Int32.ofInt (((n : Nat) : Int) + 1)), .int (Int32.ofInt (md))]))) κ))) (show jw_cd cd_137 19 = some (.putfield 48) by decide +kernel) (cpf (cl_old (by rw [List.length_set]; exact hl) ⟨by omega, (js_set_ne (fun e => e3 e)).trans hA⟩) (jbg (by omega)) (show jw_fld 25 48 12 = some 1 by decide +kernel) (show jw_ft 12 1 = some (.int) from rfl) (show jw_fm 25 12 1 = some false by decide +kernel) rfl rfl (cl_set (by rw [List.length_set]; omega) (by omega))) ?_
  exact jr_v jm_137 (show jw_cd cd_137 22 = some (.return_) by decide +kernel) rfl
theorem jw_ema {β : Bool} {H : jx_H} : jx_arr (jz β) H (jx_big + 53) = some (6, 0, fun _ => .null) := rfl
theorem jc_gr0 {β : Bool} {d : Nat} {h : jx_H} {κ : mS} (hl : 50 ≤ h.length) {N : Nat} (hN : h.length = N) (hb32 : N < 3000000000) {a : Nat} {md : Int} (ha : 50 ≤ a ∧ a < 4000000000) (hA : h[a]? = some (.inr (12, [.ref (jx_big + 53), .int (Int32.ofInt (0)), .int (Int32.ofInt (md))]))) : jx_r (jz β) jw_M (d) 139 (0, [some (.ref a), some (.int (Int32.ofInt (1))), none, none], [], (cl_mk h κ)) (cl_mk (List.set (h ++ [.inl (6, 10, fun _ => .null)]) a (.inr (12, [.ref N, .int (Int32.ofInt (0)), .int (Int32.ofInt (md))]))) (κ), .inl (some (.ref (N)))) := by
  refine jr_1 jm_139 (show jw_cd cd_139 0 = some (.aload_n 0) by decide +kernel) rfl ?_
  refine jr_1 jm_139 (show jw_cd cd_139 1 = some (.getfield 9) by decide +kernel) (js_getf (cl_old hl ⟨by omega, hA⟩) (jbg (by omega)) (show jw_fld 25 9 12 = some 0 by decide +kernel) rfl) ?_
  refine jr_1 jm_139 (show jw_cd cd_139 4 = some (.arraylength) by decide +kernel) (cln jw_ema (by decide)) ?_
  refine jr_1 jm_139 (F2 := (6, [some (.ref a), some (.int (Int32.ofInt (1))), some (.int (Int32.ofInt (0))), none], [], (cl_mk h κ))) (show jw_cd cd_139 5 = some (.istore_n 2) by decide +kernel) rfl ?_
  refine jr_1 jm_139 (show jw_cd cd_139 6 = some (.iload_n 2) by decide +kernel) rfl ?_
  refine jr_1 jm_139 (show jw_cd cd_139 7 = some (.ifCond .gt 13) by decide +kernel) (mz_f (q := .gt) (a := 0) (by show ¬ (0 < 0); omega) ⟨by omega, by omega⟩ (by decide)) ?_
  refine jr_1 jm_139 (show jw_cd cd_139 10 = some (.aload_n 0) by decide +kernel) rfl ?_
  refine jr_1 jm_139 (show jw_cd cd_139 11 = some (.getfield 9) by decide +kernel) (js_getf (cl_old hl ⟨by omega, hA⟩) (jbg (by omega)) (show jw_fld 25 9 12 = some 0 by decide +kernel) rfl) ?_
  refine jr_1 jm_139 (show jw_cd cd_139 14 = some (.getstatic 39) by decide +kernel) (cgs (v := .ref (jx_big + 53)) (by decide) rfl) ?_
  refine jr_1 jm_139 (show jw_cd cd_139 17 = some (.if_acmp .eq 28) by decide +kernel) (cac_eq_t (t := 45) (by decide) (by decide)) ?_
  refine jr_1 jm_139 (show jw_cd cd_139 45 = some (.aload_n 0) by decide +kernel) rfl ?_
  refine jr_1 jm_139 (show jw_cd cd_139 46 = some (.bipush 10) by decide +kernel) (mt_bi (by decide)) ?_
  refine jr_1 jm_139 (show jw_cd cd_139 48 = some (.iload_n 1) by decide +kernel) rfl ?_
  refine jr_1 jm_139 (show jw_cd cd_139 49 = some (.invokestatic 79) by decide +kernel) (cmax (c := 10) (by decide) ⟨by decide, by decide⟩ ⟨by decide, by decide⟩ (by decide) rfl) ?_
  refine jr_1 jm_139 (F2 := (55, [some (.ref a), some (.int (Int32.ofInt (1))), some (.int (Int32.ofInt (0))), none], [.ref N, .ref a], (cl_mk (h ++ [.inl (6, 10, fun _ => .null)]) κ))) (show jw_cd cd_139 52 = some (.anewarray 7) by decide +kernel) (cna_r0 hl hN (by omega) (by omega) (by omega) (show jw_find jw_anT 25 7 = some 6 by decide +kernel)) ?_
  refine jr_1 jm_139 (show jw_cd cd_139 55 = some (.dup_x1) by decide +kernel) rfl ?_
  refine jr_1 jm_139 (F2 := (59, [some (.ref a), some (.int (Int32.ofInt (1))), some (.int (Int32.ofInt (0))), none], [.ref N], (cl_mk (List.set (h ++ [.inl (6, 10, fun _ => .null)]) a (.inr (12, [.ref N, .int (Int32.ofInt (0)), .int (Int32.ofInt (md))]))) κ))) (show jw_cd cd_139 56 = some (.putfield 9) by decide +kernel) (cpf (ap_old hl ⟨by omega, hA⟩) (jbg (by omega)) (show jw_fld 25 9 12 = some 0 by decide +kernel) (show jw_ft 12 0 = some (.array (.object "java/lang/Object")) from rfl) (show jw_fm 25 12 0 = some false by decide +kernel) rfl rfl (cl_set (by rw [List.length_append]; omega) (by omega))) ?_
  exact jr_v jm_139 (show jw_cd cd_139 59 = some (.areturn) by decide +kernel) rfl
theorem jc_cp141 {β : Bool} {d : Nat} {h : jx_H} {κ : mS} (hl : 50 ≤ h.length) {N : Nat} (hN : h.length = N) (hb32 : N < 3000000000) {ea cap : Nat} {f : Nat → Value} (he : 50 ≤ ea ∧ ea < 4000000000) (hE : h[ea]? = some (.inl (6, cap, f))) (hcap : 10 ≤ cap ∧ cap ≤ 200) (hf : ∀ i, i < cap → ∃ b ci, f i = .ref b ∧ jx_cls (jz β) (cl_mk (h ++ [.inl (6, ((((cap : Nat) : Int) + ((cap : Nat) : Int) / 2)).toNat, fun _ => .null)]) κ) b = some ci ∧ (ci = 13 ∨ ci = 14)) : jx_r (jz β) jw_M (d) 141 (0, [some (.ref ea), some (.int (Int32.ofInt ((((cap : Nat) : Int) + ((cap : Nat) : Int) / 2)))), some (.ref (jx_big + 56)), none], [], (cl_mk h κ)) (cl_mk (h ++ [.inl (6, ((((cap : Nat) : Int) + ((cap : Nat) : Int) / 2)).toNat, va_cpy f (fun _ => .null) (0 : Int).toNat (0 : Int).toNat (((cap : Nat) : Int)).toNat)]) (κ), .inl (some (.ref (N)))) := by
  refine jr_1 jm_141 (show jw_cd cd_141 0 = some (.aload_n 2) by decide +kernel) rfl ?_
  refine jr_1 jm_141 (show jw_cd cd_141 1 = some (.ldc 110) by decide +kernel) (cld (a := jx_big + 56) rfl) ?_
  refine jr_1 jm_141 (show jw_cd cd_141 3 = some (.if_acmp .ne 10) by decide +kernel) (cac_ne_f (by decide)) ?_
  refine jr_1 jm_141 (show jw_cd cd_141 6 = some (.iload_n 1) by decide +kernel) rfl ?_
  refine jr_1 jm_141 (F2 := (10, [some (.ref ea), some (.int (Int32.ofInt ((((cap : Nat) : Int) + ((cap : Nat) : Int) / 2)))), some (.ref (jx_big + 56)), none], [.ref N], (cl_mk (h ++ [.inl (6, ((((cap : Nat) : Int) + ((cap : Nat) : Int) / 2)).toNat, fun _ => .null)]) κ))) (show jw_cd cd_141 7 = some (.anewarray 2) by decide +kernel) (cna_r0 hl hN (by omega) (by omega) (by omega) (show jw_find jw_anT 13 2 = some 6 by decide +kernel)) ?_
  refine jr_1 jm_141 (show jw_cd cd_141 10 = some (.goto 14) by decide +kernel) (ju_go (t := 24) (by decide)) ?_
  refine jr_1 jm_141 (F2 := (25, [some (.ref ea), some (.int (Int32.ofInt ((((cap : Nat) : Int) + ((cap : Nat) : Int) / 2)))), some (.ref (jx_big + 56)), some (.ref N)], [], (cl_mk (h ++ [.inl (6, ((((cap : Nat) : Int) + ((cap : Nat) : Int) / 2)).toNat, fun _ => .null)]) κ))) (show jw_cd cd_141 24 = some (.astore_n 3) by decide +kernel) rfl ?_
  refine jr_1 jm_141 (show jw_cd cd_141 25 = some (.aload_n 0) by decide +kernel) rfl ?_
  refine jr_1 jm_141 (show jw_cd cd_141 26 = some (.iconst 0) by decide +kernel) rfl ?_
  refine jr_1 jm_141 (show jw_cd cd_141 27 = some (.aload_n 3) by decide +kernel) rfl ?_
  refine jr_1 jm_141 (show jw_cd cd_141 28 = some (.iconst 0) by decide +kernel) rfl ?_
  refine jr_1 jm_141 (show jw_cd cd_141 29 = some (.aload_n 0) by decide +kernel) rfl ?_
  refine jr_1 jm_141 (show jw_cd cd_141 30 = some (.arraylength) by decide +kernel) (cln (jx_ar_h (ap_old hl ⟨by omega, hE⟩) (jbg (by omega))) (by decide)) ?_
  refine jr_1 jm_141 (show jw_cd cd_141 31 = some (.iload_n 1) by decide +kernel) rfl ?_
  refine jr_1 jm_141 (show jw_cd cd_141 32 = some (.invokestatic 304) by decide +kernel) (cmin (c := ((cap : Nat) : Int)) (by decide) ⟨by omega, by omega⟩ ⟨by omega, by omega⟩ (by split <;> omega) rfl) ?_
  refine jr_1 jm_141 (F2 := (38, [some (.ref ea), some (.int (Int32.ofInt ((((cap : Nat) : Int) + ((cap : Nat) : Int) / 2)))), some (.ref (jx_big + 56)), some (.ref N)], [], (cl_mk (h ++ [.inl (6, ((((cap : Nat) : Int) + ((cap : Nat) : Int) / 2)).toNat, va_cpy f (fun _ => .null) (0 : Int).toNat (0 : Int).toNat (((cap : Nat) : Int)).toNat)]) κ))) (show jw_cd cd_141 35 = some (.invokestatic 150) by decide +kernel) (ccy6 (by decide) (ap_get hl hN 0 rfl) (jbg (by omega)) (jx_ar_h (ap_old hl ⟨by omega, hE⟩) (jbg (by omega))) ⟨by omega, by decide, by decide⟩ (by show 0 + (((cap : Nat) : Int)).toNat ≤ cap; omega) (by show 0 + (((cap : Nat) : Int)).toNat ≤ ((((cap : Nat) : Int) + ((cap : Nat) : Int) / 2)).toNat; omega) ⟨by omega, by omega⟩ rfl (fun i hi => by rw [show (0 : Int).toNat + i = i from Nat.zero_add i]; exact hf i (by omega)) (ap_set hl hN 0 rfl)) ?_
  refine jr_1 jm_141 (show jw_cd cd_141 38 = some (.aload_n 3) by decide +kernel) rfl ?_
  exact jr_v jm_141 (show jw_cd cd_141 39 = some (.areturn) by decide +kernel) rfl
theorem jc_cp140 {β : Bool} {d : Nat} {h : jx_H} {κ : mS} (hl : 50 ≤ h.length) {N : Nat} (hN : h.length = N) (hb32 : N < 3000000000) {ea cap : Nat} {f : Nat → Value} (he : 50 ≤ ea ∧ ea < 4000000000) (hE : h[ea]? = some (.inl (6, cap, f))) (hcap : 10 ≤ cap ∧ cap ≤ 200) (hf : ∀ i, i < cap → ∃ b ci, f i = .ref b ∧ jx_cls (jz β) (cl_mk (h ++ [.inl (6, ((((cap : Nat) : Int) + ((cap : Nat) : Int) / 2)).toNat, fun _ => .null)]) κ) b = some ci ∧ (ci = 13 ∨ ci = 14)) : jx_r (jz β) jw_M (d + 1) 140 (0, [some (.ref ea), some (.int (Int32.ofInt ((((cap : Nat) : Int) + ((cap : Nat) : Int) / 2))))], [], (cl_mk h κ)) (cl_mk (h ++ [.inl (6, ((((cap : Nat) : Int) + ((cap : Nat) : Int) / 2)).toNat, va_cpy f (fun _ => .null) (0 : Int).toNat (0 : Int).toNat (((cap : Nat) : Int)).toNat)]) (κ), .inl (some (.ref (N)))) := by
  refine jr_1 jm_140 (show jw_cd cd_140 0 = some (.aload_n 0) by decide +kernel) rfl ?_
  refine jr_1 jm_140 (show jw_cd cd_140 1 = some (.iload_n 1) by decide +kernel) rfl ?_
  refine jr_1 jm_140 (show jw_cd cd_140 2 = some (.aload_n 0) by decide +kernel) rfl ?_
  refine jr_1 jm_140 (show jw_cd cd_140 3 = some (.invokevirtual 86) by decide +kernel) (cgcl (cl_old hl ⟨by omega, hE⟩) (jbg (by omega)) rfl) ?_
  refine jr_c jm_140 (show jw_cd cd_140 6 = some (.invokestatic 300) by decide +kernel) (mc_s (n := 3) (m2 := 141) (bs := [.ref ea, .int (Int32.ofInt ((((cap : Nat) : Int) + ((cap : Nat) : Int) / 2))), .ref (jx_big + 56)]) (r := []) (by decide) (show jw_find jw_csT 13 300 = some (141, 3) by decide +kernel) rfl rfl rfl) jm_141 ⟨Nat.le_of_ble_eq_true rfl, by decide⟩ (jc_cp141 hl hN hb32 he hE hcap hf) ?_
  exact jr_v jm_140 (show jw_cd cd_140 9 = some (.areturn) by decide +kernel) rfl
theorem js_nl2 {β : Bool} {d : Nat} {h : jx_H} {κ : mS} (hl : 50 ≤ h.length) {c x y : Int} (hc : 1 ≤ c ∧ c ≤ 300) (hx : 0 ≤ x ∧ x ≤ y) (hy : y ≤ 1000) : jx_r (jz β) jw_M (d) 18 (0, [some (.int (Int32.ofInt (c))), some (.int (Int32.ofInt (x))), some (.int (Int32.ofInt (y))), none], [], (cl_mk h κ)) (cl_mk h (κ), .inl (some (.int (Int32.ofInt (c + y))))) := by
  refine jr_1 jm_18 (show jw_cd cd_18 0 = some (.iload_n 0) by decide +kernel) rfl ?_
  refine jr_1 jm_18 (show jw_cd cd_18 1 = some (.iload_n 1) by decide +kernel) rfl ?_
  refine jr_1 jm_18 (show jw_cd cd_18 2 = some (.iload_n 2) by decide +kernel) rfl ?_
  refine jr_1 jm_18 (show jw_cd cd_18 3 = some (.invokestatic 194) by decide +kernel) (cmax (c := y) (by decide) ⟨by omega, by omega⟩ ⟨by omega, by omega⟩ (by split <;> omega) rfl) ?_
  refine jr_1 jm_18 (show jw_cd cd_18 6 = some (.iadd) by decide +kernel) (mt_add (c := c + y) rfl) ?_
  refine jr_1 jm_18 (F2 := (8, [some (.int (Int32.ofInt (c))), some (.int (Int32.ofInt (x))), some (.int (Int32.ofInt (y))), some (.int (Int32.ofInt (c + y)))], [], (cl_mk h κ))) (show jw_cd cd_18 7 = some (.istore_n 3) by decide +kernel) rfl ?_
  refine jr_1 jm_18 (show jw_cd cd_18 8 = some (.iconst 0) by decide +kernel) rfl ?_
  refine jr_1 jm_18 (show jw_cd cd_18 9 = some (.iload_n 3) by decide +kernel) rfl ?_
  refine jr_1 jm_18 (show jw_cd cd_18 10 = some (.if_icmp .ge 11) by decide +kernel) (mb_f (q := .ge) (a := 0) (b := c + y) (by show ¬ (c + y ≤ 0); omega) ⟨by omega, by omega⟩ ⟨by omega, by omega⟩ (by decide)) ?_
  refine jr_1 jm_18 (show jw_cd cd_18 13 = some (.iload_n 3) by decide +kernel) rfl ?_
  refine jr_1 jm_18 (show jw_cd cd_18 14 = some (.ldc 200) by decide +kernel) (cldI (a := 2147483639) rfl) ?_
  refine jr_1 jm_18 (show jw_cd cd_18 16 = some (.if_icmp .gt 5) by decide +kernel) (mb_f (q := .gt) (a := c + y) (b := 2147483639) (by show ¬ (2147483639 < c + y); omega) ⟨by omega, by omega⟩ ⟨by omega, by omega⟩ (by decide)) ?_
  refine jr_1 jm_18 (show jw_cd cd_18 19 = some (.iload_n 3) by decide +kernel) rfl ?_
  exact jr_v jm_18 (show jw_cd cd_18 20 = some (.ireturn) by decide +kernel) rfl
theorem jc_gr1 {β : Bool} {d : Nat} {h : jx_H} {κ : mS} (hl : 50 ≤ h.length) {N : Nat} (hN : h.length = N) (hb32 : N < 3000000000) {a ea cap : Nat} {md : Int} {f : Nat → Value} (ha : 50 ≤ a ∧ a < 4000000000) (hA : h[a]? = some (.inr (12, [.ref ea, .int (Int32.ofInt (((cap : Nat) : Int))), .int (Int32.ofInt (md))]))) (he : 50 ≤ ea ∧ ea < 4000000000) (hE : h[ea]? = some (.inl (6, cap, f))) (hcap : 10 ≤ cap ∧ cap ≤ 200) (hf : ∀ i, i < cap → ∃ b ci, f i = .ref b ∧ jx_cls (jz β) (cl_mk (h ++ [.inl (6, ((((cap : Nat) : Int) + ((cap : Nat) : Int) / 2)).toNat, fun _ => .null)]) κ) b = some ci ∧ (ci = 13 ∨ ci = 14)) : jx_r (jz β) jw_M (d + 2) 139 (0, [some (.ref a), some (.int (Int32.ofInt (((cap : Nat) : Int) + 1))), none, none], [], (cl_mk h κ)) (cl_mk (List.set (h ++ [.inl (6, ((((cap : Nat) : Int) + ((cap : Nat) : Int) / 2)).toNat, va_cpy f (fun _ => .null) (0 : Int).toNat (0 : Int).toNat (((cap : Nat) : Int)).toNat)]) a (.inr (12, [.ref N, .int (Int32.ofInt (((cap : Nat) : Int))), .int (Int32.ofInt (md))]))) (κ), .inl (some (.ref (N)))) := by
  refine jr_1 jm_139 (show jw_cd cd_139 0 = some (.aload_n 0) by decide +kernel) rfl ?_
  refine jr_1 jm_139 (show jw_cd cd_139 1 = some (.getfield 9) by decide +kernel) (js_getf (cl_old hl ⟨by omega, hA⟩) (jbg (by omega)) (show jw_fld 25 9 12 = some 0 by decide +kernel) rfl) ?_
  refine jr_1 jm_139 (show jw_cd cd_139 4 = some (.arraylength) by decide +kernel) (cln (jx_ar_h (cl_old hl ⟨by omega, hE⟩) (jbg (by omega))) (by decide)) ?_
  refine jr_1 jm_139 (F2 := (6, [some (.ref a), some (.int (Int32.ofInt (((cap : Nat) : Int) + 1))), some (.int (Int32.ofInt (((cap : Nat) : Int)))), none], [], (cl_mk h κ))) (show jw_cd cd_139 5 = some (.istore_n 2) by decide +kernel) rfl ?_
  refine jr_1 jm_139 (show jw_cd cd_139 6 = some (.iload_n 2) by decide +kernel) rfl ?_
  refine jr_1 jm_139 (show jw_cd cd_139 7 = some (.ifCond .gt 13) by decide +kernel) (mz_t (q := .gt) (a := ((cap : Nat) : Int)) (t := 20) (by show 0 < ((cap : Nat) : Int); omega) ⟨by omega, by omega⟩ (by decide) (by decide)) ?_
  refine jr_1 jm_139 (show jw_cd cd_139 20 = some (.iload_n 2) by decide +kernel) rfl ?_
  refine jr_1 jm_139 (show jw_cd cd_139 21 = some (.iload_n 1) by decide +kernel) rfl ?_
  refine jr_1 jm_139 (show jw_cd cd_139 22 = some (.iload_n 2) by decide +kernel) rfl ?_
  refine jr_1 jm_139 (show jw_cd cd_139 23 = some (.isub) by decide +kernel) (mt_sub (c := ((cap : Nat) : Int) + 1 - (((cap : Nat) : Int))) rfl) ?_
  refine jr_1 jm_139 (show jw_cd cd_139 24 = some (.iload_n 2) by decide +kernel) rfl ?_
  refine jr_1 jm_139 (show jw_cd cd_139 25 = some (.iconst 1) by decide +kernel) rfl ?_
  refine jr_1 jm_139 (show jw_cd cd_139 26 = some (.ishr) by decide +kernel) (mt_shr1 ⟨by omega, by omega⟩) ?_
  refine jr_c jm_139 (show jw_cd cd_139 27 = some (.invokestatic 73) by decide +kernel) (mc_s (n := 3) (m2 := 18) (bs := [.int (Int32.ofInt (((cap : Nat) : Int))), .int (Int32.ofInt (((cap : Nat) : Int) + 1 - (((cap : Nat) : Int)))), .int (Int32.ofInt (((cap : Nat) : Int) / 2))]) (r := []) (by decide) (show jw_find jw_csT 25 73 = some (18, 3) by decide +kernel) rfl rfl rfl) jm_18 ⟨Nat.le_of_ble_eq_true rfl, by decide⟩ (js_nl2 hl ⟨by omega, by omega⟩ ⟨by omega, by omega⟩ (by omega)) ?_
  refine jr_1 jm_139 (F2 := (31, [some (.ref a), some (.int (Int32.ofInt (((cap : Nat) : Int) + 1))), some (.int (Int32.ofInt (((cap : Nat) : Int)))), some (.int (Int32.ofInt ((((cap : Nat) : Int) + ((cap : Nat) : Int) / 2))))], [], (cl_mk h κ))) (show jw_cd cd_139 30 = some (.istore_n 3) by decide +kernel) rfl ?_
  refine jr_1 jm_139 (show jw_cd cd_139 31 = some (.aload_n 0) by decide +kernel) rfl ?_
  refine jr_1 jm_139 (show jw_cd cd_139 32 = some (.aload_n 0) by decide +kernel) rfl ?_
  refine jr_1 jm_139 (show jw_cd cd_139 33 = some (.getfield 9) by decide +kernel) (js_getf (cl_old hl ⟨by omega, hA⟩) (jbg (by omega)) (show jw_fld 25 9 12 = some 0 by decide +kernel) rfl) ?_
  refine jr_1 jm_139 (show jw_cd cd_139 36 = some (.iload_n 3) by decide +kernel) rfl ?_
  refine jr_c jm_139 (show jw_cd cd_139 37 = some (.invokestatic 66) by decide +kernel) (mc_s (n := 2) (m2 := 140) (bs := [.ref ea, .int (Int32.ofInt ((((cap : Nat) : Int) + ((cap : Nat) : Int) / 2)))]) (r := [.ref a]) (by decide) (show jw_find jw_csT 25 66 = some (140, 2) by decide +kernel) rfl rfl rfl) jm_140 ⟨Nat.le_of_ble_eq_true rfl, by decide⟩ (jc_cp140 hl hN hb32 he hE hcap hf) ?_
  refine jr_1 jm_139 (show jw_cd cd_139 40 = some (.dup_x1) by decide +kernel) rfl ?_
  refine jr_1 jm_139 (F2 := (44, [some (.ref a), some (.int (Int32.ofInt (((cap : Nat) : Int) + 1))), some (.int (Int32.ofInt (((cap : Nat) : Int)))), some (.int (Int32.ofInt ((((cap : Nat) : Int) + ((cap : Nat) : Int) / 2))))], [.ref N], (cl_mk (List.set (h ++ [.inl (6, ((((cap : Nat) : Int) + ((cap : Nat) : Int) / 2)).toNat, va_cpy f (fun _ => .null) (0 : Int).toNat (0 : Int).toNat (((cap : Nat) : Int)).toNat)]) a (.inr (12, [.ref N, .int (Int32.ofInt (((cap : Nat) : Int))), .int (Int32.ofInt (md))]))) κ))) (show jw_cd cd_139 41 = some (.putfield 9) by decide +kernel) (cpf (ap_old hl ⟨by omega, hA⟩) (jbg (by omega)) (show jw_fld 25 9 12 = some 0 by decide +kernel) (show jw_ft 12 0 = some (.array (.object "java/lang/Object")) from rfl) (show jw_fm 25 12 0 = some false by decide +kernel) rfl rfl (cl_set (by rw [List.length_append]; omega) (by omega))) ?_
  exact jr_v jm_139 (show jw_cd cd_139 44 = some (.areturn) by decide +kernel) rfl
