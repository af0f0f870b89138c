/-! ===== the class: the text of the result grows (printed by program: gen96.py) ===== -/
theorem jm_17 : jw_M 17 = some (4, 6, ((Option.some Jvm.ClassFile.FieldType.int), false), jw_cd cd_17, fun _ _ => none) := rfl
theorem jm_18 : jw_M 18 = some (11, 4, ((Option.some Jvm.ClassFile.FieldType.int), false), jw_cd cd_18, fun _ _ => none) := rfl
theorem jm_21 : jw_M 21 = some (13, 3, ((Option.some (Jvm.ClassFile.FieldType.array Jvm.ClassFile.FieldType.byte)), false), jw_cd cd_21, fun _ _ => none) := rfl
section CS
variable {β : Bool} {cd : Nat → Option Instr} {own pc k : Nat} {rt : Option FieldType × Bool} {lo : jx_L} {st : List Value} {H : jx_H}
theorem cldI {a : Int} (hs : jw_kcB own k = some (.int (Int32.ofInt a))) : jx_do (jz β) cd own pc rt (.ldc k) lo st H = some (.inl (pc + 2, lo, .int (Int32.ofInt a) :: st, H)) := by
  have e : jx_kc (jz β) own k = some (.int (Int32.ofInt a)) := hs
  simp only [jx_do, e]
theorem cmax {x y c : Int} (hbi : jw_biB own k = some 0) (hx : mr x) (hy : mr y) (hc : c = if x < y then y else x) (hw : jx_wt st = true) : jx_do (jz β) cd own pc rt (.invokestatic k) lo (.int (Int32.ofInt y) :: .int (Int32.ofInt x) :: st) H = some (.inl (pc + 3, lo, .int (Int32.ofInt c) :: st, H)) := by
  have e0 : jx_bi (jz β) own k = some 0 := hbi
  have ex : (Int32.ofInt x).toInt = x := Int32.toInt_ofInt_of_le hx.1 (by have := hx.2; show x < (2 ^ 31 : Int); omega)
  have ey : (Int32.ofInt y).toInt = y := Int32.toInt_ofInt_of_le hy.1 (by have := hy.2; show y < (2 ^ 31 : Int); omega)
  have hlt : (Int32.ofInt x < Int32.ofInt y) ↔ x < y := by rw [Int32.lt_iff_toInt_lt, ex, ey]
  simp only [jx_do, e0, hw]
  rw [hc]
  by_cases h : x < y
  · rw [if_pos h, if_pos (hlt.mpr h)]
    rfl
  · rw [if_neg h, if_neg (fun z => h (hlt.mp z))]
    rfl
end CS
/-- the resultText: its row's address, room, contents; what is written -/
def sbR (h : jx_H) (κ : mS) (r cap : Nat) (fb : Nat → Value) (l : List Int) : Prop := κ 13 0 = (r : Int) ∧ κ 12 0 = (l.length : Int) ∧ (r = 14 ∨ (50 ≤ r ∧ r < 4000000000)) ∧ (cl_mk h κ)[r]? = some (.inl (3, cap, fb)) ∧ l.length ≤ cap ∧ (cap = 16 ∨ cap = 34 ∨ cap = 70 ∨ cap = 142 ∨ cap = 286) ∧ (∀ i, ∃ x : Int, fb i = .int (Int32.ofInt x) ∧ 0 ≤ x ∧ x ≤ 127) ∧ (∀ i, i < l.length → fb i = .int (Int32.ofInt (l.getD i 0)))
theorem rt_set {h : jx_H} {κ : mS} {r cap : Nat} {fb fb' : Nat → Value} (hl : 50 ≤ h.length) (hr : r = 14 ∨ (50 ≤ r ∧ r < 4000000000)) (hR : (cl_mk h κ)[r]? = some (.inl (3, cap, fb))) (hw : ∀ i, ∃ x : Int, fb' i = .int (Int32.ofInt x) ∧ 0 ≤ x ∧ x ≤ 127) : ∃ (h' : jx_H) (κ' : mS), List.set (cl_mk h κ) r (.inl (3, cap, fb')) = cl_mk h' κ' ∧ h'.length = h.length ∧ mEq [14] κ κ' ∧ (cl_mk h' κ')[r]? = some (.inl (3, cap, fb')) ∧ (∀ (c : Nat) (y : jx_C), ¬ c = r → h[c]? = some y → h'[c]? = some y) ∧ cvol h' = cvol h := by
  rcases hr with rfl | ⟨r1, r2⟩
  · have e0 : (cl_mk h κ)[14]? = some (.inl (3, 16, fun i => .int (Int32.ofInt (κ 14 i)))) := cl_c14
    rw [e0] at hR
    have ec : cap = 16 := by
      injection hR with q
      injection q with q
      injection q with q1 q
      injection q with q2 q
      exact q2.symm
    subst ec
    refine ⟨h, fun f i => if f = 14 then Classical.choose (hw i.toNat) else κ f i, ?_, rfl, fun f hf => funext (fun i => if_neg (fun e => hf (by rw [e]; exact List.mem_singleton.mpr rfl))), ?_, fun c y _ hy => hy, rfl⟩
    · have e1 : fb' = fun i : Nat => .int (Int32.ofInt (Classical.choose (hw ((i : Int)).toNat))) := funext (fun i => by
        have := (Classical.choose_spec (hw ((i : Int)).toNat)).1
        rw [← this, Int.toNat_natCast])
      conv => lhs; rw [e1]
      rfl
    · rw [cl_c14]
      congr 4
      funext i
      have := (Classical.choose_spec (hw ((i : Int)).toNat)).1
      show Value.int (Int32.ofInt (if 14 = 14 then Classical.choose (hw ((i : Int)).toNat) else κ 14 i)) = _
      rw [if_pos rfl, ← this, Int.toNat_natCast]
  · have hR' : h[r]? = some (.inl (3, cap, fb)) := by rw [cl_dy (by omega) (by omega)] at hR; exact hR
    refine ⟨List.set h r (.inl (3, cap, fb')), κ, cl_set (by omega) (by omega), List.length_set, fun f hf => rfl, ?_, fun c y hc hy => ?_, cvol_sA hR'⟩
    · rw [cl_dy (by rw [List.length_set]; omega) (by omega)]
      exact js_set_eq hR'
    · rw [js_set_ne (fun e => hc e.symm)]
      exact hy
theorem js_en0 {β : Bool} {d : Nat} {h : jx_H} {κ : mS} (hl : 50 ≤ h.length) {r cap : Nat} {fb : Nat → Value} (e13 : (κ 13 0).toNat = r) (hrr : r < 4000000000) (hR : (cl_mk h κ)[r]? = some (.inl (3, cap, fb))) (hcap : 16 ≤ cap ∧ cap ≤ 300) {m : Int} (hm : 0 ≤ m ∧ m ≤ cap) : jx_r (jz β) jw_M (d) 16 (0, [some (.ref 13), some (.int (Int32.ofInt (m))), none], [], (cl_mk h κ)) (cl_mk h (κ), .inl none) := by
  refine jr_1 jm_16 (show jw_cd cd_16 0 = some (.aload_n 0) by decide +kernel) rfl ?_
  refine jr_1 jm_16 (show jw_cd cd_16 1 = some (.getfield 15) by decide +kernel) (cgk_13 (e := r) e13 (show jw_fld 4 15 2 = some 0 by decide +kernel)) ?_
  refine jr_1 jm_16 (show jw_cd cd_16 4 = some (.arraylength) by decide +kernel) (cln (js_arr hR (jbg (by omega))) (by decide)) ?_
  refine jr_1 jm_16 (show jw_cd cd_16 5 = some (.aload_n 0) by decide +kernel) rfl ?_
  refine jr_1 jm_16 (show jw_cd cd_16 6 = some (.getfield 22) by decide +kernel) (cgc_13 (show jw_fld 4 22 2 = some 1 by decide +kernel)) ?_
  refine jr_1 jm_16 (show jw_cd cd_16 9 = some (.ishr) by decide +kernel) mt_shr0 ?_
  refine jr_1 jm_16 (F2 := (11, [some (.ref 13), some (.int (Int32.ofInt (m))), some (.int (Int32.ofInt (((cap : Nat) : Int))))], [], (cl_mk h κ))) (show jw_cd cd_16 10 = some (.istore_n 2) by decide +kernel) rfl ?_
  refine jr_1 jm_16 (show jw_cd cd_16 11 = some (.iload_n 1) by decide +kernel) rfl ?_
  refine jr_1 jm_16 (show jw_cd cd_16 12 = some (.iload_n 2) by decide +kernel) rfl ?_
  refine jr_1 jm_16 (show jw_cd cd_16 13 = some (.isub) by decide +kernel) (mt_sub (c := m - (((cap : Nat) : Int))) rfl) ?_
  refine jr_1 jm_16 (show jw_cd cd_16 14 = some (.ifCond .le 24) by decide +kernel) (mz_t (q := .le) (a := m - (((cap : Nat) : Int))) (t := 38) (by show m - (((cap : Nat) : Int)) ≤ 0; omega) ⟨by omega, by omega⟩ (by decide) (by decide)) ?_
  exact jr_v jm_16 (show jw_cd cd_16 38 = some (.return_) by decide +kernel) rfl
theorem js_nl {β : Bool} {d : Nat} {h : jx_H} {κ : mS} (hl : 50 ≤ h.length) {c x y : Int} (hc : 16 ≤ c ∧ c ≤ 300) (hx : 0 ≤ x ∧ x ≤ y) (hy : y ≤ 1000) : jx_r (jz β) jw_M (d) 18 (0, [some (.int (Int32.ofInt (c))), some (.int (Int32.ofInt (x))), some (.int (Int32.ofInt (y))), none], [], (cl_mk h κ)) (cl_mk h (κ), .inl (some (.int (Int32.ofInt (c + y))))) := by
  refine jr_1 jm_18 (show jw_cd cd_18 0 = some (.iload_n 0) by decide +kernel) rfl ?_
  refine jr_1 jm_18 (show jw_cd cd_18 1 = some (.iload_n 1) by decide +kernel) rfl ?_
  refine jr_1 jm_18 (show jw_cd cd_18 2 = some (.iload_n 2) by decide +kernel) rfl ?_
  refine jr_1 jm_18 (show jw_cd cd_18 3 = some (.invokestatic 194) by decide +kernel) (cmax (c := y) (by decide) ⟨by omega, by omega⟩ ⟨by omega, by omega⟩ (by split <;> omega) rfl) ?_
  refine jr_1 jm_18 (show jw_cd cd_18 6 = some (.iadd) by decide +kernel) (mt_add (c := c + y) rfl) ?_
  refine jr_1 jm_18 (F2 := (8, [some (.int (Int32.ofInt (c))), some (.int (Int32.ofInt (x))), some (.int (Int32.ofInt (y))), some (.int (Int32.ofInt (c + y)))], [], (cl_mk h κ))) (show jw_cd cd_18 7 = some (.istore_n 3) by decide +kernel) rfl ?_
  refine jr_1 jm_18 (show jw_cd cd_18 8 = some (.iconst 0) by decide +kernel) rfl ?_
  refine jr_1 jm_18 (show jw_cd cd_18 9 = some (.iload_n 3) by decide +kernel) rfl ?_
  refine jr_1 jm_18 (show jw_cd cd_18 10 = some (.if_icmp .ge 11) by decide +kernel) (mb_f (q := .ge) (a := 0) (b := c + y) (by show ¬ (c + y ≤ 0); omega) ⟨by omega, by omega⟩ ⟨by omega, by omega⟩ (by decide)) ?_
  refine jr_1 jm_18 (show jw_cd cd_18 13 = some (.iload_n 3) by decide +kernel) rfl ?_
  refine jr_1 jm_18 (show jw_cd cd_18 14 = some (.ldc 200) by decide +kernel) (cldI (a := 2147483639) rfl) ?_
  refine jr_1 jm_18 (show jw_cd cd_18 16 = some (.if_icmp .gt 5) by decide +kernel) (mb_f (q := .gt) (a := c + y) (b := 2147483639) (by show ¬ (2147483639 < c + y); omega) ⟨by omega, by omega⟩ ⟨by omega, by omega⟩ (by decide)) ?_
  refine jr_1 jm_18 (show jw_cd cd_18 19 = some (.iload_n 3) by decide +kernel) rfl ?_
  exact jr_v jm_18 (show jw_cd cd_18 20 = some (.ireturn) by decide +kernel) rfl
theorem js_nc {β : Bool} {d : Nat} {h : jx_H} {κ : mS} (hl : 50 ≤ h.length) {r cap : Nat} {fb : Nat → Value} (e13 : (κ 13 0).toNat = r) (hrr : r < 4000000000) (hR : (cl_mk h κ)[r]? = some (.inl (3, cap, fb))) (hcap : 16 ≤ cap ∧ cap ≤ 300) {m : Int} (hm : (cap : Int) < m ∧ m ≤ 2 * (cap : Int) + 2) : jx_r (jz β) jw_M (d + 1) 17 (0, [some (.ref 13), some (.int (Int32.ofInt (m))), none, none, none, none], [], (cl_mk h κ)) (cl_mk h (κ), .inl (some (.int (Int32.ofInt (((cap : Nat) : Int) + (((cap : Nat) : Int) + 2)))))) := by
  refine jr_1 jm_17 (show jw_cd cd_17 0 = some (.aload_n 0) by decide +kernel) rfl ?_
  refine jr_1 jm_17 (show jw_cd cd_17 1 = some (.getfield 15) by decide +kernel) (cgk_13 (e := r) e13 (show jw_fld 4 15 2 = some 0 by decide +kernel)) ?_
  refine jr_1 jm_17 (show jw_cd cd_17 4 = some (.arraylength) by decide +kernel) (cln (js_arr hR (jbg (by omega))) (by decide)) ?_
  refine jr_1 jm_17 (F2 := (6, [some (.ref 13), some (.int (Int32.ofInt (m))), some (.int (Int32.ofInt (((cap : Nat) : Int)))), none, none, none], [], (cl_mk h κ))) (show jw_cd cd_17 5 = some (.istore_n 2) by decide +kernel) rfl ?_
  refine jr_1 jm_17 (show jw_cd cd_17 6 = some (.iload_n 1) by decide +kernel) rfl ?_
  refine jr_1 jm_17 (show jw_cd cd_17 7 = some (.aload_n 0) by decide +kernel) rfl ?_
  refine jr_1 jm_17 (show jw_cd cd_17 8 = some (.getfield 22) by decide +kernel) (cgc_13 (show jw_fld 4 22 2 = some 1 by decide +kernel)) ?_
  refine jr_1 jm_17 (show jw_cd cd_17 11 = some (.ishl) by decide +kernel) mt_shl0 ?_
  refine jr_1 jm_17 (F2 := (13, [some (.ref 13), some (.int (Int32.ofInt (m))), some (.int (Int32.ofInt (((cap : Nat) : Int)))), some (.int (Int32.ofInt (m))), none, none], [], (cl_mk h κ))) (show jw_cd cd_17 12 = some (.istore_n 3) by decide +kernel) rfl ?_
  refine jr_1 jm_17 (show jw_cd cd_17 13 = some (.iload_n 3) by decide +kernel) rfl ?_
  refine jr_1 jm_17 (show jw_cd cd_17 14 = some (.iload_n 2) by decide +kernel) rfl ?_
  refine jr_1 jm_17 (show jw_cd cd_17 15 = some (.isub) by decide +kernel) (mt_sub (c := m - (((cap : Nat) : Int))) rfl) ?_
  refine jr_1 jm_17 (F2 := (18, [some (.ref 13), some (.int (Int32.ofInt (m))), some (.int (Int32.ofInt (((cap : Nat) : Int)))), some (.int (Int32.ofInt (m))), some (.int (Int32.ofInt (m - (((cap : Nat) : Int))))), none], [], (cl_mk h κ))) (show jw_cd cd_17 16 = some (.istore 4) by decide +kernel) rfl ?_
  refine jr_1 jm_17 (show jw_cd cd_17 18 = some (.iload_n 2) by decide +kernel) rfl ?_
  refine jr_1 jm_17 (show jw_cd cd_17 19 = some (.iload 4) by decide +kernel) rfl ?_
  refine jr_1 jm_17 (show jw_cd cd_17 21 = some (.iload_n 2) by decide +kernel) rfl ?_
  refine jr_1 jm_17 (show jw_cd cd_17 22 = some (.iconst 2) by decide +kernel) rfl ?_
  refine jr_1 jm_17 (show jw_cd cd_17 23 = some (.aload_n 0) by decide +kernel) rfl ?_
  refine jr_1 jm_17 (show jw_cd cd_17 24 = some (.getfield 22) by decide +kernel) (cgc_13 (show jw_fld 4 22 2 = some 1 by decide +kernel)) ?_
  refine jr_1 jm_17 (show jw_cd cd_17 27 = some (.ishl) by decide +kernel) (mt_ishl (c := 2) (by decide)) ?_
  refine jr_1 jm_17 (show jw_cd cd_17 28 = some (.iadd) by decide +kernel) (mt_add (c := ((cap : Nat) : Int) + 2) rfl) ?_
  refine jr_c jm_17 (show jw_cd cd_17 29 = some (.invokestatic 114) by decide +kernel) (mc_s (n := 3) (m2 := 18) (bs := [.int (Int32.ofInt (((cap : Nat) : Int))), .int (Int32.ofInt (m - (((cap : Nat) : Int)))), .int (Int32.ofInt (((cap : Nat) : Int) + 2))]) (r := []) (by decide) (show jw_find jw_csT 4 114 = some (18, 3) by decide +kernel) rfl rfl rfl) jm_18 ⟨Nat.le_of_ble_eq_true rfl, by decide⟩ (js_nl hl ⟨by omega, by omega⟩ ⟨by omega, by omega⟩ (by omega)) ?_
  refine jr_1 jm_17 (F2 := (34, [some (.ref 13), some (.int (Int32.ofInt (m))), some (.int (Int32.ofInt (((cap : Nat) : Int)))), some (.int (Int32.ofInt (m))), some (.int (Int32.ofInt (m - (((cap : Nat) : Int))))), some (.int (Int32.ofInt (((cap : Nat) : Int) + (((cap : Nat) : Int) + 2))))], [], (cl_mk h κ))) (show jw_cd cd_17 32 = some (.istore 5) by decide +kernel) rfl ?_
  refine jr_1 jm_17 (show jw_cd cd_17 34 = some (.iload 5) by decide +kernel) rfl ?_
  refine jr_1 jm_17 (show jw_cd cd_17 36 = some (.ldc 39) by decide +kernel) (cldI (a := 2147483647) rfl) ?_
  refine jr_1 jm_17 (show jw_cd cd_17 38 = some (.if_icmp .ne 13) by decide +kernel) (mb_t (q := .ne) (a := ((cap : Nat) : Int) + (((cap : Nat) : Int) + 2)) (b := 2147483647) (t := 51) (by show ¬ (((cap : Nat) : Int) + (((cap : Nat) : Int) + 2) = 2147483647); omega) ⟨by omega, by omega⟩ ⟨by omega, by omega⟩ (by decide) (by decide)) ?_
  refine jr_1 jm_17 (show jw_cd cd_17 51 = some (.iload 5) by decide +kernel) rfl ?_
  refine jr_1 jm_17 (show jw_cd cd_17 53 = some (.aload_n 0) by decide +kernel) rfl ?_
  refine jr_1 jm_17 (show jw_cd cd_17 54 = some (.getfield 22) by decide +kernel) (cgc_13 (show jw_fld 4 22 2 = some 1 by decide +kernel)) ?_
  refine jr_1 jm_17 (show jw_cd cd_17 57 = some (.ishr) by decide +kernel) mt_shr0 ?_
  exact jr_v jm_17 (show jw_cd cd_17 58 = some (.ireturn) by decide +kernel) rfl
theorem js_ext {h : jx_H} {κ : mS} {L : List jx_C} {r : Nat} {y : jx_C} (hl : 50 ≤ h.length) (hR : (cl_mk h κ)[r]? = some y) (hrr : r < 4000000000) : (cl_mk (h ++ L) κ)[r]? = some y := by
  by_cases hr : 15 ≤ r
  · rw [cl_dy (by omega) hr] at hR
    exact ap_old hl ⟨hr, hR⟩
  · have e : cl_mk (h ++ L) κ = cl_mk h κ ++ L := by
      unfold cl_mk
      rw [List.drop_append_of_le_length (by omega), List.append_assoc]
    rw [e, List.getElem?_append_left (List.getElem?_eq_some_iff.mp hR).1]
    exact hR
theorem js_cpO {β : Bool} {d : Nat} {h : jx_H} {κ : mS} (hl : 50 ≤ h.length) {N : Nat} (hN : h.length = N) (hb32 : N < 3000000000) {r cap : Nat} {fb : Nat → Value} (e13 : (κ 13 0).toNat = r) (hrr : r < 4000000000) (hR : (cl_mk h κ)[r]? = some (.inl (3, cap, fb))) (hcap : 16 ≤ cap ∧ cap ≤ 300) (hfb : ∀ i, ∃ x : Int, fb i = .int (Int32.ofInt x) ∧ 0 ≤ x ∧ x ≤ 127) : jx_r (jz β) jw_M (d) 21 (0, [some (.ref r), some (.int (Int32.ofInt ((((cap : Nat) : Int) + (((cap : Nat) : Int) + 2))))), none], [], (cl_mk h κ)) (cl_mk (h ++ [.inl (3, ((((cap : Nat) : Int) + (((cap : Nat) : Int) + 2))).toNat, va_cpy fb (fun _ => .int 0) (0 : Int).toNat (0 : Int).toNat (((cap : Nat) : Int)).toNat)]) (κ), .inl (some (.ref (N)))) := by
  refine jr_1 jm_21 (show jw_cd cd_21 0 = some (.iload_n 1) by decide +kernel) rfl ?_
  refine jr_1 jm_21 (show jw_cd cd_21 1 = some (.aload_n 0) by decide +kernel) rfl ?_
  refine jr_1 jm_21 (show jw_cd cd_21 2 = some (.arraylength) by decide +kernel) (cln (js_arr hR (jbg (by omega))) (by decide)) ?_
  refine jr_1 jm_21 (show jw_cd cd_21 3 = some (.if_icmp .ne 11) by decide +kernel) (mb_t (q := .ne) (a := (((cap : Nat) : Int) + (((cap : Nat) : Int) + 2))) (b := ((cap : Nat) : Int)) (t := 14) (by show ¬ ((((cap : Nat) : Int) + (((cap : Nat) : Int) + 2)) = ((cap : Nat) : Int)); omega) ⟨by omega, by omega⟩ ⟨by omega, by omega⟩ (by decide) (by decide)) ?_
  refine jr_1 jm_21 (show jw_cd cd_21 14 = some (.iload_n 1) by decide +kernel) rfl ?_
  refine jr_1 jm_21 (F2 := (17, [some (.ref r), some (.int (Int32.ofInt ((((cap : Nat) : Int) + (((cap : Nat) : Int) + 2))))), none], [.ref N], (cl_mk (h ++ [.inl (3, ((((cap : Nat) : Int) + (((cap : Nat) : Int) + 2))).toNat, fun _ => .int 0)]) κ))) (show jw_cd cd_21 15 = some (.newarray .byte) by decide +kernel) (cna_byte0 hl hN (by omega) (by omega) (by omega)) ?_
  refine jr_1 jm_21 (F2 := (18, [some (.ref r), some (.int (Int32.ofInt ((((cap : Nat) : Int) + (((cap : Nat) : Int) + 2))))), some (.ref N)], [], (cl_mk (h ++ [.inl (3, ((((cap : Nat) : Int) + (((cap : Nat) : Int) + 2))).toNat, fun _ => .int 0)]) κ))) (show jw_cd cd_21 17 = some (.astore_n 2) by decide +kernel) rfl ?_
  refine jr_1 jm_21 (show jw_cd cd_21 18 = some (.aload_n 0) by decide +kernel) rfl ?_
  refine jr_1 jm_21 (show jw_cd cd_21 19 = some (.iconst 0) by decide +kernel) rfl ?_
  refine jr_1 jm_21 (show jw_cd cd_21 20 = some (.aload_n 2) by decide +kernel) rfl ?_
  refine jr_1 jm_21 (show jw_cd cd_21 21 = some (.iconst 0) by decide +kernel) rfl ?_
  refine jr_1 jm_21 (show jw_cd cd_21 22 = some (.aload_n 0) by decide +kernel) rfl ?_
  refine jr_1 jm_21 (show jw_cd cd_21 23 = some (.arraylength) by decide +kernel) (cln (js_arr (js_ext hl hR hrr) (jbg (by omega))) (by decide)) ?_
  refine jr_1 jm_21 (show jw_cd cd_21 24 = some (.iload_n 1) by decide +kernel) rfl ?_
  refine jr_1 jm_21 (show jw_cd cd_21 25 = some (.invokestatic 304) by decide +kernel) (cmin (c := ((cap : Nat) : Int)) (by decide) ⟨by omega, by omega⟩ ⟨by omega, by omega⟩ (by split <;> omega) rfl) ?_
  refine jr_1 jm_21 (F2 := (31, [some (.ref r), some (.int (Int32.ofInt ((((cap : Nat) : Int) + (((cap : Nat) : Int) + 2))))), some (.ref N)], [], (cl_mk (h ++ [.inl (3, ((((cap : Nat) : Int) + (((cap : Nat) : Int) + 2))).toNat, va_cpy fb (fun _ => .int 0) (0 : Int).toNat (0 : Int).toNat (((cap : Nat) : Int)).toNat)]) κ))) (show jw_cd cd_21 28 = some (.invokestatic 150) by decide +kernel) (ccyE (by decide) (ap_get hl hN 0 rfl) (jbg (by omega)) (js_arr (js_ext hl hR hrr) (jbg (by omega))) ⟨by omega, by decide, by decide⟩ (by show 0 + (((cap : Nat) : Int)).toNat ≤ cap; omega) (by show 0 + (((cap : Nat) : Int)).toNat ≤ ((((cap : Nat) : Int) + (((cap : Nat) : Int) + 2))).toNat; omega) ⟨by omega, by omega⟩ rfl (fun i hi => hfb _) (ap_set hl hN 0 rfl)) ?_
  refine jr_1 jm_21 (show jw_cd cd_21 31 = some (.aload_n 2) by decide +kernel) rfl ?_
  exact jr_v jm_21 (show jw_cd cd_21 32 = some (.areturn) by decide +kernel) rfl
theorem js_en1 {β : Bool} {d : Nat} {h : jx_H} {κ : mS} (hl : 50 ≤ h.length) {N : Nat} (hN : h.length = N) (hb32 : N < 3000000000) {r cap : Nat} {fb : Nat → Value} (e13 : (κ 13 0).toNat = r) (hrr : r < 4000000000) (hR : (cl_mk h κ)[r]? = some (.inl (3, cap, fb))) (hcap : 16 ≤ cap ∧ cap ≤ 300) (hfb : ∀ i, ∃ x : Int, fb i = .int (Int32.ofInt x) ∧ 0 ≤ x ∧ x ≤ 127) {m : Int} (hm : (cap : Int) < m ∧ m ≤ 2 * (cap : Int) + 2) : jx_r (jz β) jw_M (d + 2) 16 (0, [some (.ref 13), some (.int (Int32.ofInt (m))), none], [], (cl_mk h κ)) (cl_mk (h ++ [.inl (3, ((((cap : Nat) : Int) + (((cap : Nat) : Int) + 2))).toNat, va_cpy fb (fun _ => .int 0) (0 : Int).toNat (0 : Int).toNat (((cap : Nat) : Int)).toNat)]) ((su κ 13 (0) (((N : Nat) : Int)))), .inl none) := by
  refine jr_1 jm_16 (show jw_cd cd_16 0 = some (.aload_n 0) by decide +kernel) rfl ?_
  refine jr_1 jm_16 (show jw_cd cd_16 1 = some (.getfield 15) by decide +kernel) (cgk_13 (e := r) e13 (show jw_fld 4 15 2 = some 0 by decide +kernel)) ?_
  refine jr_1 jm_16 (show jw_cd cd_16 4 = some (.arraylength) by decide +kernel) (cln (js_arr hR (jbg (by omega))) (by decide)) ?_
  refine jr_1 jm_16 (show jw_cd cd_16 5 = some (.aload_n 0) by decide +kernel) rfl ?_
  refine jr_1 jm_16 (show jw_cd cd_16 6 = some (.getfield 22) by decide +kernel) (cgc_13 (show jw_fld 4 22 2 = some 1 by decide +kernel)) ?_
  refine jr_1 jm_16 (show jw_cd cd_16 9 = some (.ishr) by decide +kernel) mt_shr0 ?_
  refine jr_1 jm_16 (F2 := (11, [some (.ref 13), some (.int (Int32.ofInt (m))), some (.int (Int32.ofInt (((cap : Nat) : Int))))], [], (cl_mk h κ))) (show jw_cd cd_16 10 = some (.istore_n 2) by decide +kernel) rfl ?_
  refine jr_1 jm_16 (show jw_cd cd_16 11 = some (.iload_n 1) by decide +kernel) rfl ?_
  refine jr_1 jm_16 (show jw_cd cd_16 12 = some (.iload_n 2) by decide +kernel) rfl ?_
  refine jr_1 jm_16 (show jw_cd cd_16 13 = some (.isub) by decide +kernel) (mt_sub (c := m - (((cap : Nat) : Int))) rfl) ?_
  refine jr_1 jm_16 (show jw_cd cd_16 14 = some (.ifCond .le 24) by decide +kernel) (mz_f (q := .le) (a := m - (((cap : Nat) : Int))) (by show ¬ (m - (((cap : Nat) : Int)) ≤ 0); omega) ⟨by omega, by omega⟩ (by decide)) ?_
  refine jr_1 jm_16 (show jw_cd cd_16 17 = some (.aload_n 0) by decide +kernel) rfl ?_
  refine jr_1 jm_16 (show jw_cd cd_16 18 = some (.aload_n 0) by decide +kernel) rfl ?_
  refine jr_1 jm_16 (show jw_cd cd_16 19 = some (.getfield 15) by decide +kernel) (cgk_13 (e := r) e13 (show jw_fld 4 15 2 = some 0 by decide +kernel)) ?_
  refine jr_1 jm_16 (show jw_cd cd_16 22 = some (.aload_n 0) by decide +kernel) rfl ?_
  refine jr_1 jm_16 (show jw_cd cd_16 23 = some (.iload_n 1) by decide +kernel) rfl ?_
  refine jr_c jm_16 (show jw_cd cd_16 24 = some (.invokevirtual 104) by decide +kernel) (ccv (n := 1) (m2 := 17) (ci := 2) (a := 13) (bs := [.int (Int32.ofInt (m))]) (r := [.ref r, .ref 13]) (js_cls cl_c13 (by decide)) (show jw_find jw_cvT 4 104 = some (1, [(2, 17)]) by decide +kernel) (by decide) rfl rfl rfl) jm_17 ⟨Nat.le_of_ble_eq_true rfl, by decide⟩ (js_nc hl e13 hrr hR hcap ⟨by omega, by omega⟩) ?_
  refine jr_1 jm_16 (show jw_cd cd_16 27 = some (.aload_n 0) by decide +kernel) rfl ?_
  refine jr_1 jm_16 (show jw_cd cd_16 28 = some (.getfield 22) by decide +kernel) (cgc_13 (show jw_fld 4 22 2 = some 1 by decide +kernel)) ?_
  refine jr_1 jm_16 (show jw_cd cd_16 31 = some (.ishl) by decide +kernel) mt_shl0 ?_
  refine jr_c jm_16 (show jw_cd cd_16 32 = some (.invokestatic 108) by decide +kernel) (mc_s (n := 2) (m2 := 21) (bs := [.ref r, .int (Int32.ofInt ((((cap : Nat) : Int) + (((cap : Nat) : Int) + 2))))]) (r := [.ref 13]) (by decide) (show jw_find jw_csT 4 108 = some (21, 2) by decide +kernel) rfl rfl rfl) jm_21 ⟨Nat.le_of_ble_eq_true rfl, by decide⟩ (js_cpO hl hN hb32 e13 hrr hR hcap hfb) ?_
  refine jr_1 jm_16 (show jw_cd cd_16 35 = some (.putfield 15) by decide +kernel) (cpk_13 (e := N) (show jw_fld 4 15 2 = some 0 by decide +kernel) (show jw_fm 4 2 0 = some false by decide +kernel)) ?_
  exact jr_v jm_16 (show jw_cd cd_16 38 = some (.return_) by decide +kernel) rfl
