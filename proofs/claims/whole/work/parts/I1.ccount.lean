/-! ===== the class: a value is looked at: count, extent (printed by program: gen93.py) ===== -/
theorem jm_105 : jw_M 105 = some (8, 4, ((Option.some Jvm.ClassFile.FieldType.int), false), jw_cd cd_105, fun _ _ => none) := rfl
theorem jm_108 : jw_M 108 = some (8, 1, ((Option.some Jvm.ClassFile.FieldType.int), false), jw_cd cd_108, fun _ _ => none) := rfl
theorem jm_50 : jw_M 50 = some (15, 1, ((Option.some Jvm.ClassFile.FieldType.int), false), jw_cd cd_50, fun _ _ => none) := rfl
theorem jm_51 : jw_M 51 = some (15, 1, ((Option.some Jvm.ClassFile.FieldType.byte), false), jw_cd cd_51, fun _ _ => none) := rfl
theorem jm_179 : jw_M 179 = some (15, 1, ((Option.some Jvm.ClassFile.FieldType.boolean), false), jw_cd cd_179, fun _ _ => none) := rfl
/-- a value, open: what the class sees of it -/
def vO (h : jx_H) (κ : mS) (X : Nat → Prop) (a : Nat) (i : tI) (F : FT) : Prop := a < 4000000000 ∧ ∃ (t ka ia kc ic : Nat) (f g : Nat → Value), (ka < 4000000000 ∧ ia < 4000000000) ∧ (cl_mk h κ)[a]? = some (.inr (5, [.int (Int32.ofInt (i.1)), .int (Int32.ofInt (i.2.1)), .ref t, .ref ka, .ref ia, .int (Int32.ofInt (((fsz F : Nat) : Int)))])) ∧ strR h X t i.2.2.1 ∧ (cl_mk h κ)[ka]? = some (.inl (4, kc, g)) ∧ (cl_mk h κ)[ia]? = some (.inl (4, ic, f)) ∧ (fsz F ≤ ic ∧ ic ≤ 1000000) ∧ ((i.1 = 6 ∧ fsz F ≤ kc ∧ kc ≤ 1000000) ∨ (¬ i.1 = 6 ∧ kc = 0)) ∧ vF h X F (decide (i.1 = 6)) f g 0
theorem vN_O {h : jx_H} {κ : mS} {X : Nat → Prop} {a : Nat} {i : tI} {F : FT} (hl : 50 ≤ h.length) (hv : vN h X a i F) : vO h κ X a i F := by
  obtain ⟨z1, t, ka, ia, kc, ic, f, g, z2, z3, h1, h2, h3, h4, h5, h6, h7⟩ := hv
  exact ⟨z1.2.1, t, ka, ia, kc, ic, f, g, ⟨z2.2.1, z3.2.1⟩, cl_old hl ⟨by have := z1.1; omega, h1⟩, h2, cl_old hl ⟨by have := z2.1; omega, h3⟩, cl_old hl ⟨by have := z3.1; omega, h4⟩, h5, h6, h7⟩
theorem vO_7 {h : jx_H} {κ : mS} {X : Nat → Prop} : vO h κ X 7 (0, 0, [], []) .leaf := ⟨by decide, jx_big + 9, 8, 9, 0, 0, fun _ => .null, fun _ => .null, ⟨by decide, by decide⟩, cl_c7, emp_str, cl_c8, cl_c9, ⟨Nat.zero_le _, by decide⟩, Or.inr ⟨show ¬ ((0 : Int) = 6) by decide, rfl⟩, trivial⟩
/-- an address stands for a value: the one NULL, or a value of the heap -/
def vR (h : jx_H) (X : Nat → Prop) (a : Nat) (v : vT) : Prop := (a = 7 ∧ v.1.1 = 0 ∧ v.1.2.1 = 0 ∧ v.1.2.2.1 = [] ∧ v.2 = .leaf) ∨ vN h X a v.1 v.2
theorem vR_O {h : jx_H} {κ : mS} {X : Nat → Prop} {a : Nat} {v : vT} (hl : 50 ≤ h.length) (hv : vR h X a v) : vO h κ X a v.1 v.2 := by
  obtain ⟨⟨i1, i2, i3, i4⟩, F⟩ := v
  rcases hv with ⟨rfl, e1, e2, e3, e4⟩ | hv
  · have e1 : i1 = 0 := e1
    have e2 : i2 = 0 := e2
    have e3 : i3 = [] := e3
    have e4 : F = .leaf := e4
    subst e1 e2 e3 e4
    exact vO_7
  · exact vN_O hl hv
theorem vR_fr {h h' : jx_H} {X X' : Nat → Prop} {a : Nat} {v : vT} (hq : ∀ c y, zc X c → h[c]? = some y → zc X' c ∧ h'[c]? = some y) (hv : vR h X a v) : vR h' X' a v := by
  rcases hv with hv | hv
  · exact Or.inl hv
  · exact Or.inr (vN_fr hq hv)
theorem vO_cls {β : Bool} {h : jx_H} {κ : mS} {X : Nat → Prop} {a : Nat} {i : tI} {F : FT} (hv : vO h κ X a i F) : jx_cls (jz β) (cl_mk h κ) a = some 5 := by
  obtain ⟨h0, t, ka, ia, kc, ic, f, g, -, h1, -⟩ := hv
  exact js_cls h1 (jbg (by omega))
theorem jc_cnt0 {β : Bool} {d : Nat} {h : jx_H} {κ : mS} (hl : 50 ≤ h.length) {a : Nat} {k : Int} {res : jx_H × (Option Value ⊕ Nat)} (hr : jx_r (jz β) jw_M (d) 105 (4, [some (.ref a), some (.int (Int32.ofInt (k))), some (.int (Int32.ofInt (1))), some (.int (Int32.ofInt (((0 : Nat) : Int))))], [], (cl_mk h κ)) res) : jx_r (jz β) jw_M (d) 105 (0, [some (.ref a), some (.int (Int32.ofInt (k))), none, none], [], (cl_mk h κ)) res := by
  refine jr_1 jm_105 (show jw_cd cd_105 0 = some (.iconst 1) by decide +kernel) rfl ?_
  refine jr_1 jm_105 (F2 := (2, [some (.ref a), some (.int (Int32.ofInt (k))), some (.int (Int32.ofInt (1))), none], [], (cl_mk h κ))) (show jw_cd cd_105 1 = some (.istore_n 2) by decide +kernel) rfl ?_
  refine jr_1 jm_105 (show jw_cd cd_105 2 = some (.iconst 0) by decide +kernel) rfl ?_
  refine jr_1 jm_105 (F2 := (4, [some (.ref a), some (.int (Int32.ofInt (k))), some (.int (Int32.ofInt (1))), some (.int (Int32.ofInt (0)))], [], (cl_mk h κ))) (show jw_cd cd_105 3 = some (.istore_n 3) by decide +kernel) rfl ?_
  exact hr
theorem jc_cntL {β : Bool} {h : jx_H} {κ : mS} {X : Nat → Prop} (hl : 50 ≤ h.length) : ∀ (F : FT) (ob : Bool) (a t ka ia ic sz j k D : Nat) (i1 i2 s : Int) (f g : Nat → Value), a < 4000000000 → (cl_mk h κ)[a]? = some (.inr (5, [.int (Int32.ofInt (i1)), .int (Int32.ofInt (i2)), .ref t, .ref ka, .ref ia, .int (Int32.ofInt ((sz : Int)))])) → ia < 4000000000 → (cl_mk h κ)[ia]? = some (.inl (4, ic, f)) → sz ≤ ic ∧ ic ≤ 1000000 → vF h X F ob f g j → j + fsz F = sz → k + fdp F ≤ 8 → fdp F ≤ D → jx_r (jz β) jw_M (D) 105 (4, [some (.ref a), some (.int (Int32.ofInt ((k : Int)))), some (.int (Int32.ofInt (s))), some (.int (Int32.ofInt ((j : Int))))], [], (cl_mk h κ)) (cl_mk h (κ), .inl (some (.int (Int32.ofInt (s + (fct F : Int))))))
  | .leaf, ob, a, t, ka, ia, ic, sz, j, k, D, i1, i2, s, f, g, ha, hA, hia, hI, hsz, hv, hj, hk, hD => by
    have hj : j + 0 = sz := hj
    rw [show s + ((fct .leaf : Nat) : Int) = s by show s + 0 = s; omega]
    refine jr_1 jm_105 (show jw_cd cd_105 4 = some (.iload_n 3) by decide +kernel) rfl ?_
    refine jr_1 jm_105 (show jw_cd cd_105 5 = some (.aload_n 0) by decide +kernel) rfl ?_
    refine jr_1 jm_105 (show jw_cd cd_105 6 = some (.getfield 29) by decide +kernel) (js_getf hA (jbg (by omega)) (show jw_fld 8 29 5 = some 5 by decide +kernel) rfl) ?_
    refine jr_1 jm_105 (show jw_cd cd_105 9 = some (.if_icmp .ge 30) by decide +kernel) (mb_t (q := .ge) (a := (j : Int)) (b := (sz : Int)) (t := 39) (by show (sz : Int) ≤ (j : Int); omega) ⟨by omega, by omega⟩ ⟨by omega, by omega⟩ (by decide) (by decide)) ?_
    refine jr_1 jm_105 (show jw_cd cd_105 39 = some (.iload_n 2) by decide +kernel) rfl ?_
    exact jr_v jm_105 (show jw_cd cd_105 40 = some (.ireturn) by decide +kernel) rfl
  | .inner s0 i u0 c n, ob, a, t, ka, ia, ic, sz, j, k, D, i1, i2, s, f, g, ha, hA, hia, hI, hsz, hv, hj, hk, hD => by
    have hj : j + (fsz n + 1) = sz := hj
    have hd : fdp (.inner s0 i u0 c n) = max (1 + fdp c) (fdp n) := rfl
    rw [hd] at hk hD
    obtain ⟨D', rfl⟩ : ∃ D', D = D' + 1 := ⟨D - 1, by omega⟩
    obtain ⟨⟨b, hfj, z1, t', ka', ia', kc', ic', f', g', z2, z3, h1, h2, h3, h4, h5, h6, h7⟩, -, hn⟩ := hv
    have zb1 := z1.1
    have zb2 := z1.2.1
    have zi1 := z3.1
    have zi2 := z3.2.1
    have hB : (cl_mk h κ)[b]? = some (.inr (5, [.int (Int32.ofInt (i.1)), .int (Int32.ofInt (i.2.1)), .ref (t'), .ref (ka'), .ref (ia'), .int (Int32.ofInt (((fsz c : Nat) : Int)))])) := cl_old hl ⟨by omega, h1⟩
    have hIB := cl_old (κ := κ) hl ⟨by omega, h4⟩
    have hc : jx_r (jz β) jw_M (D') 105 (0, [some (.ref b), some (.int (Int32.ofInt ((k : Int) + 1))), none, none], [], (cl_mk h κ)) (cl_mk h (κ), .inl (some (.int (Int32.ofInt (1 + (fct c : Int)))))) := jc_cnt0 hl (jc_cntL hl c _ b t' ka' ia' ic' (fsz c) 0 (k + 1) D' i.1 i.2.1 1 f' g' (by omega) hB (by omega) hIB h5 h7 (by omega) (by omega) (by omega))
    have hr := jc_cntL (β := β) hl n ob a t ka ia ic sz (j + 1) k (D' + 1) i1 i2 (s + (1 + (fct c : Int))) f g ha hA hia hI hsz hn (by omega) (by omega) (by omega)
    rw [show s + ((fct (.inner s0 i u0 c n) : Nat) : Int) = s + (1 + (fct c : Int)) + (fct n : Int) by
      show s + ((1 + fct c + fct n : Nat) : Int) = _
      omega]
    refine jr_1 jm_105 (show jw_cd cd_105 4 = some (.iload_n 3) by decide +kernel) rfl ?_
    refine jr_1 jm_105 (show jw_cd cd_105 5 = some (.aload_n 0) by decide +kernel) rfl ?_
    refine jr_1 jm_105 (show jw_cd cd_105 6 = some (.getfield 29) by decide +kernel) (js_getf hA (jbg (by omega)) (show jw_fld 8 29 5 = some 5 by decide +kernel) rfl) ?_
    refine jr_1 jm_105 (show jw_cd cd_105 9 = some (.if_icmp .ge 30) by decide +kernel) (mb_f (q := .ge) (a := (j : Int)) (b := (sz : Int)) (by show ¬ ((sz : Int) ≤ (j : Int)); omega) ⟨by omega, by omega⟩ ⟨by omega, by omega⟩ (by decide)) ?_
    refine jr_1 jm_105 (show jw_cd cd_105 12 = some (.iload_n 1) by decide +kernel) rfl ?_
    refine jr_1 jm_105 (show jw_cd cd_105 13 = some (.bipush 8) by decide +kernel) (mt_bi (by decide)) ?_
    refine jr_1 jm_105 (show jw_cd cd_105 15 = some (.if_icmp .ge 24) by decide +kernel) (mb_f (q := .ge) (a := (k : Int)) (b := 8) (by show ¬ (8 ≤ (k : Int)); omega) ⟨by omega, by omega⟩ ⟨by omega, by omega⟩ (by decide)) ?_
    refine jr_1 jm_105 (show jw_cd cd_105 18 = some (.iload_n 2) by decide +kernel) rfl ?_
    refine jr_1 jm_105 (show jw_cd cd_105 19 = some (.aload_n 0) by decide +kernel) rfl ?_
    refine jr_1 jm_105 (show jw_cd cd_105 20 = some (.getfield 26) by decide +kernel) (js_getf hA (jbg (by omega)) (show jw_fld 8 26 5 = some 4 by decide +kernel) rfl) ?_
    refine jr_1 jm_105 (show jw_cd cd_105 23 = some (.iload_n 3) by decide +kernel) rfl ?_
    refine jr_1 jm_105 (F2 := (25, [some (.ref a), some (.int (Int32.ofInt ((k : Int)))), some (.int (Int32.ofInt (s))), some (.int (Int32.ofInt ((j : Int))))], [.ref b, .int (Int32.ofInt (s))], (cl_mk h κ))) (show jw_cd cd_105 24 = some (.aaload) by decide +kernel) (cal_a (js_arr hI (jbg (by omega))) (Or.inl rfl) (by omega) (by omega) (by omega) (by rw [Int.toNat_natCast]; exact hfj)) ?_
    refine jr_1 jm_105 (show jw_cd cd_105 25 = some (.iload_n 1) by decide +kernel) rfl ?_
    refine jr_1 jm_105 (show jw_cd cd_105 26 = some (.iconst 1) by decide +kernel) rfl ?_
    refine jr_1 jm_105 (show jw_cd cd_105 27 = some (.iadd) by decide +kernel) (mt_add (c := (k : Int) + 1) rfl) ?_
    refine jr_c jm_105 (show jw_cd cd_105 28 = some (.invokevirtual 68) by decide +kernel) (ccv (n := 1) (m2 := 105) (ci := 5) (a := b) (bs := [.int (Int32.ofInt ((k : Int) + 1))]) (r := [.int (Int32.ofInt (s))]) (js_cls hB (jbg (by omega))) (show jw_find jw_cvT 8 68 = some (1, [(5, 105)]) by decide +kernel) (by decide) rfl rfl rfl) jm_105 ⟨Nat.le_of_ble_eq_true rfl, by decide⟩ hc ?_
    refine jr_1 jm_105 (show jw_cd cd_105 31 = some (.iadd) by decide +kernel) (mt_add (c := s + (1 + (fct c : Int))) rfl) ?_
    refine jr_1 jm_105 (F2 := (33, [some (.ref a), some (.int (Int32.ofInt ((k : Int)))), some (.int (Int32.ofInt (s + (1 + (fct c : Int))))), some (.int (Int32.ofInt ((j : Int))))], [], (cl_mk h κ))) (show jw_cd cd_105 32 = some (.istore_n 2) by decide +kernel) rfl ?_
    refine jr_1 jm_105 (F2 := (36, [some (.ref a), some (.int (Int32.ofInt ((k : Int)))), some (.int (Int32.ofInt (s + (1 + (fct c : Int))))), some (.int (Int32.ofInt ((j : Int) + 1)))], [], (cl_mk h κ))) (show jw_cd cd_105 33 = some (.iinc 3 1) by decide +kernel) (mt_inc (a := (j : Int)) (c := (j : Int) + 1) rfl (by omega) rfl) ?_
    refine jr_1 jm_105 (show jw_cd cd_105 36 = some (.goto (-32)) by decide +kernel) (ju_go (t := 4) (by decide)) ?_
    exact hr
theorem jc_cnt {β : Bool} {d : Nat} {h : jx_H} {κ : mS} (hl : 50 ≤ h.length) {X : Nat → Prop} {a : Nat} {i : tI} {F : FT} (hv : vO h κ X a i F) (hd : fdp F ≤ 4) : jx_r (jz β) jw_M (d + 4) 105 (0, [some (.ref a), some (.int (Int32.ofInt (0))), none, none], [], (cl_mk h κ)) (cl_mk h (κ), .inl (some (.int (Int32.ofInt (1 + (fct F : Int)))))) := by
  obtain ⟨h0, t, ka, ia, kc, ic, f, g, h1, h2, h3, h4, h5, h6, h7, h8⟩ := hv
  exact jc_cnt0 hl (jc_cntL hl F _ a t ka ia ic (fsz F) 0 0 (d + 4) i.1 i.2.1 1 f g h0 h2 h1.2 h5 h6 h8 (by omega) (by omega) (by omega))
theorem jc_coder {β : Bool} {d : Nat} {h : jx_H} {κ : mS} (hl : 50 ≤ h.length) {X : Nat → Prop} {t : Nat} {s : List Int} (hs : strR h X t s) (hm : s.length ≤ 1000) : jx_r (jz β) jw_M (d) 51 (0, [some (.ref t)], [], (cl_mk h κ)) (cl_mk h (κ), .inl (some (.int (Int32.ofInt (0))))) := by
  obtain ⟨uc, ua, tb, tf, u0, u1, h1, -⟩ := strR_q (β := β) (κ := κ) hl hs
  refine jr_1 jm_51 (show jw_cd cd_51 0 = some (.getstatic 38) by decide +kernel) (cgs (v := .int (Int32.ofInt (1))) (by decide) rfl) ?_
  refine jr_1 jm_51 (show jw_cd cd_51 3 = some (.ifCond .eq 10) by decide +kernel) (mz_f (q := .eq) (a := 1) (by show ¬ (1 = 0); omega) ⟨by omega, by omega⟩ (by decide)) ?_
  refine jr_1 jm_51 (show jw_cd cd_51 6 = some (.aload_n 0) by decide +kernel) rfl ?_
  refine jr_1 jm_51 (show jw_cd cd_51 7 = some (.getfield 15) by decide +kernel) (cgf uc (show jw_fld 15 15 9 = some 1 by decide +kernel) u1) ?_
  refine jr_1 jm_51 (show jw_cd cd_51 10 = some (.goto 4) by decide +kernel) (ju_go (t := 14) (by decide)) ?_
  exact jr_v jm_51 (show jw_cd cd_51 14 = some (.ireturn) by decide +kernel) rfl
theorem jc_strlen {β : Bool} {d : Nat} {h : jx_H} {κ : mS} (hl : 50 ≤ h.length) {X : Nat → Prop} {t : Nat} {s : List Int} (hs : strR h X t s) (hm : s.length ≤ 1000) : jx_r (jz β) jw_M (d + 1) 50 (0, [some (.ref t)], [], (cl_mk h κ)) (cl_mk h (κ), .inl (some (.int (Int32.ofInt (((s.length : Nat) : Int)))))) := by
  obtain ⟨uc, ua, tb, tf, u0, u1, h1, -⟩ := strR_q (β := β) (κ := κ) hl hs
  refine jr_1 jm_50 (show jw_cd cd_50 0 = some (.aload_n 0) by decide +kernel) rfl ?_
  refine jr_1 jm_50 (show jw_cd cd_50 1 = some (.getfield 9) by decide +kernel) (cgf uc (show jw_fld 15 9 9 = some 0 by decide +kernel) u0) ?_
  refine jr_1 jm_50 (show jw_cd cd_50 4 = some (.arraylength) by decide +kernel) (cln h1 (by decide)) ?_
  refine jr_1 jm_50 (show jw_cd cd_50 5 = some (.aload_n 0) by decide +kernel) rfl ?_
  refine jr_c jm_50 (show jw_cd cd_50 6 = some (.invokevirtual 335) by decide +kernel) (ccv (n := 0) (m2 := 51) (ci := 9) (a := t) (bs := []) (r := [.int (Int32.ofInt (((s.length : Nat) : Int)))]) uc (show jw_find jw_cvT 15 335 = some (0, [(9, 51)]) by decide +kernel) (by decide) rfl rfl rfl) jm_51 ⟨Nat.le_of_ble_eq_true rfl, by decide⟩ (jc_coder hl hs hm) ?_
  refine jr_1 jm_50 (show jw_cd cd_50 9 = some (.ishr) by decide +kernel) mt_shr0 ?_
  exact jr_v jm_50 (show jw_cd cd_50 10 = some (.ireturn) by decide +kernel) rfl
theorem jc_isEmpty {β : Bool} {d : Nat} {h : jx_H} {κ : mS} (hl : 50 ≤ h.length) {X : Nat → Prop} {t : Nat} {s : List Int} (hs : strR h X t s) (hm : s.length ≤ 1000) : (s = [] → jx_r (jz β) jw_M (d) 179 (0, [some (.ref t)], [], (cl_mk h κ)) (cl_mk h (κ), .inl (some (.int (Int32.ofInt (1)))))) ∧ (¬ s = [] → jx_r (jz β) jw_M (d) 179 (0, [some (.ref t)], [], (cl_mk h κ)) (cl_mk h (κ), .inl (some (.int (Int32.ofInt (0)))))) := by
  obtain ⟨uc, ua, tb, tf, u0, u1, h1, -⟩ := strR_q (β := β) (κ := κ) hl hs
  refine ⟨fun e => ?_, fun e => ?_⟩
  · have hz : s.length = 0 := by rw [e]; rfl
    refine jr_1 jm_179 (show jw_cd cd_179 0 = some (.aload_n 0) by decide +kernel) rfl ?_
    refine jr_1 jm_179 (show jw_cd cd_179 1 = some (.getfield 9) by decide +kernel) (cgf uc (show jw_fld 15 9 9 = some 0 by decide +kernel) u0) ?_
    refine jr_1 jm_179 (show jw_cd cd_179 4 = some (.arraylength) by decide +kernel) (cln h1 (by decide)) ?_
    refine jr_1 jm_179 (show jw_cd cd_179 5 = some (.ifCond .ne 7) by decide +kernel) (mz_f (q := .ne) (a := ((s.length : Nat) : Int)) (by show ¬ (¬ (((s.length : Nat) : Int) = 0)); omega) ⟨by omega, by omega⟩ (by decide)) ?_
    refine jr_1 jm_179 (show jw_cd cd_179 8 = some (.iconst 1) by decide +kernel) rfl ?_
    refine jr_1 jm_179 (show jw_cd cd_179 9 = some (.goto 4) by decide +kernel) (ju_go (t := 13) (by decide)) ?_
    exact jr_v jm_179 (show jw_cd cd_179 13 = some (.ireturn) by decide +kernel) rfl
  · have hz : 0 < s.length := List.length_pos_iff.mpr e
    refine jr_1 jm_179 (show jw_cd cd_179 0 = some (.aload_n 0) by decide +kernel) rfl ?_
    refine jr_1 jm_179 (show jw_cd cd_179 1 = some (.getfield 9) by decide +kernel) (cgf uc (show jw_fld 15 9 9 = some 0 by decide +kernel) u0) ?_
    refine jr_1 jm_179 (show jw_cd cd_179 4 = some (.arraylength) by decide +kernel) (cln h1 (by decide)) ?_
    refine jr_1 jm_179 (show jw_cd cd_179 5 = some (.ifCond .ne 7) by decide +kernel) (mz_t (q := .ne) (a := ((s.length : Nat) : Int)) (t := 12) (by show ¬ (((s.length : Nat) : Int) = 0); omega) ⟨by omega, by omega⟩ (by decide) (by decide)) ?_
    refine jr_1 jm_179 (show jw_cd cd_179 12 = some (.iconst 0) by decide +kernel) rfl ?_
    exact jr_v jm_179 (show jw_cd cd_179 13 = some (.ireturn) by decide +kernel) rfl
theorem jc_ext {β : Bool} {d : Nat} {h : jx_H} {κ : mS} (hl : 50 ≤ h.length) {X : Nat → Prop} {a : Nat} {i : tI} {F : FT} (hv : vO h κ X a i F) (hi : iok i) : (i.1 = 4 → jx_r (jz β) jw_M (d + 2) 108 (0, [some (.ref a)], [], (cl_mk h κ)) (cl_mk h (κ), .inl (some (.int (Int32.ofInt (((i.2.2.1.length : Nat) : Int))))))) ∧ (¬ i.1 = 4 → jx_r (jz β) jw_M (d + 2) 108 (0, [some (.ref a)], [], (cl_mk h κ)) (cl_mk h (κ), .inl (some (.int (Int32.ofInt (((fsz F : Nat) : Int))))))) := by
  obtain ⟨h0, t, ka, ia, kc, ic, f, g, h1, hA, h2, -⟩ := hv
  obtain ⟨uc, ua, tb, tf, u0, u1, -⟩ := strR_q (β := β) (κ := κ) hl h2
  have hlen := hi.2.2.2.1.1
  have hk1 := hi.1
  have hk2 := hi.2.1
  refine ⟨fun e => ?_, fun e => ?_⟩
  · skip
    refine jr_1 jm_108 (show jw_cd cd_108 0 = some (.aload_n 0) by decide +kernel) rfl ?_
    refine jr_1 jm_108 (show jw_cd cd_108 1 = some (.getfield 9) by decide +kernel) (js_getf hA (jbg (by omega)) (show jw_fld 8 9 5 = some 0 by decide +kernel) rfl) ?_
    refine jr_1 jm_108 (show jw_cd cd_108 4 = some (.iconst 4) by decide +kernel) rfl ?_
    refine jr_1 jm_108 (show jw_cd cd_108 5 = some (.if_icmp .ne 13) by decide +kernel) (mb_f (q := .ne) (a := i.1) (b := 4) (by show ¬ (¬ (i.1 = 4)); omega) ⟨by omega, by omega⟩ ⟨by omega, by omega⟩ (by decide)) ?_
    refine jr_1 jm_108 (show jw_cd cd_108 8 = some (.aload_n 0) by decide +kernel) rfl ?_
    refine jr_1 jm_108 (show jw_cd cd_108 9 = some (.getfield 18) by decide +kernel) (js_getf hA (jbg (by omega)) (show jw_fld 8 18 5 = some 2 by decide +kernel) rfl) ?_
    refine jr_c jm_108 (show jw_cd cd_108 12 = some (.invokevirtual 61) by decide +kernel) (ccv (n := 0) (m2 := 50) (ci := 9) (a := t) (bs := []) (r := []) uc (show jw_find jw_cvT 8 61 = some (0, [(9, 50)]) by decide +kernel) (by decide) rfl rfl rfl) jm_50 ⟨Nat.le_of_ble_eq_true rfl, by decide⟩ (jc_strlen hl h2 (by omega)) ?_
    refine jr_1 jm_108 (show jw_cd cd_108 15 = some (.goto 7) by decide +kernel) (ju_go (t := 22) (by decide)) ?_
    exact jr_v jm_108 (show jw_cd cd_108 22 = some (.ireturn) by decide +kernel) rfl
  · skip
    refine jr_1 jm_108 (show jw_cd cd_108 0 = some (.aload_n 0) by decide +kernel) rfl ?_
    refine jr_1 jm_108 (show jw_cd cd_108 1 = some (.getfield 9) by decide +kernel) (js_getf hA (jbg (by omega)) (show jw_fld 8 9 5 = some 0 by decide +kernel) rfl) ?_
    refine jr_1 jm_108 (show jw_cd cd_108 4 = some (.iconst 4) by decide +kernel) rfl ?_
    refine jr_1 jm_108 (show jw_cd cd_108 5 = some (.if_icmp .ne 13) by decide +kernel) (mb_t (q := .ne) (a := i.1) (b := 4) (t := 18) (by show ¬ (i.1 = 4); omega) ⟨by omega, by omega⟩ ⟨by omega, by omega⟩ (by decide) (by decide)) ?_
    refine jr_1 jm_108 (show jw_cd cd_108 18 = some (.aload_n 0) by decide +kernel) rfl ?_
    refine jr_1 jm_108 (show jw_cd cd_108 19 = some (.getfield 29) by decide +kernel) (js_getf hA (jbg (by omega)) (show jw_fld 8 29 5 = some 5 by decide +kernel) rfl) ?_
    exact jr_v jm_108 (show jw_cd cd_108 22 = some (.ireturn) by decide +kernel) rfl
