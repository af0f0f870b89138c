/-! ===== the class: same (printed by program: gen121.py) ===== -/
theorem jm_173 : jw_M 173 = some (8, 6, ((Option.some Jvm.ClassFile.FieldType.boolean), false), jw_cd cd_173, fun _ _ => none) := rfl
theorem hdS_cn {x y : vT} (hx : cnV x) (hy : cnV y) : (hdS x y = true) ↔ (x.1.1 = y.1.1 ∧ x.1.2.1 = y.1.2.1 ∧ fsz x.2 = fsz y.2 ∧ x.1.2.2.1 = y.1.2.2.1) := by
  unfold hdS
  simp only [Bool.and_eq_true, Bool.or_eq_true, decide_eq_true_eq]
  constructor
  · rintro ⟨e1, e2, e3, e4⟩
    refine ⟨e1, ?_, e2, ?_⟩
    · rcases e3 with z | z
      · rw [hx.1.1 z, hy.1.1 (by rw [← e1]; exact z)]
      · exact z
    · rcases e4 with z | z
      · rw [hx.1.2.1 z, hy.1.2.1 (by rw [← e1]; exact z)]
      · exact z
  · rintro ⟨e1, e2, e3, e4⟩
    exact ⟨e1, e3, Or.inr e2, Or.inr e4⟩
theorem fdp_tl : ∀ F : FT, fdp (ftl F) ≤ fdp F
  | .leaf => Nat.le_refl _
  | .inner _ _ _ c n => Nat.le_max_right _ _
def smL (β : Bool) (F : FT) : Prop := ∀ (m D k j : Nat) (h : jx_H) (κ : mS) (X Y : Nat → Prop) (a b : Nat) (i y : tI) (F0 G Dt : FT) (t ka ia kc ic qt qka qia qkc qic : Nat) (f g qf qg : Nat → Value) (t5 : Option Value), 50 ≤ h.length → fdp F ≤ m → m + 3 ≤ D → k + fdp F ≤ 8 → (cl_mk h κ)[a]? = some (.inr (5, [.int (Int32.ofInt (i.1)), .int (Int32.ofInt (i.2.1)), .ref t, .ref ka, .ref ia, .int (Int32.ofInt (((fsz F0 : Nat) : Int)))])) → (cl_mk h κ)[ka]? = some (.inl (4, kc, g)) → (cl_mk h κ)[ia]? = some (.inl (4, ic, f)) → (cl_mk h κ)[qia]? = some (.inl (4, qic, qf)) → (cl_mk h κ)[b]? = some (.inr (5, [.int (Int32.ofInt (y.1)), .int (Int32.ofInt (y.2.1)), .ref qt, .ref qka, .ref qia, .int (Int32.ofInt (((fsz G : Nat) : Int)))])) → (a < 4000000000 ∧ ka < 4000000000 ∧ ia < 4000000000 ∧ b < 4000000000 ∧ qia < 4000000000) → (fsz F0 ≤ ic ∧ ic ≤ 1000000 ∧ fsz F0 ≤ qic ∧ qic ≤ 1000000) → (i.1 = 6 → fsz F0 ≤ kc ∧ kc ≤ 1000000) → vO h κ Y b y G → (i.1 = 5 ∨ i.1 = 6) → vF h X F (decide (i.1 = 6)) f g j → j + fsz F = fsz F0 → (¬ i.1 = 6 → vF h Y Dt false qf qg j ∧ fsz Dt = fsz F) → fwf F → fwf G → fwf Dt → cnF F → cnF G → cnF Dt → y.1 = i.1 → fdp G ≤ 8 ∧ fdp Dt ≤ 8 → jx_r (jz β) jw_M (D) 173 (56, [some (.ref a), some (.ref b), some (.int (Int32.ofInt (((k : Nat) : Int)))), some (.int (Int32.ofInt (1))), some (.int (Int32.ofInt (((j : Nat) : Int)))), t5], [], (cl_mk h κ)) (cl_mk h (κ), .inl (some (.int (Int32.ofInt (if sameF (decide (i.1 = 6)) F G Dt = true then 1 else 0)))))
theorem jc_sm0 {β : Bool} {d : Nat} {h : jx_H} {κ : mS} (hl : 50 ≤ h.length) {a b k j t ka ia : Nat} {i : tI} {F : FT} {t5 : Option Value} (hA : (cl_mk h κ)[a]? = some (.inr (5, [.int (Int32.ofInt (i.1)), .int (Int32.ofInt (i.2.1)), .ref t, .ref ka, .ref ia, .int (Int32.ofInt (((fsz F : Nat) : Int)))]))) (ha : a < 4000000000) (hb : j < 2000000 ∧ fsz F ≤ 1000000) : jx_r (jz β) jw_M (d) 173 (56, [some (.ref a), some (.ref b), some (.int (Int32.ofInt (((k : Nat) : Int)))), some (.int (Int32.ofInt (0))), some (.int (Int32.ofInt (((j : Nat) : Int)))), t5], [], (cl_mk h κ)) (cl_mk h (κ), .inl (some (.int (Int32.ofInt (0))))) := by
  by_cases hj : fsz F ≤ j
  · refine jr_1 jm_173 (show jw_cd cd_173 56 = some (.iload 4) by decide +kernel) rfl ?_
    refine jr_1 jm_173 (show jw_cd cd_173 58 = some (.aload_n 0) by decide +kernel) rfl ?_
    refine jr_1 jm_173 (show jw_cd cd_173 59 = some (.getfield 29) by decide +kernel) (js_getf hA (jbg (by omega)) (show jw_fld 8 29 5 = some 5 by decide +kernel) rfl) ?_
    refine jr_1 jm_173 (show jw_cd cd_173 62 = some (.if_icmp .ge 78) by decide +kernel) (mb_t (q := .ge) (a := ((j : Nat) : Int)) (b := ((fsz F : Nat) : Int)) (t := 140) (by show ((fsz F : Nat) : Int) ≤ ((j : Nat) : Int); omega) ⟨by omega, by omega⟩ ⟨by omega, by omega⟩ (by decide) (by decide)) ?_
    refine jr_1 jm_173 (show jw_cd cd_173 140 = some (.iload_n 3) by decide +kernel) rfl ?_
    exact jr_v jm_173 (show jw_cd cd_173 141 = some (.ireturn) by decide +kernel) rfl
  · refine jr_1 jm_173 (show jw_cd cd_173 56 = some (.iload 4) by decide +kernel) rfl ?_
    refine jr_1 jm_173 (show jw_cd cd_173 58 = some (.aload_n 0) by decide +kernel) rfl ?_
    refine jr_1 jm_173 (show jw_cd cd_173 59 = some (.getfield 29) by decide +kernel) (js_getf hA (jbg (by omega)) (show jw_fld 8 29 5 = some 5 by decide +kernel) rfl) ?_
    refine jr_1 jm_173 (show jw_cd cd_173 62 = some (.if_icmp .ge 78) by decide +kernel) (mb_f (q := .ge) (a := ((j : Nat) : Int)) (b := ((fsz F : Nat) : Int)) (by show ¬ (((fsz F : Nat) : Int) ≤ ((j : Nat) : Int)); omega) ⟨by omega, by omega⟩ ⟨by omega, by omega⟩ (by decide)) ?_
    refine jr_1 jm_173 (show jw_cd cd_173 65 = some (.iload_n 3) by decide +kernel) rfl ?_
    refine jr_1 jm_173 (show jw_cd cd_173 66 = some (.ifCond .eq 74) by decide +kernel) (mz_t (q := .eq) (a := 0) (t := 140) (by show 0 = 0; omega) ⟨by omega, by omega⟩ (by decide) (by decide)) ?_
    refine jr_1 jm_173 (show jw_cd cd_173 140 = some (.iload_n 3) by decide +kernel) rfl ?_
    exact jr_v jm_173 (show jw_cd cd_173 141 = some (.ireturn) by decide +kernel) rfl
theorem jc_smV {β : Bool} {d : Nat} {F : FT} (hP : smL β F) {h : jx_H} {κ : mS} (hl : 50 ≤ h.length) {X Y : Nat → Prop} {a b m k : Nat} {i y : tI} {G : FT} (hv : vO h κ X a i F) (hw : vO h κ Y b y G) (hi : iok i) (hy : iok y) (hwF : fwf F) (hwG : fwf G) (hcF : cnV (i, F)) (hcG : cnV (y, G)) (hm : fdp F ≤ m) (hd : m + 3 ≤ d) (hk8 : k + fdp F ≤ 8) (hG8 : fdp G ≤ 8) : jx_r (jz β) jw_M (d) 173 (0, [some (.ref a), some (.ref b), some (.int (Int32.ofInt (((k : Nat) : Int)))), none, none, none], [], (cl_mk h κ)) (cl_mk h (κ), .inl (some (.int (Int32.ofInt (if pS ((i, F), (y, G)) = true then 1 else 0))))) := by
  obtain ⟨D, rfl⟩ : ∃ D, d = D + 2 := ⟨d - 2, by omega⟩
  obtain ⟨l0, t, ka, ia, kc, ic, f, g, ⟨l1, l2⟩, hA, hS, hK, hI, ⟨s1, s2⟩, or, hF⟩ := id hv
  obtain ⟨ql0, qt, qka, qia, qkc, qic, qf, qg, ⟨ql1, ql2⟩, hqA, hqS, hqK, hqI, ⟨qs1, qs2⟩, qor, hqF⟩ := id hw
  have i1 := hi.1
  have i2 := hi.2.1
  have y1 := hy.1
  have y2 := hy.2.1
  have hn1 := hi.2.2.1
  have hn2 := hy.2.2.1
  have hn11 := hn1.1
  have hn12 := hn1.2
  have hn21 := hn2.1
  have hn22 := hn2.2
  have hiff := hdS_cn hcF hcG
  have hpS : pS ((i, F), (y, G)) = (hdS (i, F) (y, G) && sameF (decide (i.1 = 6)) F G G) := rfl
  have fl : ∀ {z : Bool}, ¬ hdS (i, F) (y, G) = true → (if pS ((i, F), (y, G)) = true then (1 : Int) else 0) = 0 := fun z => by
    rw [hpS, Bool.eq_false_iff.mpr z]
    rfl
  by_cases c1 : i.1 = y.1
  rotate_left
  · rw [fl (z := true) (fun z => c1 (hiff.mp z).1)]
    refine jr_1 jm_173 (show jw_cd cd_173 0 = some (.aload_n 0) by decide +kernel) rfl ?_
    refine jr_1 jm_173 (show jw_cd cd_173 1 = some (.getfield 9) by decide +kernel) (js_getf hA (jbg (by omega)) (show jw_fld 8 9 5 = some 0 by decide +kernel) rfl) ?_
    refine jr_1 jm_173 (show jw_cd cd_173 4 = some (.aload_n 1) by decide +kernel) rfl ?_
    refine jr_1 jm_173 (show jw_cd cd_173 5 = some (.getfield 9) by decide +kernel) (js_getf hqA (jbg (by omega)) (show jw_fld 8 9 5 = some 0 by decide +kernel) rfl) ?_
    refine jr_1 jm_173 (show jw_cd cd_173 8 = some (.if_icmp .ne 31) by decide +kernel) (mb_t (q := .ne) (a := i.1) (b := y.1) (t := 39) (by show ¬ (i.1 = y.1); omega) ⟨by omega, by omega⟩ ⟨by omega, by omega⟩ (by decide) (by decide)) ?_
    refine jr_1 jm_173 (show jw_cd cd_173 39 = some (.iconst 0) by decide +kernel) rfl ?_
    exact jr_v jm_173 (show jw_cd cd_173 40 = some (.ireturn) by decide +kernel) rfl
  by_cases c2 : i.2.1 = y.2.1
  rotate_left
  · rw [fl (z := true) (fun z => c2 (hiff.mp z).2.1)]
    refine jr_1 jm_173 (show jw_cd cd_173 0 = some (.aload_n 0) by decide +kernel) rfl ?_
    refine jr_1 jm_173 (show jw_cd cd_173 1 = some (.getfield 9) by decide +kernel) (js_getf hA (jbg (by omega)) (show jw_fld 8 9 5 = some 0 by decide +kernel) rfl) ?_
    refine jr_1 jm_173 (show jw_cd cd_173 4 = some (.aload_n 1) by decide +kernel) rfl ?_
    refine jr_1 jm_173 (show jw_cd cd_173 5 = some (.getfield 9) by decide +kernel) (js_getf hqA (jbg (by omega)) (show jw_fld 8 9 5 = some 0 by decide +kernel) rfl) ?_
    refine jr_1 jm_173 (show jw_cd cd_173 8 = some (.if_icmp .ne 31) by decide +kernel) (mb_f (q := .ne) (a := i.1) (b := y.1) (by show ¬ (¬ (i.1 = y.1)); omega) ⟨by omega, by omega⟩ ⟨by omega, by omega⟩ (by decide)) ?_
    refine jr_1 jm_173 (show jw_cd cd_173 11 = some (.aload_n 0) by decide +kernel) rfl ?_
    refine jr_1 jm_173 (show jw_cd cd_173 12 = some (.getfield 15) by decide +kernel) (js_getf hA (jbg (by omega)) (show jw_fld 8 15 5 = some 1 by decide +kernel) rfl) ?_
    refine jr_1 jm_173 (show jw_cd cd_173 15 = some (.aload_n 1) by decide +kernel) rfl ?_
    refine jr_1 jm_173 (show jw_cd cd_173 16 = some (.getfield 15) by decide +kernel) (js_getf hqA (jbg (by omega)) (show jw_fld 8 15 5 = some 1 by decide +kernel) rfl) ?_
    refine jr_1 jm_173 (show jw_cd cd_173 19 = some (.if_icmp .ne 20) by decide +kernel) (mb_t (q := .ne) (a := i.2.1) (b := y.2.1) (t := 39) (by show ¬ (i.2.1 = y.2.1); omega) hn1 hn2 (by decide) (by decide)) ?_
    refine jr_1 jm_173 (show jw_cd cd_173 39 = some (.iconst 0) by decide +kernel) rfl ?_
    exact jr_v jm_173 (show jw_cd cd_173 40 = some (.ireturn) by decide +kernel) rfl
  by_cases c3 : fsz F = fsz G
  rotate_left
  · rw [fl (z := true) (fun z => c3 (hiff.mp z).2.2.1)]
    refine jr_1 jm_173 (show jw_cd cd_173 0 = some (.aload_n 0) by decide +kernel) rfl ?_
    refine jr_1 jm_173 (show jw_cd cd_173 1 = some (.getfield 9) by decide +kernel) (js_getf hA (jbg (by omega)) (show jw_fld 8 9 5 = some 0 by decide +kernel) rfl) ?_
    refine jr_1 jm_173 (show jw_cd cd_173 4 = some (.aload_n 1) by decide +kernel) rfl ?_
    refine jr_1 jm_173 (show jw_cd cd_173 5 = some (.getfield 9) by decide +kernel) (js_getf hqA (jbg (by omega)) (show jw_fld 8 9 5 = some 0 by decide +kernel) rfl) ?_
    refine jr_1 jm_173 (show jw_cd cd_173 8 = some (.if_icmp .ne 31) by decide +kernel) (mb_f (q := .ne) (a := i.1) (b := y.1) (by show ¬ (¬ (i.1 = y.1)); omega) ⟨by omega, by omega⟩ ⟨by omega, by omega⟩ (by decide)) ?_
    refine jr_1 jm_173 (show jw_cd cd_173 11 = some (.aload_n 0) by decide +kernel) rfl ?_
    refine jr_1 jm_173 (show jw_cd cd_173 12 = some (.getfield 15) by decide +kernel) (js_getf hA (jbg (by omega)) (show jw_fld 8 15 5 = some 1 by decide +kernel) rfl) ?_
    refine jr_1 jm_173 (show jw_cd cd_173 15 = some (.aload_n 1) by decide +kernel) rfl ?_
    refine jr_1 jm_173 (show jw_cd cd_173 16 = some (.getfield 15) by decide +kernel) (js_getf hqA (jbg (by omega)) (show jw_fld 8 15 5 = some 1 by decide +kernel) rfl) ?_
    refine jr_1 jm_173 (show jw_cd cd_173 19 = some (.if_icmp .ne 20) by decide +kernel) (mb_f (q := .ne) (a := i.2.1) (b := y.2.1) (by show ¬ (¬ (i.2.1 = y.2.1)); omega) hn1 hn2 (by decide)) ?_
    refine jr_1 jm_173 (show jw_cd cd_173 22 = some (.aload_n 0) by decide +kernel) rfl ?_
    refine jr_1 jm_173 (show jw_cd cd_173 23 = some (.getfield 29) by decide +kernel) (js_getf hA (jbg (by omega)) (show jw_fld 8 29 5 = some 5 by decide +kernel) rfl) ?_
    refine jr_1 jm_173 (show jw_cd cd_173 26 = some (.aload_n 1) by decide +kernel) rfl ?_
    refine jr_1 jm_173 (show jw_cd cd_173 27 = some (.getfield 29) by decide +kernel) (js_getf hqA (jbg (by omega)) (show jw_fld 8 29 5 = some 5 by decide +kernel) rfl) ?_
    refine jr_1 jm_173 (show jw_cd cd_173 30 = some (.if_icmp .ne 9) by decide +kernel) (mb_t (q := .ne) (a := ((fsz F : Nat) : Int)) (b := ((fsz G : Nat) : Int)) (t := 39) (by show ¬ (((fsz F : Nat) : Int) = ((fsz G : Nat) : Int)); omega) ⟨by omega, by omega⟩ ⟨by omega, by omega⟩ (by decide) (by decide)) ?_
    refine jr_1 jm_173 (show jw_cd cd_173 39 = some (.iconst 0) by decide +kernel) rfl ?_
    exact jr_v jm_173 (show jw_cd cd_173 40 = some (.ireturn) by decide +kernel) rfl
  have wi := hi.2.2.2.1
  have wy := hy.2.2.2.1
  obtain ⟨uc, ua, tb, uf, u0, u1, -⟩ := strR_q (β := β) (κ := κ) hl hS
  have hq := jc_eq (β := β) (d := D) (κ := κ) hl hS hqS (fun c hc => by have := wi.2 c hc; omega) (fun c hc => by have := wy.2 c hc; omega) (by have := wi.1; omega) (by have := wy.1; omega)
  by_cases he : i.2.2.1 = y.2.2.1
  rotate_left
  · rw [fl (z := true) (fun z => he (hiff.mp z).2.2.2)]
    refine jr_1 jm_173 (show jw_cd cd_173 0 = some (.aload_n 0) by decide +kernel) rfl ?_
    refine jr_1 jm_173 (show jw_cd cd_173 1 = some (.getfield 9) by decide +kernel) (js_getf hA (jbg (by omega)) (show jw_fld 8 9 5 = some 0 by decide +kernel) rfl) ?_
    refine jr_1 jm_173 (show jw_cd cd_173 4 = some (.aload_n 1) by decide +kernel) rfl ?_
    refine jr_1 jm_173 (show jw_cd cd_173 5 = some (.getfield 9) by decide +kernel) (js_getf hqA (jbg (by omega)) (show jw_fld 8 9 5 = some 0 by decide +kernel) rfl) ?_
    refine jr_1 jm_173 (show jw_cd cd_173 8 = some (.if_icmp .ne 31) by decide +kernel) (mb_f (q := .ne) (a := i.1) (b := y.1) (by show ¬ (¬ (i.1 = y.1)); omega) ⟨by omega, by omega⟩ ⟨by omega, by omega⟩ (by decide)) ?_
    refine jr_1 jm_173 (show jw_cd cd_173 11 = some (.aload_n 0) by decide +kernel) rfl ?_
    refine jr_1 jm_173 (show jw_cd cd_173 12 = some (.getfield 15) by decide +kernel) (js_getf hA (jbg (by omega)) (show jw_fld 8 15 5 = some 1 by decide +kernel) rfl) ?_
    refine jr_1 jm_173 (show jw_cd cd_173 15 = some (.aload_n 1) by decide +kernel) rfl ?_
    refine jr_1 jm_173 (show jw_cd cd_173 16 = some (.getfield 15) by decide +kernel) (js_getf hqA (jbg (by omega)) (show jw_fld 8 15 5 = some 1 by decide +kernel) rfl) ?_
    refine jr_1 jm_173 (show jw_cd cd_173 19 = some (.if_icmp .ne 20) by decide +kernel) (mb_f (q := .ne) (a := i.2.1) (b := y.2.1) (by show ¬ (¬ (i.2.1 = y.2.1)); omega) hn1 hn2 (by decide)) ?_
    refine jr_1 jm_173 (show jw_cd cd_173 22 = some (.aload_n 0) by decide +kernel) rfl ?_
    refine jr_1 jm_173 (show jw_cd cd_173 23 = some (.getfield 29) by decide +kernel) (js_getf hA (jbg (by omega)) (show jw_fld 8 29 5 = some 5 by decide +kernel) rfl) ?_
    refine jr_1 jm_173 (show jw_cd cd_173 26 = some (.aload_n 1) by decide +kernel) rfl ?_
    refine jr_1 jm_173 (show jw_cd cd_173 27 = some (.getfield 29) by decide +kernel) (js_getf hqA (jbg (by omega)) (show jw_fld 8 29 5 = some 5 by decide +kernel) rfl) ?_
    refine jr_1 jm_173 (show jw_cd cd_173 30 = some (.if_icmp .ne 9) by decide +kernel) (mb_f (q := .ne) (a := ((fsz F : Nat) : Int)) (b := ((fsz G : Nat) : Int)) (by show ¬ (¬ (((fsz F : Nat) : Int) = ((fsz G : Nat) : Int))); omega) ⟨by omega, by omega⟩ ⟨by omega, by omega⟩ (by decide)) ?_
    refine jr_1 jm_173 (show jw_cd cd_173 33 = some (.iload_n 2) by decide +kernel) rfl ?_
    refine jr_1 jm_173 (show jw_cd cd_173 34 = some (.bipush 8) by decide +kernel) (mt_bi (by decide)) ?_
    refine jr_1 jm_173 (show jw_cd cd_173 36 = some (.if_icmp .le 5) by decide +kernel) (mb_t (q := .le) (a := ((k : Nat) : Int)) (b := 8) (t := 41) (by show ((k : Nat) : Int) ≤ 8; omega) ⟨by omega, by omega⟩ ⟨by omega, by omega⟩ (by decide) (by decide)) ?_
    refine jr_1 jm_173 (show jw_cd cd_173 41 = some (.aload_n 0) by decide +kernel) rfl ?_
    refine jr_1 jm_173 (show jw_cd cd_173 42 = some (.getfield 18) by decide +kernel) (js_getf hA (jbg (by omega)) (show jw_fld 8 18 5 = some 2 by decide +kernel) rfl) ?_
    refine jr_1 jm_173 (show jw_cd cd_173 45 = some (.aload_n 1) by decide +kernel) rfl ?_
    refine jr_1 jm_173 (show jw_cd cd_173 46 = some (.getfield 18) by decide +kernel) (js_getf hqA (jbg (by omega)) (show jw_fld 8 18 5 = some 2 by decide +kernel) rfl) ?_
    refine jr_c jm_173 (show jw_cd cd_173 49 = some (.invokevirtual 45) by decide +kernel) (ccv (n := 1) (m2 := 101) (ci := 9) (a := t) (bs := [.ref qt]) (r := []) uc (show jw_find jw_cvT 8 45 = some (1, [(9, 101)]) by decide +kernel) (by decide) rfl rfl rfl) jm_101 ⟨Nat.le_of_ble_eq_true rfl, by decide⟩ (hq.2 he) ?_
    refine jr_1 jm_173 (F2 := (53, [some (.ref a), some (.ref b), some (.int (Int32.ofInt (((k : Nat) : Int)))), some (.int (Int32.ofInt (0))), none, none], [], (cl_mk h κ))) (show jw_cd cd_173 52 = some (.istore_n 3) by decide +kernel) rfl ?_
    refine jr_1 jm_173 (show jw_cd cd_173 53 = some (.iconst 0) by decide +kernel) rfl ?_
    refine jr_1 jm_173 (F2 := (56, [some (.ref a), some (.ref b), some (.int (Int32.ofInt (((k : Nat) : Int)))), some (.int (Int32.ofInt (0))), some (.int (Int32.ofInt (0))), none], [], (cl_mk h κ))) (show jw_cd cd_173 54 = some (.istore 4) by decide +kernel) rfl ?_
    exact jc_sm0 (j := 0) hl hA l0 ⟨by decide, by omega⟩
  · have hh : hdS (i, F) (y, G) = true := hiff.mpr ⟨c1, c2, c3, he⟩
    rw [hpS, hh, Bool.true_and]
    by_cases h5 : i.1 < 5
    · have eF : F = .leaf := hcF.1.2.2 h5
      have e1 : sameF (decide (i.1 = 6)) F G G = true := by rw [eF]; rfl
      rw [e1, if_pos rfl]
      refine jr_1 jm_173 (show jw_cd cd_173 0 = some (.aload_n 0) by decide +kernel) rfl ?_
      refine jr_1 jm_173 (show jw_cd cd_173 1 = some (.getfield 9) by decide +kernel) (js_getf hA (jbg (by omega)) (show jw_fld 8 9 5 = some 0 by decide +kernel) rfl) ?_
      refine jr_1 jm_173 (show jw_cd cd_173 4 = some (.aload_n 1) by decide +kernel) rfl ?_
      refine jr_1 jm_173 (show jw_cd cd_173 5 = some (.getfield 9) by decide +kernel) (js_getf hqA (jbg (by omega)) (show jw_fld 8 9 5 = some 0 by decide +kernel) rfl) ?_
      refine jr_1 jm_173 (show jw_cd cd_173 8 = some (.if_icmp .ne 31) by decide +kernel) (mb_f (q := .ne) (a := i.1) (b := y.1) (by show ¬ (¬ (i.1 = y.1)); omega) ⟨by omega, by omega⟩ ⟨by omega, by omega⟩ (by decide)) ?_
      refine jr_1 jm_173 (show jw_cd cd_173 11 = some (.aload_n 0) by decide +kernel) rfl ?_
      refine jr_1 jm_173 (show jw_cd cd_173 12 = some (.getfield 15) by decide +kernel) (js_getf hA (jbg (by omega)) (show jw_fld 8 15 5 = some 1 by decide +kernel) rfl) ?_
      refine jr_1 jm_173 (show jw_cd cd_173 15 = some (.aload_n 1) by decide +kernel) rfl ?_
      refine jr_1 jm_173 (show jw_cd cd_173 16 = some (.getfield 15) by decide +kernel) (js_getf hqA (jbg (by omega)) (show jw_fld 8 15 5 = some 1 by decide +kernel) rfl) ?_
      refine jr_1 jm_173 (show jw_cd cd_173 19 = some (.if_icmp .ne 20) by decide +kernel) (mb_f (q := .ne) (a := i.2.1) (b := y.2.1) (by show ¬ (¬ (i.2.1 = y.2.1)); omega) hn1 hn2 (by decide)) ?_
      refine jr_1 jm_173 (show jw_cd cd_173 22 = some (.aload_n 0) by decide +kernel) rfl ?_
      refine jr_1 jm_173 (show jw_cd cd_173 23 = some (.getfield 29) by decide +kernel) (js_getf hA (jbg (by omega)) (show jw_fld 8 29 5 = some 5 by decide +kernel) rfl) ?_
      refine jr_1 jm_173 (show jw_cd cd_173 26 = some (.aload_n 1) by decide +kernel) rfl ?_
      refine jr_1 jm_173 (show jw_cd cd_173 27 = some (.getfield 29) by decide +kernel) (js_getf hqA (jbg (by omega)) (show jw_fld 8 29 5 = some 5 by decide +kernel) rfl) ?_
      refine jr_1 jm_173 (show jw_cd cd_173 30 = some (.if_icmp .ne 9) by decide +kernel) (mb_f (q := .ne) (a := ((fsz F : Nat) : Int)) (b := ((fsz G : Nat) : Int)) (by show ¬ (¬ (((fsz F : Nat) : Int) = ((fsz G : Nat) : Int))); omega) ⟨by omega, by omega⟩ ⟨by omega, by omega⟩ (by decide)) ?_
      refine jr_1 jm_173 (show jw_cd cd_173 33 = some (.iload_n 2) by decide +kernel) rfl ?_
      refine jr_1 jm_173 (show jw_cd cd_173 34 = some (.bipush 8) by decide +kernel) (mt_bi (by decide)) ?_
      refine jr_1 jm_173 (show jw_cd cd_173 36 = some (.if_icmp .le 5) by decide +kernel) (mb_t (q := .le) (a := ((k : Nat) : Int)) (b := 8) (t := 41) (by show ((k : Nat) : Int) ≤ 8; omega) ⟨by omega, by omega⟩ ⟨by omega, by omega⟩ (by decide) (by decide)) ?_
      refine jr_1 jm_173 (show jw_cd cd_173 41 = some (.aload_n 0) by decide +kernel) rfl ?_
      refine jr_1 jm_173 (show jw_cd cd_173 42 = some (.getfield 18) by decide +kernel) (js_getf hA (jbg (by omega)) (show jw_fld 8 18 5 = some 2 by decide +kernel) rfl) ?_
      refine jr_1 jm_173 (show jw_cd cd_173 45 = some (.aload_n 1) by decide +kernel) rfl ?_
      refine jr_1 jm_173 (show jw_cd cd_173 46 = some (.getfield 18) by decide +kernel) (js_getf hqA (jbg (by omega)) (show jw_fld 8 18 5 = some 2 by decide +kernel) rfl) ?_
      refine jr_c jm_173 (show jw_cd cd_173 49 = some (.invokevirtual 45) by decide +kernel) (ccv (n := 1) (m2 := 101) (ci := 9) (a := t) (bs := [.ref qt]) (r := []) uc (show jw_find jw_cvT 8 45 = some (1, [(9, 101)]) by decide +kernel) (by decide) rfl rfl rfl) jm_101 ⟨Nat.le_of_ble_eq_true rfl, by decide⟩ (hq.1 he) ?_
      refine jr_1 jm_173 (F2 := (53, [some (.ref a), some (.ref b), some (.int (Int32.ofInt (((k : Nat) : Int)))), some (.int (Int32.ofInt (1))), none, none], [], (cl_mk h κ))) (show jw_cd cd_173 52 = some (.istore_n 3) by decide +kernel) rfl ?_
      refine jr_1 jm_173 (show jw_cd cd_173 53 = some (.iconst 0) by decide +kernel) rfl ?_
      refine jr_1 jm_173 (F2 := (56, [some (.ref a), some (.ref b), some (.int (Int32.ofInt (((k : Nat) : Int)))), some (.int (Int32.ofInt (1))), some (.int (Int32.ofInt (0))), none], [], (cl_mk h κ))) (show jw_cd cd_173 54 = some (.istore 4) by decide +kernel) rfl ?_
      obtain ⟨j, ej⟩ : ∃ j : Nat, j = 0 := ⟨_, rfl⟩
      have hz0 : fsz F = 0 := by rw [eF]; rfl
      show jx_r (jz β) jw_M (D + 2) 173 (56, [some (.ref a), some (.ref b), some (.int (Int32.ofInt (((k : Nat) : Int)))), some (.int (Int32.ofInt (1))), some (.int (Int32.ofInt (((0 : Nat) : Int)))), none], [], (cl_mk h κ)) (cl_mk h (κ), .inl (some (.int (Int32.ofInt (1)))))
      rw [← ej]
      refine jr_1 jm_173 (show jw_cd cd_173 56 = some (.iload 4) by decide +kernel) rfl ?_
      refine jr_1 jm_173 (show jw_cd cd_173 58 = some (.aload_n 0) by decide +kernel) rfl ?_
      refine jr_1 jm_173 (show jw_cd cd_173 59 = some (.getfield 29) by decide +kernel) (js_getf hA (jbg (by omega)) (show jw_fld 8 29 5 = some 5 by decide +kernel) rfl) ?_
      refine jr_1 jm_173 (show jw_cd cd_173 62 = some (.if_icmp .ge 78) by decide +kernel) (mb_t (q := .ge) (a := ((j : Nat) : Int)) (b := ((fsz F : Nat) : Int)) (t := 140) (by show ((fsz F : Nat) : Int) ≤ ((j : Nat) : Int); omega) ⟨by omega, by omega⟩ ⟨by omega, by omega⟩ (by decide) (by decide)) ?_
      refine jr_1 jm_173 (show jw_cd cd_173 140 = some (.iload_n 3) by decide +kernel) rfl ?_
      exact jr_v jm_173 (show jw_cd cd_173 141 = some (.ireturn) by decide +kernel) rfl
    · have hr := hP m (D + 2) k 0 h κ X Y a b i y F G G t ka ia kc ic qt qka qia qkc qic f g qf qg none hl hm hd hk8 hA hK hI hqI hqA ⟨l0, l1, l2, ql0, ql2⟩ ⟨s1, s2, by omega, qs2⟩ (fun z => by omega) hw (by omega) hF (by omega) (fun z => ⟨by rw [decide_eq_false (by omega)] at hqF; exact hqF, c3.symm⟩) hwF hwG hwG hcF.2 hcG.2 hcG.2 c1.symm ⟨hG8, hG8⟩
      refine jr_1 jm_173 (show jw_cd cd_173 0 = some (.aload_n 0) by decide +kernel) rfl ?_
      refine jr_1 jm_173 (show jw_cd cd_173 1 = some (.getfield 9) by decide +kernel) (js_getf hA (jbg (by omega)) (show jw_fld 8 9 5 = some 0 by decide +kernel) rfl) ?_
      refine jr_1 jm_173 (show jw_cd cd_173 4 = some (.aload_n 1) by decide +kernel) rfl ?_
      refine jr_1 jm_173 (show jw_cd cd_173 5 = some (.getfield 9) by decide +kernel) (js_getf hqA (jbg (by omega)) (show jw_fld 8 9 5 = some 0 by decide +kernel) rfl) ?_
      refine jr_1 jm_173 (show jw_cd cd_173 8 = some (.if_icmp .ne 31) by decide +kernel) (mb_f (q := .ne) (a := i.1) (b := y.1) (by show ¬ (¬ (i.1 = y.1)); omega) ⟨by omega, by omega⟩ ⟨by omega, by omega⟩ (by decide)) ?_
      refine jr_1 jm_173 (show jw_cd cd_173 11 = some (.aload_n 0) by decide +kernel) rfl ?_
      refine jr_1 jm_173 (show jw_cd cd_173 12 = some (.getfield 15) by decide +kernel) (js_getf hA (jbg (by omega)) (show jw_fld 8 15 5 = some 1 by decide +kernel) rfl) ?_
      refine jr_1 jm_173 (show jw_cd cd_173 15 = some (.aload_n 1) by decide +kernel) rfl ?_
      refine jr_1 jm_173 (show jw_cd cd_173 16 = some (.getfield 15) by decide +kernel) (js_getf hqA (jbg (by omega)) (show jw_fld 8 15 5 = some 1 by decide +kernel) rfl) ?_
      refine jr_1 jm_173 (show jw_cd cd_173 19 = some (.if_icmp .ne 20) by decide +kernel) (mb_f (q := .ne) (a := i.2.1) (b := y.2.1) (by show ¬ (¬ (i.2.1 = y.2.1)); omega) hn1 hn2 (by decide)) ?_
      refine jr_1 jm_173 (show jw_cd cd_173 22 = some (.aload_n 0) by decide +kernel) rfl ?_
      refine jr_1 jm_173 (show jw_cd cd_173 23 = some (.getfield 29) by decide +kernel) (js_getf hA (jbg (by omega)) (show jw_fld 8 29 5 = some 5 by decide +kernel) rfl) ?_
      refine jr_1 jm_173 (show jw_cd cd_173 26 = some (.aload_n 1) by decide +kernel) rfl ?_
      refine jr_1 jm_173 (show jw_cd cd_173 27 = some (.getfield 29) by decide +kernel) (js_getf hqA (jbg (by omega)) (show jw_fld 8 29 5 = some 5 by decide +kernel) rfl) ?_
      refine jr_1 jm_173 (show jw_cd cd_173 30 = some (.if_icmp .ne 9) by decide +kernel) (mb_f (q := .ne) (a := ((fsz F : Nat) : Int)) (b := ((fsz G : Nat) : Int)) (by show ¬ (¬ (((fsz F : Nat) : Int) = ((fsz G : Nat) : Int))); omega) ⟨by omega, by omega⟩ ⟨by omega, by omega⟩ (by decide)) ?_
      refine jr_1 jm_173 (show jw_cd cd_173 33 = some (.iload_n 2) by decide +kernel) rfl ?_
      refine jr_1 jm_173 (show jw_cd cd_173 34 = some (.bipush 8) by decide +kernel) (mt_bi (by decide)) ?_
      refine jr_1 jm_173 (show jw_cd cd_173 36 = some (.if_icmp .le 5) by decide +kernel) (mb_t (q := .le) (a := ((k : Nat) : Int)) (b := 8) (t := 41) (by show ((k : Nat) : Int) ≤ 8; omega) ⟨by omega, by omega⟩ ⟨by omega, by omega⟩ (by decide) (by decide)) ?_
      refine jr_1 jm_173 (show jw_cd cd_173 41 = some (.aload_n 0) by decide +kernel) rfl ?_
      refine jr_1 jm_173 (show jw_cd cd_173 42 = some (.getfield 18) by decide +kernel) (js_getf hA (jbg (by omega)) (show jw_fld 8 18 5 = some 2 by decide +kernel) rfl) ?_
      refine jr_1 jm_173 (show jw_cd cd_173 45 = some (.aload_n 1) by decide +kernel) rfl ?_
      refine jr_1 jm_173 (show jw_cd cd_173 46 = some (.getfield 18) by decide +kernel) (js_getf hqA (jbg (by omega)) (show jw_fld 8 18 5 = some 2 by decide +kernel) rfl) ?_
      refine jr_c jm_173 (show jw_cd cd_173 49 = some (.invokevirtual 45) by decide +kernel) (ccv (n := 1) (m2 := 101) (ci := 9) (a := t) (bs := [.ref qt]) (r := []) uc (show jw_find jw_cvT 8 45 = some (1, [(9, 101)]) by decide +kernel) (by decide) rfl rfl rfl) jm_101 ⟨Nat.le_of_ble_eq_true rfl, by decide⟩ (hq.1 he) ?_
      refine jr_1 jm_173 (F2 := (53, [some (.ref a), some (.ref b), some (.int (Int32.ofInt (((k : Nat) : Int)))), some (.int (Int32.ofInt (1))), none, none], [], (cl_mk h κ))) (show jw_cd cd_173 52 = some (.istore_n 3) by decide +kernel) rfl ?_
      refine jr_1 jm_173 (show jw_cd cd_173 53 = some (.iconst 0) by decide +kernel) rfl ?_
      refine jr_1 jm_173 (F2 := (56, [some (.ref a), some (.ref b), some (.int (Int32.ofInt (((k : Nat) : Int)))), some (.int (Int32.ofInt (1))), some (.int (Int32.ofInt (0))), none], [], (cl_mk h κ))) (show jw_cd cd_173 54 = some (.istore 4) by decide +kernel) rfl ?_
      exact hr
theorem jc_smI {β : Bool} : ∀ F : FT, smL β F
  | .leaf => by
    intro m D k j h κ X Y a b i y F0 G Dt t ka ia kc ic qt qka qia qkc qic f g qf qg t5 hl hm hD hk8 hA hK hI hqI hqA hlt hsz hkc hwO hi56 hF hj hDt hw hwG hwD hc hcG hcD hyi hG8
    have hj : j + 0 = fsz F0 := hj
    have e1 : sameF (decide (i.1 = 6)) .leaf G Dt = true := rfl
    rw [e1, if_pos rfl]
    refine jr_1 jm_173 (show jw_cd cd_173 56 = some (.iload 4) by decide +kernel) rfl ?_
    refine jr_1 jm_173 (show jw_cd cd_173 58 = some (.aload_n 0) by decide +kernel) rfl ?_
    refine jr_1 jm_173 (show jw_cd cd_173 59 = some (.getfield 29) by decide +kernel) (js_getf hA (jbg (by omega)) (show jw_fld 8 29 5 = some 5 by decide +kernel) rfl) ?_
    refine jr_1 jm_173 (show jw_cd cd_173 62 = some (.if_icmp .ge 78) by decide +kernel) (mb_t (q := .ge) (a := ((j : Nat) : Int)) (b := ((fsz F0 : Nat) : Int)) (t := 140) (by show ((fsz F0 : Nat) : Int) ≤ ((j : Nat) : Int); omega) ⟨by omega, by omega⟩ ⟨by omega, by omega⟩ (by decide) (by decide)) ?_
    refine jr_1 jm_173 (show jw_cd cd_173 140 = some (.iload_n 3) by decide +kernel) rfl ?_
    exact jr_v jm_173 (show jw_cd cd_173 141 = some (.ireturn) by decide +kernel) rfl
  | .inner s0 i0 u0 c n => by
    intro m D k j h κ X Y a b i y F0 G Dt t ka ia kc ic qt qka qia qkc qic f g qf qg t5 hl hm hD hk8 hA hK hI hqI hqA hlt hsz hkc hwO hi56 hF hj hDt hw hwG hwD hc hcG hcD hyi hG8
    have hj : j + (fsz n + 1) = fsz F0 := hj
    have hdp : fdp (.inner s0 i0 u0 c n) = max (1 + fdp c) (fdp n) := rfl
    obtain ⟨⟨it, hit, hb1⟩, h2, h3⟩ := hF
    have hb1 : vN h X it i0 c := hb1
    obtain ⟨D', rfl⟩ : ∃ D', D = D' + 4 := ⟨D - 4, by omega⟩
    have hwT : fwf (ftl Dt) := by
      cases Dt with
      | leaf => exact trivial
      | inner _ _ _ _ n' => exact hwD.2.2
    have hcT : cnF (ftl Dt) := by
      cases Dt with
      | leaf => exact trivial
      | inner _ _ _ _ n' => exact hcD.2.2
    have esm : sameF (decide (i.1 = 6)) (.inner s0 i0 u0 c n) G Dt = (match lk2 (decide (i.1 = 6)) i0.2.2.2 G Dt with
      | none => false
      | some y0 => hdS (i0, c) y0 && (sameF (decide (i0.1 = 6)) c y0.2 y0.2 && sameF (decide (i.1 = 6)) n G (ftl Dt))) := rfl
    rw [esm]
    by_cases h6 : i.1 = 6
    · obtain ⟨kv, hgj, zk, kt, kka, kia, kkc, kic, kf, kg, zka, zkia, hkv, hkt, -⟩ := h2 (decide_eq_true h6)
      have zk1 := zk.1
      have zk2 := zk.2.1
      have hkt : strR h X kt i0.2.2.2 := hkt
      have hkc := hkc
      have hkc6 := hkc h6
      obtain ⟨r1, r2⟩ := jc_atN (β := β) (d := D' + 1) (κ := κ) hl hwO hwG hkt hw.1.2.2.2.2
      have elk : lk2 (decide (i.1 = 6)) i0.2.2.2 G Dt = vget i0.2.2.2 y G := by
        unfold lk2 vget
        rw [decide_eq_true h6, if_pos (by omega)]
        rfl
      rw [elk]
      cases hg : vget i0.2.2.2 y G with
      | none =>
        have hat := r2 hg
        show jx_r (jz β) jw_M (D' + 4) 173 (56, [some (.ref a), some (.ref b), some (.int (Int32.ofInt (((k : Nat) : Int)))), some (.int (Int32.ofInt (1))), some (.int (Int32.ofInt (((j : Nat) : Int)))), t5], [], (cl_mk h κ)) (cl_mk h (κ), .inl (some (.int (Int32.ofInt (0)))))
        refine jr_1 jm_173 (show jw_cd cd_173 56 = some (.iload 4) by decide +kernel) rfl ?_
        refine jr_1 jm_173 (show jw_cd cd_173 58 = some (.aload_n 0) by decide +kernel) rfl ?_
        refine jr_1 jm_173 (show jw_cd cd_173 59 = some (.getfield 29) by decide +kernel) (js_getf hA (jbg (by omega)) (show jw_fld 8 29 5 = some 5 by decide +kernel) rfl) ?_
        refine jr_1 jm_173 (show jw_cd cd_173 62 = some (.if_icmp .ge 78) by decide +kernel) (mb_f (q := .ge) (a := ((j : Nat) : Int)) (b := ((fsz F0 : Nat) : Int)) (by show ¬ (((fsz F0 : Nat) : Int) ≤ ((j : Nat) : Int)); omega) ⟨by omega, by omega⟩ ⟨by omega, by omega⟩ (by decide)) ?_
        refine jr_1 jm_173 (show jw_cd cd_173 65 = some (.iload_n 3) by decide +kernel) rfl ?_
        refine jr_1 jm_173 (show jw_cd cd_173 66 = some (.ifCond .eq 74) by decide +kernel) (mz_f (q := .eq) (a := 1) (by show ¬ (1 = 0); omega) ⟨by omega, by omega⟩ (by decide)) ?_
        refine jr_1 jm_173 (show jw_cd cd_173 69 = some (.aload_n 0) by decide +kernel) rfl ?_
        refine jr_1 jm_173 (show jw_cd cd_173 70 = some (.getfield 9) by decide +kernel) (js_getf hA (jbg (by omega)) (show jw_fld 8 9 5 = some 0 by decide +kernel) rfl) ?_
        refine jr_1 jm_173 (show jw_cd cd_173 73 = some (.bipush 6) by decide +kernel) (mt_bi (by decide)) ?_
        refine jr_1 jm_173 (show jw_cd cd_173 75 = some (.if_icmp .ne 21) by decide +kernel) (mb_f (q := .ne) (a := i.1) (b := 6) (by show ¬ (¬ (i.1 = 6)); omega) ⟨by omega, by omega⟩ ⟨by omega, by omega⟩ (by decide)) ?_
        refine jr_1 jm_173 (show jw_cd cd_173 78 = some (.aload_n 1) by decide +kernel) rfl ?_
        refine jr_1 jm_173 (show jw_cd cd_173 79 = some (.aload_n 0) by decide +kernel) rfl ?_
        refine jr_1 jm_173 (show jw_cd cd_173 80 = some (.getfield 22) by decide +kernel) (js_getf hA (jbg (by omega)) (show jw_fld 8 22 5 = some 3 by decide +kernel) rfl) ?_
        refine jr_1 jm_173 (show jw_cd cd_173 83 = some (.iload 4) by decide +kernel) rfl ?_
        refine jr_1 jm_173 (show jw_cd cd_173 85 = some (.aaload) by decide +kernel) (cal_a (e := .ref kv) (js_arr hK (jbg (by omega))) (Or.inl rfl) (by omega) (by omega) (by omega) (by rw [Int.toNat_natCast]; exact hgj)) ?_
        refine jr_1 jm_173 (show jw_cd cd_173 86 = some (.getfield 18) by decide +kernel) (js_getf (cl_old hl ⟨by omega, hkv⟩) (jbg (by omega)) (show jw_fld 8 18 5 = some 2 by decide +kernel) rfl) ?_
        refine jr_1 jm_173 (show jw_cd cd_173 89 = some (.aconst_null) by decide +kernel) rfl ?_
        refine jr_c jm_173 (show jw_cd cd_173 90 = some (.invokevirtual 72) by decide +kernel) (ccv (n := 2) (m2 := 165) (ci := 5) (a := b) (bs := [.ref kt, .null]) (r := []) (js_cls hqA (jbg (by omega))) (show jw_find jw_cvT 8 72 = some (2, [(5, 165)]) by decide +kernel) (by decide) rfl rfl rfl) jm_165 ⟨Nat.le_of_ble_eq_true rfl, by decide⟩ hat ?_
        refine jr_1 jm_173 (show jw_cd cd_173 93 = some (.goto 10) by decide +kernel) (ju_go (t := 103) (by decide)) ?_
        refine jr_1 jm_173 (F2 := (105, [some (.ref a), some (.ref b), some (.int (Int32.ofInt (((k : Nat) : Int)))), some (.int (Int32.ofInt (1))), some (.int (Int32.ofInt (((j : Nat) : Int)))), some (.null)], [], (cl_mk h κ))) (show jw_cd cd_173 103 = some (.astore 5) by decide +kernel) rfl ?_
        refine jr_1 jm_173 (show jw_cd cd_173 105 = some (.aload 5) by decide +kernel) rfl ?_
        refine jr_1 jm_173 (show jw_cd cd_173 107 = some (.ifnull 25) by decide +kernel) (cnl_n (t := 132) (by decide) (by decide)) ?_
        refine jr_1 jm_173 (show jw_cd cd_173 132 = some (.iconst 0) by decide +kernel) rfl ?_
        refine jr_1 jm_173 (F2 := (134, [some (.ref a), some (.ref b), some (.int (Int32.ofInt (((k : Nat) : Int)))), some (.int (Int32.ofInt (0))), some (.int (Int32.ofInt (((j : Nat) : Int)))), some (.null)], [], (cl_mk h κ))) (show jw_cd cd_173 133 = some (.istore_n 3) by decide +kernel) rfl ?_
        refine jr_1 jm_173 (F2 := (137, [some (.ref a), some (.ref b), some (.int (Int32.ofInt (((k : Nat) : Int)))), some (.int (Int32.ofInt (0))), some (.int (Int32.ofInt (((j : Nat) : Int) + 1))), some (.null)], [], (cl_mk h κ))) (show jw_cd cd_173 134 = some (.iinc 4 1) by decide +kernel) (mt_inc (a := ((j : Nat) : Int)) (c := ((j : Nat) : Int) + 1) rfl (by omega) rfl) ?_
        refine jr_1 jm_173 (show jw_cd cd_173 137 = some (.goto (-81)) by decide +kernel) (ju_go (t := 56) (by decide)) ?_
        exact jc_sm0 (j := j + 1) hl hA hlt.1 ⟨by omega, by omega⟩
      | some y0 =>
        obtain ⟨pt, hat, hpy⟩ := r1 y0 hg
        have hmem : y0 ∈ sib G := by
          unfold vget at hg
          rw [if_pos (by omega)] at hg
          exact fget_mem G y0 hg
        have hyok := sib_ok G hwG y0 hmem
        have hycn := cn_sib G hcG y0 hmem
        have hyd : fdp y0.2 ≤ 8 := by have := fdp_sib G y0 hmem; have := hG8.1; omega
        show jx_r (jz β) jw_M (D' + 4) 173 (56, [some (.ref a), some (.ref b), some (.int (Int32.ofInt (((k : Nat) : Int)))), some (.int (Int32.ofInt (1))), some (.int (Int32.ofInt (((j : Nat) : Int)))), t5], [], (cl_mk h κ)) (cl_mk h (κ), .inl (some (.int (Int32.ofInt (if (hdS (i0, c) y0 && (sameF (decide (i0.1 = 6)) c y0.2 y0.2 && sameF (decide (i.1 = 6)) n G (ftl Dt))) = true then 1 else 0)))))
        have hitO := vN_O (κ := κ) hl hb1
        have hptO := vN_O (κ := κ) hl hpy
        have hsub := jc_smV (β := β) (d := D' + 3) (k := k + 1) (m := m - 1) (jc_smI c) hl hitO hptO hw.1 hyok.1 hw.2.1 hyok.2 ⟨hc.1, hc.2.1⟩ hycn (by omega) (by omega) (by omega) hyd
        have eps : (hdS (i0, c) y0 && (sameF (decide (i0.1 = 6)) c y0.2 y0.2 && sameF (decide (i.1 = 6)) n G (ftl Dt))) = (pS ((i0, c), y0) && sameF (decide (i.1 = 6)) n G (ftl Dt)) := (Bool.and_assoc _ _ _).symm
        rw [eps]
        by_cases hps : pS ((i0, c), y0) = true
        · rw [hps, Bool.true_and]
          rw [if_pos hps] at hsub
          have hrec := jc_smI (β := β) n m (D' + 4) k (j + 1) h κ X Y a b i y F0 G (ftl Dt) t ka ia kc ic qt qka qia qkc qic f g qf qg (some (.ref pt)) hl (by omega) (by omega) (by omega) hA hK hI hqI hqA hlt hsz hkc hwO hi56 h3 (by omega) (fun z => absurd h6 z) hw.2.2 hwG hwT hc.2.2 hcG hcT hyi ⟨hG8.1, by have := hG8.2; have := fdp_tl Dt; omega⟩
          refine jr_1 jm_173 (show jw_cd cd_173 56 = some (.iload 4) by decide +kernel) rfl ?_
          refine jr_1 jm_173 (show jw_cd cd_173 58 = some (.aload_n 0) by decide +kernel) rfl ?_
          refine jr_1 jm_173 (show jw_cd cd_173 59 = some (.getfield 29) by decide +kernel) (js_getf hA (jbg (by omega)) (show jw_fld 8 29 5 = some 5 by decide +kernel) rfl) ?_
          refine jr_1 jm_173 (show jw_cd cd_173 62 = some (.if_icmp .ge 78) by decide +kernel) (mb_f (q := .ge) (a := ((j : Nat) : Int)) (b := ((fsz F0 : Nat) : Int)) (by show ¬ (((fsz F0 : Nat) : Int) ≤ ((j : Nat) : Int)); omega) ⟨by omega, by omega⟩ ⟨by omega, by omega⟩ (by decide)) ?_
          refine jr_1 jm_173 (show jw_cd cd_173 65 = some (.iload_n 3) by decide +kernel) rfl ?_
          refine jr_1 jm_173 (show jw_cd cd_173 66 = some (.ifCond .eq 74) by decide +kernel) (mz_f (q := .eq) (a := 1) (by show ¬ (1 = 0); omega) ⟨by omega, by omega⟩ (by decide)) ?_
          refine jr_1 jm_173 (show jw_cd cd_173 69 = some (.aload_n 0) by decide +kernel) rfl ?_
          refine jr_1 jm_173 (show jw_cd cd_173 70 = some (.getfield 9) by decide +kernel) (js_getf hA (jbg (by omega)) (show jw_fld 8 9 5 = some 0 by decide +kernel) rfl) ?_
          refine jr_1 jm_173 (show jw_cd cd_173 73 = some (.bipush 6) by decide +kernel) (mt_bi (by decide)) ?_
          refine jr_1 jm_173 (show jw_cd cd_173 75 = some (.if_icmp .ne 21) by decide +kernel) (mb_f (q := .ne) (a := i.1) (b := 6) (by show ¬ (¬ (i.1 = 6)); omega) ⟨by omega, by omega⟩ ⟨by omega, by omega⟩ (by decide)) ?_
          refine jr_1 jm_173 (show jw_cd cd_173 78 = some (.aload_n 1) by decide +kernel) rfl ?_
          refine jr_1 jm_173 (show jw_cd cd_173 79 = some (.aload_n 0) by decide +kernel) rfl ?_
          refine jr_1 jm_173 (show jw_cd cd_173 80 = some (.getfield 22) by decide +kernel) (js_getf hA (jbg (by omega)) (show jw_fld 8 22 5 = some 3 by decide +kernel) rfl) ?_
          refine jr_1 jm_173 (show jw_cd cd_173 83 = some (.iload 4) by decide +kernel) rfl ?_
          refine jr_1 jm_173 (show jw_cd cd_173 85 = some (.aaload) by decide +kernel) (cal_a (e := .ref kv) (js_arr hK (jbg (by omega))) (Or.inl rfl) (by omega) (by omega) (by omega) (by rw [Int.toNat_natCast]; exact hgj)) ?_
          refine jr_1 jm_173 (show jw_cd cd_173 86 = some (.getfield 18) by decide +kernel) (js_getf (cl_old hl ⟨by omega, hkv⟩) (jbg (by omega)) (show jw_fld 8 18 5 = some 2 by decide +kernel) rfl) ?_
          refine jr_1 jm_173 (show jw_cd cd_173 89 = some (.aconst_null) by decide +kernel) rfl ?_
          refine jr_c jm_173 (show jw_cd cd_173 90 = some (.invokevirtual 72) by decide +kernel) (ccv (n := 2) (m2 := 165) (ci := 5) (a := b) (bs := [.ref kt, .null]) (r := []) (js_cls hqA (jbg (by omega))) (show jw_find jw_cvT 8 72 = some (2, [(5, 165)]) by decide +kernel) (by decide) rfl rfl rfl) jm_165 ⟨Nat.le_of_ble_eq_true rfl, by decide⟩ hat ?_
          refine jr_1 jm_173 (show jw_cd cd_173 93 = some (.goto 10) by decide +kernel) (ju_go (t := 103) (by decide)) ?_
          refine jr_1 jm_173 (F2 := (105, [some (.ref a), some (.ref b), some (.int (Int32.ofInt (((k : Nat) : Int)))), some (.int (Int32.ofInt (1))), some (.int (Int32.ofInt (((j : Nat) : Int)))), some (.ref pt)], [], (cl_mk h κ))) (show jw_cd cd_173 103 = some (.astore 5) by decide +kernel) rfl ?_
          refine jr_1 jm_173 (show jw_cd cd_173 105 = some (.aload 5) by decide +kernel) rfl ?_
          refine jr_1 jm_173 (show jw_cd cd_173 107 = some (.ifnull 25) by decide +kernel) (cnl_r (by decide)) ?_
          refine jr_1 jm_173 (show jw_cd cd_173 110 = some (.aload_n 0) by decide +kernel) rfl ?_
          refine jr_1 jm_173 (show jw_cd cd_173 111 = some (.getfield 26) by decide +kernel) (js_getf hA (jbg (by omega)) (show jw_fld 8 26 5 = some 4 by decide +kernel) rfl) ?_
          refine jr_1 jm_173 (show jw_cd cd_173 114 = some (.iload 4) by decide +kernel) rfl ?_
          refine jr_1 jm_173 (show jw_cd cd_173 116 = some (.aaload) by decide +kernel) (cal_a (e := .ref it) (js_arr hI (jbg (by omega))) (Or.inl rfl) (by omega) (by omega) (by omega) (by rw [Int.toNat_natCast]; exact hit)) ?_
          refine jr_1 jm_173 (show jw_cd cd_173 117 = some (.aload 5) by decide +kernel) rfl ?_
          refine jr_1 jm_173 (show jw_cd cd_173 119 = some (.iload_n 2) by decide +kernel) rfl ?_
          refine jr_1 jm_173 (show jw_cd cd_173 120 = some (.iconst 1) by decide +kernel) rfl ?_
          refine jr_1 jm_173 (show jw_cd cd_173 121 = some (.iadd) by decide +kernel) (mt_add (c := ((k : Nat) : Int) + 1) rfl) ?_
          refine jr_c jm_173 (show jw_cd cd_173 122 = some (.invokevirtual 76) by decide +kernel) (ccv (n := 2) (m2 := 173) (ci := 5) (a := it) (bs := [.ref pt, .int (Int32.ofInt (((k : Nat) : Int) + 1))]) (r := []) (vO_cls hitO) (show jw_find jw_cvT 8 76 = some (2, [(5, 173)]) by decide +kernel) (by decide) rfl rfl rfl) jm_173 ⟨Nat.le_of_ble_eq_true rfl, by decide⟩ hsub ?_
          refine jr_1 jm_173 (show jw_cd cd_173 125 = some (.ifCond .eq 7) by decide +kernel) (mz_f (q := .eq) (a := 1) (by show ¬ (1 = 0); omega) ⟨by omega, by omega⟩ (by decide)) ?_
          refine jr_1 jm_173 (show jw_cd cd_173 128 = some (.iconst 1) by decide +kernel) rfl ?_
          refine jr_1 jm_173 (show jw_cd cd_173 129 = some (.goto 4) by decide +kernel) (ju_go (t := 133) (by decide)) ?_
          refine jr_1 jm_173 (F2 := (134, [some (.ref a), some (.ref b), some (.int (Int32.ofInt (((k : Nat) : Int)))), some (.int (Int32.ofInt (1))), some (.int (Int32.ofInt (((j : Nat) : Int)))), some (.ref pt)], [], (cl_mk h κ))) (show jw_cd cd_173 133 = some (.istore_n 3) by decide +kernel) rfl ?_
          refine jr_1 jm_173 (F2 := (137, [some (.ref a), some (.ref b), some (.int (Int32.ofInt (((k : Nat) : Int)))), some (.int (Int32.ofInt (1))), some (.int (Int32.ofInt (((j : Nat) : Int) + 1))), some (.ref pt)], [], (cl_mk h κ))) (show jw_cd cd_173 134 = some (.iinc 4 1) by decide +kernel) (mt_inc (a := ((j : Nat) : Int)) (c := ((j : Nat) : Int) + 1) rfl (by omega) rfl) ?_
          refine jr_1 jm_173 (show jw_cd cd_173 137 = some (.goto (-81)) by decide +kernel) (ju_go (t := 56) (by decide)) ?_
          exact hrec
        · rw [Bool.eq_false_iff.mpr hps, Bool.false_and]
          rw [if_neg hps] at hsub
          refine jr_1 jm_173 (show jw_cd cd_173 56 = some (.iload 4) by decide +kernel) rfl ?_
          refine jr_1 jm_173 (show jw_cd cd_173 58 = some (.aload_n 0) by decide +kernel) rfl ?_
          refine jr_1 jm_173 (show jw_cd cd_173 59 = some (.getfield 29) by decide +kernel) (js_getf hA (jbg (by omega)) (show jw_fld 8 29 5 = some 5 by decide +kernel) rfl) ?_
          refine jr_1 jm_173 (show jw_cd cd_173 62 = some (.if_icmp .ge 78) by decide +kernel) (mb_f (q := .ge) (a := ((j : Nat) : Int)) (b := ((fsz F0 : Nat) : Int)) (by show ¬ (((fsz F0 : Nat) : Int) ≤ ((j : Nat) : Int)); omega) ⟨by omega, by omega⟩ ⟨by omega, by omega⟩ (by decide)) ?_
          refine jr_1 jm_173 (show jw_cd cd_173 65 = some (.iload_n 3) by decide +kernel) rfl ?_
          refine jr_1 jm_173 (show jw_cd cd_173 66 = some (.ifCond .eq 74) by decide +kernel) (mz_f (q := .eq) (a := 1) (by show ¬ (1 = 0); omega) ⟨by omega, by omega⟩ (by decide)) ?_
          refine jr_1 jm_173 (show jw_cd cd_173 69 = some (.aload_n 0) by decide +kernel) rfl ?_
          refine jr_1 jm_173 (show jw_cd cd_173 70 = some (.getfield 9) by decide +kernel) (js_getf hA (jbg (by omega)) (show jw_fld 8 9 5 = some 0 by decide +kernel) rfl) ?_
          refine jr_1 jm_173 (show jw_cd cd_173 73 = some (.bipush 6) by decide +kernel) (mt_bi (by decide)) ?_
          refine jr_1 jm_173 (show jw_cd cd_173 75 = some (.if_icmp .ne 21) by decide +kernel) (mb_f (q := .ne) (a := i.1) (b := 6) (by show ¬ (¬ (i.1 = 6)); omega) ⟨by omega, by omega⟩ ⟨by omega, by omega⟩ (by decide)) ?_
          refine jr_1 jm_173 (show jw_cd cd_173 78 = some (.aload_n 1) by decide +kernel) rfl ?_
          refine jr_1 jm_173 (show jw_cd cd_173 79 = some (.aload_n 0) by decide +kernel) rfl ?_
          refine jr_1 jm_173 (show jw_cd cd_173 80 = some (.getfield 22) by decide +kernel) (js_getf hA (jbg (by omega)) (show jw_fld 8 22 5 = some 3 by decide +kernel) rfl) ?_
          refine jr_1 jm_173 (show jw_cd cd_173 83 = some (.iload 4) by decide +kernel) rfl ?_
          refine jr_1 jm_173 (show jw_cd cd_173 85 = some (.aaload) by decide +kernel) (cal_a (e := .ref kv) (js_arr hK (jbg (by omega))) (Or.inl rfl) (by omega) (by omega) (by omega) (by rw [Int.toNat_natCast]; exact hgj)) ?_
          refine jr_1 jm_173 (show jw_cd cd_173 86 = some (.getfield 18) by decide +kernel) (js_getf (cl_old hl ⟨by omega, hkv⟩) (jbg (by omega)) (show jw_fld 8 18 5 = some 2 by decide +kernel) rfl) ?_
          refine jr_1 jm_173 (show jw_cd cd_173 89 = some (.aconst_null) by decide +kernel) rfl ?_
          refine jr_c jm_173 (show jw_cd cd_173 90 = some (.invokevirtual 72) by decide +kernel) (ccv (n := 2) (m2 := 165) (ci := 5) (a := b) (bs := [.ref kt, .null]) (r := []) (js_cls hqA (jbg (by omega))) (show jw_find jw_cvT 8 72 = some (2, [(5, 165)]) by decide +kernel) (by decide) rfl rfl rfl) jm_165 ⟨Nat.le_of_ble_eq_true rfl, by decide⟩ hat ?_
          refine jr_1 jm_173 (show jw_cd cd_173 93 = some (.goto 10) by decide +kernel) (ju_go (t := 103) (by decide)) ?_
          refine jr_1 jm_173 (F2 := (105, [some (.ref a), some (.ref b), some (.int (Int32.ofInt (((k : Nat) : Int)))), some (.int (Int32.ofInt (1))), some (.int (Int32.ofInt (((j : Nat) : Int)))), some (.ref pt)], [], (cl_mk h κ))) (show jw_cd cd_173 103 = some (.astore 5) by decide +kernel) rfl ?_
          refine jr_1 jm_173 (show jw_cd cd_173 105 = some (.aload 5) by decide +kernel) rfl ?_
          refine jr_1 jm_173 (show jw_cd cd_173 107 = some (.ifnull 25) by decide +kernel) (cnl_r (by decide)) ?_
          refine jr_1 jm_173 (show jw_cd cd_173 110 = some (.aload_n 0) by decide +kernel) rfl ?_
          refine jr_1 jm_173 (show jw_cd cd_173 111 = some (.getfield 26) by decide +kernel) (js_getf hA (jbg (by omega)) (show jw_fld 8 26 5 = some 4 by decide +kernel) rfl) ?_
          refine jr_1 jm_173 (show jw_cd cd_173 114 = some (.iload 4) by decide +kernel) rfl ?_
          refine jr_1 jm_173 (show jw_cd cd_173 116 = some (.aaload) by decide +kernel) (cal_a (e := .ref it) (js_arr hI (jbg (by omega))) (Or.inl rfl) (by omega) (by omega) (by omega) (by rw [Int.toNat_natCast]; exact hit)) ?_
          refine jr_1 jm_173 (show jw_cd cd_173 117 = some (.aload 5) by decide +kernel) rfl ?_
          refine jr_1 jm_173 (show jw_cd cd_173 119 = some (.iload_n 2) by decide +kernel) rfl ?_
          refine jr_1 jm_173 (show jw_cd cd_173 120 = some (.iconst 1) by decide +kernel) rfl ?_
          refine jr_1 jm_173 (show jw_cd cd_173 121 = some (.iadd) by decide +kernel) (mt_add (c := ((k : Nat) : Int) + 1) rfl) ?_
          refine jr_c jm_173 (show jw_cd cd_173 122 = some (.invokevirtual 76) by decide +kernel) (ccv (n := 2) (m2 := 173) (ci := 5) (a := it) (bs := [.ref pt, .int (Int32.ofInt (((k : Nat) : Int) + 1))]) (r := []) (vO_cls hitO) (show jw_find jw_cvT 8 76 = some (2, [(5, 173)]) by decide +kernel) (by decide) rfl rfl rfl) jm_173 ⟨Nat.le_of_ble_eq_true rfl, by decide⟩ hsub ?_
          refine jr_1 jm_173 (show jw_cd cd_173 125 = some (.ifCond .eq 7) by decide +kernel) (mz_t (q := .eq) (a := 0) (t := 132) (by show 0 = 0; omega) ⟨by omega, by omega⟩ (by decide) (by decide)) ?_
          refine jr_1 jm_173 (show jw_cd cd_173 132 = some (.iconst 0) by decide +kernel) rfl ?_
          refine jr_1 jm_173 (F2 := (134, [some (.ref a), some (.ref b), some (.int (Int32.ofInt (((k : Nat) : Int)))), some (.int (Int32.ofInt (0))), some (.int (Int32.ofInt (((j : Nat) : Int)))), some (.ref pt)], [], (cl_mk h κ))) (show jw_cd cd_173 133 = some (.istore_n 3) by decide +kernel) rfl ?_
          refine jr_1 jm_173 (F2 := (137, [some (.ref a), some (.ref b), some (.int (Int32.ofInt (((k : Nat) : Int)))), some (.int (Int32.ofInt (0))), some (.int (Int32.ofInt (((j : Nat) : Int) + 1))), some (.ref pt)], [], (cl_mk h κ))) (show jw_cd cd_173 134 = some (.iinc 4 1) by decide +kernel) (mt_inc (a := ((j : Nat) : Int)) (c := ((j : Nat) : Int) + 1) rfl (by omega) rfl) ?_
          refine jr_1 jm_173 (show jw_cd cd_173 137 = some (.goto (-81)) by decide +kernel) (ju_go (t := 56) (by decide)) ?_
          exact jc_sm0 (j := j + 1) hl hA hlt.1 ⟨by omega, by omega⟩
    · obtain ⟨hD1, hD2⟩ := hDt h6
      have hD2 : fsz Dt = fsz n + 1 := hD2
      rw [decide_eq_false h6]
      cases Dt with
      | leaf => exact absurd hD2 (by show ¬ (0 = fsz n + 1); omega)
      | inner s1 j0 u1 c1 n1 =>
        obtain ⟨⟨pt, hpt, hpy⟩, -, hn1⟩ := hD1
        have hpy : vN h Y pt j0 c1 := hpy
        have hD2 : fsz n1 + 1 = fsz n + 1 := hD2
        obtain ⟨y0, ey0⟩ : ∃ y0 : vT, y0 = (j0, c1) := ⟨_, rfl⟩
        have hyok : vok y0 := by rw [ey0]; exact ⟨hwD.1, hwD.2.1⟩
        have hycn : cnV y0 := by rw [ey0]; exact ⟨hcD.1, hcD.2.1⟩
        have hpy : vN h Y pt y0.1 y0.2 := by rw [ey0]; exact hpy
        have hyd : fdp y0.2 ≤ 8 := by rw [ey0]; have h9 : fdp (.inner s1 j0 u1 c1 n1) = max (1 + fdp c1) (fdp n1) := rfl; have := hG8.2; show fdp c1 ≤ 8; omega
        show jx_r (jz β) jw_M (D' + 4) 173 (56, [some (.ref a), some (.ref b), some (.int (Int32.ofInt (((k : Nat) : Int)))), some (.int (Int32.ofInt (1))), some (.int (Int32.ofInt (((j : Nat) : Int)))), t5], [], (cl_mk h κ)) (cl_mk h (κ), .inl (some (.int (Int32.ofInt (if (hdS (i0, c) (j0, c1) && (sameF (decide (i0.1 = 6)) c c1 c1 && sameF false n G n1)) = true then 1 else 0)))))
        have e9 : (hdS (i0, c) (j0, c1) && (sameF (decide (i0.1 = 6)) c c1 c1 && sameF false n G n1)) = (hdS (i0, c) y0 && (sameF (decide (i0.1 = 6)) c y0.2 y0.2 && sameF (decide (i.1 = 6)) n G (ftl (.inner s1 j0 u1 c1 n1)))) := by rw [ey0, decide_eq_false h6]; rfl
        rw [e9]
        obtain ⟨Dt, eDt⟩ : ∃ Dt : FT, Dt = .inner s1 j0 u1 c1 n1 := ⟨_, rfl⟩
        have eT : ftl Dt = n1 := by rw [eDt]; rfl
        rw [← eDt] at hwT hcT hG8 ⊢
        have hitO := vN_O (κ := κ) hl hb1
        have hptO := vN_O (κ := κ) hl hpy
        have hsub := jc_smV (β := β) (d := D' + 3) (k := k + 1) (m := m - 1) (jc_smI c) hl hitO hptO hw.1 hyok.1 hw.2.1 hyok.2 ⟨hc.1, hc.2.1⟩ hycn (by omega) (by omega) (by omega) hyd
        have eps : (hdS (i0, c) y0 && (sameF (decide (i0.1 = 6)) c y0.2 y0.2 && sameF (decide (i.1 = 6)) n G (ftl Dt))) = (pS ((i0, c), y0) && sameF (decide (i.1 = 6)) n G (ftl Dt)) := (Bool.and_assoc _ _ _).symm
        rw [eps]
        by_cases hps : pS ((i0, c), y0) = true
        · rw [hps, Bool.true_and]
          rw [if_pos hps] at hsub
          have hrec := jc_smI (β := β) n m (D' + 4) k (j + 1) h κ X Y a b i y F0 G (ftl Dt) t ka ia kc ic qt qka qia qkc qic f g qf qg (some (.ref pt)) hl (by omega) (by omega) (by omega) hA hK hI hqI hqA hlt hsz hkc hwO hi56 h3 (by omega) (fun _ => by rw [eT]; exact ⟨hn1, by omega⟩) hw.2.2 hwG hwT hc.2.2 hcG hcT hyi ⟨hG8.1, by have := hG8.2; have := fdp_tl Dt; omega⟩
          refine jr_1 jm_173 (show jw_cd cd_173 56 = some (.iload 4) by decide +kernel) rfl ?_
          refine jr_1 jm_173 (show jw_cd cd_173 58 = some (.aload_n 0) by decide +kernel) rfl ?_
          refine jr_1 jm_173 (show jw_cd cd_173 59 = some (.getfield 29) by decide +kernel) (js_getf hA (jbg (by omega)) (show jw_fld 8 29 5 = some 5 by decide +kernel) rfl) ?_
          refine jr_1 jm_173 (show jw_cd cd_173 62 = some (.if_icmp .ge 78) by decide +kernel) (mb_f (q := .ge) (a := ((j : Nat) : Int)) (b := ((fsz F0 : Nat) : Int)) (by show ¬ (((fsz F0 : Nat) : Int) ≤ ((j : Nat) : Int)); omega) ⟨by omega, by omega⟩ ⟨by omega, by omega⟩ (by decide)) ?_
          refine jr_1 jm_173 (show jw_cd cd_173 65 = some (.iload_n 3) by decide +kernel) rfl ?_
          refine jr_1 jm_173 (show jw_cd cd_173 66 = some (.ifCond .eq 74) by decide +kernel) (mz_f (q := .eq) (a := 1) (by show ¬ (1 = 0); omega) ⟨by omega, by omega⟩ (by decide)) ?_
          refine jr_1 jm_173 (show jw_cd cd_173 69 = some (.aload_n 0) by decide +kernel) rfl ?_
          refine jr_1 jm_173 (show jw_cd cd_173 70 = some (.getfield 9) by decide +kernel) (js_getf hA (jbg (by omega)) (show jw_fld 8 9 5 = some 0 by decide +kernel) rfl) ?_
          refine jr_1 jm_173 (show jw_cd cd_173 73 = some (.bipush 6) by decide +kernel) (mt_bi (by decide)) ?_
          refine jr_1 jm_173 (show jw_cd cd_173 75 = some (.if_icmp .ne 21) by decide +kernel) (mb_t (q := .ne) (a := i.1) (b := 6) (t := 96) (by show ¬ (i.1 = 6); omega) ⟨by omega, by omega⟩ ⟨by omega, by omega⟩ (by decide) (by decide)) ?_
          refine jr_1 jm_173 (show jw_cd cd_173 96 = some (.aload_n 1) by decide +kernel) rfl ?_
          refine jr_1 jm_173 (show jw_cd cd_173 97 = some (.getfield 26) by decide +kernel) (js_getf hqA (jbg (by omega)) (show jw_fld 8 26 5 = some 4 by decide +kernel) rfl) ?_
          refine jr_1 jm_173 (show jw_cd cd_173 100 = some (.iload 4) by decide +kernel) rfl ?_
          refine jr_1 jm_173 (show jw_cd cd_173 102 = some (.aaload) by decide +kernel) (cal_a (e := .ref pt) (js_arr hqI (jbg (by omega))) (Or.inl rfl) (by omega) (by omega) (by omega) (by rw [Int.toNat_natCast]; exact hpt)) ?_
          refine jr_1 jm_173 (F2 := (105, [some (.ref a), some (.ref b), some (.int (Int32.ofInt (((k : Nat) : Int)))), some (.int (Int32.ofInt (1))), some (.int (Int32.ofInt (((j : Nat) : Int)))), some (.ref pt)], [], (cl_mk h κ))) (show jw_cd cd_173 103 = some (.astore 5) by decide +kernel) rfl ?_
          refine jr_1 jm_173 (show jw_cd cd_173 105 = some (.aload 5) by decide +kernel) rfl ?_
          refine jr_1 jm_173 (show jw_cd cd_173 107 = some (.ifnull 25) by decide +kernel) (cnl_r (by decide)) ?_
          refine jr_1 jm_173 (show jw_cd cd_173 110 = some (.aload_n 0) by decide +kernel) rfl ?_
          refine jr_1 jm_173 (show jw_cd cd_173 111 = some (.getfield 26) by decide +kernel) (js_getf hA (jbg (by omega)) (show jw_fld 8 26 5 = some 4 by decide +kernel) rfl) ?_
          refine jr_1 jm_173 (show jw_cd cd_173 114 = some (.iload 4) by decide +kernel) rfl ?_
          refine jr_1 jm_173 (show jw_cd cd_173 116 = some (.aaload) by decide +kernel) (cal_a (e := .ref it) (js_arr hI (jbg (by omega))) (Or.inl rfl) (by omega) (by omega) (by omega) (by rw [Int.toNat_natCast]; exact hit)) ?_
          refine jr_1 jm_173 (show jw_cd cd_173 117 = some (.aload 5) by decide +kernel) rfl ?_
          refine jr_1 jm_173 (show jw_cd cd_173 119 = some (.iload_n 2) by decide +kernel) rfl ?_
          refine jr_1 jm_173 (show jw_cd cd_173 120 = some (.iconst 1) by decide +kernel) rfl ?_
          refine jr_1 jm_173 (show jw_cd cd_173 121 = some (.iadd) by decide +kernel) (mt_add (c := ((k : Nat) : Int) + 1) rfl) ?_
          refine jr_c jm_173 (show jw_cd cd_173 122 = some (.invokevirtual 76) by decide +kernel) (ccv (n := 2) (m2 := 173) (ci := 5) (a := it) (bs := [.ref pt, .int (Int32.ofInt (((k : Nat) : Int) + 1))]) (r := []) (vO_cls hitO) (show jw_find jw_cvT 8 76 = some (2, [(5, 173)]) by decide +kernel) (by decide) rfl rfl rfl) jm_173 ⟨Nat.le_of_ble_eq_true rfl, by decide⟩ hsub ?_
          refine jr_1 jm_173 (show jw_cd cd_173 125 = some (.ifCond .eq 7) by decide +kernel) (mz_f (q := .eq) (a := 1) (by show ¬ (1 = 0); omega) ⟨by omega, by omega⟩ (by decide)) ?_
          refine jr_1 jm_173 (show jw_cd cd_173 128 = some (.iconst 1) by decide +kernel) rfl ?_
          refine jr_1 jm_173 (show jw_cd cd_173 129 = some (.goto 4) by decide +kernel) (ju_go (t := 133) (by decide)) ?_
          refine jr_1 jm_173 (F2 := (134, [some (.ref a), some (.ref b), some (.int (Int32.ofInt (((k : Nat) : Int)))), some (.int (Int32.ofInt (1))), some (.int (Int32.ofInt (((j : Nat) : Int)))), some (.ref pt)], [], (cl_mk h κ))) (show jw_cd cd_173 133 = some (.istore_n 3) by decide +kernel) rfl ?_
          refine jr_1 jm_173 (F2 := (137, [some (.ref a), some (.ref b), some (.int (Int32.ofInt (((k : Nat) : Int)))), some (.int (Int32.ofInt (1))), some (.int (Int32.ofInt (((j : Nat) : Int) + 1))), some (.ref pt)], [], (cl_mk h κ))) (show jw_cd cd_173 134 = some (.iinc 4 1) by decide +kernel) (mt_inc (a := ((j : Nat) : Int)) (c := ((j : Nat) : Int) + 1) rfl (by omega) rfl) ?_
          refine jr_1 jm_173 (show jw_cd cd_173 137 = some (.goto (-81)) by decide +kernel) (ju_go (t := 56) (by decide)) ?_
          exact hrec
        · rw [Bool.eq_false_iff.mpr hps, Bool.false_and]
          rw [if_neg hps] at hsub
          refine jr_1 jm_173 (show jw_cd cd_173 56 = some (.iload 4) by decide +kernel) rfl ?_
          refine jr_1 jm_173 (show jw_cd cd_173 58 = some (.aload_n 0) by decide +kernel) rfl ?_
          refine jr_1 jm_173 (show jw_cd cd_173 59 = some (.getfield 29) by decide +kernel) (js_getf hA (jbg (by omega)) (show jw_fld 8 29 5 = some 5 by decide +kernel) rfl) ?_
          refine jr_1 jm_173 (show jw_cd cd_173 62 = some (.if_icmp .ge 78) by decide +kernel) (mb_f (q := .ge) (a := ((j : Nat) : Int)) (b := ((fsz F0 : Nat) : Int)) (by show ¬ (((fsz F0 : Nat) : Int) ≤ ((j : Nat) : Int)); omega) ⟨by omega, by omega⟩ ⟨by omega, by omega⟩ (by decide)) ?_
          refine jr_1 jm_173 (show jw_cd cd_173 65 = some (.iload_n 3) by decide +kernel) rfl ?_
          refine jr_1 jm_173 (show jw_cd cd_173 66 = some (.ifCond .eq 74) by decide +kernel) (mz_f (q := .eq) (a := 1) (by show ¬ (1 = 0); omega) ⟨by omega, by omega⟩ (by decide)) ?_
          refine jr_1 jm_173 (show jw_cd cd_173 69 = some (.aload_n 0) by decide +kernel) rfl ?_
          refine jr_1 jm_173 (show jw_cd cd_173 70 = some (.getfield 9) by decide +kernel) (js_getf hA (jbg (by omega)) (show jw_fld 8 9 5 = some 0 by decide +kernel) rfl) ?_
          refine jr_1 jm_173 (show jw_cd cd_173 73 = some (.bipush 6) by decide +kernel) (mt_bi (by decide)) ?_
          refine jr_1 jm_173 (show jw_cd cd_173 75 = some (.if_icmp .ne 21) by decide +kernel) (mb_t (q := .ne) (a := i.1) (b := 6) (t := 96) (by show ¬ (i.1 = 6); omega) ⟨by omega, by omega⟩ ⟨by omega, by omega⟩ (by decide) (by decide)) ?_
          refine jr_1 jm_173 (show jw_cd cd_173 96 = some (.aload_n 1) by decide +kernel) rfl ?_
          refine jr_1 jm_173 (show jw_cd cd_173 97 = some (.getfield 26) by decide +kernel) (js_getf hqA (jbg (by omega)) (show jw_fld 8 26 5 = some 4 by decide +kernel) rfl) ?_
          refine jr_1 jm_173 (show jw_cd cd_173 100 = some (.iload 4) by decide +kernel) rfl ?_
          refine jr_1 jm_173 (show jw_cd cd_173 102 = some (.aaload) by decide +kernel) (cal_a (e := .ref pt) (js_arr hqI (jbg (by omega))) (Or.inl rfl) (by omega) (by omega) (by omega) (by rw [Int.toNat_natCast]; exact hpt)) ?_
          refine jr_1 jm_173 (F2 := (105, [some (.ref a), some (.ref b), some (.int (Int32.ofInt (((k : Nat) : Int)))), some (.int (Int32.ofInt (1))), some (.int (Int32.ofInt (((j : Nat) : Int)))), some (.ref pt)], [], (cl_mk h κ))) (show jw_cd cd_173 103 = some (.astore 5) by decide +kernel) rfl ?_
          refine jr_1 jm_173 (show jw_cd cd_173 105 = some (.aload 5) by decide +kernel) rfl ?_
          refine jr_1 jm_173 (show jw_cd cd_173 107 = some (.ifnull 25) by decide +kernel) (cnl_r (by decide)) ?_
          refine jr_1 jm_173 (show jw_cd cd_173 110 = some (.aload_n 0) by decide +kernel) rfl ?_
          refine jr_1 jm_173 (show jw_cd cd_173 111 = some (.getfield 26) by decide +kernel) (js_getf hA (jbg (by omega)) (show jw_fld 8 26 5 = some 4 by decide +kernel) rfl) ?_
          refine jr_1 jm_173 (show jw_cd cd_173 114 = some (.iload 4) by decide +kernel) rfl ?_
          refine jr_1 jm_173 (show jw_cd cd_173 116 = some (.aaload) by decide +kernel) (cal_a (e := .ref it) (js_arr hI (jbg (by omega))) (Or.inl rfl) (by omega) (by omega) (by omega) (by rw [Int.toNat_natCast]; exact hit)) ?_
          refine jr_1 jm_173 (show jw_cd cd_173 117 = some (.aload 5) by decide +kernel) rfl ?_
          refine jr_1 jm_173 (show jw_cd cd_173 119 = some (.iload_n 2) by decide +kernel) rfl ?_
          refine jr_1 jm_173 (show jw_cd cd_173 120 = some (.iconst 1) by decide +kernel) rfl ?_
          refine jr_1 jm_173 (show jw_cd cd_173 121 = some (.iadd) by decide +kernel) (mt_add (c := ((k : Nat) : Int) + 1) rfl) ?_
          refine jr_c jm_173 (show jw_cd cd_173 122 = some (.invokevirtual 76) by decide +kernel) (ccv (n := 2) (m2 := 173) (ci := 5) (a := it) (bs := [.ref pt, .int (Int32.ofInt (((k : Nat) : Int) + 1))]) (r := []) (vO_cls hitO) (show jw_find jw_cvT 8 76 = some (2, [(5, 173)]) by decide +kernel) (by decide) rfl rfl rfl) jm_173 ⟨Nat.le_of_ble_eq_true rfl, by decide⟩ hsub ?_
          refine jr_1 jm_173 (show jw_cd cd_173 125 = some (.ifCond .eq 7) by decide +kernel) (mz_t (q := .eq) (a := 0) (t := 132) (by show 0 = 0; omega) ⟨by omega, by omega⟩ (by decide) (by decide)) ?_
          refine jr_1 jm_173 (show jw_cd cd_173 132 = some (.iconst 0) by decide +kernel) rfl ?_
          refine jr_1 jm_173 (F2 := (134, [some (.ref a), some (.ref b), some (.int (Int32.ofInt (((k : Nat) : Int)))), some (.int (Int32.ofInt (0))), some (.int (Int32.ofInt (((j : Nat) : Int)))), some (.ref pt)], [], (cl_mk h κ))) (show jw_cd cd_173 133 = some (.istore_n 3) by decide +kernel) rfl ?_
          refine jr_1 jm_173 (F2 := (137, [some (.ref a), some (.ref b), some (.int (Int32.ofInt (((k : Nat) : Int)))), some (.int (Int32.ofInt (0))), some (.int (Int32.ofInt (((j : Nat) : Int) + 1))), some (.ref pt)], [], (cl_mk h κ))) (show jw_cd cd_173 134 = some (.iinc 4 1) by decide +kernel) (mt_inc (a := ((j : Nat) : Int)) (c := ((j : Nat) : Int) + 1) rfl (by omega) rfl) ?_
          refine jr_1 jm_173 (show jw_cd cd_173 137 = some (.goto (-81)) by decide +kernel) (ju_go (t := 56) (by decide)) ?_
          exact jc_sm0 (j := j + 1) hl hA hlt.1 ⟨by omega, by omega⟩
