/-! ===== the class: holds, takes, bound (printed by program: gen122.py) ===== -/
theorem jm_170 : jw_M 170 = some (9, 5, ((Option.some Jvm.ClassFile.FieldType.boolean), false), jw_cd cd_170, fun _ _ => none) := rfl
theorem nulV_cn : cnV nulV := ⟨⟨fun _ => rfl, fun _ => rfl, fun _ => rfl⟩, trivial⟩
theorem vget_I {s : List Int} {v w : vT} (hv : cnV v) (h : vget s v.1 v.2 = some w) : cnV w ∧ fdp w.2 ≤ fdp v.2 := by
  have := pck_I (e := (0, s, nnu, 0, nsd, nsd)) hv (w := w) (by unfold pckS; rw [if_pos rfl]; exact h)
  exact ⟨this.1, this.2.1⟩
theorem vpath_I : ∀ (l : List (List Int)) (x : Option vT) (D : Nat), cnV (dv x) → fdp (dv x).2 ≤ D → cnV (dv (vpath l x)) ∧ fdp (dv (vpath l x)).2 ≤ D
  | [], x, D, h1, h2 => ⟨h1, h2⟩
  | s :: l, none, D, h1, h2 => ⟨h1, h2⟩
  | s :: l, some v, D, h1, h2 => by
    show cnV (dv (vpath l (vget s v.1 v.2))) ∧ fdp (dv (vpath l (vget s v.1 v.2))).2 ≤ D
    refine vpath_I l _ D ?_ ?_
    · cases hg : vget s v.1 v.2 with
      | none => exact nulV_cn
      | some w => exact (vget_I h1 hg).1
    · cases hg : vget s v.1 v.2 with
      | none => exact Nat.zero_le _
      | some w =>
        have := (vget_I h1 hg).2
        show fdp w.2 ≤ D
        have h2 : fdp v.2 ≤ D := h2
        omega
theorem sval_I {s : sD} {v : vT} {D : Nat} (h1 : cnV v) (h2 : fdp v.2 ≤ D) : cnV (dv (sval s v)) ∧ fdp (dv (sval s v)).2 ≤ D := by
  unfold sval
  by_cases a : s.1 = 2
  · rw [if_pos a]
    exact ⟨cn_num _, Nat.zero_le _⟩
  rw [if_neg a]
  by_cases b : s.1 = 3
  · rw [if_pos b]
    exact ⟨cn_text _, Nat.zero_le _⟩
  rw [if_neg b]
  exact vpath_I _ _ D h1 h2
theorem vpath_ok : ∀ (l : List (List Int)) (x : Option vT), vokO x → vokO (vpath l x)
  | [], x, h => h
  | s :: l, none, h => h
  | s :: l, some v, h => by
    show vokO (vpath l (vget s v.1 v.2))
    refine vpath_ok l _ (fun i F hy => ?_)
    unfold vget at hy
    by_cases h6 : v.1.1 = 6
    · rw [if_pos h6] at hy
      exact fget_ok _ i F (h v.1 v.2 rfl).2 hy
    · rw [if_neg h6] at hy
      cases hy
theorem svl_ok {s : sD} {v : vT} (hs : sdO s) (hv : vok v) : vok (dv (sval s v)) := by
  have h := sval_ok (s := s) (e := v) (fun z => by have := hs.2.2.1 z; exact ⟨by omega, by omega⟩) hs.2.2.2 (vpath_ok _ _ (fun i F hh => by injection hh with hh; rw [hh] at hv; exact hv))
  cases hx : sval s v with
  | none => exact nulV_ok
  | some w => exact h w.1 w.2 hx
theorem pS_0 {x y : vT} (hx : cnV x) (hy : cnV y) (h0 : x.1.1 = 0) : pS (x, y) = decide (y.1.1 = 0) := by
  have hiff := hdS_cn hx hy
  have e : pS (x, y) = (hdS x y && sameF (decide (x.1.1 = 6)) x.2 y.2 y.2) := rfl
  rw [e]
  have xl : x.2 = .leaf := hx.1.2.2 (by omega)
  by_cases hy0 : y.1.1 = 0
  · have yl : y.2 = .leaf := hy.1.2.2 (by omega)
    rw [hiff.mpr ⟨by omega, by rw [hx.1.1 (by omega), hy.1.1 (by omega)], by rw [xl, yl], by rw [hx.1.2.1 (by omega), hy.1.2.1 (by omega)]⟩, xl, decide_eq_true hy0]
    rfl
  · have hf : hdS x y = false := Bool.eq_false_iff.mpr (fun z => hy0 (by have := (hiff.mp z).1; omega))
    rw [hf, decide_eq_false hy0]
    rfl
theorem pS_k {x y : vT} (hx : cnV x) (hy : cnV y) (h : ¬ x.1.1 = y.1.1) : pS (x, y) = false := by
  have e : pS (x, y) = (hdS x y && sameF (decide (x.1.1 = 6)) x.2 y.2 y.2) := rfl
  rw [e, Bool.eq_false_iff.mpr (fun z => h ((hdS_cn hx hy).mp z).1)]
  rfl
theorem eqS_dv {a b : Option vT} (ha : cnV (dv a)) (hb : cnV (dv b)) : eqS a b = pS (dv a, dv b) := by
  cases a with
  | none =>
    rw [pS_0 ha hb rfl]
    cases b with
    | none => rfl
    | some y => rfl
  | some x =>
    cases b with
    | none =>
      show nulO (some x) = pS (x, nulV)
      by_cases h0 : x.1.1 = 0
      · rw [pS_0 (x := x) ha nulV_cn h0]
        exact decide_eq_true h0
      · rw [pS_k (x := x) (y := nulV) ha nulV_cn h0]
        exact decide_eq_false h0
    | some y =>
      show (if x.1.1 = 0 ∨ y.1.1 = 0 then decide (x.1.1 = 0 ∧ y.1.1 = 0) else pS (x, y)) = pS (x, y)
      by_cases h0 : x.1.1 = 0
      · rw [if_pos (Or.inl h0), pS_0 (x := x) (y := y) ha hb h0]
        by_cases h1 : y.1.1 = 0
        · rw [decide_eq_true h1, decide_eq_true ⟨h0, h1⟩]
        · rw [decide_eq_false h1, decide_eq_false (fun z => h1 z.2)]
      · by_cases h1 : y.1.1 = 0
        · rw [if_pos (Or.inr h1), decide_eq_false (fun z => h0 z.1)]
          exact (pS_k (x := x) (y := y) ha hb (by omega)).symm
        · rw [if_neg (by omega)]
theorem truS_dv (x : Option vT) : truS x = truS (some (dv x)) := by
  cases x with
  | none => rfl
  | some v => rfl
theorem kdO_dv (x : Option vT) : kdO x = (dv x).1.1 ∧ nmO x = (dv x).1.2.1 := by
  cases x with
  | none => exact ⟨rfl, rfl⟩
  | some v => exact ⟨rfl, rfl⟩
theorem crZ {β : Bool} {cd : Nat → Option Instr} {own pc : Nat} {rt : Option FieldType × Bool} {lo : jx_L} {H : jx_H} {c : Int} (h : c = 0 ∨ c = 1) (hr : rt.1 = some .boolean) : jx_do (jz β) cd own pc rt .ireturn lo [.int (Int32.ofInt c)] H = some (.inr (.inr (.inl (some (.int (Int32.ofInt c)))))) := by
  have e : fits .boolean (.int (Int32.ofInt c)) = true := by rcases h with rfl | rfl <;> decide
  simp only [jx_do, hr, e]
  rfl
theorem bi_z (b : Bool) : (if b = true then (1 : Int) else 0) = 0 ∨ (if b = true then (1 : Int) else 0) = 1 := by cases b <;> simp
theorem jc_holds {β : Bool} {d : Nat} {h : jx_H} {κ : mS} (hl : 50 ≤ h.length) {X : Nat → Prop} {sp it : Nat} {e : sE} {v : vT} (hsp : spR h X sp e) (he : stO e) (h4 : e.1 = 4) (hv : vR h X it v) (hok : vok v) (hcn : cnV v) (hdp : fdp v.2 ≤ 8) : jx_r (jz β) jw_M (d + 12) 170 (0, [some (.ref 10), some (.ref sp), some (.ref it), none, none], [], (cl_mk h κ)) (cl_mk h (κ), .inl (some (.int (Int32.ofInt (if holS e.2.2.2.1 e.2.2.2.2.1 e.2.2.2.2.2 v = true then 1 else 0))))) := by
  obtain ⟨z, kt, le, ri, oA, -, ho⟩ := hsp
  have z1 := z.1
  have z2 := z.2.1
  obtain ⟨⟨lb, rfl, hlb⟩, hri⟩ := ho h4
  obtain ⟨sl, s4⟩ := he.2.2.2.1 h4
  obtain ⟨sg, esg⟩ : ∃ sg, sg = cgg e := ⟨_, rfl⟩
  have esg2 : sg = csg e.2.2.2.1 := by rw [esg]; exact if_pos h4
  rw [← esg] at oA
  obtain ⟨lc, c1, q1⟩ := jc_sdV (β := β) (d := d + 8) (κ := κ) hl hlb sl hv hok
  have q1 : vQ h X lc (sval e.2.2.2.2.1 v) := by rcases q1 with q | q <;> exact q
  obtain ⟨x, ex⟩ : ∃ x, x = sval e.2.2.2.2.1 v := ⟨_, rfl⟩
  rw [← ex] at q1
  have hx := vR_O (κ := κ) hl (vQ_R q1)
  have xok : vok (dv x) := by rw [ex]; exact svl_ok sl hok
  have xcn : cnV (dv x) ∧ fdp (dv x).2 ≤ 8 := by rw [ex]; exact sval_I hcn hdp
  obtain ⟨l0, t, ka, ia, kc, ic, f, g, ⟨l1, l2⟩, hA, -⟩ := id hx
  by_cases g0 : e.2.2.2.1 = 0
  · have hr0 : ri = .null := by
      rcases hri with q | q
      · exact q.2
      · exact absurd g0 q.1
    subst hr0
    have r0 : e.2.2.2.2.2.1 = 0 := by
      rcases s4 with q | q
      · exact q.1
      · have := q.2.1
        omega
    have hsg : sg = 0 := by rw [esg2, g0]; rfl
    have eh : holS e.2.2.2.1 e.2.2.2.2.1 e.2.2.2.2.2 v = truS (some (dv x)) := by
      unfold holS
      rw [if_pos r0, ← ex, truS_dv]
    rw [eh]
    have c2 := jc_true (β := β) (d := d + 8) hl hx xok.1 xcn.1.1
    obtain ⟨bt, ebt⟩ : ∃ bt : Int, bt = if truS (some (dv x)) = true then 1 else 0 := ⟨_, rfl⟩
    have hbt : bt = 0 ∨ bt = 1 := by rw [ebt]; exact bi_z _
    have c2 : jx_r (jz β) jw_M (d + 11) 172 (0, [some (.ref lc)], [], (cl_mk h κ)) (cl_mk h (κ), .inl (some (.int (Int32.ofInt (bt))))) := by rw [ebt]; exact c2
    rw [← ebt]
    refine jr_1 jm_170 (show jw_cd cd_170 0 = some (.aload_n 0) by decide +kernel) rfl ?_
    refine jr_1 jm_170 (show jw_cd cd_170 1 = some (.aload_n 1) by decide +kernel) rfl ?_
    refine jr_1 jm_170 (show jw_cd cd_170 2 = some (.getfield 129) by decide +kernel) (js_getf (cl_old hl ⟨by omega, oA⟩) (jbg (by omega)) (show jw_fld 9 129 14 = some 5 by decide +kernel) rfl) ?_
    refine jr_1 jm_170 (show jw_cd cd_170 5 = some (.aload_n 2) by decide +kernel) rfl ?_
    refine jr_c jm_170 (show jw_cd cd_170 6 = some (.invokevirtual 133) by decide +kernel) (ccv (n := 2) (m2 := 171) (ci := 6) (a := 10) (bs := [.ref lb, .ref it]) (r := []) (js_cls cl_c10 (by decide)) (show jw_find jw_cvT 9 133 = some (2, [(6, 171)]) by decide +kernel) (by decide) rfl rfl rfl) jm_171 ⟨Nat.le_of_ble_eq_true rfl, by decide⟩ c1 ?_
    refine jr_1 jm_170 (F2 := (10, [some (.ref 10), some (.ref sp), some (.ref it), some (.ref lc), none], [], (cl_mk h κ))) (show jw_cd cd_170 9 = some (.astore_n 3) by decide +kernel) rfl ?_
    refine jr_1 jm_170 (show jw_cd cd_170 10 = some (.aload_n 1) by decide +kernel) rfl ?_
    refine jr_1 jm_170 (show jw_cd cd_170 11 = some (.getfield 137) by decide +kernel) (js_getf (cl_old hl ⟨by omega, oA⟩) (jbg (by omega)) (show jw_fld 9 137 14 = some 6 by decide +kernel) rfl) ?_
    refine jr_1 jm_170 (show jw_cd cd_170 14 = some (.ifCond .ne 8) by decide +kernel) (mz_f (q := .ne) (a := sg) (by show ¬ (¬ (sg = 0)); omega) ⟨by omega, by omega⟩ (by decide)) ?_
    refine jr_1 jm_170 (show jw_cd cd_170 17 = some (.aload_n 3) by decide +kernel) rfl ?_
    refine jr_c jm_170 (show jw_cd cd_170 18 = some (.invokevirtual 140) by decide +kernel) (ccv (n := 0) (m2 := 172) (ci := 5) (a := lc) (bs := []) (r := []) (js_cls hA (jbg (by omega))) (show jw_find jw_cvT 9 140 = some (0, [(5, 172)]) by decide +kernel) (by decide) rfl rfl rfl) jm_172 ⟨Nat.le_of_ble_eq_true rfl, by decide⟩ c2 ?_
    exact jr_v jm_170 (show jw_cd cd_170 21 = some (.ireturn) by decide +kernel) (crZ hbt rfl)
  obtain ⟨rb, rfl, hrb⟩ : ∃ rb, ri = .ref rb ∧ cdR h X rb e.2.2.2.2.2 := by
    rcases hri with q | q
    · exact absurd q.1 g0
    · exact q.2
  obtain ⟨sr, g1, g6⟩ : sdO e.2.2.2.2.2 ∧ 1 ≤ e.2.2.2.1 ∧ e.2.2.2.1 ≤ 6 := by
    rcases s4 with q | q
    · exact absurd q.2 g0
    · exact q
  have r0 : ¬ e.2.2.2.2.2.1 = 0 := by have := sr.1.1; omega
  obtain ⟨rc, c2, q2⟩ := jc_sdV (β := β) (d := d + 8) (κ := κ) hl hrb sr hv hok
  have q2 : vQ h X rc (sval e.2.2.2.2.2 v) := by rcases q2 with q | q <;> exact q
  obtain ⟨y, ey⟩ : ∃ y, y = sval e.2.2.2.2.2 v := ⟨_, rfl⟩
  rw [← ey] at q2
  have hy := vR_O (κ := κ) hl (vQ_R q2)
  have yok : vok (dv y) := by rw [ey]; exact svl_ok sr hok
  have ycn : cnV (dv y) ∧ fdp (dv y).2 ≤ 8 := by rw [ey]; exact sval_I hcn hdp
  obtain ⟨ql0, qt, qka, qia, qkc, qic, qf, qg, ⟨ql1, ql2⟩, hqA, -⟩ := id hy
  have eh : holS e.2.2.2.1 e.2.2.2.2.1 e.2.2.2.2.2 v = cmpS e.2.2.2.1 x y := by
    unfold holS
    rw [if_neg r0, ← ex, ← ey]
  rw [eh]
  obtain ⟨gg, eg⟩ : ∃ gg, gg = e.2.2.2.1 := ⟨_, rfl⟩
  rw [← eg] at g0 g1 g6 esg2 ⊢
  have c3 := jc_smV (β := β) (d := d + 11) (k := 0) (m := 8) (jc_smI _) hl hx hy xok.1 yok.1 xok.2 yok.2 xcn.1 ycn.1 xcn.2 (by omega) (by have := xcn.2; omega) ycn.2
  have es := eqS_dv xcn.1 ycn.1
  have xk := xok.1.1
  have xk2 := xok.1.2.1
  have yk := yok.1.1
  have yk2 := yok.1.2.1
  have c3 : jx_r (jz β) jw_M (d + 11) 173 (0, [some (.ref lc), some (.ref rc), some (.int (Int32.ofInt (0))), none, none, none], [], (cl_mk h κ)) (cl_mk h (κ), .inl (some (.int (Int32.ofInt (if eqS x y = true then 1 else 0))))) := by rw [es]; exact c3
  by_cases h1 : gg = 1
  · have hsg : sg = 1 := by rw [esg2, h1]; rfl
    have ec : cmpS gg x y = eqS x y := by unfold cmpS; rw [if_pos h1]
    rw [ec]
    cases hb : eqS x y with
    | true =>
      rw [hb] at c3
      obtain ⟨bs, ebs⟩ : ∃ bs : Int, bs = 1 := ⟨_, rfl⟩
      have c3 : jx_r (jz β) jw_M (d + 11) 173 (0, [some (.ref lc), some (.ref rc), some (.int (Int32.ofInt (0))), none, none, none], [], (cl_mk h κ)) (cl_mk h (κ), .inl (some (.int (Int32.ofInt (bs))))) := by rw [ebs]; exact c3
      show jx_r (jz β) jw_M (d + 12) 170 (0, [some (.ref 10), some (.ref sp), some (.ref it), none, none], [], (cl_mk h κ)) (cl_mk h (κ), .inl (some (.int (Int32.ofInt (1)))))
      refine jr_1 jm_170 (show jw_cd cd_170 0 = some (.aload_n 0) by decide +kernel) rfl ?_
      refine jr_1 jm_170 (show jw_cd cd_170 1 = some (.aload_n 1) by decide +kernel) rfl ?_
      refine jr_1 jm_170 (show jw_cd cd_170 2 = some (.getfield 129) by decide +kernel) (js_getf (cl_old hl ⟨by omega, oA⟩) (jbg (by omega)) (show jw_fld 9 129 14 = some 5 by decide +kernel) rfl) ?_
      refine jr_1 jm_170 (show jw_cd cd_170 5 = some (.aload_n 2) by decide +kernel) rfl ?_
      refine jr_c jm_170 (show jw_cd cd_170 6 = some (.invokevirtual 133) by decide +kernel) (ccv (n := 2) (m2 := 171) (ci := 6) (a := 10) (bs := [.ref lb, .ref it]) (r := []) (js_cls cl_c10 (by decide)) (show jw_find jw_cvT 9 133 = some (2, [(6, 171)]) by decide +kernel) (by decide) rfl rfl rfl) jm_171 ⟨Nat.le_of_ble_eq_true rfl, by decide⟩ c1 ?_
      refine jr_1 jm_170 (F2 := (10, [some (.ref 10), some (.ref sp), some (.ref it), some (.ref lc), none], [], (cl_mk h κ))) (show jw_cd cd_170 9 = some (.astore_n 3) by decide +kernel) rfl ?_
      refine jr_1 jm_170 (show jw_cd cd_170 10 = some (.aload_n 1) by decide +kernel) rfl ?_
      refine jr_1 jm_170 (show jw_cd cd_170 11 = some (.getfield 137) by decide +kernel) (js_getf (cl_old hl ⟨by omega, oA⟩) (jbg (by omega)) (show jw_fld 9 137 14 = some 6 by decide +kernel) rfl) ?_
      refine jr_1 jm_170 (show jw_cd cd_170 14 = some (.ifCond .ne 8) by decide +kernel) (mz_t (q := .ne) (a := sg) (t := 22) (by show ¬ (sg = 0); omega) ⟨by omega, by omega⟩ (by decide) (by decide)) ?_
      refine jr_1 jm_170 (show jw_cd cd_170 22 = some (.aload_n 0) by decide +kernel) rfl ?_
      refine jr_1 jm_170 (show jw_cd cd_170 23 = some (.aload_n 1) by decide +kernel) rfl ?_
      refine jr_1 jm_170 (show jw_cd cd_170 24 = some (.getfield 144) by decide +kernel) (js_getf (cl_old hl ⟨by omega, oA⟩) (jbg (by omega)) (show jw_fld 9 144 14 = some 7 by decide +kernel) rfl) ?_
      refine jr_1 jm_170 (show jw_cd cd_170 27 = some (.aload_n 2) by decide +kernel) rfl ?_
      refine jr_c jm_170 (show jw_cd cd_170 28 = some (.invokevirtual 133) by decide +kernel) (ccv (n := 2) (m2 := 171) (ci := 6) (a := 10) (bs := [.ref rb, .ref it]) (r := []) (js_cls cl_c10 (by decide)) (show jw_find jw_cvT 9 133 = some (2, [(6, 171)]) by decide +kernel) (by decide) rfl rfl rfl) jm_171 ⟨Nat.le_of_ble_eq_true rfl, by decide⟩ c2 ?_
      refine jr_1 jm_170 (F2 := (33, [some (.ref 10), some (.ref sp), some (.ref it), some (.ref lc), some (.ref rc)], [], (cl_mk h κ))) (show jw_cd cd_170 31 = some (.astore 4) by decide +kernel) rfl ?_
      refine jr_1 jm_170 (show jw_cd cd_170 33 = some (.aload_n 1) by decide +kernel) rfl ?_
      refine jr_1 jm_170 (show jw_cd cd_170 34 = some (.getfield 137) by decide +kernel) (js_getf (cl_old hl ⟨by omega, oA⟩) (jbg (by omega)) (show jw_fld 9 137 14 = some 6 by decide +kernel) rfl) ?_
      refine jr_1 jm_170 (show jw_cd cd_170 37 = some (.iconst 1) by decide +kernel) rfl ?_
      refine jr_1 jm_170 (show jw_cd cd_170 38 = some (.if_icmp .eq 11) by decide +kernel) (mb_t (q := .eq) (a := sg) (b := 1) (t := 49) (by show sg = 1; omega) ⟨by omega, by omega⟩ ⟨by omega, by omega⟩ (by decide) (by decide)) ?_
      refine jr_1 jm_170 (show jw_cd cd_170 49 = some (.aload_n 3) by decide +kernel) rfl ?_
      refine jr_1 jm_170 (show jw_cd cd_170 50 = some (.aload 4) by decide +kernel) rfl ?_
      refine jr_1 jm_170 (show jw_cd cd_170 52 = some (.iconst 0) by decide +kernel) rfl ?_
      refine jr_c jm_170 (show jw_cd cd_170 53 = some (.invokevirtual 147) by decide +kernel) (ccv (n := 2) (m2 := 173) (ci := 5) (a := lc) (bs := [.ref rc, .int (Int32.ofInt (0))]) (r := []) (js_cls hA (jbg (by omega))) (show jw_find jw_cvT 9 147 = some (2, [(5, 173)]) by decide +kernel) (by decide) rfl rfl rfl) jm_173 ⟨Nat.le_of_ble_eq_true rfl, by decide⟩ c3 ?_
      refine jr_1 jm_170 (show jw_cd cd_170 56 = some (.aload_n 1) by decide +kernel) rfl ?_
      refine jr_1 jm_170 (show jw_cd cd_170 57 = some (.getfield 137) by decide +kernel) (js_getf (cl_old hl ⟨by omega, oA⟩) (jbg (by omega)) (show jw_fld 9 137 14 = some 6 by decide +kernel) rfl) ?_
      refine jr_1 jm_170 (show jw_cd cd_170 60 = some (.iconst 1) by decide +kernel) rfl ?_
      refine jr_1 jm_170 (show jw_cd cd_170 61 = some (.if_icmp .ne 7) by decide +kernel) (mb_f (q := .ne) (a := sg) (b := 1) (by show ¬ (¬ (sg = 1)); omega) ⟨by omega, by omega⟩ ⟨by omega, by omega⟩ (by decide)) ?_
      refine jr_1 jm_170 (show jw_cd cd_170 64 = some (.iconst 1) by decide +kernel) rfl ?_
      refine jr_1 jm_170 (show jw_cd cd_170 65 = some (.goto 4) by decide +kernel) (ju_go (t := 69) (by decide)) ?_
      refine jr_1 jm_170 (show jw_cd cd_170 69 = some (.if_icmp .ne 7) by decide +kernel) (mb_f (q := .ne) (a := bs) (b := 1) (by show ¬ (¬ (bs = 1)); omega) ⟨by omega, by omega⟩ ⟨by omega, by omega⟩ (by decide)) ?_
      refine jr_1 jm_170 (show jw_cd cd_170 72 = some (.iconst 1) by decide +kernel) rfl ?_
      refine jr_1 jm_170 (show jw_cd cd_170 73 = some (.goto 4) by decide +kernel) (ju_go (t := 77) (by decide)) ?_
      exact jr_v jm_170 (show jw_cd cd_170 77 = some (.ireturn) by decide +kernel) rfl
    | false =>
      rw [hb] at c3
      obtain ⟨bs, ebs⟩ : ∃ bs : Int, bs = 0 := ⟨_, rfl⟩
      have c3 : jx_r (jz β) jw_M (d + 11) 173 (0, [some (.ref lc), some (.ref rc), some (.int (Int32.ofInt (0))), none, none, none], [], (cl_mk h κ)) (cl_mk h (κ), .inl (some (.int (Int32.ofInt (bs))))) := by rw [ebs]; exact c3
      show jx_r (jz β) jw_M (d + 12) 170 (0, [some (.ref 10), some (.ref sp), some (.ref it), none, none], [], (cl_mk h κ)) (cl_mk h (κ), .inl (some (.int (Int32.ofInt (0)))))
      refine jr_1 jm_170 (show jw_cd cd_170 0 = some (.aload_n 0) by decide +kernel) rfl ?_
      refine jr_1 jm_170 (show jw_cd cd_170 1 = some (.aload_n 1) by decide +kernel) rfl ?_
      refine jr_1 jm_170 (show jw_cd cd_170 2 = some (.getfield 129) by decide +kernel) (js_getf (cl_old hl ⟨by omega, oA⟩) (jbg (by omega)) (show jw_fld 9 129 14 = some 5 by decide +kernel) rfl) ?_
      refine jr_1 jm_170 (show jw_cd cd_170 5 = some (.aload_n 2) by decide +kernel) rfl ?_
      refine jr_c jm_170 (show jw_cd cd_170 6 = some (.invokevirtual 133) by decide +kernel) (ccv (n := 2) (m2 := 171) (ci := 6) (a := 10) (bs := [.ref lb, .ref it]) (r := []) (js_cls cl_c10 (by decide)) (show jw_find jw_cvT 9 133 = some (2, [(6, 171)]) by decide +kernel) (by decide) rfl rfl rfl) jm_171 ⟨Nat.le_of_ble_eq_true rfl, by decide⟩ c1 ?_
      refine jr_1 jm_170 (F2 := (10, [some (.ref 10), some (.ref sp), some (.ref it), some (.ref lc), none], [], (cl_mk h κ))) (show jw_cd cd_170 9 = some (.astore_n 3) by decide +kernel) rfl ?_
      refine jr_1 jm_170 (show jw_cd cd_170 10 = some (.aload_n 1) by decide +kernel) rfl ?_
      refine jr_1 jm_170 (show jw_cd cd_170 11 = some (.getfield 137) by decide +kernel) (js_getf (cl_old hl ⟨by omega, oA⟩) (jbg (by omega)) (show jw_fld 9 137 14 = some 6 by decide +kernel) rfl) ?_
      refine jr_1 jm_170 (show jw_cd cd_170 14 = some (.ifCond .ne 8) by decide +kernel) (mz_t (q := .ne) (a := sg) (t := 22) (by show ¬ (sg = 0); omega) ⟨by omega, by omega⟩ (by decide) (by decide)) ?_
      refine jr_1 jm_170 (show jw_cd cd_170 22 = some (.aload_n 0) by decide +kernel) rfl ?_
      refine jr_1 jm_170 (show jw_cd cd_170 23 = some (.aload_n 1) by decide +kernel) rfl ?_
      refine jr_1 jm_170 (show jw_cd cd_170 24 = some (.getfield 144) by decide +kernel) (js_getf (cl_old hl ⟨by omega, oA⟩) (jbg (by omega)) (show jw_fld 9 144 14 = some 7 by decide +kernel) rfl) ?_
      refine jr_1 jm_170 (show jw_cd cd_170 27 = some (.aload_n 2) by decide +kernel) rfl ?_
      refine jr_c jm_170 (show jw_cd cd_170 28 = some (.invokevirtual 133) by decide +kernel) (ccv (n := 2) (m2 := 171) (ci := 6) (a := 10) (bs := [.ref rb, .ref it]) (r := []) (js_cls cl_c10 (by decide)) (show jw_find jw_cvT 9 133 = some (2, [(6, 171)]) by decide +kernel) (by decide) rfl rfl rfl) jm_171 ⟨Nat.le_of_ble_eq_true rfl, by decide⟩ c2 ?_
      refine jr_1 jm_170 (F2 := (33, [some (.ref 10), some (.ref sp), some (.ref it), some (.ref lc), some (.ref rc)], [], (cl_mk h κ))) (show jw_cd cd_170 31 = some (.astore 4) by decide +kernel) rfl ?_
      refine jr_1 jm_170 (show jw_cd cd_170 33 = some (.aload_n 1) by decide +kernel) rfl ?_
      refine jr_1 jm_170 (show jw_cd cd_170 34 = some (.getfield 137) by decide +kernel) (js_getf (cl_old hl ⟨by omega, oA⟩) (jbg (by omega)) (show jw_fld 9 137 14 = some 6 by decide +kernel) rfl) ?_
      refine jr_1 jm_170 (show jw_cd cd_170 37 = some (.iconst 1) by decide +kernel) rfl ?_
      refine jr_1 jm_170 (show jw_cd cd_170 38 = some (.if_icmp .eq 11) by decide +kernel) (mb_t (q := .eq) (a := sg) (b := 1) (t := 49) (by show sg = 1; omega) ⟨by omega, by omega⟩ ⟨by omega, by omega⟩ (by decide) (by decide)) ?_
      refine jr_1 jm_170 (show jw_cd cd_170 49 = some (.aload_n 3) by decide +kernel) rfl ?_
      refine jr_1 jm_170 (show jw_cd cd_170 50 = some (.aload 4) by decide +kernel) rfl ?_
      refine jr_1 jm_170 (show jw_cd cd_170 52 = some (.iconst 0) by decide +kernel) rfl ?_
      refine jr_c jm_170 (show jw_cd cd_170 53 = some (.invokevirtual 147) by decide +kernel) (ccv (n := 2) (m2 := 173) (ci := 5) (a := lc) (bs := [.ref rc, .int (Int32.ofInt (0))]) (r := []) (js_cls hA (jbg (by omega))) (show jw_find jw_cvT 9 147 = some (2, [(5, 173)]) by decide +kernel) (by decide) rfl rfl rfl) jm_173 ⟨Nat.le_of_ble_eq_true rfl, by decide⟩ c3 ?_
      refine jr_1 jm_170 (show jw_cd cd_170 56 = some (.aload_n 1) by decide +kernel) rfl ?_
      refine jr_1 jm_170 (show jw_cd cd_170 57 = some (.getfield 137) by decide +kernel) (js_getf (cl_old hl ⟨by omega, oA⟩) (jbg (by omega)) (show jw_fld 9 137 14 = some 6 by decide +kernel) rfl) ?_
      refine jr_1 jm_170 (show jw_cd cd_170 60 = some (.iconst 1) by decide +kernel) rfl ?_
      refine jr_1 jm_170 (show jw_cd cd_170 61 = some (.if_icmp .ne 7) by decide +kernel) (mb_f (q := .ne) (a := sg) (b := 1) (by show ¬ (¬ (sg = 1)); omega) ⟨by omega, by omega⟩ ⟨by omega, by omega⟩ (by decide)) ?_
      refine jr_1 jm_170 (show jw_cd cd_170 64 = some (.iconst 1) by decide +kernel) rfl ?_
      refine jr_1 jm_170 (show jw_cd cd_170 65 = some (.goto 4) by decide +kernel) (ju_go (t := 69) (by decide)) ?_
      refine jr_1 jm_170 (show jw_cd cd_170 69 = some (.if_icmp .ne 7) by decide +kernel) (mb_t (q := .ne) (a := bs) (b := 1) (t := 76) (by show ¬ (bs = 1); omega) ⟨by omega, by omega⟩ ⟨by omega, by omega⟩ (by decide) (by decide)) ?_
      refine jr_1 jm_170 (show jw_cd cd_170 76 = some (.iconst 0) by decide +kernel) rfl ?_
      exact jr_v jm_170 (show jw_cd cd_170 77 = some (.ireturn) by decide +kernel) rfl
  by_cases h2 : gg = 2
  · have hsg : sg = 2 := by rw [esg2, h2]; rfl
    have ec : cmpS gg x y = !eqS x y := by unfold cmpS; rw [if_neg h1, if_pos h2]
    rw [ec]
    cases hb : eqS x y with
    | true =>
      rw [hb] at c3
      obtain ⟨bs, ebs⟩ : ∃ bs : Int, bs = 1 := ⟨_, rfl⟩
      have c3 : jx_r (jz β) jw_M (d + 11) 173 (0, [some (.ref lc), some (.ref rc), some (.int (Int32.ofInt (0))), none, none, none], [], (cl_mk h κ)) (cl_mk h (κ), .inl (some (.int (Int32.ofInt (bs))))) := by rw [ebs]; exact c3
      show jx_r (jz β) jw_M (d + 12) 170 (0, [some (.ref 10), some (.ref sp), some (.ref it), none, none], [], (cl_mk h κ)) (cl_mk h (κ), .inl (some (.int (Int32.ofInt (0)))))
      refine jr_1 jm_170 (show jw_cd cd_170 0 = some (.aload_n 0) by decide +kernel) rfl ?_
      refine jr_1 jm_170 (show jw_cd cd_170 1 = some (.aload_n 1) by decide +kernel) rfl ?_
      refine jr_1 jm_170 (show jw_cd cd_170 2 = some (.getfield 129) by decide +kernel) (js_getf (cl_old hl ⟨by omega, oA⟩) (jbg (by omega)) (show jw_fld 9 129 14 = some 5 by decide +kernel) rfl) ?_
      refine jr_1 jm_170 (show jw_cd cd_170 5 = some (.aload_n 2) by decide +kernel) rfl ?_
      refine jr_c jm_170 (show jw_cd cd_170 6 = some (.invokevirtual 133) by decide +kernel) (ccv (n := 2) (m2 := 171) (ci := 6) (a := 10) (bs := [.ref lb, .ref it]) (r := []) (js_cls cl_c10 (by decide)) (show jw_find jw_cvT 9 133 = some (2, [(6, 171)]) by decide +kernel) (by decide) rfl rfl rfl) jm_171 ⟨Nat.le_of_ble_eq_true rfl, by decide⟩ c1 ?_
      refine jr_1 jm_170 (F2 := (10, [some (.ref 10), some (.ref sp), some (.ref it), some (.ref lc), none], [], (cl_mk h κ))) (show jw_cd cd_170 9 = some (.astore_n 3) by decide +kernel) rfl ?_
      refine jr_1 jm_170 (show jw_cd cd_170 10 = some (.aload_n 1) by decide +kernel) rfl ?_
      refine jr_1 jm_170 (show jw_cd cd_170 11 = some (.getfield 137) by decide +kernel) (js_getf (cl_old hl ⟨by omega, oA⟩) (jbg (by omega)) (show jw_fld 9 137 14 = some 6 by decide +kernel) rfl) ?_
      refine jr_1 jm_170 (show jw_cd cd_170 14 = some (.ifCond .ne 8) by decide +kernel) (mz_t (q := .ne) (a := sg) (t := 22) (by show ¬ (sg = 0); omega) ⟨by omega, by omega⟩ (by decide) (by decide)) ?_
      refine jr_1 jm_170 (show jw_cd cd_170 22 = some (.aload_n 0) by decide +kernel) rfl ?_
      refine jr_1 jm_170 (show jw_cd cd_170 23 = some (.aload_n 1) by decide +kernel) rfl ?_
      refine jr_1 jm_170 (show jw_cd cd_170 24 = some (.getfield 144) by decide +kernel) (js_getf (cl_old hl ⟨by omega, oA⟩) (jbg (by omega)) (show jw_fld 9 144 14 = some 7 by decide +kernel) rfl) ?_
      refine jr_1 jm_170 (show jw_cd cd_170 27 = some (.aload_n 2) by decide +kernel) rfl ?_
      refine jr_c jm_170 (show jw_cd cd_170 28 = some (.invokevirtual 133) by decide +kernel) (ccv (n := 2) (m2 := 171) (ci := 6) (a := 10) (bs := [.ref rb, .ref it]) (r := []) (js_cls cl_c10 (by decide)) (show jw_find jw_cvT 9 133 = some (2, [(6, 171)]) by decide +kernel) (by decide) rfl rfl rfl) jm_171 ⟨Nat.le_of_ble_eq_true rfl, by decide⟩ c2 ?_
      refine jr_1 jm_170 (F2 := (33, [some (.ref 10), some (.ref sp), some (.ref it), some (.ref lc), some (.ref rc)], [], (cl_mk h κ))) (show jw_cd cd_170 31 = some (.astore 4) by decide +kernel) rfl ?_
      refine jr_1 jm_170 (show jw_cd cd_170 33 = some (.aload_n 1) by decide +kernel) rfl ?_
      refine jr_1 jm_170 (show jw_cd cd_170 34 = some (.getfield 137) by decide +kernel) (js_getf (cl_old hl ⟨by omega, oA⟩) (jbg (by omega)) (show jw_fld 9 137 14 = some 6 by decide +kernel) rfl) ?_
      refine jr_1 jm_170 (show jw_cd cd_170 37 = some (.iconst 1) by decide +kernel) rfl ?_
      refine jr_1 jm_170 (show jw_cd cd_170 38 = some (.if_icmp .eq 11) by decide +kernel) (mb_f (q := .eq) (a := sg) (b := 1) (by show ¬ (sg = 1); omega) ⟨by omega, by omega⟩ ⟨by omega, by omega⟩ (by decide)) ?_
      refine jr_1 jm_170 (show jw_cd cd_170 41 = some (.aload_n 1) by decide +kernel) rfl ?_
      refine jr_1 jm_170 (show jw_cd cd_170 42 = some (.getfield 137) by decide +kernel) (js_getf (cl_old hl ⟨by omega, oA⟩) (jbg (by omega)) (show jw_fld 9 137 14 = some 6 by decide +kernel) rfl) ?_
      refine jr_1 jm_170 (show jw_cd cd_170 45 = some (.iconst 2) by decide +kernel) rfl ?_
      refine jr_1 jm_170 (show jw_cd cd_170 46 = some (.if_icmp .ne 32) by decide +kernel) (mb_f (q := .ne) (a := sg) (b := 2) (by show ¬ (¬ (sg = 2)); omega) ⟨by omega, by omega⟩ ⟨by omega, by omega⟩ (by decide)) ?_
      refine jr_1 jm_170 (show jw_cd cd_170 49 = some (.aload_n 3) by decide +kernel) rfl ?_
      refine jr_1 jm_170 (show jw_cd cd_170 50 = some (.aload 4) by decide +kernel) rfl ?_
      refine jr_1 jm_170 (show jw_cd cd_170 52 = some (.iconst 0) by decide +kernel) rfl ?_
      refine jr_c jm_170 (show jw_cd cd_170 53 = some (.invokevirtual 147) by decide +kernel) (ccv (n := 2) (m2 := 173) (ci := 5) (a := lc) (bs := [.ref rc, .int (Int32.ofInt (0))]) (r := []) (js_cls hA (jbg (by omega))) (show jw_find jw_cvT 9 147 = some (2, [(5, 173)]) by decide +kernel) (by decide) rfl rfl rfl) jm_173 ⟨Nat.le_of_ble_eq_true rfl, by decide⟩ c3 ?_
      refine jr_1 jm_170 (show jw_cd cd_170 56 = some (.aload_n 1) by decide +kernel) rfl ?_
      refine jr_1 jm_170 (show jw_cd cd_170 57 = some (.getfield 137) by decide +kernel) (js_getf (cl_old hl ⟨by omega, oA⟩) (jbg (by omega)) (show jw_fld 9 137 14 = some 6 by decide +kernel) rfl) ?_
      refine jr_1 jm_170 (show jw_cd cd_170 60 = some (.iconst 1) by decide +kernel) rfl ?_
      refine jr_1 jm_170 (show jw_cd cd_170 61 = some (.if_icmp .ne 7) by decide +kernel) (mb_t (q := .ne) (a := sg) (b := 1) (t := 68) (by show ¬ (sg = 1); omega) ⟨by omega, by omega⟩ ⟨by omega, by omega⟩ (by decide) (by decide)) ?_
      refine jr_1 jm_170 (show jw_cd cd_170 68 = some (.iconst 0) by decide +kernel) rfl ?_
      refine jr_1 jm_170 (show jw_cd cd_170 69 = some (.if_icmp .ne 7) by decide +kernel) (mb_t (q := .ne) (a := bs) (b := 0) (t := 76) (by show ¬ (bs = 0); omega) ⟨by omega, by omega⟩ ⟨by omega, by omega⟩ (by decide) (by decide)) ?_
      refine jr_1 jm_170 (show jw_cd cd_170 76 = some (.iconst 0) by decide +kernel) rfl ?_
      exact jr_v jm_170 (show jw_cd cd_170 77 = some (.ireturn) by decide +kernel) rfl
    | false =>
      rw [hb] at c3
      obtain ⟨bs, ebs⟩ : ∃ bs : Int, bs = 0 := ⟨_, rfl⟩
      have c3 : jx_r (jz β) jw_M (d + 11) 173 (0, [some (.ref lc), some (.ref rc), some (.int (Int32.ofInt (0))), none, none, none], [], (cl_mk h κ)) (cl_mk h (κ), .inl (some (.int (Int32.ofInt (bs))))) := by rw [ebs]; exact c3
      show jx_r (jz β) jw_M (d + 12) 170 (0, [some (.ref 10), some (.ref sp), some (.ref it), none, none], [], (cl_mk h κ)) (cl_mk h (κ), .inl (some (.int (Int32.ofInt (1)))))
      refine jr_1 jm_170 (show jw_cd cd_170 0 = some (.aload_n 0) by decide +kernel) rfl ?_
      refine jr_1 jm_170 (show jw_cd cd_170 1 = some (.aload_n 1) by decide +kernel) rfl ?_
      refine jr_1 jm_170 (show jw_cd cd_170 2 = some (.getfield 129) by decide +kernel) (js_getf (cl_old hl ⟨by omega, oA⟩) (jbg (by omega)) (show jw_fld 9 129 14 = some 5 by decide +kernel) rfl) ?_
      refine jr_1 jm_170 (show jw_cd cd_170 5 = some (.aload_n 2) by decide +kernel) rfl ?_
      refine jr_c jm_170 (show jw_cd cd_170 6 = some (.invokevirtual 133) by decide +kernel) (ccv (n := 2) (m2 := 171) (ci := 6) (a := 10) (bs := [.ref lb, .ref it]) (r := []) (js_cls cl_c10 (by decide)) (show jw_find jw_cvT 9 133 = some (2, [(6, 171)]) by decide +kernel) (by decide) rfl rfl rfl) jm_171 ⟨Nat.le_of_ble_eq_true rfl, by decide⟩ c1 ?_
      refine jr_1 jm_170 (F2 := (10, [some (.ref 10), some (.ref sp), some (.ref it), some (.ref lc), none], [], (cl_mk h κ))) (show jw_cd cd_170 9 = some (.astore_n 3) by decide +kernel) rfl ?_
      refine jr_1 jm_170 (show jw_cd cd_170 10 = some (.aload_n 1) by decide +kernel) rfl ?_
      refine jr_1 jm_170 (show jw_cd cd_170 11 = some (.getfield 137) by decide +kernel) (js_getf (cl_old hl ⟨by omega, oA⟩) (jbg (by omega)) (show jw_fld 9 137 14 = some 6 by decide +kernel) rfl) ?_
      refine jr_1 jm_170 (show jw_cd cd_170 14 = some (.ifCond .ne 8) by decide +kernel) (mz_t (q := .ne) (a := sg) (t := 22) (by show ¬ (sg = 0); omega) ⟨by omega, by omega⟩ (by decide) (by decide)) ?_
      refine jr_1 jm_170 (show jw_cd cd_170 22 = some (.aload_n 0) by decide +kernel) rfl ?_
      refine jr_1 jm_170 (show jw_cd cd_170 23 = some (.aload_n 1) by decide +kernel) rfl ?_
      refine jr_1 jm_170 (show jw_cd cd_170 24 = some (.getfield 144) by decide +kernel) (js_getf (cl_old hl ⟨by omega, oA⟩) (jbg (by omega)) (show jw_fld 9 144 14 = some 7 by decide +kernel) rfl) ?_
      refine jr_1 jm_170 (show jw_cd cd_170 27 = some (.aload_n 2) by decide +kernel) rfl ?_
      refine jr_c jm_170 (show jw_cd cd_170 28 = some (.invokevirtual 133) by decide +kernel) (ccv (n := 2) (m2 := 171) (ci := 6) (a := 10) (bs := [.ref rb, .ref it]) (r := []) (js_cls cl_c10 (by decide)) (show jw_find jw_cvT 9 133 = some (2, [(6, 171)]) by decide +kernel) (by decide) rfl rfl rfl) jm_171 ⟨Nat.le_of_ble_eq_true rfl, by decide⟩ c2 ?_
      refine jr_1 jm_170 (F2 := (33, [some (.ref 10), some (.ref sp), some (.ref it), some (.ref lc), some (.ref rc)], [], (cl_mk h κ))) (show jw_cd cd_170 31 = some (.astore 4) by decide +kernel) rfl ?_
      refine jr_1 jm_170 (show jw_cd cd_170 33 = some (.aload_n 1) by decide +kernel) rfl ?_
      refine jr_1 jm_170 (show jw_cd cd_170 34 = some (.getfield 137) by decide +kernel) (js_getf (cl_old hl ⟨by omega, oA⟩) (jbg (by omega)) (show jw_fld 9 137 14 = some 6 by decide +kernel) rfl) ?_
      refine jr_1 jm_170 (show jw_cd cd_170 37 = some (.iconst 1) by decide +kernel) rfl ?_
      refine jr_1 jm_170 (show jw_cd cd_170 38 = some (.if_icmp .eq 11) by decide +kernel) (mb_f (q := .eq) (a := sg) (b := 1) (by show ¬ (sg = 1); omega) ⟨by omega, by omega⟩ ⟨by omega, by omega⟩ (by decide)) ?_
      refine jr_1 jm_170 (show jw_cd cd_170 41 = some (.aload_n 1) by decide +kernel) rfl ?_
      refine jr_1 jm_170 (show jw_cd cd_170 42 = some (.getfield 137) by decide +kernel) (js_getf (cl_old hl ⟨by omega, oA⟩) (jbg (by omega)) (show jw_fld 9 137 14 = some 6 by decide +kernel) rfl) ?_
      refine jr_1 jm_170 (show jw_cd cd_170 45 = some (.iconst 2) by decide +kernel) rfl ?_
      refine jr_1 jm_170 (show jw_cd cd_170 46 = some (.if_icmp .ne 32) by decide +kernel) (mb_f (q := .ne) (a := sg) (b := 2) (by show ¬ (¬ (sg = 2)); omega) ⟨by omega, by omega⟩ ⟨by omega, by omega⟩ (by decide)) ?_
      refine jr_1 jm_170 (show jw_cd cd_170 49 = some (.aload_n 3) by decide +kernel) rfl ?_
      refine jr_1 jm_170 (show jw_cd cd_170 50 = some (.aload 4) by decide +kernel) rfl ?_
      refine jr_1 jm_170 (show jw_cd cd_170 52 = some (.iconst 0) by decide +kernel) rfl ?_
      refine jr_c jm_170 (show jw_cd cd_170 53 = some (.invokevirtual 147) by decide +kernel) (ccv (n := 2) (m2 := 173) (ci := 5) (a := lc) (bs := [.ref rc, .int (Int32.ofInt (0))]) (r := []) (js_cls hA (jbg (by omega))) (show jw_find jw_cvT 9 147 = some (2, [(5, 173)]) by decide +kernel) (by decide) rfl rfl rfl) jm_173 ⟨Nat.le_of_ble_eq_true rfl, by decide⟩ c3 ?_
      refine jr_1 jm_170 (show jw_cd cd_170 56 = some (.aload_n 1) by decide +kernel) rfl ?_
      refine jr_1 jm_170 (show jw_cd cd_170 57 = some (.getfield 137) by decide +kernel) (js_getf (cl_old hl ⟨by omega, oA⟩) (jbg (by omega)) (show jw_fld 9 137 14 = some 6 by decide +kernel) rfl) ?_
      refine jr_1 jm_170 (show jw_cd cd_170 60 = some (.iconst 1) by decide +kernel) rfl ?_
      refine jr_1 jm_170 (show jw_cd cd_170 61 = some (.if_icmp .ne 7) by decide +kernel) (mb_t (q := .ne) (a := sg) (b := 1) (t := 68) (by show ¬ (sg = 1); omega) ⟨by omega, by omega⟩ ⟨by omega, by omega⟩ (by decide) (by decide)) ?_
      refine jr_1 jm_170 (show jw_cd cd_170 68 = some (.iconst 0) by decide +kernel) rfl ?_
      refine jr_1 jm_170 (show jw_cd cd_170 69 = some (.if_icmp .ne 7) by decide +kernel) (mb_f (q := .ne) (a := bs) (b := 0) (by show ¬ (¬ (bs = 0)); omega) ⟨by omega, by omega⟩ ⟨by omega, by omega⟩ (by decide)) ?_
      refine jr_1 jm_170 (show jw_cd cd_170 72 = some (.iconst 1) by decide +kernel) rfl ?_
      refine jr_1 jm_170 (show jw_cd cd_170 73 = some (.goto 4) by decide +kernel) (ju_go (t := 77) (by decide)) ?_
      exact jr_v jm_170 (show jw_cd cd_170 77 = some (.ireturn) by decide +kernel) rfl
  have hsg36 : 3 ≤ sg ∧ sg ≤ 6 := by
    rw [esg2]
    unfold csg
    obtain rfl | rfl | rfl | rfl : gg = 3 ∨ gg = 4 ∨ gg = 5 ∨ gg = 6 := by omega
    all_goals decide
  have ec : cmpS gg x y = decide ((dv x).1.1 = 3 ∧ (dv y).1.1 = 3 ∧ (if gg = 3 then (dv x).1.2.1 ≤ (dv y).1.2.1 else if gg = 4 then (dv y).1.2.1 ≤ (dv x).1.2.1 else if gg = 5 then (dv x).1.2.1 < (dv y).1.2.1 else (dv y).1.2.1 < (dv x).1.2.1)) := by
    unfold cmpS
    rw [if_neg h1, if_neg h2, (kdO_dv x).1, (kdO_dv y).1, (kdO_dv x).2, (kdO_dv y).2]
  rw [ec]
  have hn1 := xok.1.2.2.1
  have hn2 := yok.1.2.2.1
  by_cases hk1 : (dv x).1.1 = 3
  rotate_left
  · rw [if_neg (by rw [decide_eq_true_eq]; exact fun z => hk1 z.1)]
    refine jr_1 jm_170 (show jw_cd cd_170 0 = some (.aload_n 0) by decide +kernel) rfl ?_
    refine jr_1 jm_170 (show jw_cd cd_170 1 = some (.aload_n 1) by decide +kernel) rfl ?_
    refine jr_1 jm_170 (show jw_cd cd_170 2 = some (.getfield 129) by decide +kernel) (js_getf (cl_old hl ⟨by omega, oA⟩) (jbg (by omega)) (show jw_fld 9 129 14 = some 5 by decide +kernel) rfl) ?_
    refine jr_1 jm_170 (show jw_cd cd_170 5 = some (.aload_n 2) by decide +kernel) rfl ?_
    refine jr_c jm_170 (show jw_cd cd_170 6 = some (.invokevirtual 133) by decide +kernel) (ccv (n := 2) (m2 := 171) (ci := 6) (a := 10) (bs := [.ref lb, .ref it]) (r := []) (js_cls cl_c10 (by decide)) (show jw_find jw_cvT 9 133 = some (2, [(6, 171)]) by decide +kernel) (by decide) rfl rfl rfl) jm_171 ⟨Nat.le_of_ble_eq_true rfl, by decide⟩ c1 ?_
    refine jr_1 jm_170 (F2 := (10, [some (.ref 10), some (.ref sp), some (.ref it), some (.ref lc), none], [], (cl_mk h κ))) (show jw_cd cd_170 9 = some (.astore_n 3) by decide +kernel) rfl ?_
    refine jr_1 jm_170 (show jw_cd cd_170 10 = some (.aload_n 1) by decide +kernel) rfl ?_
    refine jr_1 jm_170 (show jw_cd cd_170 11 = some (.getfield 137) by decide +kernel) (js_getf (cl_old hl ⟨by omega, oA⟩) (jbg (by omega)) (show jw_fld 9 137 14 = some 6 by decide +kernel) rfl) ?_
    refine jr_1 jm_170 (show jw_cd cd_170 14 = some (.ifCond .ne 8) by decide +kernel) (mz_t (q := .ne) (a := sg) (t := 22) (by show ¬ (sg = 0); omega) ⟨by omega, by omega⟩ (by decide) (by decide)) ?_
    refine jr_1 jm_170 (show jw_cd cd_170 22 = some (.aload_n 0) by decide +kernel) rfl ?_
    refine jr_1 jm_170 (show jw_cd cd_170 23 = some (.aload_n 1) by decide +kernel) rfl ?_
    refine jr_1 jm_170 (show jw_cd cd_170 24 = some (.getfield 144) by decide +kernel) (js_getf (cl_old hl ⟨by omega, oA⟩) (jbg (by omega)) (show jw_fld 9 144 14 = some 7 by decide +kernel) rfl) ?_
    refine jr_1 jm_170 (show jw_cd cd_170 27 = some (.aload_n 2) by decide +kernel) rfl ?_
    refine jr_c jm_170 (show jw_cd cd_170 28 = some (.invokevirtual 133) by decide +kernel) (ccv (n := 2) (m2 := 171) (ci := 6) (a := 10) (bs := [.ref rb, .ref it]) (r := []) (js_cls cl_c10 (by decide)) (show jw_find jw_cvT 9 133 = some (2, [(6, 171)]) by decide +kernel) (by decide) rfl rfl rfl) jm_171 ⟨Nat.le_of_ble_eq_true rfl, by decide⟩ c2 ?_
    refine jr_1 jm_170 (F2 := (33, [some (.ref 10), some (.ref sp), some (.ref it), some (.ref lc), some (.ref rc)], [], (cl_mk h κ))) (show jw_cd cd_170 31 = some (.astore 4) by decide +kernel) rfl ?_
    refine jr_1 jm_170 (show jw_cd cd_170 33 = some (.aload_n 1) by decide +kernel) rfl ?_
    refine jr_1 jm_170 (show jw_cd cd_170 34 = some (.getfield 137) by decide +kernel) (js_getf (cl_old hl ⟨by omega, oA⟩) (jbg (by omega)) (show jw_fld 9 137 14 = some 6 by decide +kernel) rfl) ?_
    refine jr_1 jm_170 (show jw_cd cd_170 37 = some (.iconst 1) by decide +kernel) rfl ?_
    refine jr_1 jm_170 (show jw_cd cd_170 38 = some (.if_icmp .eq 11) by decide +kernel) (mb_f (q := .eq) (a := sg) (b := 1) (by show ¬ (sg = 1); omega) ⟨by omega, by omega⟩ ⟨by omega, by omega⟩ (by decide)) ?_
    refine jr_1 jm_170 (show jw_cd cd_170 41 = some (.aload_n 1) by decide +kernel) rfl ?_
    refine jr_1 jm_170 (show jw_cd cd_170 42 = some (.getfield 137) by decide +kernel) (js_getf (cl_old hl ⟨by omega, oA⟩) (jbg (by omega)) (show jw_fld 9 137 14 = some 6 by decide +kernel) rfl) ?_
    refine jr_1 jm_170 (show jw_cd cd_170 45 = some (.iconst 2) by decide +kernel) rfl ?_
    refine jr_1 jm_170 (show jw_cd cd_170 46 = some (.if_icmp .ne 32) by decide +kernel) (mb_t (q := .ne) (a := sg) (b := 2) (t := 78) (by show ¬ (sg = 2); omega) ⟨by omega, by omega⟩ ⟨by omega, by omega⟩ (by decide) (by decide)) ?_
    refine jr_1 jm_170 (show jw_cd cd_170 78 = some (.aload_n 3) by decide +kernel) rfl ?_
    refine jr_1 jm_170 (show jw_cd cd_170 79 = some (.getfield 91) by decide +kernel) (js_getf hA (jbg (by omega)) (show jw_fld 9 91 5 = some 0 by decide +kernel) rfl) ?_
    refine jr_1 jm_170 (show jw_cd cd_170 82 = some (.iconst 3) by decide +kernel) rfl ?_
    refine jr_1 jm_170 (show jw_cd cd_170 83 = some (.if_icmp .ne 12) by decide +kernel) (mb_t (q := .ne) (a := (dv x).1.1) (b := 3) (t := 95) (by show ¬ ((dv x).1.1 = 3); omega) ⟨by omega, by omega⟩ ⟨by omega, by omega⟩ (by decide) (by decide)) ?_
    refine jr_1 jm_170 (show jw_cd cd_170 95 = some (.iconst 0) by decide +kernel) rfl ?_
    exact jr_v jm_170 (show jw_cd cd_170 96 = some (.ireturn) by decide +kernel) rfl
  by_cases hk2 : (dv y).1.1 = 3
  rotate_left
  · rw [if_neg (by rw [decide_eq_true_eq]; exact fun z => hk2 z.2.1)]
    refine jr_1 jm_170 (show jw_cd cd_170 0 = some (.aload_n 0) by decide +kernel) rfl ?_
    refine jr_1 jm_170 (show jw_cd cd_170 1 = some (.aload_n 1) by decide +kernel) rfl ?_
    refine jr_1 jm_170 (show jw_cd cd_170 2 = some (.getfield 129) by decide +kernel) (js_getf (cl_old hl ⟨by omega, oA⟩) (jbg (by omega)) (show jw_fld 9 129 14 = some 5 by decide +kernel) rfl) ?_
    refine jr_1 jm_170 (show jw_cd cd_170 5 = some (.aload_n 2) by decide +kernel) rfl ?_
    refine jr_c jm_170 (show jw_cd cd_170 6 = some (.invokevirtual 133) by decide +kernel) (ccv (n := 2) (m2 := 171) (ci := 6) (a := 10) (bs := [.ref lb, .ref it]) (r := []) (js_cls cl_c10 (by decide)) (show jw_find jw_cvT 9 133 = some (2, [(6, 171)]) by decide +kernel) (by decide) rfl rfl rfl) jm_171 ⟨Nat.le_of_ble_eq_true rfl, by decide⟩ c1 ?_
    refine jr_1 jm_170 (F2 := (10, [some (.ref 10), some (.ref sp), some (.ref it), some (.ref lc), none], [], (cl_mk h κ))) (show jw_cd cd_170 9 = some (.astore_n 3) by decide +kernel) rfl ?_
    refine jr_1 jm_170 (show jw_cd cd_170 10 = some (.aload_n 1) by decide +kernel) rfl ?_
    refine jr_1 jm_170 (show jw_cd cd_170 11 = some (.getfield 137) by decide +kernel) (js_getf (cl_old hl ⟨by omega, oA⟩) (jbg (by omega)) (show jw_fld 9 137 14 = some 6 by decide +kernel) rfl) ?_
    refine jr_1 jm_170 (show jw_cd cd_170 14 = some (.ifCond .ne 8) by decide +kernel) (mz_t (q := .ne) (a := sg) (t := 22) (by show ¬ (sg = 0); omega) ⟨by omega, by omega⟩ (by decide) (by decide)) ?_
    refine jr_1 jm_170 (show jw_cd cd_170 22 = some (.aload_n 0) by decide +kernel) rfl ?_
    refine jr_1 jm_170 (show jw_cd cd_170 23 = some (.aload_n 1) by decide +kernel) rfl ?_
    refine jr_1 jm_170 (show jw_cd cd_170 24 = some (.getfield 144) by decide +kernel) (js_getf (cl_old hl ⟨by omega, oA⟩) (jbg (by omega)) (show jw_fld 9 144 14 = some 7 by decide +kernel) rfl) ?_
    refine jr_1 jm_170 (show jw_cd cd_170 27 = some (.aload_n 2) by decide +kernel) rfl ?_
    refine jr_c jm_170 (show jw_cd cd_170 28 = some (.invokevirtual 133) by decide +kernel) (ccv (n := 2) (m2 := 171) (ci := 6) (a := 10) (bs := [.ref rb, .ref it]) (r := []) (js_cls cl_c10 (by decide)) (show jw_find jw_cvT 9 133 = some (2, [(6, 171)]) by decide +kernel) (by decide) rfl rfl rfl) jm_171 ⟨Nat.le_of_ble_eq_true rfl, by decide⟩ c2 ?_
    refine jr_1 jm_170 (F2 := (33, [some (.ref 10), some (.ref sp), some (.ref it), some (.ref lc), some (.ref rc)], [], (cl_mk h κ))) (show jw_cd cd_170 31 = some (.astore 4) by decide +kernel) rfl ?_
    refine jr_1 jm_170 (show jw_cd cd_170 33 = some (.aload_n 1) by decide +kernel) rfl ?_
    refine jr_1 jm_170 (show jw_cd cd_170 34 = some (.getfield 137) by decide +kernel) (js_getf (cl_old hl ⟨by omega, oA⟩) (jbg (by omega)) (show jw_fld 9 137 14 = some 6 by decide +kernel) rfl) ?_
    refine jr_1 jm_170 (show jw_cd cd_170 37 = some (.iconst 1) by decide +kernel) rfl ?_
    refine jr_1 jm_170 (show jw_cd cd_170 38 = some (.if_icmp .eq 11) by decide +kernel) (mb_f (q := .eq) (a := sg) (b := 1) (by show ¬ (sg = 1); omega) ⟨by omega, by omega⟩ ⟨by omega, by omega⟩ (by decide)) ?_
    refine jr_1 jm_170 (show jw_cd cd_170 41 = some (.aload_n 1) by decide +kernel) rfl ?_
    refine jr_1 jm_170 (show jw_cd cd_170 42 = some (.getfield 137) by decide +kernel) (js_getf (cl_old hl ⟨by omega, oA⟩) (jbg (by omega)) (show jw_fld 9 137 14 = some 6 by decide +kernel) rfl) ?_
    refine jr_1 jm_170 (show jw_cd cd_170 45 = some (.iconst 2) by decide +kernel) rfl ?_
    refine jr_1 jm_170 (show jw_cd cd_170 46 = some (.if_icmp .ne 32) by decide +kernel) (mb_t (q := .ne) (a := sg) (b := 2) (t := 78) (by show ¬ (sg = 2); omega) ⟨by omega, by omega⟩ ⟨by omega, by omega⟩ (by decide) (by decide)) ?_
    refine jr_1 jm_170 (show jw_cd cd_170 78 = some (.aload_n 3) by decide +kernel) rfl ?_
    refine jr_1 jm_170 (show jw_cd cd_170 79 = some (.getfield 91) by decide +kernel) (js_getf hA (jbg (by omega)) (show jw_fld 9 91 5 = some 0 by decide +kernel) rfl) ?_
    refine jr_1 jm_170 (show jw_cd cd_170 82 = some (.iconst 3) by decide +kernel) rfl ?_
    refine jr_1 jm_170 (show jw_cd cd_170 83 = some (.if_icmp .ne 12) by decide +kernel) (mb_f (q := .ne) (a := (dv x).1.1) (b := 3) (by show ¬ (¬ ((dv x).1.1 = 3)); omega) ⟨by omega, by omega⟩ ⟨by omega, by omega⟩ (by decide)) ?_
    refine jr_1 jm_170 (show jw_cd cd_170 86 = some (.aload 4) by decide +kernel) rfl ?_
    refine jr_1 jm_170 (show jw_cd cd_170 88 = some (.getfield 91) by decide +kernel) (js_getf hqA (jbg (by omega)) (show jw_fld 9 91 5 = some 0 by decide +kernel) rfl) ?_
    refine jr_1 jm_170 (show jw_cd cd_170 91 = some (.iconst 3) by decide +kernel) rfl ?_
    refine jr_1 jm_170 (show jw_cd cd_170 92 = some (.if_icmp .eq 5) by decide +kernel) (mb_f (q := .eq) (a := (dv y).1.1) (b := 3) (by show ¬ ((dv y).1.1 = 3); omega) ⟨by omega, by omega⟩ ⟨by omega, by omega⟩ (by decide)) ?_
    refine jr_1 jm_170 (show jw_cd cd_170 95 = some (.iconst 0) by decide +kernel) rfl ?_
    exact jr_v jm_170 (show jw_cd cd_170 96 = some (.ireturn) by decide +kernel) rfl
  by_cases h3 : gg = 3
  · have hsg : sg = 4 := by rw [esg2, h3]; rfl
    by_cases hc : (dv x).1.2.1 ≤ (dv y).1.2.1
    · rw [if_pos (decide_eq_true ⟨hk1, hk2, by rw [if_pos h3]; exact hc⟩)]
      refine jr_1 jm_170 (show jw_cd cd_170 0 = some (.aload_n 0) by decide +kernel) rfl ?_
      refine jr_1 jm_170 (show jw_cd cd_170 1 = some (.aload_n 1) by decide +kernel) rfl ?_
      refine jr_1 jm_170 (show jw_cd cd_170 2 = some (.getfield 129) by decide +kernel) (js_getf (cl_old hl ⟨by omega, oA⟩) (jbg (by omega)) (show jw_fld 9 129 14 = some 5 by decide +kernel) rfl) ?_
      refine jr_1 jm_170 (show jw_cd cd_170 5 = some (.aload_n 2) by decide +kernel) rfl ?_
      refine jr_c jm_170 (show jw_cd cd_170 6 = some (.invokevirtual 133) by decide +kernel) (ccv (n := 2) (m2 := 171) (ci := 6) (a := 10) (bs := [.ref lb, .ref it]) (r := []) (js_cls cl_c10 (by decide)) (show jw_find jw_cvT 9 133 = some (2, [(6, 171)]) by decide +kernel) (by decide) rfl rfl rfl) jm_171 ⟨Nat.le_of_ble_eq_true rfl, by decide⟩ c1 ?_
      refine jr_1 jm_170 (F2 := (10, [some (.ref 10), some (.ref sp), some (.ref it), some (.ref lc), none], [], (cl_mk h κ))) (show jw_cd cd_170 9 = some (.astore_n 3) by decide +kernel) rfl ?_
      refine jr_1 jm_170 (show jw_cd cd_170 10 = some (.aload_n 1) by decide +kernel) rfl ?_
      refine jr_1 jm_170 (show jw_cd cd_170 11 = some (.getfield 137) by decide +kernel) (js_getf (cl_old hl ⟨by omega, oA⟩) (jbg (by omega)) (show jw_fld 9 137 14 = some 6 by decide +kernel) rfl) ?_
      refine jr_1 jm_170 (show jw_cd cd_170 14 = some (.ifCond .ne 8) by decide +kernel) (mz_t (q := .ne) (a := sg) (t := 22) (by show ¬ (sg = 0); omega) ⟨by omega, by omega⟩ (by decide) (by decide)) ?_
      refine jr_1 jm_170 (show jw_cd cd_170 22 = some (.aload_n 0) by decide +kernel) rfl ?_
      refine jr_1 jm_170 (show jw_cd cd_170 23 = some (.aload_n 1) by decide +kernel) rfl ?_
      refine jr_1 jm_170 (show jw_cd cd_170 24 = some (.getfield 144) by decide +kernel) (js_getf (cl_old hl ⟨by omega, oA⟩) (jbg (by omega)) (show jw_fld 9 144 14 = some 7 by decide +kernel) rfl) ?_
      refine jr_1 jm_170 (show jw_cd cd_170 27 = some (.aload_n 2) by decide +kernel) rfl ?_
      refine jr_c jm_170 (show jw_cd cd_170 28 = some (.invokevirtual 133) by decide +kernel) (ccv (n := 2) (m2 := 171) (ci := 6) (a := 10) (bs := [.ref rb, .ref it]) (r := []) (js_cls cl_c10 (by decide)) (show jw_find jw_cvT 9 133 = some (2, [(6, 171)]) by decide +kernel) (by decide) rfl rfl rfl) jm_171 ⟨Nat.le_of_ble_eq_true rfl, by decide⟩ c2 ?_
      refine jr_1 jm_170 (F2 := (33, [some (.ref 10), some (.ref sp), some (.ref it), some (.ref lc), some (.ref rc)], [], (cl_mk h κ))) (show jw_cd cd_170 31 = some (.astore 4) by decide +kernel) rfl ?_
      refine jr_1 jm_170 (show jw_cd cd_170 33 = some (.aload_n 1) by decide +kernel) rfl ?_
      refine jr_1 jm_170 (show jw_cd cd_170 34 = some (.getfield 137) by decide +kernel) (js_getf (cl_old hl ⟨by omega, oA⟩) (jbg (by omega)) (show jw_fld 9 137 14 = some 6 by decide +kernel) rfl) ?_
      refine jr_1 jm_170 (show jw_cd cd_170 37 = some (.iconst 1) by decide +kernel) rfl ?_
      refine jr_1 jm_170 (show jw_cd cd_170 38 = some (.if_icmp .eq 11) by decide +kernel) (mb_f (q := .eq) (a := sg) (b := 1) (by show ¬ (sg = 1); omega) ⟨by omega, by omega⟩ ⟨by omega, by omega⟩ (by decide)) ?_
      refine jr_1 jm_170 (show jw_cd cd_170 41 = some (.aload_n 1) by decide +kernel) rfl ?_
      refine jr_1 jm_170 (show jw_cd cd_170 42 = some (.getfield 137) by decide +kernel) (js_getf (cl_old hl ⟨by omega, oA⟩) (jbg (by omega)) (show jw_fld 9 137 14 = some 6 by decide +kernel) rfl) ?_
      refine jr_1 jm_170 (show jw_cd cd_170 45 = some (.iconst 2) by decide +kernel) rfl ?_
      refine jr_1 jm_170 (show jw_cd cd_170 46 = some (.if_icmp .ne 32) by decide +kernel) (mb_t (q := .ne) (a := sg) (b := 2) (t := 78) (by show ¬ (sg = 2); omega) ⟨by omega, by omega⟩ ⟨by omega, by omega⟩ (by decide) (by decide)) ?_
      refine jr_1 jm_170 (show jw_cd cd_170 78 = some (.aload_n 3) by decide +kernel) rfl ?_
      refine jr_1 jm_170 (show jw_cd cd_170 79 = some (.getfield 91) by decide +kernel) (js_getf hA (jbg (by omega)) (show jw_fld 9 91 5 = some 0 by decide +kernel) rfl) ?_
      refine jr_1 jm_170 (show jw_cd cd_170 82 = some (.iconst 3) by decide +kernel) rfl ?_
      refine jr_1 jm_170 (show jw_cd cd_170 83 = some (.if_icmp .ne 12) by decide +kernel) (mb_f (q := .ne) (a := (dv x).1.1) (b := 3) (by show ¬ (¬ ((dv x).1.1 = 3)); omega) ⟨by omega, by omega⟩ ⟨by omega, by omega⟩ (by decide)) ?_
      refine jr_1 jm_170 (show jw_cd cd_170 86 = some (.aload 4) by decide +kernel) rfl ?_
      refine jr_1 jm_170 (show jw_cd cd_170 88 = some (.getfield 91) by decide +kernel) (js_getf hqA (jbg (by omega)) (show jw_fld 9 91 5 = some 0 by decide +kernel) rfl) ?_
      refine jr_1 jm_170 (show jw_cd cd_170 91 = some (.iconst 3) by decide +kernel) rfl ?_
      refine jr_1 jm_170 (show jw_cd cd_170 92 = some (.if_icmp .eq 5) by decide +kernel) (mb_t (q := .eq) (a := (dv y).1.1) (b := 3) (t := 97) (by show (dv y).1.1 = 3; omega) ⟨by omega, by omega⟩ ⟨by omega, by omega⟩ (by decide) (by decide)) ?_
      refine jr_1 jm_170 (show jw_cd cd_170 97 = some (.aload_n 1) by decide +kernel) rfl ?_
      refine jr_1 jm_170 (show jw_cd cd_170 98 = some (.getfield 137) by decide +kernel) (js_getf (cl_old hl ⟨by omega, oA⟩) (jbg (by omega)) (show jw_fld 9 137 14 = some 6 by decide +kernel) rfl) ?_
      refine jr_1 jm_170 (show jw_cd cd_170 101 = some (.tableswitch 81 3 5 #[27, 45, 63]) by decide +kernel) (mt_ts (t := 146) (off := 45) ⟨by omega, by omega⟩ (by omega) (by rw [hsg]; rfl) (by decide)) ?_
      refine jr_1 jm_170 (show jw_cd cd_170 146 = some (.aload_n 3) by decide +kernel) rfl ?_
      refine jr_1 jm_170 (show jw_cd cd_170 147 = some (.getfield 151) by decide +kernel) (js_getf hA (jbg (by omega)) (show jw_fld 9 151 5 = some 1 by decide +kernel) rfl) ?_
      refine jr_1 jm_170 (show jw_cd cd_170 150 = some (.aload 4) by decide +kernel) rfl ?_
      refine jr_1 jm_170 (show jw_cd cd_170 152 = some (.getfield 151) by decide +kernel) (js_getf hqA (jbg (by omega)) (show jw_fld 9 151 5 = some 1 by decide +kernel) rfl) ?_
      refine jr_1 jm_170 (show jw_cd cd_170 155 = some (.if_icmp .gt 7) by decide +kernel) (mb_f (q := .gt) (a := (dv x).1.2.1) (b := (dv y).1.2.1) (by show ¬ ((dv y).1.2.1 < (dv x).1.2.1); omega) hn1 hn2 (by decide)) ?_
      refine jr_1 jm_170 (show jw_cd cd_170 158 = some (.iconst 1) by decide +kernel) rfl ?_
      refine jr_1 jm_170 (show jw_cd cd_170 159 = some (.goto 4) by decide +kernel) (ju_go (t := 163) (by decide)) ?_
      exact jr_v jm_170 (show jw_cd cd_170 163 = some (.ireturn) by decide +kernel) rfl
    · rw [if_neg (by rw [decide_eq_true_eq]; rintro ⟨-, -, z⟩; revert z; rw [if_pos h3]; exact hc)]
      refine jr_1 jm_170 (show jw_cd cd_170 0 = some (.aload_n 0) by decide +kernel) rfl ?_
      refine jr_1 jm_170 (show jw_cd cd_170 1 = some (.aload_n 1) by decide +kernel) rfl ?_
      refine jr_1 jm_170 (show jw_cd cd_170 2 = some (.getfield 129) by decide +kernel) (js_getf (cl_old hl ⟨by omega, oA⟩) (jbg (by omega)) (show jw_fld 9 129 14 = some 5 by decide +kernel) rfl) ?_
      refine jr_1 jm_170 (show jw_cd cd_170 5 = some (.aload_n 2) by decide +kernel) rfl ?_
      refine jr_c jm_170 (show jw_cd cd_170 6 = some (.invokevirtual 133) by decide +kernel) (ccv (n := 2) (m2 := 171) (ci := 6) (a := 10) (bs := [.ref lb, .ref it]) (r := []) (js_cls cl_c10 (by decide)) (show jw_find jw_cvT 9 133 = some (2, [(6, 171)]) by decide +kernel) (by decide) rfl rfl rfl) jm_171 ⟨Nat.le_of_ble_eq_true rfl, by decide⟩ c1 ?_
      refine jr_1 jm_170 (F2 := (10, [some (.ref 10), some (.ref sp), some (.ref it), some (.ref lc), none], [], (cl_mk h κ))) (show jw_cd cd_170 9 = some (.astore_n 3) by decide +kernel) rfl ?_
      refine jr_1 jm_170 (show jw_cd cd_170 10 = some (.aload_n 1) by decide +kernel) rfl ?_
      refine jr_1 jm_170 (show jw_cd cd_170 11 = some (.getfield 137) by decide +kernel) (js_getf (cl_old hl ⟨by omega, oA⟩) (jbg (by omega)) (show jw_fld 9 137 14 = some 6 by decide +kernel) rfl) ?_
      refine jr_1 jm_170 (show jw_cd cd_170 14 = some (.ifCond .ne 8) by decide +kernel) (mz_t (q := .ne) (a := sg) (t := 22) (by show ¬ (sg = 0); omega) ⟨by omega, by omega⟩ (by decide) (by decide)) ?_
      refine jr_1 jm_170 (show jw_cd cd_170 22 = some (.aload_n 0) by decide +kernel) rfl ?_
      refine jr_1 jm_170 (show jw_cd cd_170 23 = some (.aload_n 1) by decide +kernel) rfl ?_
      refine jr_1 jm_170 (show jw_cd cd_170 24 = some (.getfield 144) by decide +kernel) (js_getf (cl_old hl ⟨by omega, oA⟩) (jbg (by omega)) (show jw_fld 9 144 14 = some 7 by decide +kernel) rfl) ?_
      refine jr_1 jm_170 (show jw_cd cd_170 27 = some (.aload_n 2) by decide +kernel) rfl ?_
      refine jr_c jm_170 (show jw_cd cd_170 28 = some (.invokevirtual 133) by decide +kernel) (ccv (n := 2) (m2 := 171) (ci := 6) (a := 10) (bs := [.ref rb, .ref it]) (r := []) (js_cls cl_c10 (by decide)) (show jw_find jw_cvT 9 133 = some (2, [(6, 171)]) by decide +kernel) (by decide) rfl rfl rfl) jm_171 ⟨Nat.le_of_ble_eq_true rfl, by decide⟩ c2 ?_
      refine jr_1 jm_170 (F2 := (33, [some (.ref 10), some (.ref sp), some (.ref it), some (.ref lc), some (.ref rc)], [], (cl_mk h κ))) (show jw_cd cd_170 31 = some (.astore 4) by decide +kernel) rfl ?_
      refine jr_1 jm_170 (show jw_cd cd_170 33 = some (.aload_n 1) by decide +kernel) rfl ?_
      refine jr_1 jm_170 (show jw_cd cd_170 34 = some (.getfield 137) by decide +kernel) (js_getf (cl_old hl ⟨by omega, oA⟩) (jbg (by omega)) (show jw_fld 9 137 14 = some 6 by decide +kernel) rfl) ?_
      refine jr_1 jm_170 (show jw_cd cd_170 37 = some (.iconst 1) by decide +kernel) rfl ?_
      refine jr_1 jm_170 (show jw_cd cd_170 38 = some (.if_icmp .eq 11) by decide +kernel) (mb_f (q := .eq) (a := sg) (b := 1) (by show ¬ (sg = 1); omega) ⟨by omega, by omega⟩ ⟨by omega, by omega⟩ (by decide)) ?_
      refine jr_1 jm_170 (show jw_cd cd_170 41 = some (.aload_n 1) by decide +kernel) rfl ?_
      refine jr_1 jm_170 (show jw_cd cd_170 42 = some (.getfield 137) by decide +kernel) (js_getf (cl_old hl ⟨by omega, oA⟩) (jbg (by omega)) (show jw_fld 9 137 14 = some 6 by decide +kernel) rfl) ?_
      refine jr_1 jm_170 (show jw_cd cd_170 45 = some (.iconst 2) by decide +kernel) rfl ?_
      refine jr_1 jm_170 (show jw_cd cd_170 46 = some (.if_icmp .ne 32) by decide +kernel) (mb_t (q := .ne) (a := sg) (b := 2) (t := 78) (by show ¬ (sg = 2); omega) ⟨by omega, by omega⟩ ⟨by omega, by omega⟩ (by decide) (by decide)) ?_
      refine jr_1 jm_170 (show jw_cd cd_170 78 = some (.aload_n 3) by decide +kernel) rfl ?_
      refine jr_1 jm_170 (show jw_cd cd_170 79 = some (.getfield 91) by decide +kernel) (js_getf hA (jbg (by omega)) (show jw_fld 9 91 5 = some 0 by decide +kernel) rfl) ?_
      refine jr_1 jm_170 (show jw_cd cd_170 82 = some (.iconst 3) by decide +kernel) rfl ?_
      refine jr_1 jm_170 (show jw_cd cd_170 83 = some (.if_icmp .ne 12) by decide +kernel) (mb_f (q := .ne) (a := (dv x).1.1) (b := 3) (by show ¬ (¬ ((dv x).1.1 = 3)); omega) ⟨by omega, by omega⟩ ⟨by omega, by omega⟩ (by decide)) ?_
      refine jr_1 jm_170 (show jw_cd cd_170 86 = some (.aload 4) by decide +kernel) rfl ?_
      refine jr_1 jm_170 (show jw_cd cd_170 88 = some (.getfield 91) by decide +kernel) (js_getf hqA (jbg (by omega)) (show jw_fld 9 91 5 = some 0 by decide +kernel) rfl) ?_
      refine jr_1 jm_170 (show jw_cd cd_170 91 = some (.iconst 3) by decide +kernel) rfl ?_
      refine jr_1 jm_170 (show jw_cd cd_170 92 = some (.if_icmp .eq 5) by decide +kernel) (mb_t (q := .eq) (a := (dv y).1.1) (b := 3) (t := 97) (by show (dv y).1.1 = 3; omega) ⟨by omega, by omega⟩ ⟨by omega, by omega⟩ (by decide) (by decide)) ?_
      refine jr_1 jm_170 (show jw_cd cd_170 97 = some (.aload_n 1) by decide +kernel) rfl ?_
      refine jr_1 jm_170 (show jw_cd cd_170 98 = some (.getfield 137) by decide +kernel) (js_getf (cl_old hl ⟨by omega, oA⟩) (jbg (by omega)) (show jw_fld 9 137 14 = some 6 by decide +kernel) rfl) ?_
      refine jr_1 jm_170 (show jw_cd cd_170 101 = some (.tableswitch 81 3 5 #[27, 45, 63]) by decide +kernel) (mt_ts (t := 146) (off := 45) ⟨by omega, by omega⟩ (by omega) (by rw [hsg]; rfl) (by decide)) ?_
      refine jr_1 jm_170 (show jw_cd cd_170 146 = some (.aload_n 3) by decide +kernel) rfl ?_
      refine jr_1 jm_170 (show jw_cd cd_170 147 = some (.getfield 151) by decide +kernel) (js_getf hA (jbg (by omega)) (show jw_fld 9 151 5 = some 1 by decide +kernel) rfl) ?_
      refine jr_1 jm_170 (show jw_cd cd_170 150 = some (.aload 4) by decide +kernel) rfl ?_
      refine jr_1 jm_170 (show jw_cd cd_170 152 = some (.getfield 151) by decide +kernel) (js_getf hqA (jbg (by omega)) (show jw_fld 9 151 5 = some 1 by decide +kernel) rfl) ?_
      refine jr_1 jm_170 (show jw_cd cd_170 155 = some (.if_icmp .gt 7) by decide +kernel) (mb_t (q := .gt) (a := (dv x).1.2.1) (b := (dv y).1.2.1) (t := 162) (by show (dv y).1.2.1 < (dv x).1.2.1; omega) hn1 hn2 (by decide) (by decide)) ?_
      refine jr_1 jm_170 (show jw_cd cd_170 162 = some (.iconst 0) by decide +kernel) rfl ?_
      exact jr_v jm_170 (show jw_cd cd_170 163 = some (.ireturn) by decide +kernel) rfl
  by_cases h4' : gg = 4
  · have hsg : sg = 6 := by rw [esg2, h4']; rfl
    by_cases hc : (dv y).1.2.1 ≤ (dv x).1.2.1
    · rw [if_pos (decide_eq_true ⟨hk1, hk2, by rw [if_neg h3, if_pos h4']; exact hc⟩)]
      refine jr_1 jm_170 (show jw_cd cd_170 0 = some (.aload_n 0) by decide +kernel) rfl ?_
      refine jr_1 jm_170 (show jw_cd cd_170 1 = some (.aload_n 1) by decide +kernel) rfl ?_
      refine jr_1 jm_170 (show jw_cd cd_170 2 = some (.getfield 129) by decide +kernel) (js_getf (cl_old hl ⟨by omega, oA⟩) (jbg (by omega)) (show jw_fld 9 129 14 = some 5 by decide +kernel) rfl) ?_
      refine jr_1 jm_170 (show jw_cd cd_170 5 = some (.aload_n 2) by decide +kernel) rfl ?_
      refine jr_c jm_170 (show jw_cd cd_170 6 = some (.invokevirtual 133) by decide +kernel) (ccv (n := 2) (m2 := 171) (ci := 6) (a := 10) (bs := [.ref lb, .ref it]) (r := []) (js_cls cl_c10 (by decide)) (show jw_find jw_cvT 9 133 = some (2, [(6, 171)]) by decide +kernel) (by decide) rfl rfl rfl) jm_171 ⟨Nat.le_of_ble_eq_true rfl, by decide⟩ c1 ?_
      refine jr_1 jm_170 (F2 := (10, [some (.ref 10), some (.ref sp), some (.ref it), some (.ref lc), none], [], (cl_mk h κ))) (show jw_cd cd_170 9 = some (.astore_n 3) by decide +kernel) rfl ?_
      refine jr_1 jm_170 (show jw_cd cd_170 10 = some (.aload_n 1) by decide +kernel) rfl ?_
      refine jr_1 jm_170 (show jw_cd cd_170 11 = some (.getfield 137) by decide +kernel) (js_getf (cl_old hl ⟨by omega, oA⟩) (jbg (by omega)) (show jw_fld 9 137 14 = some 6 by decide +kernel) rfl) ?_
      refine jr_1 jm_170 (show jw_cd cd_170 14 = some (.ifCond .ne 8) by decide +kernel) (mz_t (q := .ne) (a := sg) (t := 22) (by show ¬ (sg = 0); omega) ⟨by omega, by omega⟩ (by decide) (by decide)) ?_
      refine jr_1 jm_170 (show jw_cd cd_170 22 = some (.aload_n 0) by decide +kernel) rfl ?_
      refine jr_1 jm_170 (show jw_cd cd_170 23 = some (.aload_n 1) by decide +kernel) rfl ?_
      refine jr_1 jm_170 (show jw_cd cd_170 24 = some (.getfield 144) by decide +kernel) (js_getf (cl_old hl ⟨by omega, oA⟩) (jbg (by omega)) (show jw_fld 9 144 14 = some 7 by decide +kernel) rfl) ?_
      refine jr_1 jm_170 (show jw_cd cd_170 27 = some (.aload_n 2) by decide +kernel) rfl ?_
      refine jr_c jm_170 (show jw_cd cd_170 28 = some (.invokevirtual 133) by decide +kernel) (ccv (n := 2) (m2 := 171) (ci := 6) (a := 10) (bs := [.ref rb, .ref it]) (r := []) (js_cls cl_c10 (by decide)) (show jw_find jw_cvT 9 133 = some (2, [(6, 171)]) by decide +kernel) (by decide) rfl rfl rfl) jm_171 ⟨Nat.le_of_ble_eq_true rfl, by decide⟩ c2 ?_
      refine jr_1 jm_170 (F2 := (33, [some (.ref 10), some (.ref sp), some (.ref it), some (.ref lc), some (.ref rc)], [], (cl_mk h κ))) (show jw_cd cd_170 31 = some (.astore 4) by decide +kernel) rfl ?_
      refine jr_1 jm_170 (show jw_cd cd_170 33 = some (.aload_n 1) by decide +kernel) rfl ?_
      refine jr_1 jm_170 (show jw_cd cd_170 34 = some (.getfield 137) by decide +kernel) (js_getf (cl_old hl ⟨by omega, oA⟩) (jbg (by omega)) (show jw_fld 9 137 14 = some 6 by decide +kernel) rfl) ?_
      refine jr_1 jm_170 (show jw_cd cd_170 37 = some (.iconst 1) by decide +kernel) rfl ?_
      refine jr_1 jm_170 (show jw_cd cd_170 38 = some (.if_icmp .eq 11) by decide +kernel) (mb_f (q := .eq) (a := sg) (b := 1) (by show ¬ (sg = 1); omega) ⟨by omega, by omega⟩ ⟨by omega, by omega⟩ (by decide)) ?_
      refine jr_1 jm_170 (show jw_cd cd_170 41 = some (.aload_n 1) by decide +kernel) rfl ?_
      refine jr_1 jm_170 (show jw_cd cd_170 42 = some (.getfield 137) by decide +kernel) (js_getf (cl_old hl ⟨by omega, oA⟩) (jbg (by omega)) (show jw_fld 9 137 14 = some 6 by decide +kernel) rfl) ?_
      refine jr_1 jm_170 (show jw_cd cd_170 45 = some (.iconst 2) by decide +kernel) rfl ?_
      refine jr_1 jm_170 (show jw_cd cd_170 46 = some (.if_icmp .ne 32) by decide +kernel) (mb_t (q := .ne) (a := sg) (b := 2) (t := 78) (by show ¬ (sg = 2); omega) ⟨by omega, by omega⟩ ⟨by omega, by omega⟩ (by decide) (by decide)) ?_
      refine jr_1 jm_170 (show jw_cd cd_170 78 = some (.aload_n 3) by decide +kernel) rfl ?_
      refine jr_1 jm_170 (show jw_cd cd_170 79 = some (.getfield 91) by decide +kernel) (js_getf hA (jbg (by omega)) (show jw_fld 9 91 5 = some 0 by decide +kernel) rfl) ?_
      refine jr_1 jm_170 (show jw_cd cd_170 82 = some (.iconst 3) by decide +kernel) rfl ?_
      refine jr_1 jm_170 (show jw_cd cd_170 83 = some (.if_icmp .ne 12) by decide +kernel) (mb_f (q := .ne) (a := (dv x).1.1) (b := 3) (by show ¬ (¬ ((dv x).1.1 = 3)); omega) ⟨by omega, by omega⟩ ⟨by omega, by omega⟩ (by decide)) ?_
      refine jr_1 jm_170 (show jw_cd cd_170 86 = some (.aload 4) by decide +kernel) rfl ?_
      refine jr_1 jm_170 (show jw_cd cd_170 88 = some (.getfield 91) by decide +kernel) (js_getf hqA (jbg (by omega)) (show jw_fld 9 91 5 = some 0 by decide +kernel) rfl) ?_
      refine jr_1 jm_170 (show jw_cd cd_170 91 = some (.iconst 3) by decide +kernel) rfl ?_
      refine jr_1 jm_170 (show jw_cd cd_170 92 = some (.if_icmp .eq 5) by decide +kernel) (mb_t (q := .eq) (a := (dv y).1.1) (b := 3) (t := 97) (by show (dv y).1.1 = 3; omega) ⟨by omega, by omega⟩ ⟨by omega, by omega⟩ (by decide) (by decide)) ?_
      refine jr_1 jm_170 (show jw_cd cd_170 97 = some (.aload_n 1) by decide +kernel) rfl ?_
      refine jr_1 jm_170 (show jw_cd cd_170 98 = some (.getfield 137) by decide +kernel) (js_getf (cl_old hl ⟨by omega, oA⟩) (jbg (by omega)) (show jw_fld 9 137 14 = some 6 by decide +kernel) rfl) ?_
      refine jr_1 jm_170 (show jw_cd cd_170 101 = some (.tableswitch 81 3 5 #[27, 45, 63]) by decide +kernel) (mt_td (t := 182) ⟨by omega, by omega⟩ (by omega) (by decide)) ?_
      refine jr_1 jm_170 (show jw_cd cd_170 182 = some (.aload_n 3) by decide +kernel) rfl ?_
      refine jr_1 jm_170 (show jw_cd cd_170 183 = some (.getfield 151) by decide +kernel) (js_getf hA (jbg (by omega)) (show jw_fld 9 151 5 = some 1 by decide +kernel) rfl) ?_
      refine jr_1 jm_170 (show jw_cd cd_170 186 = some (.aload 4) by decide +kernel) rfl ?_
      refine jr_1 jm_170 (show jw_cd cd_170 188 = some (.getfield 151) by decide +kernel) (js_getf hqA (jbg (by omega)) (show jw_fld 9 151 5 = some 1 by decide +kernel) rfl) ?_
      refine jr_1 jm_170 (show jw_cd cd_170 191 = some (.if_icmp .lt 7) by decide +kernel) (mb_f (q := .lt) (a := (dv x).1.2.1) (b := (dv y).1.2.1) (by show ¬ ((dv x).1.2.1 < (dv y).1.2.1); omega) hn1 hn2 (by decide)) ?_
      refine jr_1 jm_170 (show jw_cd cd_170 194 = some (.iconst 1) by decide +kernel) rfl ?_
      refine jr_1 jm_170 (show jw_cd cd_170 195 = some (.goto 4) by decide +kernel) (ju_go (t := 199) (by decide)) ?_
      exact jr_v jm_170 (show jw_cd cd_170 199 = some (.ireturn) by decide +kernel) rfl
    · rw [if_neg (by rw [decide_eq_true_eq]; rintro ⟨-, -, z⟩; revert z; rw [if_neg h3, if_pos h4']; exact hc)]
      refine jr_1 jm_170 (show jw_cd cd_170 0 = some (.aload_n 0) by decide +kernel) rfl ?_
      refine jr_1 jm_170 (show jw_cd cd_170 1 = some (.aload_n 1) by decide +kernel) rfl ?_
      refine jr_1 jm_170 (show jw_cd cd_170 2 = some (.getfield 129) by decide +kernel) (js_getf (cl_old hl ⟨by omega, oA⟩) (jbg (by omega)) (show jw_fld 9 129 14 = some 5 by decide +kernel) rfl) ?_
      refine jr_1 jm_170 (show jw_cd cd_170 5 = some (.aload_n 2) by decide +kernel) rfl ?_
      refine jr_c jm_170 (show jw_cd cd_170 6 = some (.invokevirtual 133) by decide +kernel) (ccv (n := 2) (m2 := 171) (ci := 6) (a := 10) (bs := [.ref lb, .ref it]) (r := []) (js_cls cl_c10 (by decide)) (show jw_find jw_cvT 9 133 = some (2, [(6, 171)]) by decide +kernel) (by decide) rfl rfl rfl) jm_171 ⟨Nat.le_of_ble_eq_true rfl, by decide⟩ c1 ?_
      refine jr_1 jm_170 (F2 := (10, [some (.ref 10), some (.ref sp), some (.ref it), some (.ref lc), none], [], (cl_mk h κ))) (show jw_cd cd_170 9 = some (.astore_n 3) by decide +kernel) rfl ?_
      refine jr_1 jm_170 (show jw_cd cd_170 10 = some (.aload_n 1) by decide +kernel) rfl ?_
      refine jr_1 jm_170 (show jw_cd cd_170 11 = some (.getfield 137) by decide +kernel) (js_getf (cl_old hl ⟨by omega, oA⟩) (jbg (by omega)) (show jw_fld 9 137 14 = some 6 by decide +kernel) rfl) ?_
      refine jr_1 jm_170 (show jw_cd cd_170 14 = some (.ifCond .ne 8) by decide +kernel) (mz_t (q := .ne) (a := sg) (t := 22) (by show ¬ (sg = 0); omega) ⟨by omega, by omega⟩ (by decide) (by decide)) ?_
      refine jr_1 jm_170 (show jw_cd cd_170 22 = some (.aload_n 0) by decide +kernel) rfl ?_
      refine jr_1 jm_170 (show jw_cd cd_170 23 = some (.aload_n 1) by decide +kernel) rfl ?_
      refine jr_1 jm_170 (show jw_cd cd_170 24 = some (.getfield 144) by decide +kernel) (js_getf (cl_old hl ⟨by omega, oA⟩) (jbg (by omega)) (show jw_fld 9 144 14 = some 7 by decide +kernel) rfl) ?_
      refine jr_1 jm_170 (show jw_cd cd_170 27 = some (.aload_n 2) by decide +kernel) rfl ?_
      refine jr_c jm_170 (show jw_cd cd_170 28 = some (.invokevirtual 133) by decide +kernel) (ccv (n := 2) (m2 := 171) (ci := 6) (a := 10) (bs := [.ref rb, .ref it]) (r := []) (js_cls cl_c10 (by decide)) (show jw_find jw_cvT 9 133 = some (2, [(6, 171)]) by decide +kernel) (by decide) rfl rfl rfl) jm_171 ⟨Nat.le_of_ble_eq_true rfl, by decide⟩ c2 ?_
      refine jr_1 jm_170 (F2 := (33, [some (.ref 10), some (.ref sp), some (.ref it), some (.ref lc), some (.ref rc)], [], (cl_mk h κ))) (show jw_cd cd_170 31 = some (.astore 4) by decide +kernel) rfl ?_
      refine jr_1 jm_170 (show jw_cd cd_170 33 = some (.aload_n 1) by decide +kernel) rfl ?_
      refine jr_1 jm_170 (show jw_cd cd_170 34 = some (.getfield 137) by decide +kernel) (js_getf (cl_old hl ⟨by omega, oA⟩) (jbg (by omega)) (show jw_fld 9 137 14 = some 6 by decide +kernel) rfl) ?_
      refine jr_1 jm_170 (show jw_cd cd_170 37 = some (.iconst 1) by decide +kernel) rfl ?_
      refine jr_1 jm_170 (show jw_cd cd_170 38 = some (.if_icmp .eq 11) by decide +kernel) (mb_f (q := .eq) (a := sg) (b := 1) (by show ¬ (sg = 1); omega) ⟨by omega, by omega⟩ ⟨by omega, by omega⟩ (by decide)) ?_
      refine jr_1 jm_170 (show jw_cd cd_170 41 = some (.aload_n 1) by decide +kernel) rfl ?_
      refine jr_1 jm_170 (show jw_cd cd_170 42 = some (.getfield 137) by decide +kernel) (js_getf (cl_old hl ⟨by omega, oA⟩) (jbg (by omega)) (show jw_fld 9 137 14 = some 6 by decide +kernel) rfl) ?_
      refine jr_1 jm_170 (show jw_cd cd_170 45 = some (.iconst 2) by decide +kernel) rfl ?_
      refine jr_1 jm_170 (show jw_cd cd_170 46 = some (.if_icmp .ne 32) by decide +kernel) (mb_t (q := .ne) (a := sg) (b := 2) (t := 78) (by show ¬ (sg = 2); omega) ⟨by omega, by omega⟩ ⟨by omega, by omega⟩ (by decide) (by decide)) ?_
      refine jr_1 jm_170 (show jw_cd cd_170 78 = some (.aload_n 3) by decide +kernel) rfl ?_
      refine jr_1 jm_170 (show jw_cd cd_170 79 = some (.getfield 91) by decide +kernel) (js_getf hA (jbg (by omega)) (show jw_fld 9 91 5 = some 0 by decide +kernel) rfl) ?_
      refine jr_1 jm_170 (show jw_cd cd_170 82 = some (.iconst 3) by decide +kernel) rfl ?_
      refine jr_1 jm_170 (show jw_cd cd_170 83 = some (.if_icmp .ne 12) by decide +kernel) (mb_f (q := .ne) (a := (dv x).1.1) (b := 3) (by show ¬ (¬ ((dv x).1.1 = 3)); omega) ⟨by omega, by omega⟩ ⟨by omega, by omega⟩ (by decide)) ?_
      refine jr_1 jm_170 (show jw_cd cd_170 86 = some (.aload 4) by decide +kernel) rfl ?_
      refine jr_1 jm_170 (show jw_cd cd_170 88 = some (.getfield 91) by decide +kernel) (js_getf hqA (jbg (by omega)) (show jw_fld 9 91 5 = some 0 by decide +kernel) rfl) ?_
      refine jr_1 jm_170 (show jw_cd cd_170 91 = some (.iconst 3) by decide +kernel) rfl ?_
      refine jr_1 jm_170 (show jw_cd cd_170 92 = some (.if_icmp .eq 5) by decide +kernel) (mb_t (q := .eq) (a := (dv y).1.1) (b := 3) (t := 97) (by show (dv y).1.1 = 3; omega) ⟨by omega, by omega⟩ ⟨by omega, by omega⟩ (by decide) (by decide)) ?_
      refine jr_1 jm_170 (show jw_cd cd_170 97 = some (.aload_n 1) by decide +kernel) rfl ?_
      refine jr_1 jm_170 (show jw_cd cd_170 98 = some (.getfield 137) by decide +kernel) (js_getf (cl_old hl ⟨by omega, oA⟩) (jbg (by omega)) (show jw_fld 9 137 14 = some 6 by decide +kernel) rfl) ?_
      refine jr_1 jm_170 (show jw_cd cd_170 101 = some (.tableswitch 81 3 5 #[27, 45, 63]) by decide +kernel) (mt_td (t := 182) ⟨by omega, by omega⟩ (by omega) (by decide)) ?_
      refine jr_1 jm_170 (show jw_cd cd_170 182 = some (.aload_n 3) by decide +kernel) rfl ?_
      refine jr_1 jm_170 (show jw_cd cd_170 183 = some (.getfield 151) by decide +kernel) (js_getf hA (jbg (by omega)) (show jw_fld 9 151 5 = some 1 by decide +kernel) rfl) ?_
      refine jr_1 jm_170 (show jw_cd cd_170 186 = some (.aload 4) by decide +kernel) rfl ?_
      refine jr_1 jm_170 (show jw_cd cd_170 188 = some (.getfield 151) by decide +kernel) (js_getf hqA (jbg (by omega)) (show jw_fld 9 151 5 = some 1 by decide +kernel) rfl) ?_
      refine jr_1 jm_170 (show jw_cd cd_170 191 = some (.if_icmp .lt 7) by decide +kernel) (mb_t (q := .lt) (a := (dv x).1.2.1) (b := (dv y).1.2.1) (t := 198) (by show (dv x).1.2.1 < (dv y).1.2.1; omega) hn1 hn2 (by decide) (by decide)) ?_
      refine jr_1 jm_170 (show jw_cd cd_170 198 = some (.iconst 0) by decide +kernel) rfl ?_
      exact jr_v jm_170 (show jw_cd cd_170 199 = some (.ireturn) by decide +kernel) rfl
  by_cases h5 : gg = 5
  · have hsg : sg = 3 := by rw [esg2, h5]; rfl
    by_cases hc : (dv x).1.2.1 < (dv y).1.2.1
    · rw [if_pos (decide_eq_true ⟨hk1, hk2, by rw [if_neg h3, if_neg h4', if_pos h5]; exact hc⟩)]
      refine jr_1 jm_170 (show jw_cd cd_170 0 = some (.aload_n 0) by decide +kernel) rfl ?_
      refine jr_1 jm_170 (show jw_cd cd_170 1 = some (.aload_n 1) by decide +kernel) rfl ?_
      refine jr_1 jm_170 (show jw_cd cd_170 2 = some (.getfield 129) by decide +kernel) (js_getf (cl_old hl ⟨by omega, oA⟩) (jbg (by omega)) (show jw_fld 9 129 14 = some 5 by decide +kernel) rfl) ?_
      refine jr_1 jm_170 (show jw_cd cd_170 5 = some (.aload_n 2) by decide +kernel) rfl ?_
      refine jr_c jm_170 (show jw_cd cd_170 6 = some (.invokevirtual 133) by decide +kernel) (ccv (n := 2) (m2 := 171) (ci := 6) (a := 10) (bs := [.ref lb, .ref it]) (r := []) (js_cls cl_c10 (by decide)) (show jw_find jw_cvT 9 133 = some (2, [(6, 171)]) by decide +kernel) (by decide) rfl rfl rfl) jm_171 ⟨Nat.le_of_ble_eq_true rfl, by decide⟩ c1 ?_
      refine jr_1 jm_170 (F2 := (10, [some (.ref 10), some (.ref sp), some (.ref it), some (.ref lc), none], [], (cl_mk h κ))) (show jw_cd cd_170 9 = some (.astore_n 3) by decide +kernel) rfl ?_
      refine jr_1 jm_170 (show jw_cd cd_170 10 = some (.aload_n 1) by decide +kernel) rfl ?_
      refine jr_1 jm_170 (show jw_cd cd_170 11 = some (.getfield 137) by decide +kernel) (js_getf (cl_old hl ⟨by omega, oA⟩) (jbg (by omega)) (show jw_fld 9 137 14 = some 6 by decide +kernel) rfl) ?_
      refine jr_1 jm_170 (show jw_cd cd_170 14 = some (.ifCond .ne 8) by decide +kernel) (mz_t (q := .ne) (a := sg) (t := 22) (by show ¬ (sg = 0); omega) ⟨by omega, by omega⟩ (by decide) (by decide)) ?_
      refine jr_1 jm_170 (show jw_cd cd_170 22 = some (.aload_n 0) by decide +kernel) rfl ?_
      refine jr_1 jm_170 (show jw_cd cd_170 23 = some (.aload_n 1) by decide +kernel) rfl ?_
      refine jr_1 jm_170 (show jw_cd cd_170 24 = some (.getfield 144) by decide +kernel) (js_getf (cl_old hl ⟨by omega, oA⟩) (jbg (by omega)) (show jw_fld 9 144 14 = some 7 by decide +kernel) rfl) ?_
      refine jr_1 jm_170 (show jw_cd cd_170 27 = some (.aload_n 2) by decide +kernel) rfl ?_
      refine jr_c jm_170 (show jw_cd cd_170 28 = some (.invokevirtual 133) by decide +kernel) (ccv (n := 2) (m2 := 171) (ci := 6) (a := 10) (bs := [.ref rb, .ref it]) (r := []) (js_cls cl_c10 (by decide)) (show jw_find jw_cvT 9 133 = some (2, [(6, 171)]) by decide +kernel) (by decide) rfl rfl rfl) jm_171 ⟨Nat.le_of_ble_eq_true rfl, by decide⟩ c2 ?_
      refine jr_1 jm_170 (F2 := (33, [some (.ref 10), some (.ref sp), some (.ref it), some (.ref lc), some (.ref rc)], [], (cl_mk h κ))) (show jw_cd cd_170 31 = some (.astore 4) by decide +kernel) rfl ?_
      refine jr_1 jm_170 (show jw_cd cd_170 33 = some (.aload_n 1) by decide +kernel) rfl ?_
      refine jr_1 jm_170 (show jw_cd cd_170 34 = some (.getfield 137) by decide +kernel) (js_getf (cl_old hl ⟨by omega, oA⟩) (jbg (by omega)) (show jw_fld 9 137 14 = some 6 by decide +kernel) rfl) ?_
      refine jr_1 jm_170 (show jw_cd cd_170 37 = some (.iconst 1) by decide +kernel) rfl ?_
      refine jr_1 jm_170 (show jw_cd cd_170 38 = some (.if_icmp .eq 11) by decide +kernel) (mb_f (q := .eq) (a := sg) (b := 1) (by show ¬ (sg = 1); omega) ⟨by omega, by omega⟩ ⟨by omega, by omega⟩ (by decide)) ?_
      refine jr_1 jm_170 (show jw_cd cd_170 41 = some (.aload_n 1) by decide +kernel) rfl ?_
      refine jr_1 jm_170 (show jw_cd cd_170 42 = some (.getfield 137) by decide +kernel) (js_getf (cl_old hl ⟨by omega, oA⟩) (jbg (by omega)) (show jw_fld 9 137 14 = some 6 by decide +kernel) rfl) ?_
      refine jr_1 jm_170 (show jw_cd cd_170 45 = some (.iconst 2) by decide +kernel) rfl ?_
      refine jr_1 jm_170 (show jw_cd cd_170 46 = some (.if_icmp .ne 32) by decide +kernel) (mb_t (q := .ne) (a := sg) (b := 2) (t := 78) (by show ¬ (sg = 2); omega) ⟨by omega, by omega⟩ ⟨by omega, by omega⟩ (by decide) (by decide)) ?_
      refine jr_1 jm_170 (show jw_cd cd_170 78 = some (.aload_n 3) by decide +kernel) rfl ?_
      refine jr_1 jm_170 (show jw_cd cd_170 79 = some (.getfield 91) by decide +kernel) (js_getf hA (jbg (by omega)) (show jw_fld 9 91 5 = some 0 by decide +kernel) rfl) ?_
      refine jr_1 jm_170 (show jw_cd cd_170 82 = some (.iconst 3) by decide +kernel) rfl ?_
      refine jr_1 jm_170 (show jw_cd cd_170 83 = some (.if_icmp .ne 12) by decide +kernel) (mb_f (q := .ne) (a := (dv x).1.1) (b := 3) (by show ¬ (¬ ((dv x).1.1 = 3)); omega) ⟨by omega, by omega⟩ ⟨by omega, by omega⟩ (by decide)) ?_
      refine jr_1 jm_170 (show jw_cd cd_170 86 = some (.aload 4) by decide +kernel) rfl ?_
      refine jr_1 jm_170 (show jw_cd cd_170 88 = some (.getfield 91) by decide +kernel) (js_getf hqA (jbg (by omega)) (show jw_fld 9 91 5 = some 0 by decide +kernel) rfl) ?_
      refine jr_1 jm_170 (show jw_cd cd_170 91 = some (.iconst 3) by decide +kernel) rfl ?_
      refine jr_1 jm_170 (show jw_cd cd_170 92 = some (.if_icmp .eq 5) by decide +kernel) (mb_t (q := .eq) (a := (dv y).1.1) (b := 3) (t := 97) (by show (dv y).1.1 = 3; omega) ⟨by omega, by omega⟩ ⟨by omega, by omega⟩ (by decide) (by decide)) ?_
      refine jr_1 jm_170 (show jw_cd cd_170 97 = some (.aload_n 1) by decide +kernel) rfl ?_
      refine jr_1 jm_170 (show jw_cd cd_170 98 = some (.getfield 137) by decide +kernel) (js_getf (cl_old hl ⟨by omega, oA⟩) (jbg (by omega)) (show jw_fld 9 137 14 = some 6 by decide +kernel) rfl) ?_
      refine jr_1 jm_170 (show jw_cd cd_170 101 = some (.tableswitch 81 3 5 #[27, 45, 63]) by decide +kernel) (mt_ts (t := 128) (off := 27) ⟨by omega, by omega⟩ (by omega) (by rw [hsg]; rfl) (by decide)) ?_
      refine jr_1 jm_170 (show jw_cd cd_170 128 = some (.aload_n 3) by decide +kernel) rfl ?_
      refine jr_1 jm_170 (show jw_cd cd_170 129 = some (.getfield 151) by decide +kernel) (js_getf hA (jbg (by omega)) (show jw_fld 9 151 5 = some 1 by decide +kernel) rfl) ?_
      refine jr_1 jm_170 (show jw_cd cd_170 132 = some (.aload 4) by decide +kernel) rfl ?_
      refine jr_1 jm_170 (show jw_cd cd_170 134 = some (.getfield 151) by decide +kernel) (js_getf hqA (jbg (by omega)) (show jw_fld 9 151 5 = some 1 by decide +kernel) rfl) ?_
      refine jr_1 jm_170 (show jw_cd cd_170 137 = some (.if_icmp .ge 7) by decide +kernel) (mb_f (q := .ge) (a := (dv x).1.2.1) (b := (dv y).1.2.1) (by show ¬ ((dv y).1.2.1 ≤ (dv x).1.2.1); omega) hn1 hn2 (by decide)) ?_
      refine jr_1 jm_170 (show jw_cd cd_170 140 = some (.iconst 1) by decide +kernel) rfl ?_
      refine jr_1 jm_170 (show jw_cd cd_170 141 = some (.goto 4) by decide +kernel) (ju_go (t := 145) (by decide)) ?_
      exact jr_v jm_170 (show jw_cd cd_170 145 = some (.ireturn) by decide +kernel) rfl
    · rw [if_neg (by rw [decide_eq_true_eq]; rintro ⟨-, -, z⟩; revert z; rw [if_neg h3, if_neg h4', if_pos h5]; exact hc)]
      refine jr_1 jm_170 (show jw_cd cd_170 0 = some (.aload_n 0) by decide +kernel) rfl ?_
      refine jr_1 jm_170 (show jw_cd cd_170 1 = some (.aload_n 1) by decide +kernel) rfl ?_
      refine jr_1 jm_170 (show jw_cd cd_170 2 = some (.getfield 129) by decide +kernel) (js_getf (cl_old hl ⟨by omega, oA⟩) (jbg (by omega)) (show jw_fld 9 129 14 = some 5 by decide +kernel) rfl) ?_
      refine jr_1 jm_170 (show jw_cd cd_170 5 = some (.aload_n 2) by decide +kernel) rfl ?_
      refine jr_c jm_170 (show jw_cd cd_170 6 = some (.invokevirtual 133) by decide +kernel) (ccv (n := 2) (m2 := 171) (ci := 6) (a := 10) (bs := [.ref lb, .ref it]) (r := []) (js_cls cl_c10 (by decide)) (show jw_find jw_cvT 9 133 = some (2, [(6, 171)]) by decide +kernel) (by decide) rfl rfl rfl) jm_171 ⟨Nat.le_of_ble_eq_true rfl, by decide⟩ c1 ?_
      refine jr_1 jm_170 (F2 := (10, [some (.ref 10), some (.ref sp), some (.ref it), some (.ref lc), none], [], (cl_mk h κ))) (show jw_cd cd_170 9 = some (.astore_n 3) by decide +kernel) rfl ?_
      refine jr_1 jm_170 (show jw_cd cd_170 10 = some (.aload_n 1) by decide +kernel) rfl ?_
      refine jr_1 jm_170 (show jw_cd cd_170 11 = some (.getfield 137) by decide +kernel) (js_getf (cl_old hl ⟨by omega, oA⟩) (jbg (by omega)) (show jw_fld 9 137 14 = some 6 by decide +kernel) rfl) ?_
      refine jr_1 jm_170 (show jw_cd cd_170 14 = some (.ifCond .ne 8) by decide +kernel) (mz_t (q := .ne) (a := sg) (t := 22) (by show ¬ (sg = 0); omega) ⟨by omega, by omega⟩ (by decide) (by decide)) ?_
      refine jr_1 jm_170 (show jw_cd cd_170 22 = some (.aload_n 0) by decide +kernel) rfl ?_
      refine jr_1 jm_170 (show jw_cd cd_170 23 = some (.aload_n 1) by decide +kernel) rfl ?_
      refine jr_1 jm_170 (show jw_cd cd_170 24 = some (.getfield 144) by decide +kernel) (js_getf (cl_old hl ⟨by omega, oA⟩) (jbg (by omega)) (show jw_fld 9 144 14 = some 7 by decide +kernel) rfl) ?_
      refine jr_1 jm_170 (show jw_cd cd_170 27 = some (.aload_n 2) by decide +kernel) rfl ?_
      refine jr_c jm_170 (show jw_cd cd_170 28 = some (.invokevirtual 133) by decide +kernel) (ccv (n := 2) (m2 := 171) (ci := 6) (a := 10) (bs := [.ref rb, .ref it]) (r := []) (js_cls cl_c10 (by decide)) (show jw_find jw_cvT 9 133 = some (2, [(6, 171)]) by decide +kernel) (by decide) rfl rfl rfl) jm_171 ⟨Nat.le_of_ble_eq_true rfl, by decide⟩ c2 ?_
      refine jr_1 jm_170 (F2 := (33, [some (.ref 10), some (.ref sp), some (.ref it), some (.ref lc), some (.ref rc)], [], (cl_mk h κ))) (show jw_cd cd_170 31 = some (.astore 4) by decide +kernel) rfl ?_
      refine jr_1 jm_170 (show jw_cd cd_170 33 = some (.aload_n 1) by decide +kernel) rfl ?_
      refine jr_1 jm_170 (show jw_cd cd_170 34 = some (.getfield 137) by decide +kernel) (js_getf (cl_old hl ⟨by omega, oA⟩) (jbg (by omega)) (show jw_fld 9 137 14 = some 6 by decide +kernel) rfl) ?_
      refine jr_1 jm_170 (show jw_cd cd_170 37 = some (.iconst 1) by decide +kernel) rfl ?_
      refine jr_1 jm_170 (show jw_cd cd_170 38 = some (.if_icmp .eq 11) by decide +kernel) (mb_f (q := .eq) (a := sg) (b := 1) (by show ¬ (sg = 1); omega) ⟨by omega, by omega⟩ ⟨by omega, by omega⟩ (by decide)) ?_
      refine jr_1 jm_170 (show jw_cd cd_170 41 = some (.aload_n 1) by decide +kernel) rfl ?_
      refine jr_1 jm_170 (show jw_cd cd_170 42 = some (.getfield 137) by decide +kernel) (js_getf (cl_old hl ⟨by omega, oA⟩) (jbg (by omega)) (show jw_fld 9 137 14 = some 6 by decide +kernel) rfl) ?_
      refine jr_1 jm_170 (show jw_cd cd_170 45 = some (.iconst 2) by decide +kernel) rfl ?_
      refine jr_1 jm_170 (show jw_cd cd_170 46 = some (.if_icmp .ne 32) by decide +kernel) (mb_t (q := .ne) (a := sg) (b := 2) (t := 78) (by show ¬ (sg = 2); omega) ⟨by omega, by omega⟩ ⟨by omega, by omega⟩ (by decide) (by decide)) ?_
      refine jr_1 jm_170 (show jw_cd cd_170 78 = some (.aload_n 3) by decide +kernel) rfl ?_
      refine jr_1 jm_170 (show jw_cd cd_170 79 = some (.getfield 91) by decide +kernel) (js_getf hA (jbg (by omega)) (show jw_fld 9 91 5 = some 0 by decide +kernel) rfl) ?_
      refine jr_1 jm_170 (show jw_cd cd_170 82 = some (.iconst 3) by decide +kernel) rfl ?_
      refine jr_1 jm_170 (show jw_cd cd_170 83 = some (.if_icmp .ne 12) by decide +kernel) (mb_f (q := .ne) (a := (dv x).1.1) (b := 3) (by show ¬ (¬ ((dv x).1.1 = 3)); omega) ⟨by omega, by omega⟩ ⟨by omega, by omega⟩ (by decide)) ?_
      refine jr_1 jm_170 (show jw_cd cd_170 86 = some (.aload 4) by decide +kernel) rfl ?_
      refine jr_1 jm_170 (show jw_cd cd_170 88 = some (.getfield 91) by decide +kernel) (js_getf hqA (jbg (by omega)) (show jw_fld 9 91 5 = some 0 by decide +kernel) rfl) ?_
      refine jr_1 jm_170 (show jw_cd cd_170 91 = some (.iconst 3) by decide +kernel) rfl ?_
      refine jr_1 jm_170 (show jw_cd cd_170 92 = some (.if_icmp .eq 5) by decide +kernel) (mb_t (q := .eq) (a := (dv y).1.1) (b := 3) (t := 97) (by show (dv y).1.1 = 3; omega) ⟨by omega, by omega⟩ ⟨by omega, by omega⟩ (by decide) (by decide)) ?_
      refine jr_1 jm_170 (show jw_cd cd_170 97 = some (.aload_n 1) by decide +kernel) rfl ?_
      refine jr_1 jm_170 (show jw_cd cd_170 98 = some (.getfield 137) by decide +kernel) (js_getf (cl_old hl ⟨by omega, oA⟩) (jbg (by omega)) (show jw_fld 9 137 14 = some 6 by decide +kernel) rfl) ?_
      refine jr_1 jm_170 (show jw_cd cd_170 101 = some (.tableswitch 81 3 5 #[27, 45, 63]) by decide +kernel) (mt_ts (t := 128) (off := 27) ⟨by omega, by omega⟩ (by omega) (by rw [hsg]; rfl) (by decide)) ?_
      refine jr_1 jm_170 (show jw_cd cd_170 128 = some (.aload_n 3) by decide +kernel) rfl ?_
      refine jr_1 jm_170 (show jw_cd cd_170 129 = some (.getfield 151) by decide +kernel) (js_getf hA (jbg (by omega)) (show jw_fld 9 151 5 = some 1 by decide +kernel) rfl) ?_
      refine jr_1 jm_170 (show jw_cd cd_170 132 = some (.aload 4) by decide +kernel) rfl ?_
      refine jr_1 jm_170 (show jw_cd cd_170 134 = some (.getfield 151) by decide +kernel) (js_getf hqA (jbg (by omega)) (show jw_fld 9 151 5 = some 1 by decide +kernel) rfl) ?_
      refine jr_1 jm_170 (show jw_cd cd_170 137 = some (.if_icmp .ge 7) by decide +kernel) (mb_t (q := .ge) (a := (dv x).1.2.1) (b := (dv y).1.2.1) (t := 144) (by show (dv y).1.2.1 ≤ (dv x).1.2.1; omega) hn1 hn2 (by decide) (by decide)) ?_
      refine jr_1 jm_170 (show jw_cd cd_170 144 = some (.iconst 0) by decide +kernel) rfl ?_
      exact jr_v jm_170 (show jw_cd cd_170 145 = some (.ireturn) by decide +kernel) rfl
  · have hsg : sg = 5 := by rw [esg2, show gg = 6 by omega]; rfl
    by_cases hc : (dv y).1.2.1 < (dv x).1.2.1
    · rw [if_pos (decide_eq_true ⟨hk1, hk2, by rw [if_neg h3, if_neg h4', if_neg h5]; exact hc⟩)]
      refine jr_1 jm_170 (show jw_cd cd_170 0 = some (.aload_n 0) by decide +kernel) rfl ?_
      refine jr_1 jm_170 (show jw_cd cd_170 1 = some (.aload_n 1) by decide +kernel) rfl ?_
      refine jr_1 jm_170 (show jw_cd cd_170 2 = some (.getfield 129) by decide +kernel) (js_getf (cl_old hl ⟨by omega, oA⟩) (jbg (by omega)) (show jw_fld 9 129 14 = some 5 by decide +kernel) rfl) ?_
      refine jr_1 jm_170 (show jw_cd cd_170 5 = some (.aload_n 2) by decide +kernel) rfl ?_
      refine jr_c jm_170 (show jw_cd cd_170 6 = some (.invokevirtual 133) by decide +kernel) (ccv (n := 2) (m2 := 171) (ci := 6) (a := 10) (bs := [.ref lb, .ref it]) (r := []) (js_cls cl_c10 (by decide)) (show jw_find jw_cvT 9 133 = some (2, [(6, 171)]) by decide +kernel) (by decide) rfl rfl rfl) jm_171 ⟨Nat.le_of_ble_eq_true rfl, by decide⟩ c1 ?_
      refine jr_1 jm_170 (F2 := (10, [some (.ref 10), some (.ref sp), some (.ref it), some (.ref lc), none], [], (cl_mk h κ))) (show jw_cd cd_170 9 = some (.astore_n 3) by decide +kernel) rfl ?_
      refine jr_1 jm_170 (show jw_cd cd_170 10 = some (.aload_n 1) by decide +kernel) rfl ?_
      refine jr_1 jm_170 (show jw_cd cd_170 11 = some (.getfield 137) by decide +kernel) (js_getf (cl_old hl ⟨by omega, oA⟩) (jbg (by omega)) (show jw_fld 9 137 14 = some 6 by decide +kernel) rfl) ?_
      refine jr_1 jm_170 (show jw_cd cd_170 14 = some (.ifCond .ne 8) by decide +kernel) (mz_t (q := .ne) (a := sg) (t := 22) (by show ¬ (sg = 0); omega) ⟨by omega, by omega⟩ (by decide) (by decide)) ?_
      refine jr_1 jm_170 (show jw_cd cd_170 22 = some (.aload_n 0) by decide +kernel) rfl ?_
      refine jr_1 jm_170 (show jw_cd cd_170 23 = some (.aload_n 1) by decide +kernel) rfl ?_
      refine jr_1 jm_170 (show jw_cd cd_170 24 = some (.getfield 144) by decide +kernel) (js_getf (cl_old hl ⟨by omega, oA⟩) (jbg (by omega)) (show jw_fld 9 144 14 = some 7 by decide +kernel) rfl) ?_
      refine jr_1 jm_170 (show jw_cd cd_170 27 = some (.aload_n 2) by decide +kernel) rfl ?_
      refine jr_c jm_170 (show jw_cd cd_170 28 = some (.invokevirtual 133) by decide +kernel) (ccv (n := 2) (m2 := 171) (ci := 6) (a := 10) (bs := [.ref rb, .ref it]) (r := []) (js_cls cl_c10 (by decide)) (show jw_find jw_cvT 9 133 = some (2, [(6, 171)]) by decide +kernel) (by decide) rfl rfl rfl) jm_171 ⟨Nat.le_of_ble_eq_true rfl, by decide⟩ c2 ?_
      refine jr_1 jm_170 (F2 := (33, [some (.ref 10), some (.ref sp), some (.ref it), some (.ref lc), some (.ref rc)], [], (cl_mk h κ))) (show jw_cd cd_170 31 = some (.astore 4) by decide +kernel) rfl ?_
      refine jr_1 jm_170 (show jw_cd cd_170 33 = some (.aload_n 1) by decide +kernel) rfl ?_
      refine jr_1 jm_170 (show jw_cd cd_170 34 = some (.getfield 137) by decide +kernel) (js_getf (cl_old hl ⟨by omega, oA⟩) (jbg (by omega)) (show jw_fld 9 137 14 = some 6 by decide +kernel) rfl) ?_
      refine jr_1 jm_170 (show jw_cd cd_170 37 = some (.iconst 1) by decide +kernel) rfl ?_
      refine jr_1 jm_170 (show jw_cd cd_170 38 = some (.if_icmp .eq 11) by decide +kernel) (mb_f (q := .eq) (a := sg) (b := 1) (by show ¬ (sg = 1); omega) ⟨by omega, by omega⟩ ⟨by omega, by omega⟩ (by decide)) ?_
      refine jr_1 jm_170 (show jw_cd cd_170 41 = some (.aload_n 1) by decide +kernel) rfl ?_
      refine jr_1 jm_170 (show jw_cd cd_170 42 = some (.getfield 137) by decide +kernel) (js_getf (cl_old hl ⟨by omega, oA⟩) (jbg (by omega)) (show jw_fld 9 137 14 = some 6 by decide +kernel) rfl) ?_
      refine jr_1 jm_170 (show jw_cd cd_170 45 = some (.iconst 2) by decide +kernel) rfl ?_
      refine jr_1 jm_170 (show jw_cd cd_170 46 = some (.if_icmp .ne 32) by decide +kernel) (mb_t (q := .ne) (a := sg) (b := 2) (t := 78) (by show ¬ (sg = 2); omega) ⟨by omega, by omega⟩ ⟨by omega, by omega⟩ (by decide) (by decide)) ?_
      refine jr_1 jm_170 (show jw_cd cd_170 78 = some (.aload_n 3) by decide +kernel) rfl ?_
      refine jr_1 jm_170 (show jw_cd cd_170 79 = some (.getfield 91) by decide +kernel) (js_getf hA (jbg (by omega)) (show jw_fld 9 91 5 = some 0 by decide +kernel) rfl) ?_
      refine jr_1 jm_170 (show jw_cd cd_170 82 = some (.iconst 3) by decide +kernel) rfl ?_
      refine jr_1 jm_170 (show jw_cd cd_170 83 = some (.if_icmp .ne 12) by decide +kernel) (mb_f (q := .ne) (a := (dv x).1.1) (b := 3) (by show ¬ (¬ ((dv x).1.1 = 3)); omega) ⟨by omega, by omega⟩ ⟨by omega, by omega⟩ (by decide)) ?_
      refine jr_1 jm_170 (show jw_cd cd_170 86 = some (.aload 4) by decide +kernel) rfl ?_
      refine jr_1 jm_170 (show jw_cd cd_170 88 = some (.getfield 91) by decide +kernel) (js_getf hqA (jbg (by omega)) (show jw_fld 9 91 5 = some 0 by decide +kernel) rfl) ?_
      refine jr_1 jm_170 (show jw_cd cd_170 91 = some (.iconst 3) by decide +kernel) rfl ?_
      refine jr_1 jm_170 (show jw_cd cd_170 92 = some (.if_icmp .eq 5) by decide +kernel) (mb_t (q := .eq) (a := (dv y).1.1) (b := 3) (t := 97) (by show (dv y).1.1 = 3; omega) ⟨by omega, by omega⟩ ⟨by omega, by omega⟩ (by decide) (by decide)) ?_
      refine jr_1 jm_170 (show jw_cd cd_170 97 = some (.aload_n 1) by decide +kernel) rfl ?_
      refine jr_1 jm_170 (show jw_cd cd_170 98 = some (.getfield 137) by decide +kernel) (js_getf (cl_old hl ⟨by omega, oA⟩) (jbg (by omega)) (show jw_fld 9 137 14 = some 6 by decide +kernel) rfl) ?_
      refine jr_1 jm_170 (show jw_cd cd_170 101 = some (.tableswitch 81 3 5 #[27, 45, 63]) by decide +kernel) (mt_ts (t := 164) (off := 63) ⟨by omega, by omega⟩ (by omega) (by rw [hsg]; rfl) (by decide)) ?_
      refine jr_1 jm_170 (show jw_cd cd_170 164 = some (.aload_n 3) by decide +kernel) rfl ?_
      refine jr_1 jm_170 (show jw_cd cd_170 165 = some (.getfield 151) by decide +kernel) (js_getf hA (jbg (by omega)) (show jw_fld 9 151 5 = some 1 by decide +kernel) rfl) ?_
      refine jr_1 jm_170 (show jw_cd cd_170 168 = some (.aload 4) by decide +kernel) rfl ?_
      refine jr_1 jm_170 (show jw_cd cd_170 170 = some (.getfield 151) by decide +kernel) (js_getf hqA (jbg (by omega)) (show jw_fld 9 151 5 = some 1 by decide +kernel) rfl) ?_
      refine jr_1 jm_170 (show jw_cd cd_170 173 = some (.if_icmp .le 7) by decide +kernel) (mb_f (q := .le) (a := (dv x).1.2.1) (b := (dv y).1.2.1) (by show ¬ ((dv x).1.2.1 ≤ (dv y).1.2.1); omega) hn1 hn2 (by decide)) ?_
      refine jr_1 jm_170 (show jw_cd cd_170 176 = some (.iconst 1) by decide +kernel) rfl ?_
      refine jr_1 jm_170 (show jw_cd cd_170 177 = some (.goto 4) by decide +kernel) (ju_go (t := 181) (by decide)) ?_
      exact jr_v jm_170 (show jw_cd cd_170 181 = some (.ireturn) by decide +kernel) rfl
    · rw [if_neg (by rw [decide_eq_true_eq]; rintro ⟨-, -, z⟩; revert z; rw [if_neg h3, if_neg h4', if_neg h5]; exact hc)]
      refine jr_1 jm_170 (show jw_cd cd_170 0 = some (.aload_n 0) by decide +kernel) rfl ?_
      refine jr_1 jm_170 (show jw_cd cd_170 1 = some (.aload_n 1) by decide +kernel) rfl ?_
      refine jr_1 jm_170 (show jw_cd cd_170 2 = some (.getfield 129) by decide +kernel) (js_getf (cl_old hl ⟨by omega, oA⟩) (jbg (by omega)) (show jw_fld 9 129 14 = some 5 by decide +kernel) rfl) ?_
      refine jr_1 jm_170 (show jw_cd cd_170 5 = some (.aload_n 2) by decide +kernel) rfl ?_
      refine jr_c jm_170 (show jw_cd cd_170 6 = some (.invokevirtual 133) by decide +kernel) (ccv (n := 2) (m2 := 171) (ci := 6) (a := 10) (bs := [.ref lb, .ref it]) (r := []) (js_cls cl_c10 (by decide)) (show jw_find jw_cvT 9 133 = some (2, [(6, 171)]) by decide +kernel) (by decide) rfl rfl rfl) jm_171 ⟨Nat.le_of_ble_eq_true rfl, by decide⟩ c1 ?_
      refine jr_1 jm_170 (F2 := (10, [some (.ref 10), some (.ref sp), some (.ref it), some (.ref lc), none], [], (cl_mk h κ))) (show jw_cd cd_170 9 = some (.astore_n 3) by decide +kernel) rfl ?_
      refine jr_1 jm_170 (show jw_cd cd_170 10 = some (.aload_n 1) by decide +kernel) rfl ?_
      refine jr_1 jm_170 (show jw_cd cd_170 11 = some (.getfield 137) by decide +kernel) (js_getf (cl_old hl ⟨by omega, oA⟩) (jbg (by omega)) (show jw_fld 9 137 14 = some 6 by decide +kernel) rfl) ?_
      refine jr_1 jm_170 (show jw_cd cd_170 14 = some (.ifCond .ne 8) by decide +kernel) (mz_t (q := .ne) (a := sg) (t := 22) (by show ¬ (sg = 0); omega) ⟨by omega, by omega⟩ (by decide) (by decide)) ?_
      refine jr_1 jm_170 (show jw_cd cd_170 22 = some (.aload_n 0) by decide +kernel) rfl ?_
      refine jr_1 jm_170 (show jw_cd cd_170 23 = some (.aload_n 1) by decide +kernel) rfl ?_
      refine jr_1 jm_170 (show jw_cd cd_170 24 = some (.getfield 144) by decide +kernel) (js_getf (cl_old hl ⟨by omega, oA⟩) (jbg (by omega)) (show jw_fld 9 144 14 = some 7 by decide +kernel) rfl) ?_
      refine jr_1 jm_170 (show jw_cd cd_170 27 = some (.aload_n 2) by decide +kernel) rfl ?_
      refine jr_c jm_170 (show jw_cd cd_170 28 = some (.invokevirtual 133) by decide +kernel) (ccv (n := 2) (m2 := 171) (ci := 6) (a := 10) (bs := [.ref rb, .ref it]) (r := []) (js_cls cl_c10 (by decide)) (show jw_find jw_cvT 9 133 = some (2, [(6, 171)]) by decide +kernel) (by decide) rfl rfl rfl) jm_171 ⟨Nat.le_of_ble_eq_true rfl, by decide⟩ c2 ?_
      refine jr_1 jm_170 (F2 := (33, [some (.ref 10), some (.ref sp), some (.ref it), some (.ref lc), some (.ref rc)], [], (cl_mk h κ))) (show jw_cd cd_170 31 = some (.astore 4) by decide +kernel) rfl ?_
      refine jr_1 jm_170 (show jw_cd cd_170 33 = some (.aload_n 1) by decide +kernel) rfl ?_
      refine jr_1 jm_170 (show jw_cd cd_170 34 = some (.getfield 137) by decide +kernel) (js_getf (cl_old hl ⟨by omega, oA⟩) (jbg (by omega)) (show jw_fld 9 137 14 = some 6 by decide +kernel) rfl) ?_
      refine jr_1 jm_170 (show jw_cd cd_170 37 = some (.iconst 1) by decide +kernel) rfl ?_
      refine jr_1 jm_170 (show jw_cd cd_170 38 = some (.if_icmp .eq 11) by decide +kernel) (mb_f (q := .eq) (a := sg) (b := 1) (by show ¬ (sg = 1); omega) ⟨by omega, by omega⟩ ⟨by omega, by omega⟩ (by decide)) ?_
      refine jr_1 jm_170 (show jw_cd cd_170 41 = some (.aload_n 1) by decide +kernel) rfl ?_
      refine jr_1 jm_170 (show jw_cd cd_170 42 = some (.getfield 137) by decide +kernel) (js_getf (cl_old hl ⟨by omega, oA⟩) (jbg (by omega)) (show jw_fld 9 137 14 = some 6 by decide +kernel) rfl) ?_
      refine jr_1 jm_170 (show jw_cd cd_170 45 = some (.iconst 2) by decide +kernel) rfl ?_
      refine jr_1 jm_170 (show jw_cd cd_170 46 = some (.if_icmp .ne 32) by decide +kernel) (mb_t (q := .ne) (a := sg) (b := 2) (t := 78) (by show ¬ (sg = 2); omega) ⟨by omega, by omega⟩ ⟨by omega, by omega⟩ (by decide) (by decide)) ?_
      refine jr_1 jm_170 (show jw_cd cd_170 78 = some (.aload_n 3) by decide +kernel) rfl ?_
      refine jr_1 jm_170 (show jw_cd cd_170 79 = some (.getfield 91) by decide +kernel) (js_getf hA (jbg (by omega)) (show jw_fld 9 91 5 = some 0 by decide +kernel) rfl) ?_
      refine jr_1 jm_170 (show jw_cd cd_170 82 = some (.iconst 3) by decide +kernel) rfl ?_
      refine jr_1 jm_170 (show jw_cd cd_170 83 = some (.if_icmp .ne 12) by decide +kernel) (mb_f (q := .ne) (a := (dv x).1.1) (b := 3) (by show ¬ (¬ ((dv x).1.1 = 3)); omega) ⟨by omega, by omega⟩ ⟨by omega, by omega⟩ (by decide)) ?_
      refine jr_1 jm_170 (show jw_cd cd_170 86 = some (.aload 4) by decide +kernel) rfl ?_
      refine jr_1 jm_170 (show jw_cd cd_170 88 = some (.getfield 91) by decide +kernel) (js_getf hqA (jbg (by omega)) (show jw_fld 9 91 5 = some 0 by decide +kernel) rfl) ?_
      refine jr_1 jm_170 (show jw_cd cd_170 91 = some (.iconst 3) by decide +kernel) rfl ?_
      refine jr_1 jm_170 (show jw_cd cd_170 92 = some (.if_icmp .eq 5) by decide +kernel) (mb_t (q := .eq) (a := (dv y).1.1) (b := 3) (t := 97) (by show (dv y).1.1 = 3; omega) ⟨by omega, by omega⟩ ⟨by omega, by omega⟩ (by decide) (by decide)) ?_
      refine jr_1 jm_170 (show jw_cd cd_170 97 = some (.aload_n 1) by decide +kernel) rfl ?_
      refine jr_1 jm_170 (show jw_cd cd_170 98 = some (.getfield 137) by decide +kernel) (js_getf (cl_old hl ⟨by omega, oA⟩) (jbg (by omega)) (show jw_fld 9 137 14 = some 6 by decide +kernel) rfl) ?_
      refine jr_1 jm_170 (show jw_cd cd_170 101 = some (.tableswitch 81 3 5 #[27, 45, 63]) by decide +kernel) (mt_ts (t := 164) (off := 63) ⟨by omega, by omega⟩ (by omega) (by rw [hsg]; rfl) (by decide)) ?_
      refine jr_1 jm_170 (show jw_cd cd_170 164 = some (.aload_n 3) by decide +kernel) rfl ?_
      refine jr_1 jm_170 (show jw_cd cd_170 165 = some (.getfield 151) by decide +kernel) (js_getf hA (jbg (by omega)) (show jw_fld 9 151 5 = some 1 by decide +kernel) rfl) ?_
      refine jr_1 jm_170 (show jw_cd cd_170 168 = some (.aload 4) by decide +kernel) rfl ?_
      refine jr_1 jm_170 (show jw_cd cd_170 170 = some (.getfield 151) by decide +kernel) (js_getf hqA (jbg (by omega)) (show jw_fld 9 151 5 = some 1 by decide +kernel) rfl) ?_
      refine jr_1 jm_170 (show jw_cd cd_170 173 = some (.if_icmp .le 7) by decide +kernel) (mb_t (q := .le) (a := (dv x).1.2.1) (b := (dv y).1.2.1) (t := 180) (by show (dv x).1.2.1 ≤ (dv y).1.2.1; omega) hn1 hn2 (by decide) (by decide)) ?_
      refine jr_1 jm_170 (show jw_cd cd_170 180 = some (.iconst 0) by decide +kernel) rfl ?_
      exact jr_v jm_170 (show jw_cd cd_170 181 = some (.ireturn) by decide +kernel) rfl
theorem jc_takes {β : Bool} {d : Nat} {h : jx_H} {κ : mS} (hl : 50 ≤ h.length) {sp kt : Nat} {kd fr en z sg : Int} {le ri : Value} (hsp : 50 ≤ sp ∧ sp < 4000000000) (oA : h[sp]? = some (.inr (14, [.int (Int32.ofInt (kd)), .ref kt, .int (Int32.ofInt (fr)), .int (Int32.ofInt (en)), .int (Int32.ofInt (z)), le, .int (Int32.ofInt (sg)), ri]))) (hk : 0 ≤ kd ∧ kd ≤ 6) : jx_r (jz β) jw_M (d) 167 (0, [some (.ref sp)], [], (cl_mk h κ)) (cl_mk h (κ), .inl (some (.int (Int32.ofInt (if kd = 3 then 6 else 5))))) := by
  by_cases h3 : kd = 3
  · rw [if_pos h3]
    refine jr_1 jm_167 (show jw_cd cd_167 0 = some (.aload_n 0) by decide +kernel) rfl ?_
    refine jr_1 jm_167 (show jw_cd cd_167 1 = some (.getfield 9) by decide +kernel) (js_getf (cl_old hl ⟨by omega, oA⟩) (jbg (by omega)) (show jw_fld 30 9 14 = some 0 by decide +kernel) rfl) ?_
    refine jr_1 jm_167 (show jw_cd cd_167 4 = some (.iconst 3) by decide +kernel) rfl ?_
    refine jr_1 jm_167 (show jw_cd cd_167 5 = some (.if_icmp .ne 8) by decide +kernel) (mb_f (q := .ne) (a := kd) (b := 3) (by show ¬ (¬ (kd = 3)); omega) ⟨by omega, by omega⟩ ⟨by omega, by omega⟩ (by decide)) ?_
    refine jr_1 jm_167 (show jw_cd cd_167 8 = some (.bipush 6) by decide +kernel) (mt_bi (by decide)) ?_
    refine jr_1 jm_167 (show jw_cd cd_167 10 = some (.goto 4) by decide +kernel) (ju_go (t := 14) (by decide)) ?_
    exact jr_v jm_167 (show jw_cd cd_167 14 = some (.ireturn) by decide +kernel) rfl
  · rw [if_neg h3]
    refine jr_1 jm_167 (show jw_cd cd_167 0 = some (.aload_n 0) by decide +kernel) rfl ?_
    refine jr_1 jm_167 (show jw_cd cd_167 1 = some (.getfield 9) by decide +kernel) (js_getf (cl_old hl ⟨by omega, oA⟩) (jbg (by omega)) (show jw_fld 30 9 14 = some 0 by decide +kernel) rfl) ?_
    refine jr_1 jm_167 (show jw_cd cd_167 4 = some (.iconst 3) by decide +kernel) rfl ?_
    refine jr_1 jm_167 (show jw_cd cd_167 5 = some (.if_icmp .ne 8) by decide +kernel) (mb_t (q := .ne) (a := kd) (b := 3) (t := 13) (by show ¬ (kd = 3); omega) ⟨by omega, by omega⟩ ⟨by omega, by omega⟩ (by decide) (by decide)) ?_
    refine jr_1 jm_167 (show jw_cd cd_167 13 = some (.iconst 5) by decide +kernel) rfl ?_
    exact jr_v jm_167 (show jw_cd cd_167 14 = some (.ireturn) by decide +kernel) rfl
theorem jc_bound {β : Bool} {d : Nat} {h : jx_H} {κ : mS} (hl : 50 ≤ h.length) {sp kt : Nat} {kd fr en z sg : Int} {le ri : Value} (hsp : 50 ≤ sp ∧ sp < 4000000000) (oA : h[sp]? = some (.inr (14, [.int (Int32.ofInt (kd)), .ref kt, .int (Int32.ofInt (fr)), .int (Int32.ofInt (en)), .int (Int32.ofInt (z)), le, .int (Int32.ofInt (sg)), ri]))) {n : Nat} {x : Int} (hx : -1000001 ≤ x ∧ x ≤ 1000001) (hn : n ≤ 1000000) (hzr : mr z) : jx_r (jz β) jw_M (d) 169 (0, [some (.ref sp), some (.int (Int32.ofInt (x))), some (.int (Int32.ofInt (((n : Nat) : Int)))), none, none, none], [], (cl_mk h κ)) (cl_mk h (κ), .inl (some (.int (Int32.ofInt (clp (slLo z) (slHi z ((n : Nat) : Int)) (if x < 0 then x + ((n : Nat) : Int) else x)))))) := by
  obtain ⟨hz1, hz2⟩ := hzr
  by_cases hx0 : x < 0
  · by_cases hz : 0 < z
    · have eLo : slLo z = 0 := if_pos hz
      have eHi : slHi z ((n : Nat) : Int) = ((n : Nat) : Int) := if_pos hz
      have eP : (if x < 0 then x + ((n : Nat) : Int) else x) = x + ((n : Nat) : Int) := if_pos hx0
      refine jr_1 jm_169 (show jw_cd cd_169 0 = some (.iload_n 1) by decide +kernel) rfl ?_
      refine jr_1 jm_169 (show jw_cd cd_169 1 = some (.ifCond .ge 9) by decide +kernel) (mz_f (q := .ge) (a := x) (by show ¬ (0 ≤ x); omega) ⟨by omega, by omega⟩ (by decide)) ?_
      refine jr_1 jm_169 (show jw_cd cd_169 4 = some (.iload_n 1) by decide +kernel) rfl ?_
      refine jr_1 jm_169 (show jw_cd cd_169 5 = some (.iload_n 2) by decide +kernel) rfl ?_
      refine jr_1 jm_169 (show jw_cd cd_169 6 = some (.iadd) by decide +kernel) (mt_add (c := x + (((n : Nat) : Int))) rfl) ?_
      refine jr_1 jm_169 (show jw_cd cd_169 7 = some (.goto 4) by decide +kernel) (ju_go (t := 11) (by decide)) ?_
      refine jr_1 jm_169 (F2 := (12, [some (.ref sp), some (.int (Int32.ofInt (x))), some (.int (Int32.ofInt (((n : Nat) : Int)))), some (.int (Int32.ofInt (x + (((n : Nat) : Int))))), none, none], [], (cl_mk h κ))) (show jw_cd cd_169 11 = some (.istore_n 3) by decide +kernel) rfl ?_
      refine jr_1 jm_169 (show jw_cd cd_169 12 = some (.aload_n 0) by decide +kernel) rfl ?_
      refine jr_1 jm_169 (show jw_cd cd_169 13 = some (.getfield 28) by decide +kernel) (js_getf (cl_old hl ⟨by omega, oA⟩) (jbg (by omega)) (show jw_fld 30 28 14 = some 4 by decide +kernel) rfl) ?_
      refine jr_1 jm_169 (show jw_cd cd_169 16 = some (.ifCond .le 7) by decide +kernel) (mz_f (q := .le) (a := z) (by show ¬ (z ≤ 0); omega) ⟨by omega, by omega⟩ (by decide)) ?_
      refine jr_1 jm_169 (show jw_cd cd_169 19 = some (.iconst 0) by decide +kernel) rfl ?_
      refine jr_1 jm_169 (show jw_cd cd_169 20 = some (.goto 4) by decide +kernel) (ju_go (t := 24) (by decide)) ?_
      refine jr_1 jm_169 (F2 := (26, [some (.ref sp), some (.int (Int32.ofInt (x))), some (.int (Int32.ofInt (((n : Nat) : Int)))), some (.int (Int32.ofInt (x + (((n : Nat) : Int))))), some (.int (Int32.ofInt (0))), none], [], (cl_mk h κ))) (show jw_cd cd_169 24 = some (.istore 4) by decide +kernel) rfl ?_
      refine jr_1 jm_169 (show jw_cd cd_169 26 = some (.aload_n 0) by decide +kernel) rfl ?_
      refine jr_1 jm_169 (show jw_cd cd_169 27 = some (.getfield 28) by decide +kernel) (js_getf (cl_old hl ⟨by omega, oA⟩) (jbg (by omega)) (show jw_fld 30 28 14 = some 4 by decide +kernel) rfl) ?_
      refine jr_1 jm_169 (show jw_cd cd_169 30 = some (.ifCond .le 7) by decide +kernel) (mz_f (q := .le) (a := z) (by show ¬ (z ≤ 0); omega) ⟨by omega, by omega⟩ (by decide)) ?_
      refine jr_1 jm_169 (show jw_cd cd_169 33 = some (.iload_n 2) by decide +kernel) rfl ?_
      refine jr_1 jm_169 (show jw_cd cd_169 34 = some (.goto 6) by decide +kernel) (ju_go (t := 40) (by decide)) ?_
      refine jr_1 jm_169 (F2 := (42, [some (.ref sp), some (.int (Int32.ofInt (x))), some (.int (Int32.ofInt (((n : Nat) : Int)))), some (.int (Int32.ofInt (x + (((n : Nat) : Int))))), some (.int (Int32.ofInt (0))), some (.int (Int32.ofInt (((n : Nat) : Int))))], [], (cl_mk h κ))) (show jw_cd cd_169 40 = some (.istore 5) by decide +kernel) rfl ?_
      refine jr_1 jm_169 (show jw_cd cd_169 42 = some (.iload 4) by decide +kernel) rfl ?_
      refine jr_1 jm_169 (show jw_cd cd_169 44 = some (.iload 5) by decide +kernel) rfl ?_
      refine jr_1 jm_169 (show jw_cd cd_169 46 = some (.iload_n 3) by decide +kernel) rfl ?_
      refine jr_1 jm_169 (show jw_cd cd_169 47 = some (.invokestatic 44) by decide +kernel) (cmin (c := if x + (((n : Nat) : Int)) < ((n : Nat) : Int) then x + (((n : Nat) : Int)) else ((n : Nat) : Int)) (by decide) ⟨by omega, by omega⟩ ⟨by omega, by omega⟩ rfl rfl) ?_
      refine jr_1 jm_169 (show jw_cd cd_169 50 = some (.invokestatic 50) by decide +kernel) (cmax (c := clp (slLo z) (slHi z ((n : Nat) : Int)) (if x < 0 then x + ((n : Nat) : Int) else x)) (by decide) ⟨by decide, by decide⟩ ⟨by split <;> omega, by split <;> omega⟩ (by rw [eLo, eHi, eP]; unfold clp; split <;> split <;> (try split) <;> omega) rfl) ?_
      exact jr_v jm_169 (show jw_cd cd_169 53 = some (.ireturn) by decide +kernel) rfl
    · have eLo : slLo z = -1 := if_neg hz
      have eHi : slHi z ((n : Nat) : Int) = ((n : Nat) : Int) - 1 := if_neg hz
      have eP : (if x < 0 then x + ((n : Nat) : Int) else x) = x + ((n : Nat) : Int) := if_pos hx0
      refine jr_1 jm_169 (show jw_cd cd_169 0 = some (.iload_n 1) by decide +kernel) rfl ?_
      refine jr_1 jm_169 (show jw_cd cd_169 1 = some (.ifCond .ge 9) by decide +kernel) (mz_f (q := .ge) (a := x) (by show ¬ (0 ≤ x); omega) ⟨by omega, by omega⟩ (by decide)) ?_
      refine jr_1 jm_169 (show jw_cd cd_169 4 = some (.iload_n 1) by decide +kernel) rfl ?_
      refine jr_1 jm_169 (show jw_cd cd_169 5 = some (.iload_n 2) by decide +kernel) rfl ?_
      refine jr_1 jm_169 (show jw_cd cd_169 6 = some (.iadd) by decide +kernel) (mt_add (c := x + (((n : Nat) : Int))) rfl) ?_
      refine jr_1 jm_169 (show jw_cd cd_169 7 = some (.goto 4) by decide +kernel) (ju_go (t := 11) (by decide)) ?_
      refine jr_1 jm_169 (F2 := (12, [some (.ref sp), some (.int (Int32.ofInt (x))), some (.int (Int32.ofInt (((n : Nat) : Int)))), some (.int (Int32.ofInt (x + (((n : Nat) : Int))))), none, none], [], (cl_mk h κ))) (show jw_cd cd_169 11 = some (.istore_n 3) by decide +kernel) rfl ?_
      refine jr_1 jm_169 (show jw_cd cd_169 12 = some (.aload_n 0) by decide +kernel) rfl ?_
      refine jr_1 jm_169 (show jw_cd cd_169 13 = some (.getfield 28) by decide +kernel) (js_getf (cl_old hl ⟨by omega, oA⟩) (jbg (by omega)) (show jw_fld 30 28 14 = some 4 by decide +kernel) rfl) ?_
      refine jr_1 jm_169 (show jw_cd cd_169 16 = some (.ifCond .le 7) by decide +kernel) (mz_t (q := .le) (a := z) (t := 23) (by show z ≤ 0; omega) ⟨by omega, by omega⟩ (by decide) (by decide)) ?_
      refine jr_1 jm_169 (show jw_cd cd_169 23 = some (.iconst (-1)) by decide +kernel) rfl ?_
      refine jr_1 jm_169 (F2 := (26, [some (.ref sp), some (.int (Int32.ofInt (x))), some (.int (Int32.ofInt (((n : Nat) : Int)))), some (.int (Int32.ofInt (x + (((n : Nat) : Int))))), some (.int (Int32.ofInt (-1))), none], [], (cl_mk h κ))) (show jw_cd cd_169 24 = some (.istore 4) by decide +kernel) rfl ?_
      refine jr_1 jm_169 (show jw_cd cd_169 26 = some (.aload_n 0) by decide +kernel) rfl ?_
      refine jr_1 jm_169 (show jw_cd cd_169 27 = some (.getfield 28) by decide +kernel) (js_getf (cl_old hl ⟨by omega, oA⟩) (jbg (by omega)) (show jw_fld 30 28 14 = some 4 by decide +kernel) rfl) ?_
      refine jr_1 jm_169 (show jw_cd cd_169 30 = some (.ifCond .le 7) by decide +kernel) (mz_t (q := .le) (a := z) (t := 37) (by show z ≤ 0; omega) ⟨by omega, by omega⟩ (by decide) (by decide)) ?_
      refine jr_1 jm_169 (show jw_cd cd_169 37 = some (.iload_n 2) by decide +kernel) rfl ?_
      refine jr_1 jm_169 (show jw_cd cd_169 38 = some (.iconst 1) by decide +kernel) rfl ?_
      refine jr_1 jm_169 (show jw_cd cd_169 39 = some (.isub) by decide +kernel) (mt_sub (c := ((n : Nat) : Int) - 1) rfl) ?_
      refine jr_1 jm_169 (F2 := (42, [some (.ref sp), some (.int (Int32.ofInt (x))), some (.int (Int32.ofInt (((n : Nat) : Int)))), some (.int (Int32.ofInt (x + (((n : Nat) : Int))))), some (.int (Int32.ofInt (-1))), some (.int (Int32.ofInt (((n : Nat) : Int) - 1)))], [], (cl_mk h κ))) (show jw_cd cd_169 40 = some (.istore 5) by decide +kernel) rfl ?_
      refine jr_1 jm_169 (show jw_cd cd_169 42 = some (.iload 4) by decide +kernel) rfl ?_
      refine jr_1 jm_169 (show jw_cd cd_169 44 = some (.iload 5) by decide +kernel) rfl ?_
      refine jr_1 jm_169 (show jw_cd cd_169 46 = some (.iload_n 3) by decide +kernel) rfl ?_
      refine jr_1 jm_169 (show jw_cd cd_169 47 = some (.invokestatic 44) by decide +kernel) (cmin (c := if x + (((n : Nat) : Int)) < ((n : Nat) : Int) - 1 then x + (((n : Nat) : Int)) else ((n : Nat) : Int) - 1) (by decide) ⟨by omega, by omega⟩ ⟨by omega, by omega⟩ rfl rfl) ?_
      refine jr_1 jm_169 (show jw_cd cd_169 50 = some (.invokestatic 50) by decide +kernel) (cmax (c := clp (slLo z) (slHi z ((n : Nat) : Int)) (if x < 0 then x + ((n : Nat) : Int) else x)) (by decide) ⟨by decide, by decide⟩ ⟨by split <;> omega, by split <;> omega⟩ (by rw [eLo, eHi, eP]; unfold clp; split <;> split <;> (try split) <;> omega) rfl) ?_
      exact jr_v jm_169 (show jw_cd cd_169 53 = some (.ireturn) by decide +kernel) rfl
  · by_cases hz : 0 < z
    · have eLo : slLo z = 0 := if_pos hz
      have eHi : slHi z ((n : Nat) : Int) = ((n : Nat) : Int) := if_pos hz
      have eP : (if x < 0 then x + ((n : Nat) : Int) else x) = x := if_neg hx0
      refine jr_1 jm_169 (show jw_cd cd_169 0 = some (.iload_n 1) by decide +kernel) rfl ?_
      refine jr_1 jm_169 (show jw_cd cd_169 1 = some (.ifCond .ge 9) by decide +kernel) (mz_t (q := .ge) (a := x) (t := 10) (by show 0 ≤ x; omega) ⟨by omega, by omega⟩ (by decide) (by decide)) ?_
      refine jr_1 jm_169 (show jw_cd cd_169 10 = some (.iload_n 1) by decide +kernel) rfl ?_
      refine jr_1 jm_169 (F2 := (12, [some (.ref sp), some (.int (Int32.ofInt (x))), some (.int (Int32.ofInt (((n : Nat) : Int)))), some (.int (Int32.ofInt (x))), none, none], [], (cl_mk h κ))) (show jw_cd cd_169 11 = some (.istore_n 3) by decide +kernel) rfl ?_
      refine jr_1 jm_169 (show jw_cd cd_169 12 = some (.aload_n 0) by decide +kernel) rfl ?_
      refine jr_1 jm_169 (show jw_cd cd_169 13 = some (.getfield 28) by decide +kernel) (js_getf (cl_old hl ⟨by omega, oA⟩) (jbg (by omega)) (show jw_fld 30 28 14 = some 4 by decide +kernel) rfl) ?_
      refine jr_1 jm_169 (show jw_cd cd_169 16 = some (.ifCond .le 7) by decide +kernel) (mz_f (q := .le) (a := z) (by show ¬ (z ≤ 0); omega) ⟨by omega, by omega⟩ (by decide)) ?_
      refine jr_1 jm_169 (show jw_cd cd_169 19 = some (.iconst 0) by decide +kernel) rfl ?_
      refine jr_1 jm_169 (show jw_cd cd_169 20 = some (.goto 4) by decide +kernel) (ju_go (t := 24) (by decide)) ?_
      refine jr_1 jm_169 (F2 := (26, [some (.ref sp), some (.int (Int32.ofInt (x))), some (.int (Int32.ofInt (((n : Nat) : Int)))), some (.int (Int32.ofInt (x))), some (.int (Int32.ofInt (0))), none], [], (cl_mk h κ))) (show jw_cd cd_169 24 = some (.istore 4) by decide +kernel) rfl ?_
      refine jr_1 jm_169 (show jw_cd cd_169 26 = some (.aload_n 0) by decide +kernel) rfl ?_
      refine jr_1 jm_169 (show jw_cd cd_169 27 = some (.getfield 28) by decide +kernel) (js_getf (cl_old hl ⟨by omega, oA⟩) (jbg (by omega)) (show jw_fld 30 28 14 = some 4 by decide +kernel) rfl) ?_
      refine jr_1 jm_169 (show jw_cd cd_169 30 = some (.ifCond .le 7) by decide +kernel) (mz_f (q := .le) (a := z) (by show ¬ (z ≤ 0); omega) ⟨by omega, by omega⟩ (by decide)) ?_
      refine jr_1 jm_169 (show jw_cd cd_169 33 = some (.iload_n 2) by decide +kernel) rfl ?_
      refine jr_1 jm_169 (show jw_cd cd_169 34 = some (.goto 6) by decide +kernel) (ju_go (t := 40) (by decide)) ?_
      refine jr_1 jm_169 (F2 := (42, [some (.ref sp), some (.int (Int32.ofInt (x))), some (.int (Int32.ofInt (((n : Nat) : Int)))), some (.int (Int32.ofInt (x))), some (.int (Int32.ofInt (0))), some (.int (Int32.ofInt (((n : Nat) : Int))))], [], (cl_mk h κ))) (show jw_cd cd_169 40 = some (.istore 5) by decide +kernel) rfl ?_
      refine jr_1 jm_169 (show jw_cd cd_169 42 = some (.iload 4) by decide +kernel) rfl ?_
      refine jr_1 jm_169 (show jw_cd cd_169 44 = some (.iload 5) by decide +kernel) rfl ?_
      refine jr_1 jm_169 (show jw_cd cd_169 46 = some (.iload_n 3) by decide +kernel) rfl ?_
      refine jr_1 jm_169 (show jw_cd cd_169 47 = some (.invokestatic 44) by decide +kernel) (cmin (c := if x < ((n : Nat) : Int) then x else ((n : Nat) : Int)) (by decide) ⟨by omega, by omega⟩ ⟨by omega, by omega⟩ rfl rfl) ?_
      refine jr_1 jm_169 (show jw_cd cd_169 50 = some (.invokestatic 50) by decide +kernel) (cmax (c := clp (slLo z) (slHi z ((n : Nat) : Int)) (if x < 0 then x + ((n : Nat) : Int) else x)) (by decide) ⟨by decide, by decide⟩ ⟨by split <;> omega, by split <;> omega⟩ (by rw [eLo, eHi, eP]; unfold clp; split <;> split <;> (try split) <;> omega) rfl) ?_
      exact jr_v jm_169 (show jw_cd cd_169 53 = some (.ireturn) by decide +kernel) rfl
    · have eLo : slLo z = -1 := if_neg hz
      have eHi : slHi z ((n : Nat) : Int) = ((n : Nat) : Int) - 1 := if_neg hz
      have eP : (if x < 0 then x + ((n : Nat) : Int) else x) = x := if_neg hx0
      refine jr_1 jm_169 (show jw_cd cd_169 0 = some (.iload_n 1) by decide +kernel) rfl ?_
      refine jr_1 jm_169 (show jw_cd cd_169 1 = some (.ifCond .ge 9) by decide +kernel) (mz_t (q := .ge) (a := x) (t := 10) (by show 0 ≤ x; omega) ⟨by omega, by omega⟩ (by decide) (by decide)) ?_
      refine jr_1 jm_169 (show jw_cd cd_169 10 = some (.iload_n 1) by decide +kernel) rfl ?_
      refine jr_1 jm_169 (F2 := (12, [some (.ref sp), some (.int (Int32.ofInt (x))), some (.int (Int32.ofInt (((n : Nat) : Int)))), some (.int (Int32.ofInt (x))), none, none], [], (cl_mk h κ))) (show jw_cd cd_169 11 = some (.istore_n 3) by decide +kernel) rfl ?_
      refine jr_1 jm_169 (show jw_cd cd_169 12 = some (.aload_n 0) by decide +kernel) rfl ?_
      refine jr_1 jm_169 (show jw_cd cd_169 13 = some (.getfield 28) by decide +kernel) (js_getf (cl_old hl ⟨by omega, oA⟩) (jbg (by omega)) (show jw_fld 30 28 14 = some 4 by decide +kernel) rfl) ?_
      refine jr_1 jm_169 (show jw_cd cd_169 16 = some (.ifCond .le 7) by decide +kernel) (mz_t (q := .le) (a := z) (t := 23) (by show z ≤ 0; omega) ⟨by omega, by omega⟩ (by decide) (by decide)) ?_
      refine jr_1 jm_169 (show jw_cd cd_169 23 = some (.iconst (-1)) by decide +kernel) rfl ?_
      refine jr_1 jm_169 (F2 := (26, [some (.ref sp), some (.int (Int32.ofInt (x))), some (.int (Int32.ofInt (((n : Nat) : Int)))), some (.int (Int32.ofInt (x))), some (.int (Int32.ofInt (-1))), none], [], (cl_mk h κ))) (show jw_cd cd_169 24 = some (.istore 4) by decide +kernel) rfl ?_
      refine jr_1 jm_169 (show jw_cd cd_169 26 = some (.aload_n 0) by decide +kernel) rfl ?_
      refine jr_1 jm_169 (show jw_cd cd_169 27 = some (.getfield 28) by decide +kernel) (js_getf (cl_old hl ⟨by omega, oA⟩) (jbg (by omega)) (show jw_fld 30 28 14 = some 4 by decide +kernel) rfl) ?_
      refine jr_1 jm_169 (show jw_cd cd_169 30 = some (.ifCond .le 7) by decide +kernel) (mz_t (q := .le) (a := z) (t := 37) (by show z ≤ 0; omega) ⟨by omega, by omega⟩ (by decide) (by decide)) ?_
      refine jr_1 jm_169 (show jw_cd cd_169 37 = some (.iload_n 2) by decide +kernel) rfl ?_
      refine jr_1 jm_169 (show jw_cd cd_169 38 = some (.iconst 1) by decide +kernel) rfl ?_
      refine jr_1 jm_169 (show jw_cd cd_169 39 = some (.isub) by decide +kernel) (mt_sub (c := ((n : Nat) : Int) - 1) rfl) ?_
      refine jr_1 jm_169 (F2 := (42, [some (.ref sp), some (.int (Int32.ofInt (x))), some (.int (Int32.ofInt (((n : Nat) : Int)))), some (.int (Int32.ofInt (x))), some (.int (Int32.ofInt (-1))), some (.int (Int32.ofInt (((n : Nat) : Int) - 1)))], [], (cl_mk h κ))) (show jw_cd cd_169 40 = some (.istore 5) by decide +kernel) rfl ?_
      refine jr_1 jm_169 (show jw_cd cd_169 42 = some (.iload 4) by decide +kernel) rfl ?_
      refine jr_1 jm_169 (show jw_cd cd_169 44 = some (.iload 5) by decide +kernel) rfl ?_
      refine jr_1 jm_169 (show jw_cd cd_169 46 = some (.iload_n 3) by decide +kernel) rfl ?_
      refine jr_1 jm_169 (show jw_cd cd_169 47 = some (.invokestatic 44) by decide +kernel) (cmin (c := if x < ((n : Nat) : Int) - 1 then x else ((n : Nat) : Int) - 1) (by decide) ⟨by omega, by omega⟩ ⟨by omega, by omega⟩ rfl rfl) ?_
      refine jr_1 jm_169 (show jw_cd cd_169 50 = some (.invokestatic 50) by decide +kernel) (cmax (c := clp (slLo z) (slHi z ((n : Nat) : Int)) (if x < 0 then x + ((n : Nat) : Int) else x)) (by decide) ⟨by decide, by decide⟩ ⟨by split <;> omega, by split <;> omega⟩ (by rw [eLo, eHi, eP]; unfold clp; split <;> split <;> (try split) <;> omega) rfl) ?_
      exact jr_v jm_169 (show jw_cd cd_169 53 = some (.ireturn) by decide +kernel) rfl
