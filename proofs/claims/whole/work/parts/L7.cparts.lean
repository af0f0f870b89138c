/-! ===== the class: followParts (printed by program: gen127.py) ===== -/
theorem jm_163 : jw_M 163 = some (9, 7, ((Option.some (Jvm.ClassFile.FieldType.object "PickDesk$Value")), false), jw_cd cd_163, fun _ _ => none) := rfl
def clT : Option vT → List sE → List sE → Nat
  | x, acc, [] => clO acc x
  | x, acc, e :: l => if e.1 = 6 then clO acc x + clT (x.bind (evS acc)) [e] l else clT x (acc ++ [e]) l
def rsT : Option vT → List sE → List sE → Nat
  | x, acc, [] => rsO acc x
  | x, acc, e :: l => if e.1 = 6 then rsO acc x + rsT (x.bind (evS acc)) [e] l else rsT x (acc ++ [e]) l
theorem evP_p {l : List sE} {x : Option vT} (hl : ∀ e ∈ l, stO e) (hp : vok (dv x) ∧ cnV (dv x) ∧ fdp (dv x).2 ≤ 8 ∧ fct (dv x).2 ≤ 390) : vok (dv (x.bind (evS l))) ∧ cnV (dv (x.bind (evS l))) ∧ fdp (dv (x.bind (evS l))).2 ≤ 8 ∧ fct (dv (x.bind (evS l))).2 ≤ 390 := by
  have nul : vok (dv none) ∧ cnV (dv none) ∧ fdp (dv none).2 ≤ 8 ∧ fct (dv none).2 ≤ 390 := ⟨nulV_ok, nulV_cn, Nat.zero_le _, Nat.zero_le _⟩
  cases x with
  | none => exact nul
  | some v =>
    show vok (dv (evS l v)) ∧ cnV (dv (evS l v)) ∧ fdp (dv (evS l v)).2 ≤ 8 ∧ fct (dv (evS l v)).2 ≤ 390
    cases he : evS l v with
    | none => exact nul
    | some w =>
      have a1 := evS_ok l v w (fun e h => stO_ok (hl e h)) hp.1 he
      have a2 := evS_I l v w (fun e h => stO_ok (hl e h)) hp.2.1 he
      have h3 : fdp v.2 ≤ 8 := hp.2.2.1
      have h4 : fct v.2 ≤ 390 := hp.2.2.2
      exact ⟨a1.1, a2.1, Nat.le_trans a2.2.1 h3, Nat.le_trans a1.2 h4⟩
theorem jc_fpX {β : Bool} {d : Nat} {h : jx_H} {κ : mS} (hl : 50 ≤ h.length) {sg v0 v1 st en : Nat} {ls : List sE} (hen : ls.length < en ∧ en ≤ 1000) : jx_r (jz β) jw_M (d) 163 (17, [some (.ref 10), some (.ref sg), some (.ref v0), some (.ref v1), some (.int (Int32.ofInt (((st : Nat) : Int)))), some (.int (Int32.ofInt (((ls.length : Nat) : Int)))), some (.int (Int32.ofInt (((en : Nat) : Int))))], [], (cl_mk h κ)) (cl_mk h (κ), .inl (some (.ref (v1)))) := by
  refine jr_1 jm_163 (show jw_cd cd_163 17 = some (.iload 6) by decide +kernel) rfl ?_
  refine jr_1 jm_163 (show jw_cd cd_163 19 = some (.iload 5) by decide +kernel) rfl ?_
  refine jr_1 jm_163 (show jw_cd cd_163 21 = some (.if_icmp .gt 50) by decide +kernel) (mb_t (q := .gt) (a := ((en : Nat) : Int)) (b := ((ls.length : Nat) : Int)) (t := 71) (by show ((ls.length : Nat) : Int) < ((en : Nat) : Int); omega) ⟨by omega, by omega⟩ ⟨by omega, by omega⟩ (by decide) (by decide)) ?_
  refine jr_1 jm_163 (show jw_cd cd_163 71 = some (.aload_n 3) by decide +kernel) rfl ?_
  exact jr_v jm_163 (show jw_cd cd_163 72 = some (.areturn) by decide +kernel) rfl
theorem jc_fpL {β : Bool} {d : Nat} {κ : mS} {X : Nat → Prop} {sg tt la ea cap v0 : Nat} {fs : Nat → Value} {ls : List sE} (h12 : ls.length ≤ 12) : ∀ (l : List sE) (acc : List sE) (st en v1 : Nat) (x : Option vT) (h : jx_H), acc = (ls.take en).drop st → l = ls.drop en → st + acc.length = en → en ≤ ls.length → 1 ≤ acc.length → 50 ≤ h.length → (∀ c, h.length ≤ c → ¬ X c) → h.length + 3 * clT x acc l + 20 < 2700000000 → stgR h X sg tt la ea cap fs ls → vQ h X v1 x → (vok (dv x) ∧ cnV (dv x) ∧ fdp (dv x).2 ≤ 8 ∧ fct (dv x).2 ≤ 390) → ∃ (h' : jx_H) (c : Nat), jx_r (jz β) jw_M (d + 27) 163 (17, [some (.ref 10), some (.ref sg), some (.ref v0), some (.ref v1), some (.int (Int32.ofInt (((st : Nat) : Int)))), some (.int (Int32.ofInt (((ls.length : Nat) : Int)))), some (.int (Int32.ofInt (((en : Nat) : Int))))], [], (cl_mk h κ)) (cl_mk h' (κ), .inl (some (.ref (c)))) ∧ vQ h' X c (evT x acc l) ∧ (∀ (c : Nat) (y : jx_C), h[c]? = some y → h'[c]? = some y) ∧ (h.length ≤ h'.length ∧ h'.length ≤ h.length + 3 * clT x acc l) ∧ cvol h' ≤ cvol h + 6 * clT x acc l + rsT x acc l
  | [], acc, st, en, v1, x, h, hacc, hl2, hst2, hen, hac1, hl, hx, hlen, hst, hv, hp => by
    obtain ⟨⟨zg, oG⟩, hal, hspl, hsO, hls⟩ := id hst
    have zg1 := zg.1
    have zg2 := zg.2.1
    obtain ⟨zla, ⟨md, oL⟩, -⟩ := id hal
    have zl1 := zla.1
    have zl2 := zla.2.1
    have hel : ls.length ≤ en := List.drop_eq_nil_iff.mp hl2.symm
    obtain ⟨h', c, c1, q1, q2, q3, q4⟩ := flP_all (β := β) acc (d + 26) st en h κ X sg tt la ea cap fs ls v1 x hacc hst2 hen (by omega) hl hx hlen hst hv hp
    refine ⟨h', c, ?_, q1, q2, q3, q4⟩
    have k3 := jc_fpX (β := β) (d := d + 27) (h := h') (κ := κ) (sg := sg) (v0 := v0) (v1 := c) (st := en) (en := en + 1) (ls := ls) (by omega) ⟨by omega, by omega⟩
    refine jr_1 jm_163 (show jw_cd cd_163 17 = some (.iload 6) by decide +kernel) rfl ?_
    refine jr_1 jm_163 (show jw_cd cd_163 19 = some (.iload 5) by decide +kernel) rfl ?_
    refine jr_1 jm_163 (show jw_cd cd_163 21 = some (.if_icmp .gt 50) by decide +kernel) (mb_f (q := .gt) (a := ((en : Nat) : Int)) (b := ((ls.length : Nat) : Int)) (by show ¬ (((ls.length : Nat) : Int) < ((en : Nat) : Int)); omega) ⟨by omega, by omega⟩ ⟨by omega, by omega⟩ (by decide)) ?_
    refine jr_1 jm_163 (show jw_cd cd_163 24 = some (.iload 6) by decide +kernel) rfl ?_
    refine jr_1 jm_163 (show jw_cd cd_163 26 = some (.iload 5) by decide +kernel) rfl ?_
    refine jr_1 jm_163 (show jw_cd cd_163 28 = some (.if_icmp .eq 22) by decide +kernel) (mb_t (q := .eq) (a := ((en : Nat) : Int)) (b := ((ls.length : Nat) : Int)) (t := 50) (by show ((en : Nat) : Int) = ((ls.length : Nat) : Int); omega) ⟨by omega, by omega⟩ ⟨by omega, by omega⟩ (by decide) (by decide)) ?_
    refine jr_1 jm_163 (show jw_cd cd_163 50 = some (.aload_n 0) by decide +kernel) rfl ?_
    refine jr_1 jm_163 (show jw_cd cd_163 51 = some (.aload_n 1) by decide +kernel) rfl ?_
    refine jr_1 jm_163 (show jw_cd cd_163 52 = some (.iload 4) by decide +kernel) rfl ?_
    refine jr_1 jm_163 (show jw_cd cd_163 54 = some (.iload 6) by decide +kernel) rfl ?_
    refine jr_1 jm_163 (show jw_cd cd_163 56 = some (.aload_n 3) by decide +kernel) rfl ?_
    refine jr_c jm_163 (show jw_cd cd_163 57 = some (.invokevirtual 73) by decide +kernel) (ccv (n := 4) (m2 := 164) (ci := 6) (a := 10) (bs := [.ref sg, .int (Int32.ofInt (((st : Nat) : Int))), .int (Int32.ofInt (((en : Nat) : Int))), .ref v1]) (r := []) (js_cls cl_c10 (by decide)) (show jw_find jw_cvT 9 73 = some (4, [(6, 164)]) by decide +kernel) (by decide) rfl rfl rfl) jm_164 ⟨Nat.le_of_ble_eq_true rfl, by decide⟩ c1 ?_
    refine jr_1 jm_163 (F2 := (61, [some (.ref 10), some (.ref sg), some (.ref v0), some (.ref c), some (.int (Int32.ofInt (((st : Nat) : Int)))), some (.int (Int32.ofInt (((ls.length : Nat) : Int)))), some (.int (Int32.ofInt (((en : Nat) : Int))))], [], (cl_mk h' κ))) (show jw_cd cd_163 60 = some (.astore_n 3) by decide +kernel) rfl ?_
    refine jr_1 jm_163 (show jw_cd cd_163 61 = some (.iload 6) by decide +kernel) rfl ?_
    refine jr_1 jm_163 (F2 := (65, [some (.ref 10), some (.ref sg), some (.ref v0), some (.ref c), some (.int (Int32.ofInt (((en : Nat) : Int)))), some (.int (Int32.ofInt (((ls.length : Nat) : Int)))), some (.int (Int32.ofInt (((en : Nat) : Int))))], [], (cl_mk h' κ))) (show jw_cd cd_163 63 = some (.istore 4) by decide +kernel) rfl ?_
    refine jr_1 jm_163 (F2 := (68, [some (.ref 10), some (.ref sg), some (.ref v0), some (.ref c), some (.int (Int32.ofInt (((en : Nat) : Int)))), some (.int (Int32.ofInt (((ls.length : Nat) : Int)))), some (.int (Int32.ofInt (((en : Nat) : Int) + 1)))], [], (cl_mk h' κ))) (show jw_cd cd_163 65 = some (.iinc 6 1) by decide +kernel) (mt_inc (a := ((en : Nat) : Int)) (c := ((en : Nat) : Int) + 1) rfl (by omega) rfl) ?_
    refine jr_1 jm_163 (show jw_cd cd_163 68 = some (.goto (-51)) by decide +kernel) (ju_go (t := 17) (by decide)) ?_
    exact k3
  | e :: l, acc, st, en, v1, x, h, hacc, hl2, hst2, hen, hac1, hl, hx, hlen, hst, hv, hp => by
    obtain ⟨⟨zg, oG⟩, hal, hspl, hsO, hls⟩ := id hst
    have zg1 := zg.1
    have zg2 := zg.2.1
    obtain ⟨zla, ⟨md, oL⟩, -⟩ := id hal
    have zl1 := zla.1
    have zl2 := zla.2.1
    have hel : en < ls.length := by
      by_cases z : en < ls.length
      · exact z
      · rw [List.drop_eq_nil_iff.mpr (by omega)] at hl2
        cases hl2
    have hei : ls[en]? = some e := by rw [← List.head?_drop, ← hl2]; rfl
    have hl3 : l = ls.drop (en + 1) := by rw [← List.tail_drop, ← hl2]; rfl
    have hem := List.mem_of_getElem? hei
    have heO := hsO e hem
    have hck := ckd4 heO.1
    have ck5 : ckd e.1 = 5 ↔ e.1 = 6 := by
      have := heO.1
      unfold ckd
      split
      · omega
      · split <;> omega
    obtain ⟨sp, hfi, zs, kt, le, ri, oS, -⟩ := hspl en e hei
    have zs1 := zs.1
    have zs2 := zs.2.1
    have cg := jc_alGet (β := β) (d := d + 24) (κ := κ) (i := en) hl (spL_U hal hspl) hel hfi
    have htk : ls.take (en + 1) = ls.take en ++ [e] := by rw [List.take_add_one, hei]; rfl
    have hmem : ∀ e' ∈ acc, stO e' := fun e' he' => hsO e' (by rw [hacc] at he'; exact List.mem_of_mem_take (List.mem_of_mem_drop he'))
    by_cases h6 : e.1 = 6
    · have e1 : evT x acc (e :: l) = evT (x.bind (evS acc)) [e] l := if_pos h6
      have e2 : clT x acc (e :: l) = clO acc x + clT (x.bind (evS acc)) [e] l := if_pos h6
      have e3 : rsT x acc (e :: l) = rsO acc x + rsT (x.bind (evS acc)) [e] l := if_pos h6
      rw [e2] at hlen
      rw [e1, e2, e3]
      have hk5 := ck5.mpr h6
      obtain ⟨h', c, c1, q1, q2, q3, q4⟩ := flP_all (β := β) acc (d + 26) st en h κ X sg tt la ea cap fs ls v1 x hacc hst2 hen (by omega) hl hx (by omega) hst hv hp
      have ha2 : [e] = (ls.take (en + 1)).drop en := by rw [htk, List.drop_append_of_le_length (by rw [List.length_take]; omega), List.drop_eq_nil_iff.mpr (by rw [List.length_take]; omega)]; rfl
      obtain ⟨h2, c2, p1, p2, p3, p4, p5⟩ := jc_fpL (β := β) (d := d) (κ := κ) (v0 := v0) h12 l [e] en (en + 1) c _ h' ha2 hl3 rfl hel (Nat.le_refl 1) (by omega) (fun c hc => hx c (by omega)) (by omega) (stgR_fr (fun c y z hy => ⟨z, q2 c y hy⟩) hst) q1 (evP_p hmem hp)
      refine ⟨h2, c2, ?_, p2, fun c y hy => p3 c y (q2 c y hy), ⟨by omega, by omega⟩, by omega⟩
      refine jr_1 jm_163 (show jw_cd cd_163 17 = some (.iload 6) by decide +kernel) rfl ?_
      refine jr_1 jm_163 (show jw_cd cd_163 19 = some (.iload 5) by decide +kernel) rfl ?_
      refine jr_1 jm_163 (show jw_cd cd_163 21 = some (.if_icmp .gt 50) by decide +kernel) (mb_f (q := .gt) (a := ((en : Nat) : Int)) (b := ((ls.length : Nat) : Int)) (by show ¬ (((ls.length : Nat) : Int) < ((en : Nat) : Int)); omega) ⟨by omega, by omega⟩ ⟨by omega, by omega⟩ (by decide)) ?_
      refine jr_1 jm_163 (show jw_cd cd_163 24 = some (.iload 6) by decide +kernel) rfl ?_
      refine jr_1 jm_163 (show jw_cd cd_163 26 = some (.iload 5) by decide +kernel) rfl ?_
      refine jr_1 jm_163 (show jw_cd cd_163 28 = some (.if_icmp .eq 22) by decide +kernel) (mb_f (q := .eq) (a := ((en : Nat) : Int)) (b := ((ls.length : Nat) : Int)) (by show ¬ (((en : Nat) : Int) = ((ls.length : Nat) : Int)); omega) ⟨by omega, by omega⟩ ⟨by omega, by omega⟩ (by decide)) ?_
      refine jr_1 jm_163 (show jw_cd cd_163 31 = some (.aload_n 1) by decide +kernel) rfl ?_
      refine jr_1 jm_163 (show jw_cd cd_163 32 = some (.getfield 65) by decide +kernel) (js_getf (cl_old hl ⟨by omega, oG⟩) (jbg (by omega)) (show jw_fld 9 65 13 = some 2 by decide +kernel) rfl) ?_
      refine jr_1 jm_163 (show jw_cd cd_163 35 = some (.iload 6) by decide +kernel) rfl ?_
      refine jr_c jm_163 (show jw_cd cd_163 37 = some (.invokevirtual 40) by decide +kernel) (ccv (n := 1) (m2 := 160) (ci := 12) (a := la) (bs := [.int (Int32.ofInt (((en : Nat) : Int)))]) (r := []) (js_cls (cl_old hl ⟨by omega, oL⟩) (jbg (by omega))) (show jw_find jw_cvT 9 40 = some (1, [(12, 160)]) by decide +kernel) (by decide) rfl rfl rfl) jm_160 ⟨Nat.le_of_ble_eq_true rfl, by decide⟩ cg ?_
      refine jr_1 jm_163 (show jw_cd cd_163 40 = some (.checkcast 68) by decide +kernel) (cck (js_cls (cl_old hl ⟨by omega, oS⟩) (jbg (by omega))) (show jw_ct 9 68 14 = some true by decide +kernel)) ?_
      refine jr_1 jm_163 (show jw_cd cd_163 43 = some (.getfield 70) by decide +kernel) (js_getf (cl_old hl ⟨by omega, oS⟩) (jbg (by omega)) (show jw_fld 9 70 14 = some 0 by decide +kernel) rfl) ?_
      refine jr_1 jm_163 (show jw_cd cd_163 46 = some (.iconst 5) by decide +kernel) rfl ?_
      refine jr_1 jm_163 (show jw_cd cd_163 47 = some (.if_icmp .ne 18) by decide +kernel) (mb_f (q := .ne) (a := ckd e.1) (b := 5) (by show ¬ (¬ (ckd e.1 = 5)); omega) ⟨by omega, by omega⟩ ⟨by omega, by omega⟩ (by decide)) ?_
      refine jr_1 jm_163 (show jw_cd cd_163 50 = some (.aload_n 0) by decide +kernel) rfl ?_
      refine jr_1 jm_163 (show jw_cd cd_163 51 = some (.aload_n 1) by decide +kernel) rfl ?_
      refine jr_1 jm_163 (show jw_cd cd_163 52 = some (.iload 4) by decide +kernel) rfl ?_
      refine jr_1 jm_163 (show jw_cd cd_163 54 = some (.iload 6) by decide +kernel) rfl ?_
      refine jr_1 jm_163 (show jw_cd cd_163 56 = some (.aload_n 3) by decide +kernel) rfl ?_
      refine jr_c jm_163 (show jw_cd cd_163 57 = some (.invokevirtual 73) by decide +kernel) (ccv (n := 4) (m2 := 164) (ci := 6) (a := 10) (bs := [.ref sg, .int (Int32.ofInt (((st : Nat) : Int))), .int (Int32.ofInt (((en : Nat) : Int))), .ref v1]) (r := []) (js_cls cl_c10 (by decide)) (show jw_find jw_cvT 9 73 = some (4, [(6, 164)]) by decide +kernel) (by decide) rfl rfl rfl) jm_164 ⟨Nat.le_of_ble_eq_true rfl, by decide⟩ c1 ?_
      refine jr_1 jm_163 (F2 := (61, [some (.ref 10), some (.ref sg), some (.ref v0), some (.ref c), some (.int (Int32.ofInt (((st : Nat) : Int)))), some (.int (Int32.ofInt (((ls.length : Nat) : Int)))), some (.int (Int32.ofInt (((en : Nat) : Int))))], [], (cl_mk h' κ))) (show jw_cd cd_163 60 = some (.astore_n 3) by decide +kernel) rfl ?_
      refine jr_1 jm_163 (show jw_cd cd_163 61 = some (.iload 6) by decide +kernel) rfl ?_
      refine jr_1 jm_163 (F2 := (65, [some (.ref 10), some (.ref sg), some (.ref v0), some (.ref c), some (.int (Int32.ofInt (((en : Nat) : Int)))), some (.int (Int32.ofInt (((ls.length : Nat) : Int)))), some (.int (Int32.ofInt (((en : Nat) : Int))))], [], (cl_mk h' κ))) (show jw_cd cd_163 63 = some (.istore 4) by decide +kernel) rfl ?_
      refine jr_1 jm_163 (F2 := (68, [some (.ref 10), some (.ref sg), some (.ref v0), some (.ref c), some (.int (Int32.ofInt (((en : Nat) : Int)))), some (.int (Int32.ofInt (((ls.length : Nat) : Int)))), some (.int (Int32.ofInt (((en : Nat) : Int) + 1)))], [], (cl_mk h' κ))) (show jw_cd cd_163 65 = some (.iinc 6 1) by decide +kernel) (mt_inc (a := ((en : Nat) : Int)) (c := ((en : Nat) : Int) + 1) rfl (by omega) rfl) ?_
      refine jr_1 jm_163 (show jw_cd cd_163 68 = some (.goto (-51)) by decide +kernel) (ju_go (t := 17) (by decide)) ?_
      exact p1
    · have e1 : evT x acc (e :: l) = evT x (acc ++ [e]) l := if_neg h6
      have e2 : clT x acc (e :: l) = clT x (acc ++ [e]) l := if_neg h6
      have e3 : rsT x acc (e :: l) = rsT x (acc ++ [e]) l := if_neg h6
      rw [e2] at hlen
      rw [e1, e2, e3]
      have hk5 : ¬ ckd e.1 = 5 := fun z => h6 (ck5.mp z)
      have ha2 : acc ++ [e] = (ls.take (en + 1)).drop st := by rw [htk, List.drop_append_of_le_length (by rw [List.length_take]; omega), hacc]
      have hla2 : (acc ++ [e]).length = acc.length + 1 := by rw [List.length_append]; rfl
      obtain ⟨h2, c2, p1, p2, p3, p4, p5⟩ := jc_fpL (β := β) (d := d) (κ := κ) (v0 := v0) h12 l (acc ++ [e]) st (en + 1) v1 x h ha2 hl3 (by omega) hel (by omega) hl hx hlen hst hv hp
      refine ⟨h2, c2, ?_, p2, p3, p4, p5⟩
      refine jr_1 jm_163 (show jw_cd cd_163 17 = some (.iload 6) by decide +kernel) rfl ?_
      refine jr_1 jm_163 (show jw_cd cd_163 19 = some (.iload 5) by decide +kernel) rfl ?_
      refine jr_1 jm_163 (show jw_cd cd_163 21 = some (.if_icmp .gt 50) by decide +kernel) (mb_f (q := .gt) (a := ((en : Nat) : Int)) (b := ((ls.length : Nat) : Int)) (by show ¬ (((ls.length : Nat) : Int) < ((en : Nat) : Int)); omega) ⟨by omega, by omega⟩ ⟨by omega, by omega⟩ (by decide)) ?_
      refine jr_1 jm_163 (show jw_cd cd_163 24 = some (.iload 6) by decide +kernel) rfl ?_
      refine jr_1 jm_163 (show jw_cd cd_163 26 = some (.iload 5) by decide +kernel) rfl ?_
      refine jr_1 jm_163 (show jw_cd cd_163 28 = some (.if_icmp .eq 22) by decide +kernel) (mb_f (q := .eq) (a := ((en : Nat) : Int)) (b := ((ls.length : Nat) : Int)) (by show ¬ (((en : Nat) : Int) = ((ls.length : Nat) : Int)); omega) ⟨by omega, by omega⟩ ⟨by omega, by omega⟩ (by decide)) ?_
      refine jr_1 jm_163 (show jw_cd cd_163 31 = some (.aload_n 1) by decide +kernel) rfl ?_
      refine jr_1 jm_163 (show jw_cd cd_163 32 = some (.getfield 65) by decide +kernel) (js_getf (cl_old hl ⟨by omega, oG⟩) (jbg (by omega)) (show jw_fld 9 65 13 = some 2 by decide +kernel) rfl) ?_
      refine jr_1 jm_163 (show jw_cd cd_163 35 = some (.iload 6) by decide +kernel) rfl ?_
      refine jr_c jm_163 (show jw_cd cd_163 37 = some (.invokevirtual 40) by decide +kernel) (ccv (n := 1) (m2 := 160) (ci := 12) (a := la) (bs := [.int (Int32.ofInt (((en : Nat) : Int)))]) (r := []) (js_cls (cl_old hl ⟨by omega, oL⟩) (jbg (by omega))) (show jw_find jw_cvT 9 40 = some (1, [(12, 160)]) by decide +kernel) (by decide) rfl rfl rfl) jm_160 ⟨Nat.le_of_ble_eq_true rfl, by decide⟩ cg ?_
      refine jr_1 jm_163 (show jw_cd cd_163 40 = some (.checkcast 68) by decide +kernel) (cck (js_cls (cl_old hl ⟨by omega, oS⟩) (jbg (by omega))) (show jw_ct 9 68 14 = some true by decide +kernel)) ?_
      refine jr_1 jm_163 (show jw_cd cd_163 43 = some (.getfield 70) by decide +kernel) (js_getf (cl_old hl ⟨by omega, oS⟩) (jbg (by omega)) (show jw_fld 9 70 14 = some 0 by decide +kernel) rfl) ?_
      refine jr_1 jm_163 (show jw_cd cd_163 46 = some (.iconst 5) by decide +kernel) rfl ?_
      refine jr_1 jm_163 (show jw_cd cd_163 47 = some (.if_icmp .ne 18) by decide +kernel) (mb_t (q := .ne) (a := ckd e.1) (b := 5) (t := 65) (by show ¬ (ckd e.1 = 5); omega) ⟨by omega, by omega⟩ ⟨by omega, by omega⟩ (by decide) (by decide)) ?_
      refine jr_1 jm_163 (F2 := (68, [some (.ref 10), some (.ref sg), some (.ref v0), some (.ref v1), some (.int (Int32.ofInt (((st : Nat) : Int)))), some (.int (Int32.ofInt (((ls.length : Nat) : Int)))), some (.int (Int32.ofInt (((en : Nat) : Int) + 1)))], [], (cl_mk h κ))) (show jw_cd cd_163 65 = some (.iinc 6 1) by decide +kernel) (mt_inc (a := ((en : Nat) : Int)) (c := ((en : Nat) : Int) + 1) rfl (by omega) rfl) ?_
      refine jr_1 jm_163 (show jw_cd cd_163 68 = some (.goto (-51)) by decide +kernel) (ju_go (t := 17) (by decide)) ?_
      exact p1
theorem jc_parts {β : Bool} {d : Nat} {h : jx_H} {κ : mS} (hl : 50 ≤ h.length) {X : Nat → Prop} {sg tt la ea cap v0 : Nat} {fs : Nat → Value} {ls : List sE} {v : vT} (h12 : ls.length ≤ 12) (hx : ∀ c, h.length ≤ c → ¬ X c) (hlen : h.length + 3 * clT (some v) [] ls + 20 < 2700000000) (hst : stgR h X sg tt la ea cap fs ls) (hv : vR h X v0 v) (hp : vok v ∧ cnV v ∧ fdp v.2 ≤ 8 ∧ fct v.2 ≤ 390) : ∃ (h' : jx_H) (c : Nat), jx_r (jz β) jw_M (d + 27) 163 (0, [some (.ref 10), some (.ref sg), some (.ref v0), none, none, none, none], [], (cl_mk h κ)) (cl_mk h' (κ), .inl (some (.ref (c)))) ∧ vQ h' X c (evT (some v) [] ls) ∧ (∀ (c : Nat) (y : jx_C), h[c]? = some y → h'[c]? = some y) ∧ (h.length ≤ h'.length ∧ h'.length ≤ h.length + 3 * clT (some v) [] ls) ∧ cvol h' ≤ cvol h + 6 * clT (some v) [] ls + rsT (some v) [] ls := by
  obtain ⟨⟨zg, oG⟩, hal, hspl, hsO, hls⟩ := id hst
  have zg1 := zg.1
  have zg2 := zg.2.1
  obtain ⟨zla, ⟨md, oL⟩, -⟩ := id hal
  have zl1 := zla.1
  have zl2 := zla.2.1
  have cz := jc_alSz (β := β) (d := d + 26) (κ := κ) hl (spL_U hal hspl)
  have st : ∀ res, jx_r (jz β) jw_M (d + 27) 163 (17, [some (.ref 10), some (.ref sg), some (.ref v0), some (.ref v0), some (.int (Int32.ofInt (((0 : Nat) : Int)))), some (.int (Int32.ofInt (((ls.length : Nat) : Int)))), some (.int (Int32.ofInt (((1 : Nat) : Int))))], [], (cl_mk h κ)) res → jx_r (jz β) jw_M (d + 27) 163 (0, [some (.ref 10), some (.ref sg), some (.ref v0), none, none, none, none], [], (cl_mk h κ)) res := by
    intro res kk
    refine jr_1 jm_163 (show jw_cd cd_163 0 = some (.aload_n 2) by decide +kernel) rfl ?_
    refine jr_1 jm_163 (F2 := (2, [some (.ref 10), some (.ref sg), some (.ref v0), some (.ref v0), none, none, none], [], (cl_mk h κ))) (show jw_cd cd_163 1 = some (.astore_n 3) by decide +kernel) rfl ?_
    refine jr_1 jm_163 (show jw_cd cd_163 2 = some (.iconst 0) by decide +kernel) rfl ?_
    refine jr_1 jm_163 (F2 := (5, [some (.ref 10), some (.ref sg), some (.ref v0), some (.ref v0), some (.int (Int32.ofInt (0))), none, none], [], (cl_mk h κ))) (show jw_cd cd_163 3 = some (.istore 4) by decide +kernel) rfl ?_
    refine jr_1 jm_163 (show jw_cd cd_163 5 = some (.aload_n 1) by decide +kernel) rfl ?_
    refine jr_1 jm_163 (show jw_cd cd_163 6 = some (.getfield 65) by decide +kernel) (js_getf (cl_old hl ⟨by omega, oG⟩) (jbg (by omega)) (show jw_fld 9 65 13 = some 2 by decide +kernel) rfl) ?_
    refine jr_c jm_163 (show jw_cd cd_163 9 = some (.invokevirtual 34) by decide +kernel) (ccv (n := 0) (m2 := 159) (ci := 12) (a := la) (bs := []) (r := []) (js_cls (cl_old hl ⟨by omega, oL⟩) (jbg (by omega))) (show jw_find jw_cvT 9 34 = some (0, [(12, 159)]) by decide +kernel) (by decide) rfl rfl rfl) jm_159 ⟨Nat.le_of_ble_eq_true rfl, by decide⟩ cz ?_
    refine jr_1 jm_163 (F2 := (14, [some (.ref 10), some (.ref sg), some (.ref v0), some (.ref v0), some (.int (Int32.ofInt (0))), some (.int (Int32.ofInt (((ls.length : Nat) : Int)))), none], [], (cl_mk h κ))) (show jw_cd cd_163 12 = some (.istore 5) by decide +kernel) rfl ?_
    refine jr_1 jm_163 (show jw_cd cd_163 14 = some (.iconst 1) by decide +kernel) rfl ?_
    refine jr_1 jm_163 (F2 := (17, [some (.ref 10), some (.ref sg), some (.ref v0), some (.ref v0), some (.int (Int32.ofInt (0))), some (.int (Int32.ofInt (((ls.length : Nat) : Int)))), some (.int (Int32.ofInt (1)))], [], (cl_mk h κ))) (show jw_cd cd_163 15 = some (.istore 6) by decide +kernel) rfl ?_
    exact kk
  cases ls with
  | nil =>
    refine ⟨h, v0, st _ (jc_fpX hl ⟨by decide, by decide⟩), hv, fun c y hy => hy, ⟨Nat.le_refl _, Nat.le_add_right _ _⟩, by omega⟩
  | cons e l =>
    have a1 : evT (some v) [] (e :: l) = evT (some v) [e] l ∧ clT (some v) [] (e :: l) = clT (some v) [e] l ∧ rsT (some v) [] (e :: l) = rsT (some v) [e] l := by
      by_cases h6 : e.1 = 6
      · have b1 : evT (some v) [] (e :: l) = evT (some v) [e] l := if_pos h6
        have b2 : clT (some v) [] (e :: l) = 0 + clT (some v) [e] l := if_pos h6
        have b3 : rsT (some v) [] (e :: l) = 0 + rsT (some v) [e] l := if_pos h6
        exact ⟨b1, by rw [b2, Nat.zero_add], by rw [b3, Nat.zero_add]⟩
      · exact ⟨if_neg h6, if_neg h6, if_neg h6⟩
    rw [a1.2.1] at hlen
    rw [a1.1, a1.2.1, a1.2.2]
    obtain ⟨h2, c2, p1, p2, p3, p4, p5⟩ := jc_fpL (β := β) (d := d) (κ := κ) (v0 := v0) h12 l [e] 0 1 v0 (some v) h rfl rfl rfl (by show 1 ≤ l.length + 1; omega) (Nat.le_refl 1) hl hx hlen hst hv hp
    exact ⟨h2, c2, st _ p1, p2, p3, p4, p5⟩
