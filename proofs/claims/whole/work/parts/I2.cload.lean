/-! ===== the class: load, keep, about (printed by program: gen94.py) ===== -/
theorem jm_56 : jw_M 56 = some (0, 3, ((Option.some Jvm.ClassFile.FieldType.int), false), jw_cd cd_56, fun _ _ => none) := rfl
theorem jm_106 : jw_M 106 = some (0, 1, ((Option.some Jvm.ClassFile.FieldType.int), false), jw_cd cd_106, fun _ _ => none) := rfl
theorem jm_112 : jw_M 112 = some (0, 2, ((Option.some Jvm.ClassFile.FieldType.int), false), jw_cd cd_112, fun _ _ => none) := rfl
theorem jc_load {β : Bool} {d : Nat} {h : jx_H} {κ : mS} (hl : 50 ≤ h.length) {N : Nat} {X : Nat → Prop} {T : Int → Int} {n : Int} (hN : h.length = N) (hb : (N : Int) + 12 * n + 300 ≤ 2800000000) (hx : ∀ c, N ≤ c → ¬ X c) (hP : cP κ T n 0) (hsc : 0 ≤ κ 7 0 ∧ κ 7 0 ≤ 16) : ∃ (κ' : mS) (L : List jx_C), (L.length : Int) ≤ 12 * n + 120 ∧ (cvol L : Int) ≤ 30 * n + 240 ∧ mEq [1, 3, 4, 5, 7, 8, 15] κ κ' ∧ (0 ≤ κ' 7 0 ∧ κ' 7 0 ≤ 16) ∧ (κ' 3 0 = 0 ∧ κ' 4 0 = 0 ∧ κ' 5 0 = -1) ∧ (∀ e, sLoad T n = .inl e → jx_r (jz β) jw_M (d + 16) 56 (0, [some (.ref 0), none, none], [], (cl_mk h κ)) (cl_mk (h ++ L) (κ'), .inl (some (.int (Int32.ofInt (-1 - e))))) ∧ κ' 1 = κ 1) ∧ (∀ v, sLoad T n = .inr v → jx_r (jz β) jw_M (d + 16) 56 (0, [some (.ref 0), none, none], [], (cl_mk h κ)) (cl_mk (h ++ L) (κ'), .inl (some (.int (Int32.ofInt (1 + (fct v.2 : Int)))))) ∧ ∃ b : Nat, κ' 1 0 = (b : Int) ∧ vN (h ++ L) X b v.1 v.2) := by
  have ht := hP.1.2.2
  have hn0 : 0 ≤ n ∧ n ≤ 160 := ⟨ht.1, ht.2.1⟩
  obtain ⟨κ1, L, b, i, F, r1, r2, r3, r4, r5, r6, r7⟩ := (cv_VLO (β := β) ht 400).1 0 4 (d + 15) 0 h κ X N (by omega) (by omega) hl hN (by omega) hx hP hsc (by omega)
  have hl2 : 50 ≤ (h ++ L).length := by rw [List.length_append]; omega
  have hm3 : ∀ κ2 : mS, mEq [3, 4, 5] κ1 κ2 → mEq [1, 3, 4, 5, 7, 8, 15] κ κ2 ∧ (0 ≤ κ2 7 0 ∧ κ2 7 0 ≤ 16) ∧ κ2 1 = κ 1 := fun κ2 hm => ⟨fun f hf => (hm f (fun z => hf (by
      rcases List.mem_cons.mp z with e | z
      · rw [e]; decide
      · rcases List.mem_cons.mp z with e | z
        · rw [e]; decide
        · rw [List.mem_singleton.mp z]; decide))).trans (r4 f (fun z => hf (List.mem_cons_of_mem _ (List.mem_cons_of_mem _ (by
      rcases List.mem_cons.mp z with e | z
      · rw [e]; decide
      · rcases List.mem_cons.mp z with e | z
        · rw [e]; decide
        · exact List.mem_cons_of_mem _ (List.mem_cons_of_mem _ z)))))), by rw [hm 7 (by decide)]; exact r5, (hm 1 (by decide)).trans (r4 1 (by decide))⟩
  have hpl : 0 ≤ κ1 4 0 ∧ κ1 4 0 ≤ 160 := by
    cases hs : sP T n 400 (.inl (0, 0)) with
    | inl e =>
      have := (r7 e hs).1.2.2
      omega
    | inr x =>
      obtain ⟨i', F', q⟩ := x
      have hq := (r6 i' F' q hs).2.2.1
      have := hq.2.1
      have := hq.2.2.2
      omega
  cases hs : sP T n 400 (.inl (0, 0)) with
  | inl e =>
    obtain ⟨y1, y2, y3⟩ := r7 e hs
    have hld : sLoad T n = .inl e := by
      unfold sLoad
      rw [hs]
    have hme : mEq [3, 4, 5] κ1 ((su (su (su κ1 3 (0) (0)) 4 (0) (0)) 5 (0) (-1))) := fun f hf => by
      rw [su_row (fun e => hf (by rw [e]; decide)), su_row (fun e => hf (by rw [e]; decide)), su_row (fun e => hf (by rw [e]; decide))]
    obtain ⟨m1, m2, m3⟩ := hm3 _ hme
    have he := y1.2.1.2
    refine ⟨(su (su (su κ1 3 (0) (0)) 4 (0) (0)) 5 (0) (-1)), L, by omega, by omega, m1, m2, ⟨by rw [su_nf (by decide), su_nf (by decide), su_eq], by rw [su_nf (by decide), su_eq], su_eq _ _ _ _⟩, fun e' hh => ⟨?_, m3⟩, fun v hh => (by rw [hld] at hh; cases hh)⟩
    · rw [hld] at hh
      injection hh with hh
      rw [← hh]
      refine jr_1 jm_56 (show jw_cd cd_56 0 = some (.aload_n 0) by decide +kernel) rfl ?_
      refine jr_1 jm_56 (show jw_cd cd_56 1 = some (.getfield 21) by decide +kernel) (cgr_0_1 (show jw_fld 0 21 0 = some 1 by decide +kernel)) ?_
      refine jr_1 jm_56 (show jw_cd cd_56 4 = some (.iconst 0) by decide +kernel) rfl ?_
      refine jr_c jm_56 (show jw_cd cd_56 5 = some (.invokevirtual 92) by decide +kernel) (ccv (n := 1) (m2 := 57) (ci := 3) (a := 5) (bs := [.int (Int32.ofInt (0))]) (r := []) (js_cls cl_c5 (by decide)) (show jw_find jw_cvT 0 92 = some (1, [(3, 57)]) by decide +kernel) (by decide) rfl rfl rfl) jm_57 ⟨Nat.le_of_ble_eq_true rfl, by decide⟩ (show jx_r (jz β) jw_M (d + 15) 57 (0, [some (.ref 5), some (.int (Int32.ofInt (0))), none], [], (cl_mk h κ)) (cl_mk (h ++ L) (κ1), .inl (some (.ref (b)))) from r1) ?_
      refine jr_1 jm_56 (F2 := (9, [some (.ref 0), some (.ref b), none], [], (cl_mk (h ++ L) κ1))) (show jw_cd cd_56 8 = some (.astore_n 1) by decide +kernel) rfl ?_
      refine jr_1 jm_56 (show jw_cd cd_56 9 = some (.aload_n 0) by decide +kernel) rfl ?_
      refine jr_1 jm_56 (show jw_cd cd_56 10 = some (.getfield 10) by decide +kernel) (cgr_0_0 (show jw_fld 0 10 0 = some 0 by decide +kernel)) ?_
      refine jr_c jm_56 (show jw_cd cd_56 13 = some (.invokevirtual 95) by decide +kernel) (ccv (n := 0) (m2 := 104) (ci := 1) (a := 1) (bs := []) (r := []) (js_cls cl_c1 (by decide)) (show jw_find jw_cvT 0 95 = some (0, [(1, 104)]) by decide +kernel) (by decide) rfl rfl rfl) jm_104 ⟨Nat.le_of_ble_eq_true rfl, by decide⟩ (jc_endW hl2 y1.2.1 y1.1.1 rfl hn0 hpl) ?_
      refine jr_1 jm_56 (F2 := (17, [some (.ref 0), some (.ref b), some (.int (Int32.ofInt (e)))], [], (cl_mk (h ++ L) (su (su (su κ1 3 (0) (0)) 4 (0) (0)) 5 (0) (-1))))) (show jw_cd cd_56 16 = some (.istore_n 2) by decide +kernel) rfl ?_
      refine jr_1 jm_56 (show jw_cd cd_56 17 = some (.iload_n 2) by decide +kernel) rfl ?_
      refine jr_1 jm_56 (show jw_cd cd_56 18 = some (.iconst (-1)) by decide +kernel) rfl ?_
      refine jr_1 jm_56 (show jw_cd cd_56 19 = some (.if_icmp .eq 7) by decide +kernel) (mb_f (q := .eq) (a := e) (b := -1) (by show ¬ (e = -1); omega) ⟨by omega, by omega⟩ ⟨by omega, by omega⟩ (by decide)) ?_
      refine jr_1 jm_56 (show jw_cd cd_56 22 = some (.iconst (-1)) by decide +kernel) rfl ?_
      refine jr_1 jm_56 (show jw_cd cd_56 23 = some (.iload_n 2) by decide +kernel) rfl ?_
      refine jr_1 jm_56 (show jw_cd cd_56 24 = some (.isub) by decide +kernel) (mt_sub (c := -1 - e) rfl) ?_
      exact jr_v jm_56 (show jw_cd cd_56 25 = some (.ireturn) by decide +kernel) rfl
  | inr x =>
    obtain ⟨i', F', q⟩ := x
    obtain ⟨z1, z2, y1, y2, y3⟩ := r6 i' F' q hs
    subst z1
    subst z2
    have hqn := y1.2.2.2.2
    have hq00 := y1.2.2.2.1
    by_cases hq : q < n
    · have hld : sLoad T n = .inl q := by
        unfold sLoad
        rw [hs]
        exact if_pos hq
      have hme : mEq [3, 4, 5] κ1 ((su (su (su (su κ1 5 (0) (q)) 3 (0) (0)) 4 (0) (0)) 5 (0) (-1))) := fun f hf => by
        rw [su_row (fun e => hf (by rw [e]; decide)), su_row (fun e => hf (by rw [e]; decide)), su_row (fun e => hf (by rw [e]; decide)), su_row (fun e => hf (by rw [e]; decide))]
      obtain ⟨m1, m2, m3⟩ := hm3 _ hme
      refine ⟨(su (su (su (su κ1 5 (0) (q)) 3 (0) (0)) 4 (0) (0)) 5 (0) (-1)), L, by omega, by omega, m1, m2, ⟨by rw [su_nf (by decide), su_nf (by decide), su_eq], by rw [su_nf (by decide), su_eq], su_eq _ _ _ _⟩, fun e' hh => ⟨?_, m3⟩, fun v hh => (by rw [hld] at hh; cases hh)⟩
      rw [hld] at hh
      injection hh with hh
      rw [← hh]
      refine jr_1 jm_56 (show jw_cd cd_56 0 = some (.aload_n 0) by decide +kernel) rfl ?_
      refine jr_1 jm_56 (show jw_cd cd_56 1 = some (.getfield 21) by decide +kernel) (cgr_0_1 (show jw_fld 0 21 0 = some 1 by decide +kernel)) ?_
      refine jr_1 jm_56 (show jw_cd cd_56 4 = some (.iconst 0) by decide +kernel) rfl ?_
      refine jr_c jm_56 (show jw_cd cd_56 5 = some (.invokevirtual 92) by decide +kernel) (ccv (n := 1) (m2 := 57) (ci := 3) (a := 5) (bs := [.int (Int32.ofInt (0))]) (r := []) (js_cls cl_c5 (by decide)) (show jw_find jw_cvT 0 92 = some (1, [(3, 57)]) by decide +kernel) (by decide) rfl rfl rfl) jm_57 ⟨Nat.le_of_ble_eq_true rfl, by decide⟩ (show jx_r (jz β) jw_M (d + 15) 57 (0, [some (.ref 5), some (.int (Int32.ofInt (0))), none], [], (cl_mk h κ)) (cl_mk (h ++ L) (κ1), .inl (some (.ref (b)))) from r1) ?_
      refine jr_1 jm_56 (F2 := (9, [some (.ref 0), some (.ref b), none], [], (cl_mk (h ++ L) κ1))) (show jw_cd cd_56 8 = some (.astore_n 1) by decide +kernel) rfl ?_
      refine jr_1 jm_56 (show jw_cd cd_56 9 = some (.aload_n 0) by decide +kernel) rfl ?_
      refine jr_1 jm_56 (show jw_cd cd_56 10 = some (.getfield 10) by decide +kernel) (cgr_0_0 (show jw_fld 0 10 0 = some 0 by decide +kernel)) ?_
      refine jr_c jm_56 (show jw_cd cd_56 13 = some (.invokevirtual 95) by decide +kernel) (ccv (n := 0) (m2 := 104) (ci := 1) (a := 1) (bs := []) (r := []) (js_cls cl_c1 (by decide)) (show jw_find jw_cvT 0 95 = some (0, [(1, 104)]) by decide +kernel) (by decide) rfl rfl rfl) jm_104 ⟨Nat.le_of_ble_eq_true rfl, by decide⟩ ((jc_end hl2 y1).1 hq) ?_
      refine jr_1 jm_56 (F2 := (17, [some (.ref 0), some (.ref b), some (.int (Int32.ofInt (q)))], [], (cl_mk (h ++ L) (su (su (su (su κ1 5 (0) (q)) 3 (0) (0)) 4 (0) (0)) 5 (0) (-1))))) (show jw_cd cd_56 16 = some (.istore_n 2) by decide +kernel) rfl ?_
      refine jr_1 jm_56 (show jw_cd cd_56 17 = some (.iload_n 2) by decide +kernel) rfl ?_
      refine jr_1 jm_56 (show jw_cd cd_56 18 = some (.iconst (-1)) by decide +kernel) rfl ?_
      refine jr_1 jm_56 (show jw_cd cd_56 19 = some (.if_icmp .eq 7) by decide +kernel) (mb_f (q := .eq) (a := q) (b := -1) (by show ¬ (q = -1); omega) ⟨by omega, by omega⟩ ⟨by omega, by omega⟩ (by decide)) ?_
      refine jr_1 jm_56 (show jw_cd cd_56 22 = some (.iconst (-1)) by decide +kernel) rfl ?_
      refine jr_1 jm_56 (show jw_cd cd_56 23 = some (.iload_n 2) by decide +kernel) rfl ?_
      refine jr_1 jm_56 (show jw_cd cd_56 24 = some (.isub) by decide +kernel) (mt_sub (c := -1 - q) rfl) ?_
      exact jr_v jm_56 (show jw_cd cd_56 25 = some (.ireturn) by decide +kernel) rfl
    · have hld : sLoad T n = .inr (i, F) := by
        unfold sLoad
        rw [hs]
        exact if_neg hq
      have hI := sLoad_I ht hld
      have hme : mEq [3, 4, 5] κ1 ((su (su (su κ1 3 (0) (0)) 4 (0) (0)) 5 (0) (-1))) := fun f hf => by
        rw [su_row (fun e => hf (by rw [e]; decide)), su_row (fun e => hf (by rw [e]; decide)), su_row (fun e => hf (by rw [e]; decide))]
      obtain ⟨m1, m2, m3⟩ := hm3 _ hme
      have hvo : vO (h ++ L) ((su (su (su (su κ1 3 (0) (0)) 4 (0) (0)) 5 (0) (-1)) 1 (0) (((b : Nat) : Int)))) X b i F := vN_O hl2 r2
      have hcb : jx_cls (jz β) (cl_mk (h ++ L) ((su (su (su (su κ1 3 (0) (0)) 4 (0) (0)) 5 (0) (-1)) 1 (0) (((b : Nat) : Int))))) b = some 5 := vO_cls hvo
      have hcn := jc_cnt (β := β) (d := d + 11) hl2 hvo hI.2.2.1
      refine ⟨(su (su (su (su κ1 3 (0) (0)) 4 (0) (0)) 5 (0) (-1)) 1 (0) (((b : Nat) : Int))), L, by omega, by omega, fun f hf => (su_row (fun e => hf (by rw [e]; decide))).trans (m1 f hf), by rw [su_nf (by decide)]; exact m2, ⟨by rw [su_nf (by decide), su_nf (by decide), su_nf (by decide), su_eq], by rw [su_nf (by decide), su_nf (by decide), su_eq], by rw [su_nf (by decide), su_eq]⟩, fun e' hh => (by rw [hld] at hh; cases hh), fun v hh => ?_⟩
      rw [hld] at hh
      injection hh with hh
      rw [← hh]
      refine ⟨?_, b, su_eq _ _ _ _, r2⟩
      refine jr_1 jm_56 (show jw_cd cd_56 0 = some (.aload_n 0) by decide +kernel) rfl ?_
      refine jr_1 jm_56 (show jw_cd cd_56 1 = some (.getfield 21) by decide +kernel) (cgr_0_1 (show jw_fld 0 21 0 = some 1 by decide +kernel)) ?_
      refine jr_1 jm_56 (show jw_cd cd_56 4 = some (.iconst 0) by decide +kernel) rfl ?_
      refine jr_c jm_56 (show jw_cd cd_56 5 = some (.invokevirtual 92) by decide +kernel) (ccv (n := 1) (m2 := 57) (ci := 3) (a := 5) (bs := [.int (Int32.ofInt (0))]) (r := []) (js_cls cl_c5 (by decide)) (show jw_find jw_cvT 0 92 = some (1, [(3, 57)]) by decide +kernel) (by decide) rfl rfl rfl) jm_57 ⟨Nat.le_of_ble_eq_true rfl, by decide⟩ (show jx_r (jz β) jw_M (d + 15) 57 (0, [some (.ref 5), some (.int (Int32.ofInt (0))), none], [], (cl_mk h κ)) (cl_mk (h ++ L) (κ1), .inl (some (.ref (b)))) from r1) ?_
      refine jr_1 jm_56 (F2 := (9, [some (.ref 0), some (.ref b), none], [], (cl_mk (h ++ L) κ1))) (show jw_cd cd_56 8 = some (.astore_n 1) by decide +kernel) rfl ?_
      refine jr_1 jm_56 (show jw_cd cd_56 9 = some (.aload_n 0) by decide +kernel) rfl ?_
      refine jr_1 jm_56 (show jw_cd cd_56 10 = some (.getfield 10) by decide +kernel) (cgr_0_0 (show jw_fld 0 10 0 = some 0 by decide +kernel)) ?_
      refine jr_c jm_56 (show jw_cd cd_56 13 = some (.invokevirtual 95) by decide +kernel) (ccv (n := 0) (m2 := 104) (ci := 1) (a := 1) (bs := []) (r := []) (js_cls cl_c1 (by decide)) (show jw_find jw_cvT 0 95 = some (0, [(1, 104)]) by decide +kernel) (by decide) rfl rfl rfl) jm_104 ⟨Nat.le_of_ble_eq_true rfl, by decide⟩ ((jc_end hl2 y1).2 hq) ?_
      refine jr_1 jm_56 (F2 := (17, [some (.ref 0), some (.ref b), some (.int (Int32.ofInt (-1)))], [], (cl_mk (h ++ L) (su (su (su κ1 3 (0) (0)) 4 (0) (0)) 5 (0) (-1))))) (show jw_cd cd_56 16 = some (.istore_n 2) by decide +kernel) rfl ?_
      refine jr_1 jm_56 (show jw_cd cd_56 17 = some (.iload_n 2) by decide +kernel) rfl ?_
      refine jr_1 jm_56 (show jw_cd cd_56 18 = some (.iconst (-1)) by decide +kernel) rfl ?_
      refine jr_1 jm_56 (show jw_cd cd_56 19 = some (.if_icmp .eq 7) by decide +kernel) (mb_t (q := .eq) (a := -1) (b := -1) (t := 26) (by show -1 = -1; omega) ⟨by omega, by omega⟩ ⟨by omega, by omega⟩ (by decide) (by decide)) ?_
      refine jr_1 jm_56 (show jw_cd cd_56 26 = some (.aload_n 0) by decide +kernel) rfl ?_
      refine jr_1 jm_56 (show jw_cd cd_56 27 = some (.aload_n 1) by decide +kernel) rfl ?_
      refine jr_1 jm_56 (show jw_cd cd_56 28 = some (.putfield 57) by decide +kernel) (cpk_1 (e := b) (show jw_fld 0 57 0 = some 6 by decide +kernel) (show jw_fm 0 0 6 = some false by decide +kernel)) ?_
      refine jr_1 jm_56 (show jw_cd cd_56 31 = some (.aload_n 1) by decide +kernel) rfl ?_
      refine jr_1 jm_56 (show jw_cd cd_56 32 = some (.iconst 0) by decide +kernel) rfl ?_
      refine jr_c jm_56 (show jw_cd cd_56 33 = some (.invokevirtual 99) by decide +kernel) (ccv (n := 1) (m2 := 105) (ci := 5) (a := b) (bs := [.int (Int32.ofInt (0))]) (r := []) hcb (show jw_find jw_cvT 0 99 = some (1, [(5, 105)]) by decide +kernel) (by decide) rfl rfl rfl) jm_105 ⟨Nat.le_of_ble_eq_true rfl, by decide⟩ hcn ?_
      exact jr_v jm_56 (show jw_cd cd_56 36 = some (.ireturn) by decide +kernel) rfl
