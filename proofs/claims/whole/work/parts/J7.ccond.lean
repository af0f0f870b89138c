/-! ===== the class: readSign, readCondition (printed by program: gen109.py) ===== -/
theorem jm_144 : jw_M 144 = some (7, 3, ((Option.some (Jvm.ClassFile.FieldType.object "PickDesk$Step")), false), jw_cd cd_144, fun _ _ => none) := rfl
theorem jm_149 : jw_M 149 = some (7, 1, ((Option.some Jvm.ClassFile.FieldType.int), false), jw_cd cd_149, fun _ _ => none) := rfl
theorem jc_sgnW {β : Bool} {d : Nat} {h : jx_H} {κ : mS} (hl : 50 ≤ h.length) {e : Int} (hW : cW κ e) : jx_r (jz β) jw_M (d + 2) 149 (0, [some (.ref 6)], [], (cl_mk h κ)) (cl_mk h (κ), .inl (some (.int (Int32.ofInt (0))))) := by
  refine jr_1 jm_149 (show jw_cd cd_149 0 = some (.aload_n 0) by decide +kernel) rfl ?_
  refine jr_1 jm_149 (show jw_cd cd_149 1 = some (.getfield 9) by decide +kernel) (cgr_6_0 (show jw_fld 7 9 4 = some 0 by decide +kernel)) ?_
  refine jr_1 jm_149 (show jw_cd cd_149 4 = some (.bipush 61) by decide +kernel) (mt_bi (by decide)) ?_
  refine jr_c jm_149 (show jw_cd cd_149 6 = some (.invokevirtual 36) by decide +kernel) (ccv (n := 1) (m2 := 64) (ci := 1) (a := 1) (bs := [.int (Int32.ofInt (61))]) (r := []) (js_cls cl_c1 (by decide)) (show jw_find jw_cvT 7 36 = some (1, [(1, 64)]) by decide +kernel) (by decide) rfl rfl rfl) jm_64 ⟨Nat.le_of_ble_eq_true rfl, by decide⟩ (jc_takeW hl hW (by decide)) ?_
  refine jr_1 jm_149 (show jw_cd cd_149 9 = some (.ifCond .eq 14) by decide +kernel) (mz_t (q := .eq) (a := 0) (t := 23) (by show 0 = 0; omega) ⟨by omega, by omega⟩ (by decide) (by decide)) ?_
  refine jr_1 jm_149 (show jw_cd cd_149 23 = some (.aload_n 0) by decide +kernel) rfl ?_
  refine jr_1 jm_149 (show jw_cd cd_149 24 = some (.getfield 9) by decide +kernel) (cgr_6_0 (show jw_fld 7 9 4 = some 0 by decide +kernel)) ?_
  refine jr_1 jm_149 (show jw_cd cd_149 27 = some (.bipush 33) by decide +kernel) (mt_bi (by decide)) ?_
  refine jr_c jm_149 (show jw_cd cd_149 29 = some (.invokevirtual 36) by decide +kernel) (ccv (n := 1) (m2 := 64) (ci := 1) (a := 1) (bs := [.int (Int32.ofInt (33))]) (r := []) (js_cls cl_c1 (by decide)) (show jw_find jw_cvT 7 36 = some (1, [(1, 64)]) by decide +kernel) (by decide) rfl rfl rfl) jm_64 ⟨Nat.le_of_ble_eq_true rfl, by decide⟩ (jc_takeW hl hW (by decide)) ?_
  refine jr_1 jm_149 (show jw_cd cd_149 32 = some (.ifCond .eq 14) by decide +kernel) (mz_t (q := .eq) (a := 0) (t := 46) (by show 0 = 0; omega) ⟨by omega, by omega⟩ (by decide) (by decide)) ?_
  refine jr_1 jm_149 (show jw_cd cd_149 46 = some (.aload_n 0) by decide +kernel) rfl ?_
  refine jr_1 jm_149 (show jw_cd cd_149 47 = some (.getfield 9) by decide +kernel) (cgr_6_0 (show jw_fld 7 9 4 = some 0 by decide +kernel)) ?_
  refine jr_1 jm_149 (show jw_cd cd_149 50 = some (.bipush 60) by decide +kernel) (mt_bi (by decide)) ?_
  refine jr_c jm_149 (show jw_cd cd_149 52 = some (.invokevirtual 36) by decide +kernel) (ccv (n := 1) (m2 := 64) (ci := 1) (a := 1) (bs := [.int (Int32.ofInt (60))]) (r := []) (js_cls cl_c1 (by decide)) (show jw_find jw_cvT 7 36 = some (1, [(1, 64)]) by decide +kernel) (by decide) rfl rfl rfl) jm_64 ⟨Nat.le_of_ble_eq_true rfl, by decide⟩ (jc_takeW hl hW (by decide)) ?_
  refine jr_1 jm_149 (show jw_cd cd_149 55 = some (.ifCond .eq 21) by decide +kernel) (mz_t (q := .eq) (a := 0) (t := 76) (by show 0 = 0; omega) ⟨by omega, by omega⟩ (by decide) (by decide)) ?_
  refine jr_1 jm_149 (show jw_cd cd_149 76 = some (.aload_n 0) by decide +kernel) rfl ?_
  refine jr_1 jm_149 (show jw_cd cd_149 77 = some (.getfield 9) by decide +kernel) (cgr_6_0 (show jw_fld 7 9 4 = some 0 by decide +kernel)) ?_
  refine jr_1 jm_149 (show jw_cd cd_149 80 = some (.bipush 62) by decide +kernel) (mt_bi (by decide)) ?_
  refine jr_c jm_149 (show jw_cd cd_149 82 = some (.invokevirtual 36) by decide +kernel) (ccv (n := 1) (m2 := 64) (ci := 1) (a := 1) (bs := [.int (Int32.ofInt (62))]) (r := []) (js_cls cl_c1 (by decide)) (show jw_find jw_cvT 7 36 = some (1, [(1, 64)]) by decide +kernel) (by decide) rfl rfl rfl) jm_64 ⟨Nat.le_of_ble_eq_true rfl, by decide⟩ (jc_takeW hl hW (by decide)) ?_
  refine jr_1 jm_149 (show jw_cd cd_149 85 = some (.ifCond .eq 22) by decide +kernel) (mz_t (q := .eq) (a := 0) (t := 107) (by show 0 = 0; omega) ⟨by omega, by omega⟩ (by decide) (by decide)) ?_
  refine jr_1 jm_149 (show jw_cd cd_149 107 = some (.iconst 0) by decide +kernel) rfl ?_
  exact jr_v jm_149 (show jw_cd cd_149 108 = some (.ireturn) by decide +kernel) rfl
theorem jc_sgn {β : Bool} {d : Nat} {h : jx_H} {κ : mS} (hl : 50 ≤ h.length) {T : Int → Int} {n q : Int} (hP : cP κ T n q) : ∃ (κ' : mS) (sg : Int), jx_r (jz β) jw_M (d + 2) 149 (0, [some (.ref 6)], [], (cl_mk h κ)) (cl_mk h (κ'), .inl (some (.int (Int32.ofInt (sg))))) ∧ mEq [4, 5] κ κ' ∧ (0 ≤ sg ∧ sg ≤ 6) ∧ ((tH T n q = 61 ∨ tH T n q = 33 ∨ tH T n q = 60 ∨ tH T n q = 62) → tH T n (q + 1) = 61 → sg = csg (sgn (tH T n q) true) ∧ ¬ sg = 0 ∧ cP κ' T n (q + 1 + 1)) ∧ ((tH T n q = 61 ∨ tH T n q = 33 ∨ tH T n q = 60 ∨ tH T n q = 62) → ¬ tH T n (q + 1) = 61 → (tH T n q = 61 ∨ tH T n q = 33) → ¬ sg = 0 ∧ cE κ' T n (q + 1)) ∧ ((tH T n q = 61 ∨ tH T n q = 33 ∨ tH T n q = 60 ∨ tH T n q = 62) → ¬ tH T n (q + 1) = 61 → ¬ (tH T n q = 61 ∨ tH T n q = 33) → sg = csg (sgn (tH T n q) false) ∧ ¬ sg = 0 ∧ cP κ' T n (q + 1)) ∧ (¬ (tH T n q = 61 ∨ tH T n q = 33 ∨ tH T n q = 60 ∨ tH T n q = 62) → sg = 0 ∧ cP κ' T n q) := by
  have ht := hP.1.2.2
  have hp0 := hP.2.2.2.1
  have hn160 := ht.2.1
  have m4 : ∀ {a : Int} {x : mS}, mEq [4, 5] κ x → mEq [4, 5] κ (su x 4 0 a) := fun h => mEq_su h (by decide)
  have m5 : ∀ {a : Int} {x : mS}, mEq [4, 5] κ x → mEq [4, 5] κ (su x 5 0 a) := fun h => mEq_su h (by decide)
  by_cases h61 : tH T n q = 61
  · have hpn : q < n := (tH_r ht hp0).2.2.2 (by rw [h61]; decide)
    have hP1 : cP (su κ 4 0 (q + 1)) T n (q + 1) := cP_mv hP (by omega) (by omega)
    by_cases hq1 : tH T n (q + 1) = 61
    · have hpn1 : q + 1 < n := (tH_r ht (by omega)).2.2.2 (by rw [hq1]; decide)
      refine ⟨_, 1, ?_, m4 (m4 (mEq_refl _ _)), by decide, fun _ _ => ⟨by rw [h61]; decide, by decide, cP_mv hP1 (by omega) (by omega)⟩, fun _ z => absurd hq1 z, fun _ z => absurd hq1 z, fun z => absurd (by rw [h61]; decide) z⟩
      refine jr_1 jm_149 (show jw_cd cd_149 0 = some (.aload_n 0) by decide +kernel) rfl ?_
      refine jr_1 jm_149 (show jw_cd cd_149 1 = some (.getfield 9) by decide +kernel) (cgr_6_0 (show jw_fld 7 9 4 = some 0 by decide +kernel)) ?_
      refine jr_1 jm_149 (show jw_cd cd_149 4 = some (.bipush 61) by decide +kernel) (mt_bi (by decide)) ?_
      refine jr_c jm_149 (show jw_cd cd_149 6 = some (.invokevirtual 36) by decide +kernel) (ccv (n := 1) (m2 := 64) (ci := 1) (a := 1) (bs := [.int (Int32.ofInt (61))]) (r := []) (js_cls cl_c1 (by decide)) (show jw_find jw_cvT 7 36 = some (1, [(1, 64)]) by decide +kernel) (by decide) rfl rfl rfl) jm_64 ⟨Nat.le_of_ble_eq_true rfl, by decide⟩ (jc_takeT hl hP ((tC_eq hP.1.2.2 hP.2.2.2.1 (by decide)).mpr h61) (by decide)) ?_
      refine jr_1 jm_149 (show jw_cd cd_149 9 = some (.ifCond .eq 14) by decide +kernel) (mz_f (q := .eq) (a := 1) (by show ¬ (1 = 0); omega) ⟨by omega, by omega⟩ (by decide)) ?_
      refine jr_1 jm_149 (show jw_cd cd_149 12 = some (.aload_n 0) by decide +kernel) rfl ?_
      refine jr_1 jm_149 (show jw_cd cd_149 13 = some (.getfield 9) by decide +kernel) (cgr_6_0 (show jw_fld 7 9 4 = some 0 by decide +kernel)) ?_
      refine jr_1 jm_149 (show jw_cd cd_149 16 = some (.bipush 61) by decide +kernel) (mt_bi (by decide)) ?_
      refine jr_c jm_149 (show jw_cd cd_149 18 = some (.invokevirtual 56) by decide +kernel) (ccv (n := 1) (m2 := 96) (ci := 1) (a := 1) (bs := [.int (Int32.ofInt (61))]) (r := []) (js_cls cl_c1 (by decide)) (show jw_find jw_cvT 7 56 = some (1, [(1, 96)]) by decide +kernel) (by decide) rfl rfl rfl) jm_96 ⟨Nat.le_of_ble_eq_true rfl, by decide⟩ (jc_mustT hl hP1 ((tC_eq hP1.1.2.2 hP1.2.2.2.1 (by decide)).mpr hq1) (by decide)) ?_
      refine jr_1 jm_149 (show jw_cd cd_149 21 = some (.iconst 1) by decide +kernel) rfl ?_
      exact jr_v jm_149 (show jw_cd cd_149 22 = some (.ireturn) by decide +kernel) rfl
    · refine ⟨_, 1, ?_, m5 (m4 (mEq_refl _ _)), by decide, fun _ z => absurd z hq1, fun _ _ z => ⟨by decide, cP_w hP1 (by omega) (by omega)⟩, fun _ _ z => absurd (by rw [h61]; decide) z, fun z => absurd (by rw [h61]; decide) z⟩
      refine jr_1 jm_149 (show jw_cd cd_149 0 = some (.aload_n 0) by decide +kernel) rfl ?_
      refine jr_1 jm_149 (show jw_cd cd_149 1 = some (.getfield 9) by decide +kernel) (cgr_6_0 (show jw_fld 7 9 4 = some 0 by decide +kernel)) ?_
      refine jr_1 jm_149 (show jw_cd cd_149 4 = some (.bipush 61) by decide +kernel) (mt_bi (by decide)) ?_
      refine jr_c jm_149 (show jw_cd cd_149 6 = some (.invokevirtual 36) by decide +kernel) (ccv (n := 1) (m2 := 64) (ci := 1) (a := 1) (bs := [.int (Int32.ofInt (61))]) (r := []) (js_cls cl_c1 (by decide)) (show jw_find jw_cvT 7 36 = some (1, [(1, 64)]) by decide +kernel) (by decide) rfl rfl rfl) jm_64 ⟨Nat.le_of_ble_eq_true rfl, by decide⟩ (jc_takeT hl hP ((tC_eq hP.1.2.2 hP.2.2.2.1 (by decide)).mpr h61) (by decide)) ?_
      refine jr_1 jm_149 (show jw_cd cd_149 9 = some (.ifCond .eq 14) by decide +kernel) (mz_f (q := .eq) (a := 1) (by show ¬ (1 = 0); omega) ⟨by omega, by omega⟩ (by decide)) ?_
      refine jr_1 jm_149 (show jw_cd cd_149 12 = some (.aload_n 0) by decide +kernel) rfl ?_
      refine jr_1 jm_149 (show jw_cd cd_149 13 = some (.getfield 9) by decide +kernel) (cgr_6_0 (show jw_fld 7 9 4 = some 0 by decide +kernel)) ?_
      refine jr_1 jm_149 (show jw_cd cd_149 16 = some (.bipush 61) by decide +kernel) (mt_bi (by decide)) ?_
      refine jr_c jm_149 (show jw_cd cd_149 18 = some (.invokevirtual 56) by decide +kernel) (ccv (n := 1) (m2 := 96) (ci := 1) (a := 1) (bs := [.int (Int32.ofInt (61))]) (r := []) (js_cls cl_c1 (by decide)) (show jw_find jw_cvT 7 56 = some (1, [(1, 96)]) by decide +kernel) (by decide) rfl rfl rfl) jm_96 ⟨Nat.le_of_ble_eq_true rfl, by decide⟩ (jc_mustF hl hP1 (fun e => hq1 ((tC_eq hP1.1.2.2 hP1.2.2.2.1 (by decide)).mp e)) (by decide)) ?_
      refine jr_1 jm_149 (show jw_cd cd_149 21 = some (.iconst 1) by decide +kernel) rfl ?_
      exact jr_v jm_149 (show jw_cd cd_149 22 = some (.ireturn) by decide +kernel) rfl
  by_cases h33 : tH T n q = 33
  · have hpn : q < n := (tH_r ht hp0).2.2.2 (by rw [h33]; decide)
    have hP1 : cP (su κ 4 0 (q + 1)) T n (q + 1) := cP_mv hP (by omega) (by omega)
    by_cases hq1 : tH T n (q + 1) = 61
    · have hpn1 : q + 1 < n := (tH_r ht (by omega)).2.2.2 (by rw [hq1]; decide)
      refine ⟨_, 2, ?_, m4 (m4 (mEq_refl _ _)), by decide, fun _ _ => ⟨by rw [h33]; decide, by decide, cP_mv hP1 (by omega) (by omega)⟩, fun _ z => absurd hq1 z, fun _ z => absurd hq1 z, fun z => absurd (by rw [h33]; decide) z⟩
      refine jr_1 jm_149 (show jw_cd cd_149 0 = some (.aload_n 0) by decide +kernel) rfl ?_
      refine jr_1 jm_149 (show jw_cd cd_149 1 = some (.getfield 9) by decide +kernel) (cgr_6_0 (show jw_fld 7 9 4 = some 0 by decide +kernel)) ?_
      refine jr_1 jm_149 (show jw_cd cd_149 4 = some (.bipush 61) by decide +kernel) (mt_bi (by decide)) ?_
      refine jr_c jm_149 (show jw_cd cd_149 6 = some (.invokevirtual 36) by decide +kernel) (ccv (n := 1) (m2 := 64) (ci := 1) (a := 1) (bs := [.int (Int32.ofInt (61))]) (r := []) (js_cls cl_c1 (by decide)) (show jw_find jw_cvT 7 36 = some (1, [(1, 64)]) by decide +kernel) (by decide) rfl rfl rfl) jm_64 ⟨Nat.le_of_ble_eq_true rfl, by decide⟩ (jc_takeF hl hP (fun e => h61 ((tC_eq hP.1.2.2 hP.2.2.2.1 (by decide)).mp e)) (by decide)) ?_
      refine jr_1 jm_149 (show jw_cd cd_149 9 = some (.ifCond .eq 14) by decide +kernel) (mz_t (q := .eq) (a := 0) (t := 23) (by show 0 = 0; omega) ⟨by omega, by omega⟩ (by decide) (by decide)) ?_
      refine jr_1 jm_149 (show jw_cd cd_149 23 = some (.aload_n 0) by decide +kernel) rfl ?_
      refine jr_1 jm_149 (show jw_cd cd_149 24 = some (.getfield 9) by decide +kernel) (cgr_6_0 (show jw_fld 7 9 4 = some 0 by decide +kernel)) ?_
      refine jr_1 jm_149 (show jw_cd cd_149 27 = some (.bipush 33) by decide +kernel) (mt_bi (by decide)) ?_
      refine jr_c jm_149 (show jw_cd cd_149 29 = some (.invokevirtual 36) by decide +kernel) (ccv (n := 1) (m2 := 64) (ci := 1) (a := 1) (bs := [.int (Int32.ofInt (33))]) (r := []) (js_cls cl_c1 (by decide)) (show jw_find jw_cvT 7 36 = some (1, [(1, 64)]) by decide +kernel) (by decide) rfl rfl rfl) jm_64 ⟨Nat.le_of_ble_eq_true rfl, by decide⟩ (jc_takeT hl hP ((tC_eq hP.1.2.2 hP.2.2.2.1 (by decide)).mpr h33) (by decide)) ?_
      refine jr_1 jm_149 (show jw_cd cd_149 32 = some (.ifCond .eq 14) by decide +kernel) (mz_f (q := .eq) (a := 1) (by show ¬ (1 = 0); omega) ⟨by omega, by omega⟩ (by decide)) ?_
      refine jr_1 jm_149 (show jw_cd cd_149 35 = some (.aload_n 0) by decide +kernel) rfl ?_
      refine jr_1 jm_149 (show jw_cd cd_149 36 = some (.getfield 9) by decide +kernel) (cgr_6_0 (show jw_fld 7 9 4 = some 0 by decide +kernel)) ?_
      refine jr_1 jm_149 (show jw_cd cd_149 39 = some (.bipush 61) by decide +kernel) (mt_bi (by decide)) ?_
      refine jr_c jm_149 (show jw_cd cd_149 41 = some (.invokevirtual 56) by decide +kernel) (ccv (n := 1) (m2 := 96) (ci := 1) (a := 1) (bs := [.int (Int32.ofInt (61))]) (r := []) (js_cls cl_c1 (by decide)) (show jw_find jw_cvT 7 56 = some (1, [(1, 96)]) by decide +kernel) (by decide) rfl rfl rfl) jm_96 ⟨Nat.le_of_ble_eq_true rfl, by decide⟩ (jc_mustT hl hP1 ((tC_eq hP1.1.2.2 hP1.2.2.2.1 (by decide)).mpr hq1) (by decide)) ?_
      refine jr_1 jm_149 (show jw_cd cd_149 44 = some (.iconst 2) by decide +kernel) rfl ?_
      exact jr_v jm_149 (show jw_cd cd_149 45 = some (.ireturn) by decide +kernel) rfl
    · refine ⟨_, 2, ?_, m5 (m4 (mEq_refl _ _)), by decide, fun _ z => absurd z hq1, fun _ _ z => ⟨by decide, cP_w hP1 (by omega) (by omega)⟩, fun _ _ z => absurd (by rw [h33]; decide) z, fun z => absurd (by rw [h33]; decide) z⟩
      refine jr_1 jm_149 (show jw_cd cd_149 0 = some (.aload_n 0) by decide +kernel) rfl ?_
      refine jr_1 jm_149 (show jw_cd cd_149 1 = some (.getfield 9) by decide +kernel) (cgr_6_0 (show jw_fld 7 9 4 = some 0 by decide +kernel)) ?_
      refine jr_1 jm_149 (show jw_cd cd_149 4 = some (.bipush 61) by decide +kernel) (mt_bi (by decide)) ?_
      refine jr_c jm_149 (show jw_cd cd_149 6 = some (.invokevirtual 36) by decide +kernel) (ccv (n := 1) (m2 := 64) (ci := 1) (a := 1) (bs := [.int (Int32.ofInt (61))]) (r := []) (js_cls cl_c1 (by decide)) (show jw_find jw_cvT 7 36 = some (1, [(1, 64)]) by decide +kernel) (by decide) rfl rfl rfl) jm_64 ⟨Nat.le_of_ble_eq_true rfl, by decide⟩ (jc_takeF hl hP (fun e => h61 ((tC_eq hP.1.2.2 hP.2.2.2.1 (by decide)).mp e)) (by decide)) ?_
      refine jr_1 jm_149 (show jw_cd cd_149 9 = some (.ifCond .eq 14) by decide +kernel) (mz_t (q := .eq) (a := 0) (t := 23) (by show 0 = 0; omega) ⟨by omega, by omega⟩ (by decide) (by decide)) ?_
      refine jr_1 jm_149 (show jw_cd cd_149 23 = some (.aload_n 0) by decide +kernel) rfl ?_
      refine jr_1 jm_149 (show jw_cd cd_149 24 = some (.getfield 9) by decide +kernel) (cgr_6_0 (show jw_fld 7 9 4 = some 0 by decide +kernel)) ?_
      refine jr_1 jm_149 (show jw_cd cd_149 27 = some (.bipush 33) by decide +kernel) (mt_bi (by decide)) ?_
      refine jr_c jm_149 (show jw_cd cd_149 29 = some (.invokevirtual 36) by decide +kernel) (ccv (n := 1) (m2 := 64) (ci := 1) (a := 1) (bs := [.int (Int32.ofInt (33))]) (r := []) (js_cls cl_c1 (by decide)) (show jw_find jw_cvT 7 36 = some (1, [(1, 64)]) by decide +kernel) (by decide) rfl rfl rfl) jm_64 ⟨Nat.le_of_ble_eq_true rfl, by decide⟩ (jc_takeT hl hP ((tC_eq hP.1.2.2 hP.2.2.2.1 (by decide)).mpr h33) (by decide)) ?_
      refine jr_1 jm_149 (show jw_cd cd_149 32 = some (.ifCond .eq 14) by decide +kernel) (mz_f (q := .eq) (a := 1) (by show ¬ (1 = 0); omega) ⟨by omega, by omega⟩ (by decide)) ?_
      refine jr_1 jm_149 (show jw_cd cd_149 35 = some (.aload_n 0) by decide +kernel) rfl ?_
      refine jr_1 jm_149 (show jw_cd cd_149 36 = some (.getfield 9) by decide +kernel) (cgr_6_0 (show jw_fld 7 9 4 = some 0 by decide +kernel)) ?_
      refine jr_1 jm_149 (show jw_cd cd_149 39 = some (.bipush 61) by decide +kernel) (mt_bi (by decide)) ?_
      refine jr_c jm_149 (show jw_cd cd_149 41 = some (.invokevirtual 56) by decide +kernel) (ccv (n := 1) (m2 := 96) (ci := 1) (a := 1) (bs := [.int (Int32.ofInt (61))]) (r := []) (js_cls cl_c1 (by decide)) (show jw_find jw_cvT 7 56 = some (1, [(1, 96)]) by decide +kernel) (by decide) rfl rfl rfl) jm_96 ⟨Nat.le_of_ble_eq_true rfl, by decide⟩ (jc_mustF hl hP1 (fun e => hq1 ((tC_eq hP1.1.2.2 hP1.2.2.2.1 (by decide)).mp e)) (by decide)) ?_
      refine jr_1 jm_149 (show jw_cd cd_149 44 = some (.iconst 2) by decide +kernel) rfl ?_
      exact jr_v jm_149 (show jw_cd cd_149 45 = some (.ireturn) by decide +kernel) rfl
  by_cases h60 : tH T n q = 60
  · have hpn : q < n := (tH_r ht hp0).2.2.2 (by rw [h60]; decide)
    have hP1 : cP (su κ 4 0 (q + 1)) T n (q + 1) := cP_mv hP (by omega) (by omega)
    by_cases hq1 : tH T n (q + 1) = 61
    · have hpn1 : q + 1 < n := (tH_r ht (by omega)).2.2.2 (by rw [hq1]; decide)
      refine ⟨_, 4, ?_, m4 (m4 (mEq_refl _ _)), by decide, fun _ _ => ⟨by rw [h60]; decide, by decide, cP_mv hP1 (by omega) (by omega)⟩, fun _ z => absurd hq1 z, fun _ z => absurd hq1 z, fun z => absurd (by rw [h60]; decide) z⟩
      refine jr_1 jm_149 (show jw_cd cd_149 0 = some (.aload_n 0) by decide +kernel) rfl ?_
      refine jr_1 jm_149 (show jw_cd cd_149 1 = some (.getfield 9) by decide +kernel) (cgr_6_0 (show jw_fld 7 9 4 = some 0 by decide +kernel)) ?_
      refine jr_1 jm_149 (show jw_cd cd_149 4 = some (.bipush 61) by decide +kernel) (mt_bi (by decide)) ?_
      refine jr_c jm_149 (show jw_cd cd_149 6 = some (.invokevirtual 36) by decide +kernel) (ccv (n := 1) (m2 := 64) (ci := 1) (a := 1) (bs := [.int (Int32.ofInt (61))]) (r := []) (js_cls cl_c1 (by decide)) (show jw_find jw_cvT 7 36 = some (1, [(1, 64)]) by decide +kernel) (by decide) rfl rfl rfl) jm_64 ⟨Nat.le_of_ble_eq_true rfl, by decide⟩ (jc_takeF hl hP (fun e => h61 ((tC_eq hP.1.2.2 hP.2.2.2.1 (by decide)).mp e)) (by decide)) ?_
      refine jr_1 jm_149 (show jw_cd cd_149 9 = some (.ifCond .eq 14) by decide +kernel) (mz_t (q := .eq) (a := 0) (t := 23) (by show 0 = 0; omega) ⟨by omega, by omega⟩ (by decide) (by decide)) ?_
      refine jr_1 jm_149 (show jw_cd cd_149 23 = some (.aload_n 0) by decide +kernel) rfl ?_
      refine jr_1 jm_149 (show jw_cd cd_149 24 = some (.getfield 9) by decide +kernel) (cgr_6_0 (show jw_fld 7 9 4 = some 0 by decide +kernel)) ?_
      refine jr_1 jm_149 (show jw_cd cd_149 27 = some (.bipush 33) by decide +kernel) (mt_bi (by decide)) ?_
      refine jr_c jm_149 (show jw_cd cd_149 29 = some (.invokevirtual 36) by decide +kernel) (ccv (n := 1) (m2 := 64) (ci := 1) (a := 1) (bs := [.int (Int32.ofInt (33))]) (r := []) (js_cls cl_c1 (by decide)) (show jw_find jw_cvT 7 36 = some (1, [(1, 64)]) by decide +kernel) (by decide) rfl rfl rfl) jm_64 ⟨Nat.le_of_ble_eq_true rfl, by decide⟩ (jc_takeF hl hP (fun e => h33 ((tC_eq hP.1.2.2 hP.2.2.2.1 (by decide)).mp e)) (by decide)) ?_
      refine jr_1 jm_149 (show jw_cd cd_149 32 = some (.ifCond .eq 14) by decide +kernel) (mz_t (q := .eq) (a := 0) (t := 46) (by show 0 = 0; omega) ⟨by omega, by omega⟩ (by decide) (by decide)) ?_
      refine jr_1 jm_149 (show jw_cd cd_149 46 = some (.aload_n 0) by decide +kernel) rfl ?_
      refine jr_1 jm_149 (show jw_cd cd_149 47 = some (.getfield 9) by decide +kernel) (cgr_6_0 (show jw_fld 7 9 4 = some 0 by decide +kernel)) ?_
      refine jr_1 jm_149 (show jw_cd cd_149 50 = some (.bipush 60) by decide +kernel) (mt_bi (by decide)) ?_
      refine jr_c jm_149 (show jw_cd cd_149 52 = some (.invokevirtual 36) by decide +kernel) (ccv (n := 1) (m2 := 64) (ci := 1) (a := 1) (bs := [.int (Int32.ofInt (60))]) (r := []) (js_cls cl_c1 (by decide)) (show jw_find jw_cvT 7 36 = some (1, [(1, 64)]) by decide +kernel) (by decide) rfl rfl rfl) jm_64 ⟨Nat.le_of_ble_eq_true rfl, by decide⟩ (jc_takeT hl hP ((tC_eq hP.1.2.2 hP.2.2.2.1 (by decide)).mpr h60) (by decide)) ?_
      refine jr_1 jm_149 (show jw_cd cd_149 55 = some (.ifCond .eq 21) by decide +kernel) (mz_f (q := .eq) (a := 1) (by show ¬ (1 = 0); omega) ⟨by omega, by omega⟩ (by decide)) ?_
      refine jr_1 jm_149 (show jw_cd cd_149 58 = some (.aload_n 0) by decide +kernel) rfl ?_
      refine jr_1 jm_149 (show jw_cd cd_149 59 = some (.getfield 9) by decide +kernel) (cgr_6_0 (show jw_fld 7 9 4 = some 0 by decide +kernel)) ?_
      refine jr_1 jm_149 (show jw_cd cd_149 62 = some (.bipush 61) by decide +kernel) (mt_bi (by decide)) ?_
      refine jr_c jm_149 (show jw_cd cd_149 64 = some (.invokevirtual 36) by decide +kernel) (ccv (n := 1) (m2 := 64) (ci := 1) (a := 1) (bs := [.int (Int32.ofInt (61))]) (r := []) (js_cls cl_c1 (by decide)) (show jw_find jw_cvT 7 36 = some (1, [(1, 64)]) by decide +kernel) (by decide) rfl rfl rfl) jm_64 ⟨Nat.le_of_ble_eq_true rfl, by decide⟩ (jc_takeT hl hP1 ((tC_eq hP1.1.2.2 hP1.2.2.2.1 (by decide)).mpr hq1) (by decide)) ?_
      refine jr_1 jm_149 (show jw_cd cd_149 67 = some (.ifCond .eq 7) by decide +kernel) (mz_f (q := .eq) (a := 1) (by show ¬ (1 = 0); omega) ⟨by omega, by omega⟩ (by decide)) ?_
      refine jr_1 jm_149 (show jw_cd cd_149 70 = some (.iconst 4) by decide +kernel) rfl ?_
      refine jr_1 jm_149 (show jw_cd cd_149 71 = some (.goto 4) by decide +kernel) (ju_go (t := 75) (by decide)) ?_
      exact jr_v jm_149 (show jw_cd cd_149 75 = some (.ireturn) by decide +kernel) rfl
    · refine ⟨_, 3, ?_, m4 (mEq_refl _ _), by decide, fun _ z => absurd z hq1, fun _ _ z => absurd z (by rw [h60]; decide), fun _ _ z => ⟨by rw [h60]; decide, by decide, hP1⟩, fun z => absurd (by rw [h60]; decide) z⟩
      refine jr_1 jm_149 (show jw_cd cd_149 0 = some (.aload_n 0) by decide +kernel) rfl ?_
      refine jr_1 jm_149 (show jw_cd cd_149 1 = some (.getfield 9) by decide +kernel) (cgr_6_0 (show jw_fld 7 9 4 = some 0 by decide +kernel)) ?_
      refine jr_1 jm_149 (show jw_cd cd_149 4 = some (.bipush 61) by decide +kernel) (mt_bi (by decide)) ?_
      refine jr_c jm_149 (show jw_cd cd_149 6 = some (.invokevirtual 36) by decide +kernel) (ccv (n := 1) (m2 := 64) (ci := 1) (a := 1) (bs := [.int (Int32.ofInt (61))]) (r := []) (js_cls cl_c1 (by decide)) (show jw_find jw_cvT 7 36 = some (1, [(1, 64)]) by decide +kernel) (by decide) rfl rfl rfl) jm_64 ⟨Nat.le_of_ble_eq_true rfl, by decide⟩ (jc_takeF hl hP (fun e => h61 ((tC_eq hP.1.2.2 hP.2.2.2.1 (by decide)).mp e)) (by decide)) ?_
      refine jr_1 jm_149 (show jw_cd cd_149 9 = some (.ifCond .eq 14) by decide +kernel) (mz_t (q := .eq) (a := 0) (t := 23) (by show 0 = 0; omega) ⟨by omega, by omega⟩ (by decide) (by decide)) ?_
      refine jr_1 jm_149 (show jw_cd cd_149 23 = some (.aload_n 0) by decide +kernel) rfl ?_
      refine jr_1 jm_149 (show jw_cd cd_149 24 = some (.getfield 9) by decide +kernel) (cgr_6_0 (show jw_fld 7 9 4 = some 0 by decide +kernel)) ?_
      refine jr_1 jm_149 (show jw_cd cd_149 27 = some (.bipush 33) by decide +kernel) (mt_bi (by decide)) ?_
      refine jr_c jm_149 (show jw_cd cd_149 29 = some (.invokevirtual 36) by decide +kernel) (ccv (n := 1) (m2 := 64) (ci := 1) (a := 1) (bs := [.int (Int32.ofInt (33))]) (r := []) (js_cls cl_c1 (by decide)) (show jw_find jw_cvT 7 36 = some (1, [(1, 64)]) by decide +kernel) (by decide) rfl rfl rfl) jm_64 ⟨Nat.le_of_ble_eq_true rfl, by decide⟩ (jc_takeF hl hP (fun e => h33 ((tC_eq hP.1.2.2 hP.2.2.2.1 (by decide)).mp e)) (by decide)) ?_
      refine jr_1 jm_149 (show jw_cd cd_149 32 = some (.ifCond .eq 14) by decide +kernel) (mz_t (q := .eq) (a := 0) (t := 46) (by show 0 = 0; omega) ⟨by omega, by omega⟩ (by decide) (by decide)) ?_
      refine jr_1 jm_149 (show jw_cd cd_149 46 = some (.aload_n 0) by decide +kernel) rfl ?_
      refine jr_1 jm_149 (show jw_cd cd_149 47 = some (.getfield 9) by decide +kernel) (cgr_6_0 (show jw_fld 7 9 4 = some 0 by decide +kernel)) ?_
      refine jr_1 jm_149 (show jw_cd cd_149 50 = some (.bipush 60) by decide +kernel) (mt_bi (by decide)) ?_
      refine jr_c jm_149 (show jw_cd cd_149 52 = some (.invokevirtual 36) by decide +kernel) (ccv (n := 1) (m2 := 64) (ci := 1) (a := 1) (bs := [.int (Int32.ofInt (60))]) (r := []) (js_cls cl_c1 (by decide)) (show jw_find jw_cvT 7 36 = some (1, [(1, 64)]) by decide +kernel) (by decide) rfl rfl rfl) jm_64 ⟨Nat.le_of_ble_eq_true rfl, by decide⟩ (jc_takeT hl hP ((tC_eq hP.1.2.2 hP.2.2.2.1 (by decide)).mpr h60) (by decide)) ?_
      refine jr_1 jm_149 (show jw_cd cd_149 55 = some (.ifCond .eq 21) by decide +kernel) (mz_f (q := .eq) (a := 1) (by show ¬ (1 = 0); omega) ⟨by omega, by omega⟩ (by decide)) ?_
      refine jr_1 jm_149 (show jw_cd cd_149 58 = some (.aload_n 0) by decide +kernel) rfl ?_
      refine jr_1 jm_149 (show jw_cd cd_149 59 = some (.getfield 9) by decide +kernel) (cgr_6_0 (show jw_fld 7 9 4 = some 0 by decide +kernel)) ?_
      refine jr_1 jm_149 (show jw_cd cd_149 62 = some (.bipush 61) by decide +kernel) (mt_bi (by decide)) ?_
      refine jr_c jm_149 (show jw_cd cd_149 64 = some (.invokevirtual 36) by decide +kernel) (ccv (n := 1) (m2 := 64) (ci := 1) (a := 1) (bs := [.int (Int32.ofInt (61))]) (r := []) (js_cls cl_c1 (by decide)) (show jw_find jw_cvT 7 36 = some (1, [(1, 64)]) by decide +kernel) (by decide) rfl rfl rfl) jm_64 ⟨Nat.le_of_ble_eq_true rfl, by decide⟩ (jc_takeF hl hP1 (fun e => hq1 ((tC_eq hP1.1.2.2 hP1.2.2.2.1 (by decide)).mp e)) (by decide)) ?_
      refine jr_1 jm_149 (show jw_cd cd_149 67 = some (.ifCond .eq 7) by decide +kernel) (mz_t (q := .eq) (a := 0) (t := 74) (by show 0 = 0; omega) ⟨by omega, by omega⟩ (by decide) (by decide)) ?_
      refine jr_1 jm_149 (show jw_cd cd_149 74 = some (.iconst 3) by decide +kernel) rfl ?_
      exact jr_v jm_149 (show jw_cd cd_149 75 = some (.ireturn) by decide +kernel) rfl
  by_cases h62 : tH T n q = 62
  · have hpn : q < n := (tH_r ht hp0).2.2.2 (by rw [h62]; decide)
    have hP1 : cP (su κ 4 0 (q + 1)) T n (q + 1) := cP_mv hP (by omega) (by omega)
    by_cases hq1 : tH T n (q + 1) = 61
    · have hpn1 : q + 1 < n := (tH_r ht (by omega)).2.2.2 (by rw [hq1]; decide)
      refine ⟨_, 6, ?_, m4 (m4 (mEq_refl _ _)), by decide, fun _ _ => ⟨by rw [h62]; decide, by decide, cP_mv hP1 (by omega) (by omega)⟩, fun _ z => absurd hq1 z, fun _ z => absurd hq1 z, fun z => absurd (by rw [h62]; decide) z⟩
      refine jr_1 jm_149 (show jw_cd cd_149 0 = some (.aload_n 0) by decide +kernel) rfl ?_
      refine jr_1 jm_149 (show jw_cd cd_149 1 = some (.getfield 9) by decide +kernel) (cgr_6_0 (show jw_fld 7 9 4 = some 0 by decide +kernel)) ?_
      refine jr_1 jm_149 (show jw_cd cd_149 4 = some (.bipush 61) by decide +kernel) (mt_bi (by decide)) ?_
      refine jr_c jm_149 (show jw_cd cd_149 6 = some (.invokevirtual 36) by decide +kernel) (ccv (n := 1) (m2 := 64) (ci := 1) (a := 1) (bs := [.int (Int32.ofInt (61))]) (r := []) (js_cls cl_c1 (by decide)) (show jw_find jw_cvT 7 36 = some (1, [(1, 64)]) by decide +kernel) (by decide) rfl rfl rfl) jm_64 ⟨Nat.le_of_ble_eq_true rfl, by decide⟩ (jc_takeF hl hP (fun e => h61 ((tC_eq hP.1.2.2 hP.2.2.2.1 (by decide)).mp e)) (by decide)) ?_
      refine jr_1 jm_149 (show jw_cd cd_149 9 = some (.ifCond .eq 14) by decide +kernel) (mz_t (q := .eq) (a := 0) (t := 23) (by show 0 = 0; omega) ⟨by omega, by omega⟩ (by decide) (by decide)) ?_
      refine jr_1 jm_149 (show jw_cd cd_149 23 = some (.aload_n 0) by decide +kernel) rfl ?_
      refine jr_1 jm_149 (show jw_cd cd_149 24 = some (.getfield 9) by decide +kernel) (cgr_6_0 (show jw_fld 7 9 4 = some 0 by decide +kernel)) ?_
      refine jr_1 jm_149 (show jw_cd cd_149 27 = some (.bipush 33) by decide +kernel) (mt_bi (by decide)) ?_
      refine jr_c jm_149 (show jw_cd cd_149 29 = some (.invokevirtual 36) by decide +kernel) (ccv (n := 1) (m2 := 64) (ci := 1) (a := 1) (bs := [.int (Int32.ofInt (33))]) (r := []) (js_cls cl_c1 (by decide)) (show jw_find jw_cvT 7 36 = some (1, [(1, 64)]) by decide +kernel) (by decide) rfl rfl rfl) jm_64 ⟨Nat.le_of_ble_eq_true rfl, by decide⟩ (jc_takeF hl hP (fun e => h33 ((tC_eq hP.1.2.2 hP.2.2.2.1 (by decide)).mp e)) (by decide)) ?_
      refine jr_1 jm_149 (show jw_cd cd_149 32 = some (.ifCond .eq 14) by decide +kernel) (mz_t (q := .eq) (a := 0) (t := 46) (by show 0 = 0; omega) ⟨by omega, by omega⟩ (by decide) (by decide)) ?_
      refine jr_1 jm_149 (show jw_cd cd_149 46 = some (.aload_n 0) by decide +kernel) rfl ?_
      refine jr_1 jm_149 (show jw_cd cd_149 47 = some (.getfield 9) by decide +kernel) (cgr_6_0 (show jw_fld 7 9 4 = some 0 by decide +kernel)) ?_
      refine jr_1 jm_149 (show jw_cd cd_149 50 = some (.bipush 60) by decide +kernel) (mt_bi (by decide)) ?_
      refine jr_c jm_149 (show jw_cd cd_149 52 = some (.invokevirtual 36) by decide +kernel) (ccv (n := 1) (m2 := 64) (ci := 1) (a := 1) (bs := [.int (Int32.ofInt (60))]) (r := []) (js_cls cl_c1 (by decide)) (show jw_find jw_cvT 7 36 = some (1, [(1, 64)]) by decide +kernel) (by decide) rfl rfl rfl) jm_64 ⟨Nat.le_of_ble_eq_true rfl, by decide⟩ (jc_takeF hl hP (fun e => h60 ((tC_eq hP.1.2.2 hP.2.2.2.1 (by decide)).mp e)) (by decide)) ?_
      refine jr_1 jm_149 (show jw_cd cd_149 55 = some (.ifCond .eq 21) by decide +kernel) (mz_t (q := .eq) (a := 0) (t := 76) (by show 0 = 0; omega) ⟨by omega, by omega⟩ (by decide) (by decide)) ?_
      refine jr_1 jm_149 (show jw_cd cd_149 76 = some (.aload_n 0) by decide +kernel) rfl ?_
      refine jr_1 jm_149 (show jw_cd cd_149 77 = some (.getfield 9) by decide +kernel) (cgr_6_0 (show jw_fld 7 9 4 = some 0 by decide +kernel)) ?_
      refine jr_1 jm_149 (show jw_cd cd_149 80 = some (.bipush 62) by decide +kernel) (mt_bi (by decide)) ?_
      refine jr_c jm_149 (show jw_cd cd_149 82 = some (.invokevirtual 36) by decide +kernel) (ccv (n := 1) (m2 := 64) (ci := 1) (a := 1) (bs := [.int (Int32.ofInt (62))]) (r := []) (js_cls cl_c1 (by decide)) (show jw_find jw_cvT 7 36 = some (1, [(1, 64)]) by decide +kernel) (by decide) rfl rfl rfl) jm_64 ⟨Nat.le_of_ble_eq_true rfl, by decide⟩ (jc_takeT hl hP ((tC_eq hP.1.2.2 hP.2.2.2.1 (by decide)).mpr h62) (by decide)) ?_
      refine jr_1 jm_149 (show jw_cd cd_149 85 = some (.ifCond .eq 22) by decide +kernel) (mz_f (q := .eq) (a := 1) (by show ¬ (1 = 0); omega) ⟨by omega, by omega⟩ (by decide)) ?_
      refine jr_1 jm_149 (show jw_cd cd_149 88 = some (.aload_n 0) by decide +kernel) rfl ?_
      refine jr_1 jm_149 (show jw_cd cd_149 89 = some (.getfield 9) by decide +kernel) (cgr_6_0 (show jw_fld 7 9 4 = some 0 by decide +kernel)) ?_
      refine jr_1 jm_149 (show jw_cd cd_149 92 = some (.bipush 61) by decide +kernel) (mt_bi (by decide)) ?_
      refine jr_c jm_149 (show jw_cd cd_149 94 = some (.invokevirtual 36) by decide +kernel) (ccv (n := 1) (m2 := 64) (ci := 1) (a := 1) (bs := [.int (Int32.ofInt (61))]) (r := []) (js_cls cl_c1 (by decide)) (show jw_find jw_cvT 7 36 = some (1, [(1, 64)]) by decide +kernel) (by decide) rfl rfl rfl) jm_64 ⟨Nat.le_of_ble_eq_true rfl, by decide⟩ (jc_takeT hl hP1 ((tC_eq hP1.1.2.2 hP1.2.2.2.1 (by decide)).mpr hq1) (by decide)) ?_
      refine jr_1 jm_149 (show jw_cd cd_149 97 = some (.ifCond .eq 8) by decide +kernel) (mz_f (q := .eq) (a := 1) (by show ¬ (1 = 0); omega) ⟨by omega, by omega⟩ (by decide)) ?_
      refine jr_1 jm_149 (show jw_cd cd_149 100 = some (.bipush 6) by decide +kernel) (mt_bi (by decide)) ?_
      refine jr_1 jm_149 (show jw_cd cd_149 102 = some (.goto 4) by decide +kernel) (ju_go (t := 106) (by decide)) ?_
      exact jr_v jm_149 (show jw_cd cd_149 106 = some (.ireturn) by decide +kernel) rfl
    · refine ⟨_, 5, ?_, m4 (mEq_refl _ _), by decide, fun _ z => absurd z hq1, fun _ _ z => absurd z (by rw [h62]; decide), fun _ _ z => ⟨by rw [h62]; decide, by decide, hP1⟩, fun z => absurd (by rw [h62]; decide) z⟩
      refine jr_1 jm_149 (show jw_cd cd_149 0 = some (.aload_n 0) by decide +kernel) rfl ?_
      refine jr_1 jm_149 (show jw_cd cd_149 1 = some (.getfield 9) by decide +kernel) (cgr_6_0 (show jw_fld 7 9 4 = some 0 by decide +kernel)) ?_
      refine jr_1 jm_149 (show jw_cd cd_149 4 = some (.bipush 61) by decide +kernel) (mt_bi (by decide)) ?_
      refine jr_c jm_149 (show jw_cd cd_149 6 = some (.invokevirtual 36) by decide +kernel) (ccv (n := 1) (m2 := 64) (ci := 1) (a := 1) (bs := [.int (Int32.ofInt (61))]) (r := []) (js_cls cl_c1 (by decide)) (show jw_find jw_cvT 7 36 = some (1, [(1, 64)]) by decide +kernel) (by decide) rfl rfl rfl) jm_64 ⟨Nat.le_of_ble_eq_true rfl, by decide⟩ (jc_takeF hl hP (fun e => h61 ((tC_eq hP.1.2.2 hP.2.2.2.1 (by decide)).mp e)) (by decide)) ?_
      refine jr_1 jm_149 (show jw_cd cd_149 9 = some (.ifCond .eq 14) by decide +kernel) (mz_t (q := .eq) (a := 0) (t := 23) (by show 0 = 0; omega) ⟨by omega, by omega⟩ (by decide) (by decide)) ?_
      refine jr_1 jm_149 (show jw_cd cd_149 23 = some (.aload_n 0) by decide +kernel) rfl ?_
      refine jr_1 jm_149 (show jw_cd cd_149 24 = some (.getfield 9) by decide +kernel) (cgr_6_0 (show jw_fld 7 9 4 = some 0 by decide +kernel)) ?_
      refine jr_1 jm_149 (show jw_cd cd_149 27 = some (.bipush 33) by decide +kernel) (mt_bi (by decide)) ?_
      refine jr_c jm_149 (show jw_cd cd_149 29 = some (.invokevirtual 36) by decide +kernel) (ccv (n := 1) (m2 := 64) (ci := 1) (a := 1) (bs := [.int (Int32.ofInt (33))]) (r := []) (js_cls cl_c1 (by decide)) (show jw_find jw_cvT 7 36 = some (1, [(1, 64)]) by decide +kernel) (by decide) rfl rfl rfl) jm_64 ⟨Nat.le_of_ble_eq_true rfl, by decide⟩ (jc_takeF hl hP (fun e => h33 ((tC_eq hP.1.2.2 hP.2.2.2.1 (by decide)).mp e)) (by decide)) ?_
      refine jr_1 jm_149 (show jw_cd cd_149 32 = some (.ifCond .eq 14) by decide +kernel) (mz_t (q := .eq) (a := 0) (t := 46) (by show 0 = 0; omega) ⟨by omega, by omega⟩ (by decide) (by decide)) ?_
      refine jr_1 jm_149 (show jw_cd cd_149 46 = some (.aload_n 0) by decide +kernel) rfl ?_
      refine jr_1 jm_149 (show jw_cd cd_149 47 = some (.getfield 9) by decide +kernel) (cgr_6_0 (show jw_fld 7 9 4 = some 0 by decide +kernel)) ?_
      refine jr_1 jm_149 (show jw_cd cd_149 50 = some (.bipush 60) by decide +kernel) (mt_bi (by decide)) ?_
      refine jr_c jm_149 (show jw_cd cd_149 52 = some (.invokevirtual 36) by decide +kernel) (ccv (n := 1) (m2 := 64) (ci := 1) (a := 1) (bs := [.int (Int32.ofInt (60))]) (r := []) (js_cls cl_c1 (by decide)) (show jw_find jw_cvT 7 36 = some (1, [(1, 64)]) by decide +kernel) (by decide) rfl rfl rfl) jm_64 ⟨Nat.le_of_ble_eq_true rfl, by decide⟩ (jc_takeF hl hP (fun e => h60 ((tC_eq hP.1.2.2 hP.2.2.2.1 (by decide)).mp e)) (by decide)) ?_
      refine jr_1 jm_149 (show jw_cd cd_149 55 = some (.ifCond .eq 21) by decide +kernel) (mz_t (q := .eq) (a := 0) (t := 76) (by show 0 = 0; omega) ⟨by omega, by omega⟩ (by decide) (by decide)) ?_
      refine jr_1 jm_149 (show jw_cd cd_149 76 = some (.aload_n 0) by decide +kernel) rfl ?_
      refine jr_1 jm_149 (show jw_cd cd_149 77 = some (.getfield 9) by decide +kernel) (cgr_6_0 (show jw_fld 7 9 4 = some 0 by decide +kernel)) ?_
      refine jr_1 jm_149 (show jw_cd cd_149 80 = some (.bipush 62) by decide +kernel) (mt_bi (by decide)) ?_
      refine jr_c jm_149 (show jw_cd cd_149 82 = some (.invokevirtual 36) by decide +kernel) (ccv (n := 1) (m2 := 64) (ci := 1) (a := 1) (bs := [.int (Int32.ofInt (62))]) (r := []) (js_cls cl_c1 (by decide)) (show jw_find jw_cvT 7 36 = some (1, [(1, 64)]) by decide +kernel) (by decide) rfl rfl rfl) jm_64 ⟨Nat.le_of_ble_eq_true rfl, by decide⟩ (jc_takeT hl hP ((tC_eq hP.1.2.2 hP.2.2.2.1 (by decide)).mpr h62) (by decide)) ?_
      refine jr_1 jm_149 (show jw_cd cd_149 85 = some (.ifCond .eq 22) by decide +kernel) (mz_f (q := .eq) (a := 1) (by show ¬ (1 = 0); omega) ⟨by omega, by omega⟩ (by decide)) ?_
      refine jr_1 jm_149 (show jw_cd cd_149 88 = some (.aload_n 0) by decide +kernel) rfl ?_
      refine jr_1 jm_149 (show jw_cd cd_149 89 = some (.getfield 9) by decide +kernel) (cgr_6_0 (show jw_fld 7 9 4 = some 0 by decide +kernel)) ?_
      refine jr_1 jm_149 (show jw_cd cd_149 92 = some (.bipush 61) by decide +kernel) (mt_bi (by decide)) ?_
      refine jr_c jm_149 (show jw_cd cd_149 94 = some (.invokevirtual 36) by decide +kernel) (ccv (n := 1) (m2 := 64) (ci := 1) (a := 1) (bs := [.int (Int32.ofInt (61))]) (r := []) (js_cls cl_c1 (by decide)) (show jw_find jw_cvT 7 36 = some (1, [(1, 64)]) by decide +kernel) (by decide) rfl rfl rfl) jm_64 ⟨Nat.le_of_ble_eq_true rfl, by decide⟩ (jc_takeF hl hP1 (fun e => hq1 ((tC_eq hP1.1.2.2 hP1.2.2.2.1 (by decide)).mp e)) (by decide)) ?_
      refine jr_1 jm_149 (show jw_cd cd_149 97 = some (.ifCond .eq 8) by decide +kernel) (mz_t (q := .eq) (a := 0) (t := 105) (by show 0 = 0; omega) ⟨by omega, by omega⟩ (by decide) (by decide)) ?_
      refine jr_1 jm_149 (show jw_cd cd_149 105 = some (.iconst 5) by decide +kernel) rfl ?_
      exact jr_v jm_149 (show jw_cd cd_149 106 = some (.ireturn) by decide +kernel) rfl
  · have hno : ¬ (tH T n q = 61 ∨ tH T n q = 33 ∨ tH T n q = 60 ∨ tH T n q = 62) := by omega
    refine ⟨κ, 0, ?_, mEq_refl _ _, by decide, fun z => absurd z hno, fun z => absurd z hno, fun z => absurd z hno, fun _ => ⟨rfl, hP⟩⟩
    refine jr_1 jm_149 (show jw_cd cd_149 0 = some (.aload_n 0) by decide +kernel) rfl ?_
    refine jr_1 jm_149 (show jw_cd cd_149 1 = some (.getfield 9) by decide +kernel) (cgr_6_0 (show jw_fld 7 9 4 = some 0 by decide +kernel)) ?_
    refine jr_1 jm_149 (show jw_cd cd_149 4 = some (.bipush 61) by decide +kernel) (mt_bi (by decide)) ?_
    refine jr_c jm_149 (show jw_cd cd_149 6 = some (.invokevirtual 36) by decide +kernel) (ccv (n := 1) (m2 := 64) (ci := 1) (a := 1) (bs := [.int (Int32.ofInt (61))]) (r := []) (js_cls cl_c1 (by decide)) (show jw_find jw_cvT 7 36 = some (1, [(1, 64)]) by decide +kernel) (by decide) rfl rfl rfl) jm_64 ⟨Nat.le_of_ble_eq_true rfl, by decide⟩ (jc_takeF hl hP (fun e => h61 ((tC_eq hP.1.2.2 hP.2.2.2.1 (by decide)).mp e)) (by decide)) ?_
    refine jr_1 jm_149 (show jw_cd cd_149 9 = some (.ifCond .eq 14) by decide +kernel) (mz_t (q := .eq) (a := 0) (t := 23) (by show 0 = 0; omega) ⟨by omega, by omega⟩ (by decide) (by decide)) ?_
    refine jr_1 jm_149 (show jw_cd cd_149 23 = some (.aload_n 0) by decide +kernel) rfl ?_
    refine jr_1 jm_149 (show jw_cd cd_149 24 = some (.getfield 9) by decide +kernel) (cgr_6_0 (show jw_fld 7 9 4 = some 0 by decide +kernel)) ?_
    refine jr_1 jm_149 (show jw_cd cd_149 27 = some (.bipush 33) by decide +kernel) (mt_bi (by decide)) ?_
    refine jr_c jm_149 (show jw_cd cd_149 29 = some (.invokevirtual 36) by decide +kernel) (ccv (n := 1) (m2 := 64) (ci := 1) (a := 1) (bs := [.int (Int32.ofInt (33))]) (r := []) (js_cls cl_c1 (by decide)) (show jw_find jw_cvT 7 36 = some (1, [(1, 64)]) by decide +kernel) (by decide) rfl rfl rfl) jm_64 ⟨Nat.le_of_ble_eq_true rfl, by decide⟩ (jc_takeF hl hP (fun e => h33 ((tC_eq hP.1.2.2 hP.2.2.2.1 (by decide)).mp e)) (by decide)) ?_
    refine jr_1 jm_149 (show jw_cd cd_149 32 = some (.ifCond .eq 14) by decide +kernel) (mz_t (q := .eq) (a := 0) (t := 46) (by show 0 = 0; omega) ⟨by omega, by omega⟩ (by decide) (by decide)) ?_
    refine jr_1 jm_149 (show jw_cd cd_149 46 = some (.aload_n 0) by decide +kernel) rfl ?_
    refine jr_1 jm_149 (show jw_cd cd_149 47 = some (.getfield 9) by decide +kernel) (cgr_6_0 (show jw_fld 7 9 4 = some 0 by decide +kernel)) ?_
    refine jr_1 jm_149 (show jw_cd cd_149 50 = some (.bipush 60) by decide +kernel) (mt_bi (by decide)) ?_
    refine jr_c jm_149 (show jw_cd cd_149 52 = some (.invokevirtual 36) by decide +kernel) (ccv (n := 1) (m2 := 64) (ci := 1) (a := 1) (bs := [.int (Int32.ofInt (60))]) (r := []) (js_cls cl_c1 (by decide)) (show jw_find jw_cvT 7 36 = some (1, [(1, 64)]) by decide +kernel) (by decide) rfl rfl rfl) jm_64 ⟨Nat.le_of_ble_eq_true rfl, by decide⟩ (jc_takeF hl hP (fun e => h60 ((tC_eq hP.1.2.2 hP.2.2.2.1 (by decide)).mp e)) (by decide)) ?_
    refine jr_1 jm_149 (show jw_cd cd_149 55 = some (.ifCond .eq 21) by decide +kernel) (mz_t (q := .eq) (a := 0) (t := 76) (by show 0 = 0; omega) ⟨by omega, by omega⟩ (by decide) (by decide)) ?_
    refine jr_1 jm_149 (show jw_cd cd_149 76 = some (.aload_n 0) by decide +kernel) rfl ?_
    refine jr_1 jm_149 (show jw_cd cd_149 77 = some (.getfield 9) by decide +kernel) (cgr_6_0 (show jw_fld 7 9 4 = some 0 by decide +kernel)) ?_
    refine jr_1 jm_149 (show jw_cd cd_149 80 = some (.bipush 62) by decide +kernel) (mt_bi (by decide)) ?_
    refine jr_c jm_149 (show jw_cd cd_149 82 = some (.invokevirtual 36) by decide +kernel) (ccv (n := 1) (m2 := 64) (ci := 1) (a := 1) (bs := [.int (Int32.ofInt (62))]) (r := []) (js_cls cl_c1 (by decide)) (show jw_find jw_cvT 7 36 = some (1, [(1, 64)]) by decide +kernel) (by decide) rfl rfl rfl) jm_64 ⟨Nat.le_of_ble_eq_true rfl, by decide⟩ (jc_takeF hl hP (fun e => h62 ((tC_eq hP.1.2.2 hP.2.2.2.1 (by decide)).mp e)) (by decide)) ?_
    refine jr_1 jm_149 (show jw_cd cd_149 85 = some (.ifCond .eq 22) by decide +kernel) (mz_t (q := .eq) (a := 0) (t := 107) (by show 0 = 0; omega) ⟨by omega, by omega⟩ (by decide) (by decide)) ?_
    refine jr_1 jm_149 (show jw_cd cd_149 107 = some (.iconst 0) by decide +kernel) rfl ?_
    exact jr_v jm_149 (show jw_cd cd_149 108 = some (.ireturn) by decide +kernel) rfl
/-- what is closed by a ] -/
def cl93 (T : Int → Int) (n : Int) : Int ⊕ (sE × Int) → Int ⊕ (sE × Int)
  | .inl e => .inl e
  | .inr (e, q) => if tH T n q = 93 then .inr (e, q + 1) else .inl q
def sCn2 (T : Int → Int) (n : Int) (l : sD) (g q : Int) : Int ⊕ (sE × Int) := match sSide T n q with
  | .inl e => .inl e
  | .inr (r, q2) => .inr ((4, [], nnu, g, l, r), q2)
def sCnA (T : Int → Int) (n p : Int) : Int ⊕ (sE × Int) := match sSide T n p with
  | .inl e => .inl e
  | .inr (l, q) => if (tH T n q = 61 ∨ tH T n q = 33 ∨ tH T n q = 60 ∨ tH T n q = 62) then
      (if tH T n (q + 1) = 61 then sCn2 T n l (sgn (tH T n q) true) (q + 1 + 1) else if tH T n q = 61 ∨ tH T n q = 33 then .inl (q + 1) else sCn2 T n l (sgn (tH T n q) false) (q + 1))
    else .inr ((4, [], nnu, 0, l, nsd), q)
theorem sCn2_c (T : Int → Int) (n : Int) (l : sD) (g q : Int) : sCnd2 T n l g q = cl93 T n (sCn2 T n l g q) := by
  unfold sCnd2 sCn2
  cases sSide T n q with
  | inl e => rfl
  | inr x => rfl
theorem sCnA_c (T : Int → Int) (n p : Int) : sCnd T n p = cl93 T n (sCnA T n p) := by
  unfold sCnd sCnA
  cases sSide T n p with
  | inl e => rfl
  | inr x =>
    obtain ⟨l, q⟩ := x
    show (if (tH T n q = 61 ∨ tH T n q = 33 ∨ tH T n q = 60 ∨ tH T n q = 62) then _ else _) = cl93 T n (if (tH T n q = 61 ∨ tH T n q = 33 ∨ tH T n q = 60 ∨ tH T n q = 62) then _ else _)
    by_cases hc : (tH T n q = 61 ∨ tH T n q = 33 ∨ tH T n q = 60 ∨ tH T n q = 62)
    · rw [if_pos hc, if_pos hc]
      by_cases h1 : tH T n (q + 1) = 61
      · rw [if_pos h1, if_pos h1]
        exact sCn2_c _ _ _ _ _
      · rw [if_neg h1, if_neg h1]
        by_cases h2 : tH T n q = 61 ∨ tH T n q = 33
        · rw [if_pos h2, if_pos h2]
          rfl
        · rw [if_neg h2, if_neg h2]
          exact sCn2_c _ _ _ _ _
    · rw [if_neg hc, if_neg hc]
      rfl
theorem jc_cnd {β : Bool} {d : Nat} {h : jx_H} {κ : mS} (hl : 50 ≤ h.length) {N : Nat} (hN : h.length = N) (hb32 : N < 2700000000) {X : Nat → Prop} (hx : ∀ c, N ≤ c → ¬ X c) {T : Int → Int} {n p : Int} (hP : cP κ T n p) (hsc : 0 ≤ κ 7 0 ∧ κ 7 0 ≤ 16) : ∃ (κ' : mS) (L : List jx_C) (b : Nat) (fs : List Value), jx_r (jz β) jw_M (d + 9) 144 (0, [some (.ref 6), none, none], [], (cl_mk h κ)) (cl_mk (h ++ L) (κ'), .inl (some (.ref (b)))) ∧ (h ++ L)[b]? = some (.inr (14, fs)) ∧ (50 ≤ b ∧ b < 4000000000) ∧ L.length ≤ 64 ∧ cvol L ≤ 250 ∧ mEq [4, 5, 7, 8, 15] κ κ' ∧ (0 ≤ κ' 7 0 ∧ κ' 7 0 ≤ 16) ∧ (∀ e q, sCnA T n p = .inr (e, q) → spR (h ++ L) X b e ∧ cP κ' T n q) ∧ (∀ e, sCnA T n p = .inl e → cE κ' T n e) := by
  obtain ⟨κ1, L1, r1, l1, v1, m1, s1, a1, b1⟩ := jc_side (β := β) (d := d) hl hN (by omega) hx hP hsc
  obtain ⟨h1, eh1⟩ : ∃ h1, h1 = h ++ L1 := ⟨_, rfl⟩
  obtain ⟨N1, eN1⟩ : ∃ N1, N1 = N + L1.length := ⟨_, rfl⟩
  have hN1 : h1.length = N1 := by rw [eh1, List.length_append, hN, eN1]
  have hl1 : 50 ≤ h1.length := by omega
  have w1 : cvol h1 = cvol h + cvol L1 := by rw [eh1, cvol_app]
  have q1 : ∀ (c : Nat) (y : jx_C), h[c]? = some y → h1[c]? = some y := fun c y hy => by rw [eh1, List.getElem?_append_left (List.getElem?_eq_some_iff.mp hy).1]; exact hy
  rw [← eh1] at r1 a1
  have hx1 : ∀ c, N1 ≤ c → ¬ X c := fun c hc => hx c (by omega)
  have t0 : ∀ {H : jx_H}, strR H X (jx_big + 9) [] := emp_str
  -- the sign
  have hsg : ∃ (κ2 : mS) (sg : Int), jx_r (jz β) jw_M (d + 8) 149 (0, [some (.ref 6)], [], (cl_mk h1 κ1)) (cl_mk h1 (κ2), .inl (some (.int (Int32.ofInt (sg))))) ∧ mEq [4, 5, 7, 8, 15] κ κ2 ∧ (0 ≤ κ2 7 0 ∧ κ2 7 0 ≤ 16) ∧ (0 ≤ sg ∧ sg ≤ 6) ∧ ((∃ e, sCnA T n p = .inl e ∧ cE κ2 T n e) ∨ (∃ (l : sD) (q : Int), cdR h1 X N l ∧ cP κ2 T n q ∧ sg = 0 ∧ sCnA T n p = .inr ((4, [], nnu, 0, l, nsd), q)) ∨ (∃ (l : sD) (g q : Int), cdR h1 X N l ∧ cP κ2 T n q ∧ ¬ sg = 0 ∧ ¬ g = 0 ∧ sg = csg g ∧ sCnA T n p = sCn2 T n l g q)) := by
    cases hs : sSide T n p with
    | inl e =>
      have hE := b1 e hs
      exact ⟨κ1, 0, jc_sgnW hl1 hE.2.1, m1, s1, by decide, Or.inl ⟨e, by unfold sCnA; rw [hs], hE⟩⟩
    | inr x =>
      obtain ⟨l, q⟩ := x
      obtain ⟨c1, c2⟩ := a1 l q hs
      have e0 : sCnA T n p = (if (tH T n q = 61 ∨ tH T n q = 33 ∨ tH T n q = 60 ∨ tH T n q = 62) then
        (if tH T n (q + 1) = 61 then sCn2 T n l (sgn (tH T n q) true) (q + 1 + 1) else if tH T n q = 61 ∨ tH T n q = 33 then .inl (q + 1) else sCn2 T n l (sgn (tH T n q) false) (q + 1))
        else .inr ((4, [], nnu, 0, l, nsd), q)) := by unfold sCnA; rw [hs]
      obtain ⟨κ2, sg, y1, y2, y3, y4, y5, y6, y7⟩ := jc_sgn (β := β) (d := d + 6) hl1 c2
      have gr := fun c b => (sgn_r c b).1
      refine ⟨κ2, sg, y1, mEq_trans m1 (mEq_sub y2 (by decide)), by rw [y2 7 (by decide)]; exact s1, y3, ?_⟩
      by_cases hc : (tH T n q = 61 ∨ tH T n q = 33 ∨ tH T n q = 60 ∨ tH T n q = 62)
      · rw [if_pos hc] at e0
        by_cases h1 : tH T n (q + 1) = 61
        · rw [if_pos h1] at e0
          obtain ⟨z1, z2, z3⟩ := y4 hc h1
          exact Or.inr (Or.inr ⟨l, _, _, c1, z3, z2, by have := gr (tH T n q) true; omega, z1, e0⟩)
        · rw [if_neg h1] at e0
          by_cases h2 : tH T n q = 61 ∨ tH T n q = 33
          · rw [if_pos h2] at e0
            exact Or.inl ⟨_, e0, (y5 hc h1 h2).2⟩
          · rw [if_neg h2] at e0
            obtain ⟨z1, z2, z3⟩ := y6 hc h1 h2
            exact Or.inr (Or.inr ⟨l, _, _, c1, z3, z2, by have := gr (tH T n q) false; omega, z1, e0⟩)
      · rw [if_neg hc] at e0
        obtain ⟨z1, z2⟩ := y7 hc
        exact Or.inr (Or.inl ⟨l, q, c1, z2, z1, e0⟩)
  obtain ⟨κ2, sg, r2, m2, s2, hg, hor⟩ := hsg
  by_cases h0 : sg = 0
  · have r3 := jc_stC0 (β := β) (d := d + 7) (κ := κ2) (l := N) (sg := sg) hl1 hN1 (by omega)
    obtain ⟨h2, eh2⟩ : ∃ h2, h2 = h1 ++ [.inr (14, [.int (Int32.ofInt (4)), .ref (jx_big + 9), .int (Int32.ofInt (0)), .int (Int32.ofInt (1000000)), .int (Int32.ofInt (1)), .ref N, .int (Int32.ofInt (sg)), .null])] := ⟨_, rfl⟩
    have hN2 : h2.length = N1 + 1 := by rw [eh2, List.length_append, hN1]; rfl
    have w2 : cvol h2 = cvol h1 + 8 := by rw [eh2, cvol_app]; rfl
    have q2 : ∀ (c : Nat) (y : jx_C), h1[c]? = some y → h2[c]? = some y := fun c y hy => by rw [eh2, List.getElem?_append_left (List.getElem?_eq_some_iff.mp hy).1]; exact hy
    have hC : h2[N1]? = some (.inr (14, [.int (Int32.ofInt (4)), .ref (jx_big + 9), .int (Int32.ofInt (0)), .int (Int32.ofInt (1000000)), .int (Int32.ofInt (1)), .ref N, .int (Int32.ofInt (sg)), .null])) := by
      rw [eh2, ← hN1, List.getElem?_append_right (Nat.le_refl _), Nat.sub_self]
      rfl
    rw [← eh2] at r3
    obtain ⟨L, eL⟩ := ext_of (h := h) (h' := h2) (by omega) (fun c y hy => q2 c y (q1 c y hy))
    have eln : h2.length = N + L.length := by rw [eL, List.length_append, hN]
    have evl : cvol h2 = cvol h + cvol L := by rw [eL, cvol_app]
    rw [eL] at r3
    refine ⟨κ2, L, N1, _, ?_, by rw [← eL]; exact hC, ⟨by omega, by omega⟩, by omega, by omega, m2, s2, fun e q hh => ?_, fun e hh => ?_⟩
    rotate_left
    · rw [← eL]
      rcases hor with ⟨e', z1, z2⟩ | ⟨l, q', z1, z2, z3, z4⟩ | ⟨l, g, q', z1, z2, z3, z4⟩
      · rw [z1] at hh
        cases hh
      · rw [z4] at hh
        injection hh with hh
        injection hh with y1 y2
        rw [← y1, ← y2]
        refine ⟨⟨⟨by omega, by omega, hx1 _ (Nat.le_refl _)⟩, jx_big + 9, .ref N, .null, ?_, t0, fun _ => ⟨⟨N, rfl, cdR_fr (fun c y z hy => ⟨z, q2 c y hy⟩) z1⟩, Or.inl ⟨rfl, rfl⟩⟩⟩, z2⟩
        rw [hC, z3]
        rfl
      · exact absurd h0 z3
    · rcases hor with ⟨e', z1, z2⟩ | ⟨l, q', z1, z2, z3, z4⟩ | ⟨l, g, q', z1, z2, z3, z4⟩
      · rw [z1] at hh
        injection hh with hh
        rw [← hh]
        exact z2
      · rw [z4] at hh
        cases hh
      · exact absurd h0 z3
    refine jr_1 jm_144 (show jw_cd cd_144 0 = some (.aload_n 0) by decide +kernel) rfl ?_
    refine jr_c jm_144 (show jw_cd cd_144 1 = some (.invokevirtual 139) by decide +kernel) (ccv (n := 0) (m2 := 145) (ci := 4) (a := 6) (bs := []) (r := []) (js_cls cl_c6 (by decide)) (show jw_find jw_cvT 7 139 = some (0, [(4, 145)]) by decide +kernel) (by decide) rfl rfl rfl) jm_145 ⟨Nat.le_of_ble_eq_true rfl, by decide⟩ r1 ?_
    refine jr_1 jm_144 (F2 := (5, [some (.ref 6), some (.ref N), none], [], (cl_mk h1 κ1))) (show jw_cd cd_144 4 = some (.astore_n 1) by decide +kernel) rfl ?_
    refine jr_1 jm_144 (show jw_cd cd_144 5 = some (.aload_n 0) by decide +kernel) rfl ?_
    refine jr_c jm_144 (show jw_cd cd_144 6 = some (.invokevirtual 143) by decide +kernel) (ccv (n := 0) (m2 := 149) (ci := 4) (a := 6) (bs := []) (r := []) (js_cls cl_c6 (by decide)) (show jw_find jw_cvT 7 143 = some (0, [(4, 149)]) by decide +kernel) (by decide) rfl rfl rfl) jm_149 ⟨Nat.le_of_ble_eq_true rfl, by decide⟩ r2 ?_
    refine jr_1 jm_144 (F2 := (10, [some (.ref 6), some (.ref N), some (.int (Int32.ofInt (sg)))], [], (cl_mk h1 κ2))) (show jw_cd cd_144 9 = some (.istore_n 2) by decide +kernel) rfl ?_
    refine jr_1 jm_144 (show jw_cd cd_144 10 = some (.aload_n 1) by decide +kernel) rfl ?_
    refine jr_1 jm_144 (show jw_cd cd_144 11 = some (.iload_n 2) by decide +kernel) rfl ?_
    refine jr_1 jm_144 (show jw_cd cd_144 12 = some (.iload_n 2) by decide +kernel) rfl ?_
    refine jr_1 jm_144 (show jw_cd cd_144 13 = some (.ifCond .ne 7) by decide +kernel) (mz_f (q := .ne) (a := sg) (by show ¬ (¬ (sg = 0)); omega) ⟨by omega, by omega⟩ (by decide)) ?_
    refine jr_1 jm_144 (show jw_cd cd_144 16 = some (.aconst_null) by decide +kernel) rfl ?_
    refine jr_1 jm_144 (show jw_cd cd_144 17 = some (.goto 7) by decide +kernel) (ju_go (t := 24) (by decide)) ?_
    refine jr_c jm_144 (show jw_cd cd_144 24 = some (.invokestatic 146) by decide +kernel) (mc_s (n := 3) (m2 := 150) (bs := [.ref N, .int (Int32.ofInt (sg)), .null]) (r := []) (by decide) (show jw_find jw_csT 7 146 = some (150, 3) by decide +kernel) rfl rfl rfl) jm_150 ⟨Nat.le_of_ble_eq_true rfl, by decide⟩ r3 ?_
    exact jr_v jm_144 (show jw_cd cd_144 27 = some (.areturn) by decide +kernel) rfl
  · -- a second side
    have hsd : ∃ (κ3 : mS) (L2 : List jx_C), jx_r (jz β) jw_M (d + 8) 145 (0, [some (.ref 6), none, none], [], (cl_mk h1 κ2)) (cl_mk (h1 ++ L2) (κ3), .inl (some (.ref (N1)))) ∧ L2.length ≤ 30 ∧ cvol L2 ≤ 100 ∧ mEq [4, 5, 7, 8, 15] κ κ3 ∧ (0 ≤ κ3 7 0 ∧ κ3 7 0 ≤ 16) ∧ ((∃ e, sCnA T n p = .inl e ∧ cE κ3 T n e) ∨ (∃ (l r : sD) (g q : Int), cdR h1 X N l ∧ cdR (h1 ++ L2) X N1 r ∧ cP κ3 T n q ∧ ¬ g = 0 ∧ sg = csg g ∧ sCnA T n p = .inr ((4, [], nnu, g, l, r), q))) := by
      rcases hor with ⟨e', z1, z2⟩ | ⟨l, q', z1, z2, z3, z4⟩ | ⟨l, g, q', z1, z2, z3, z4, z5, z6⟩
      · obtain ⟨κ3, L2, y1, y2, y3, y4, y5, y6⟩ := jc_sideW (β := β) (d := d) hl1 hN1 (by omega) hx1 z2 s2
        exact ⟨κ3, L2, y1, y2, y3, mEq_trans m2 (mEq_sub y4 (by decide)), y5, Or.inl ⟨e', z1, y6⟩⟩
      · exact absurd z3 h0
      · obtain ⟨κ3, L2, y1, y2, y3, y4, y5, y6, y7⟩ := jc_side (β := β) (d := d) hl1 hN1 (by omega) hx1 z2 s2
        refine ⟨κ3, L2, y1, y2, y3, mEq_trans m2 y4, y5, ?_⟩
        cases hs : sSide T n q' with
        | inl e => exact Or.inl ⟨e, by rw [z6]; unfold sCn2; rw [hs], y7 e hs⟩
        | inr x =>
          obtain ⟨r, q2⟩ := x
          obtain ⟨x1, x2⟩ := y6 r q2 hs
          exact Or.inr ⟨l, r, g, q2, z1, x1, x2, z4, z5, by rw [z6]; unfold sCn2; rw [hs]⟩
    obtain ⟨κ3, L2, r3, l2, v2, m3, s3, hor⟩ := hsd
    obtain ⟨h2, eh2⟩ : ∃ h2, h2 = h1 ++ L2 := ⟨_, rfl⟩
    obtain ⟨N2, eN2⟩ : ∃ N2, N2 = N1 + L2.length := ⟨_, rfl⟩
    have hN2 : h2.length = N2 := by rw [eh2, List.length_append, hN1, eN2]
    have hl2 : 50 ≤ h2.length := by omega
    have w2 : cvol h2 = cvol h1 + cvol L2 := by rw [eh2, cvol_app]
    have q2 : ∀ (c : Nat) (y : jx_C), h1[c]? = some y → h2[c]? = some y := fun c y hy => by rw [eh2, List.getElem?_append_left (List.getElem?_eq_some_iff.mp hy).1]; exact hy
    rw [← eh2] at r3 hor
    have r4 := jc_stC1 (β := β) (d := d + 7) (κ := κ3) (l := N) (r := N1) (sg := sg) hl2 hN2 (by omega)
    obtain ⟨h3, eh3⟩ : ∃ h3, h3 = h2 ++ [.inr (14, [.int (Int32.ofInt (4)), .ref (jx_big + 9), .int (Int32.ofInt (0)), .int (Int32.ofInt (1000000)), .int (Int32.ofInt (1)), .ref N, .int (Int32.ofInt (sg)), .ref N1])] := ⟨_, rfl⟩
    have hN3 : h3.length = N2 + 1 := by rw [eh3, List.length_append, hN2]; rfl
    have w3 : cvol h3 = cvol h2 + 8 := by rw [eh3, cvol_app]; rfl
    have q3 : ∀ (c : Nat) (y : jx_C), h2[c]? = some y → h3[c]? = some y := fun c y hy => by rw [eh3, List.getElem?_append_left (List.getElem?_eq_some_iff.mp hy).1]; exact hy
    have hC : h3[N2]? = some (.inr (14, [.int (Int32.ofInt (4)), .ref (jx_big + 9), .int (Int32.ofInt (0)), .int (Int32.ofInt (1000000)), .int (Int32.ofInt (1)), .ref N, .int (Int32.ofInt (sg)), .ref N1])) := by
      rw [eh3, ← hN2, List.getElem?_append_right (Nat.le_refl _), Nat.sub_self]
      rfl
    rw [← eh3] at r4
    obtain ⟨L, eL⟩ := ext_of (h := h) (h' := h3) (by omega) (fun c y hy => q3 c y (q2 c y (q1 c y hy)))
    have eln : h3.length = N + L.length := by rw [eL, List.length_append, hN]
    have evl : cvol h3 = cvol h + cvol L := by rw [eL, cvol_app]
    rw [eL] at r4
    refine ⟨κ3, L, N2, _, ?_, by rw [← eL]; exact hC, ⟨by omega, by omega⟩, by omega, by omega, m3, s3, fun e q hh => ?_, fun e hh => ?_⟩
    rotate_left
    · rw [← eL]
      rcases hor with ⟨e', z1, z2⟩ | ⟨l, r, g, q', z1, z2, z3, z4, z5, z6⟩
      · rw [z1] at hh
        cases hh
      · rw [z6] at hh
        injection hh with hh
        injection hh with y1 y2
        rw [← y1, ← y2]
        refine ⟨⟨⟨by omega, by omega, hx1 _ (by omega)⟩, jx_big + 9, .ref N, .ref N1, ?_, t0, fun _ => ⟨⟨N, rfl, cdR_fr (fun c y z hy => ⟨z, q3 c y (q2 c y hy)⟩) z1⟩, Or.inr ⟨z4, N1, rfl, cdR_fr (fun c y z hy => ⟨z, q3 c y hy⟩) z2⟩⟩⟩, z3⟩
        rw [hC, z5]
        rfl
    · rcases hor with ⟨e', z1, z2⟩ | ⟨l, r, g, q', z1, z2, z3, z4, z5, z6⟩
      · rw [z1] at hh
        injection hh with hh
        rw [← hh]
        exact z2
      · rw [z6] at hh
        cases hh
    refine jr_1 jm_144 (show jw_cd cd_144 0 = some (.aload_n 0) by decide +kernel) rfl ?_
    refine jr_c jm_144 (show jw_cd cd_144 1 = some (.invokevirtual 139) by decide +kernel) (ccv (n := 0) (m2 := 145) (ci := 4) (a := 6) (bs := []) (r := []) (js_cls cl_c6 (by decide)) (show jw_find jw_cvT 7 139 = some (0, [(4, 145)]) by decide +kernel) (by decide) rfl rfl rfl) jm_145 ⟨Nat.le_of_ble_eq_true rfl, by decide⟩ r1 ?_
    refine jr_1 jm_144 (F2 := (5, [some (.ref 6), some (.ref N), none], [], (cl_mk h1 κ1))) (show jw_cd cd_144 4 = some (.astore_n 1) by decide +kernel) rfl ?_
    refine jr_1 jm_144 (show jw_cd cd_144 5 = some (.aload_n 0) by decide +kernel) rfl ?_
    refine jr_c jm_144 (show jw_cd cd_144 6 = some (.invokevirtual 143) by decide +kernel) (ccv (n := 0) (m2 := 149) (ci := 4) (a := 6) (bs := []) (r := []) (js_cls cl_c6 (by decide)) (show jw_find jw_cvT 7 143 = some (0, [(4, 149)]) by decide +kernel) (by decide) rfl rfl rfl) jm_149 ⟨Nat.le_of_ble_eq_true rfl, by decide⟩ r2 ?_
    refine jr_1 jm_144 (F2 := (10, [some (.ref 6), some (.ref N), some (.int (Int32.ofInt (sg)))], [], (cl_mk h1 κ2))) (show jw_cd cd_144 9 = some (.istore_n 2) by decide +kernel) rfl ?_
    refine jr_1 jm_144 (show jw_cd cd_144 10 = some (.aload_n 1) by decide +kernel) rfl ?_
    refine jr_1 jm_144 (show jw_cd cd_144 11 = some (.iload_n 2) by decide +kernel) rfl ?_
    refine jr_1 jm_144 (show jw_cd cd_144 12 = some (.iload_n 2) by decide +kernel) rfl ?_
    refine jr_1 jm_144 (show jw_cd cd_144 13 = some (.ifCond .ne 7) by decide +kernel) (mz_t (q := .ne) (a := sg) (t := 20) (by show ¬ (sg = 0); omega) ⟨by omega, by omega⟩ (by decide) (by decide)) ?_
    refine jr_1 jm_144 (show jw_cd cd_144 20 = some (.aload_n 0) by decide +kernel) rfl ?_
    refine jr_c jm_144 (show jw_cd cd_144 21 = some (.invokevirtual 139) by decide +kernel) (ccv (n := 0) (m2 := 145) (ci := 4) (a := 6) (bs := []) (r := [.int (Int32.ofInt (sg)), .ref N]) (js_cls cl_c6 (by decide)) (show jw_find jw_cvT 7 139 = some (0, [(4, 145)]) by decide +kernel) (by decide) rfl rfl rfl) jm_145 ⟨Nat.le_of_ble_eq_true rfl, by decide⟩ r3 ?_
    refine jr_c jm_144 (show jw_cd cd_144 24 = some (.invokestatic 146) by decide +kernel) (mc_s (n := 3) (m2 := 150) (bs := [.ref N, .int (Int32.ofInt (sg)), .ref N1]) (r := []) (by decide) (show jw_find jw_csT 7 146 = some (150, 3) by decide +kernel) rfl rfl rfl) jm_150 ⟨Nat.le_of_ble_eq_true rfl, by decide⟩ r4 ?_
    exact jr_v jm_144 (show jw_cd cd_144 27 = some (.areturn) by decide +kernel) rfl
