/-! ===== the class: plain values are read (printed by program: gen87.py) ===== -/
theorem jm_103 : jw_M 103 = some (6, 1, ((Option.some (Jvm.ClassFile.FieldType.object "PickDesk$Value")), false), jw_cd cd_103, fun _ _ => none) := rfl
theorem jm_57 : jw_M 57 = some (6, 3, ((Option.some (Jvm.ClassFile.FieldType.object "PickDesk$Value")), false), jw_cd cd_57, fun _ _ => none) := rfl
theorem ofV_vN {h : jx_H} {N t : Nat} {kd nm : Int} {X : Nat → Prop} {s : List Int} (hl : 50 ≤ h.length) (hN : h.length = N) (hb32 : N < 3000000000) (hx : ∀ c, N ≤ c → ¬ X c) (ht : strR h X t s) (hk : ¬ kd = 6) : vN (h ++ [.inr (5, [.int (Int32.ofInt (kd)), .int (Int32.ofInt (nm)), .ref t, .ref (N + 1), .ref (N + 2), .int (Int32.ofInt (0))]), .inl (4, 0, fun _ => .null), .inl (4, 0, fun _ => .null)]) X N (kd, nm, s, []) .leaf := by
  have e : ∀ (j : Nat) (y : jx_C), ([.inr (5, [.int (Int32.ofInt (kd)), .int (Int32.ofInt (nm)), .ref t, .ref (N + 1), .ref (N + 2), .int (Int32.ofInt (0))]), .inl (4, 0, fun _ => .null), .inl (4, 0, fun _ => .null)] : List jx_C)[j]? = some y → (h ++ [.inr (5, [.int (Int32.ofInt (kd)), .int (Int32.ofInt (nm)), .ref t, .ref (N + 1), .ref (N + 2), .int (Int32.ofInt (0))]), .inl (4, 0, fun _ => .null), .inl (4, 0, fun _ => .null)] : jx_H)[N + j]? = some y := fun j y hy => by
    rw [List.getElem?_append_right (by omega), hN, Nat.add_sub_cancel_left]
    exact hy
  exact ⟨⟨by omega, by omega, hx N (Nat.le_refl _)⟩, t, N + 1, N + 2, 0, 0, fun _ => .null, fun _ => .null, ⟨by omega, by omega, hx _ (by omega)⟩, ⟨by omega, by omega, hx _ (by omega)⟩, e 0 _ rfl, strR_fr ext_q ht, e 1 _ rfl, e 2 _ rfl, ⟨Nat.zero_le _, by omega⟩, Or.inr ⟨hk, rfl⟩, trivial⟩
theorem emp_str {h : jx_H} {X : Nat → Prop} : strR h X (jx_big + 9) [] := Or.inl ⟨0, by decide, rfl, (show ([] : List Int) = (jw_txL.getD 0 []).map Int32.toInt by decide)⟩
theorem bL_new {h : jx_H} {N rm : Nat} {kd : Int} {X : Nat → Prop} (hl : 50 ≤ h.length) (hN : h.length = N) (hx : ∀ c, N ≤ c → ¬ X c) (hk : ¬ kd = 6) (hrm : rm ≤ 5000) : bL (h ++ [.inr (5, [.int (Int32.ofInt (kd)), .int (Int32.ofInt (0)), .ref (jx_big + 9), .ref (N + 1), .ref (N + 2), .int (Int32.ofInt (0))]), .inl (4, 0, fun _ => .null), .inl (4, rm, fun _ => .null)]) X N N (N + 1) (N + 2) 0 rm (fun _ => .null) (fun _ => .null) kd .leaf := by
  have e : ∀ (j : Nat) (y : jx_C), ([.inr (5, [.int (Int32.ofInt (kd)), .int (Int32.ofInt (0)), .ref (jx_big + 9), .ref (N + 1), .ref (N + 2), .int (Int32.ofInt (0))]), .inl (4, 0, fun _ => .null), .inl (4, rm, fun _ => .null)] : List jx_C)[j]? = some y → (h ++ [.inr (5, [.int (Int32.ofInt (kd)), .int (Int32.ofInt (0)), .ref (jx_big + 9), .ref (N + 1), .ref (N + 2), .int (Int32.ofInt (0))]), .inl (4, 0, fun _ => .null), .inl (4, rm, fun _ => .null)] : jx_H)[N + j]? = some y := fun j y hy => by
    rw [List.getElem?_append_right (by omega), hN, Nat.add_sub_cancel_left]
    exact hy
  exact ⟨⟨by omega, by omega, by omega, by omega, by omega, by omega, by omega⟩, hx, e 0 _ rfl, e 1 _ rfl, e 2 _ rfl, ⟨Nat.zero_le _, hrm⟩, Or.inr ⟨hk, rfl⟩, trivial⟩
theorem bL_new6 {h : jx_H} {N : Nat} {X : Nat → Prop} (hl : 50 ≤ h.length) (hN : h.length = N) (hx : ∀ c, N ≤ c → ¬ X c) : bL (h ++ [.inr (5, [.int (Int32.ofInt (6)), .int (Int32.ofInt (0)), .ref (jx_big + 9), .ref (N + 1), .ref (N + 2), .int (Int32.ofInt (0))]), .inl (4, 0, fun _ => .null), .inl (4, 0, fun _ => .null)]) X N N (N + 1) (N + 2) 0 0 (fun _ => .null) (fun _ => .null) 6 .leaf := by
  have e : ∀ (j : Nat) (y : jx_C), ([.inr (5, [.int (Int32.ofInt (6)), .int (Int32.ofInt (0)), .ref (jx_big + 9), .ref (N + 1), .ref (N + 2), .int (Int32.ofInt (0))]), .inl (4, 0, fun _ => .null), .inl (4, 0, fun _ => .null)] : List jx_C)[j]? = some y → (h ++ [.inr (5, [.int (Int32.ofInt (6)), .int (Int32.ofInt (0)), .ref (jx_big + 9), .ref (N + 1), .ref (N + 2), .int (Int32.ofInt (0))]), .inl (4, 0, fun _ => .null), .inl (4, 0, fun _ => .null)] : jx_H)[N + j]? = some y := fun j y hy => by
    rw [List.getElem?_append_right (by omega), hN, Nat.add_sub_cancel_left]
    exact hy
  exact ⟨⟨by omega, by omega, by omega, by omega, by omega, by omega, by omega⟩, hx, e 0 _ rfl, e 1 _ rfl, e 2 _ rfl, ⟨Nat.zero_le _, by omega⟩, Or.inl ⟨rfl, Nat.zero_le _, by omega⟩, trivial⟩
theorem jc_name {β : Bool} {d : Nat} {h : jx_H} {κ : mS} (hl : 50 ≤ h.length) {N : Nat} (hN : h.length = N) (hb32 : N < 3000000000) {T : Int → Int} {n p : Int} (hP : cP κ T n p) : (tH T n p = 102 → jx_r (jz β) jw_M (d + 2) 103 (0, [some (.ref 5)], [], (cl_mk h κ)) (cl_mk (h ++ [.inr (5, [.int (Int32.ofInt (1)), .int (Int32.ofInt (0)), .ref (jx_big + 9), .ref (N + 1), .ref (N + 2), .int (Int32.ofInt (0))]), .inl (4, 0, fun _ => .null), .inl (4, 0, fun _ => .null)]) (su κ 4 0 (p + 1)), .inl (some (.ref (N))))) ∧ (tH T n p = 116 → jx_r (jz β) jw_M (d + 2) 103 (0, [some (.ref 5)], [], (cl_mk h κ)) (cl_mk (h ++ [.inr (5, [.int (Int32.ofInt (2)), .int (Int32.ofInt (0)), .ref (jx_big + 9), .ref (N + 1), .ref (N + 2), .int (Int32.ofInt (0))]), .inl (4, 0, fun _ => .null), .inl (4, 0, fun _ => .null)]) (su κ 4 0 (p + 1)), .inl (some (.ref (N))))) ∧ (tH T n p = 110 → jx_r (jz β) jw_M (d + 2) 103 (0, [some (.ref 5)], [], (cl_mk h κ)) (cl_mk (h ++ [.inr (5, [.int (Int32.ofInt (0)), .int (Int32.ofInt (0)), .ref (jx_big + 9), .ref (N + 1), .ref (N + 2), .int (Int32.ofInt (0))]), .inl (4, 0, fun _ => .null), .inl (4, 0, fun _ => .null)]) (su κ 4 0 (p + 1)), .inl (some (.ref (N))))) ∧ (¬ tH T n p = 102 → ¬ tH T n p = 116 → ¬ tH T n p = 110 → jx_r (jz β) jw_M (d + 2) 103 (0, [some (.ref 5)], [], (cl_mk h κ)) (cl_mk (h ++ [.inr (5, [.int (Int32.ofInt (0)), .int (Int32.ofInt (0)), .ref (jx_big + 9), .ref (N + 1), .ref (N + 2), .int (Int32.ofInt (0))]), .inl (4, 0, fun _ => .null), .inl (4, 0, fun _ => .null)]) (su κ 5 0 p), .inl (some (.ref (N))))) := by
  refine ⟨fun hc => ?_, fun hc => ?_, fun hc => ?_, fun h1 h2 h3 => ?_⟩
  · skip
    refine jr_1 jm_103 (show jw_cd cd_103 0 = some (.aload_n 0) by decide +kernel) rfl ?_
    refine jr_1 jm_103 (show jw_cd cd_103 1 = some (.getfield 9) by decide +kernel) (cgr_5_0 (show jw_fld 6 9 3 = some 0 by decide +kernel)) ?_
    refine jr_1 jm_103 (show jw_cd cd_103 4 = some (.bipush 102) by decide +kernel) (mt_bi (by decide)) ?_
    refine jr_c jm_103 (show jw_cd cd_103 6 = some (.invokevirtual 35) by decide +kernel) (ccv (n := 1) (m2 := 64) (ci := 1) (a := 1) (bs := [.int (Int32.ofInt (102))]) (r := []) (js_cls cl_c1 (by decide)) (show jw_find jw_cvT 6 35 = some (1, [(1, 64)]) by decide +kernel) (by decide) rfl rfl rfl) jm_64 ⟨Nat.le_of_ble_eq_true rfl, by decide⟩ (jc_takeT hl hP ((tC_eq hP.1.2.2 hP.2.2.2.1 (by decide)).mpr hc) ⟨by decide, by decide⟩) ?_
    refine jr_1 jm_103 (show jw_cd cd_103 9 = some (.ifCond .eq 8) by decide +kernel) (mz_f (q := .eq) (a := 1) (by show ¬ (1 = 0); omega) ⟨by omega, by omega⟩ (by decide)) ?_
    refine jr_1 jm_103 (show jw_cd cd_103 12 = some (.iconst 1) by decide +kernel) rfl ?_
    refine jr_c jm_103 (show jw_cd cd_103 13 = some (.invokestatic 56) by decide +kernel) (mc_s (n := 1) (m2 := 9) (bs := [.int (Int32.ofInt (1))]) (r := []) (by decide) (show jw_find jw_csT 6 56 = some (9, 1) by decide +kernel) rfl rfl rfl) jm_9 ⟨Nat.le_of_ble_eq_true rfl, by decide⟩ (jc_ofK hl hN hb32 ⟨by decide, by decide⟩) ?_
    exact jr_v jm_103 (show jw_cd cd_103 16 = some (.areturn) by decide +kernel) rfl
  · skip
    refine jr_1 jm_103 (show jw_cd cd_103 0 = some (.aload_n 0) by decide +kernel) rfl ?_
    refine jr_1 jm_103 (show jw_cd cd_103 1 = some (.getfield 9) by decide +kernel) (cgr_5_0 (show jw_fld 6 9 3 = some 0 by decide +kernel)) ?_
    refine jr_1 jm_103 (show jw_cd cd_103 4 = some (.bipush 102) by decide +kernel) (mt_bi (by decide)) ?_
    refine jr_c jm_103 (show jw_cd cd_103 6 = some (.invokevirtual 35) by decide +kernel) (ccv (n := 1) (m2 := 64) (ci := 1) (a := 1) (bs := [.int (Int32.ofInt (102))]) (r := []) (js_cls cl_c1 (by decide)) (show jw_find jw_cvT 6 35 = some (1, [(1, 64)]) by decide +kernel) (by decide) rfl rfl rfl) jm_64 ⟨Nat.le_of_ble_eq_true rfl, by decide⟩ (jc_takeF hl hP (by rw [tC_eq hP.1.2.2 hP.2.2.2.1 (by decide)]; omega) ⟨by decide, by decide⟩) ?_
    refine jr_1 jm_103 (show jw_cd cd_103 9 = some (.ifCond .eq 8) by decide +kernel) (mz_t (q := .eq) (a := 0) (t := 17) (by show 0 = 0; omega) ⟨by omega, by omega⟩ (by decide) (by decide)) ?_
    refine jr_1 jm_103 (show jw_cd cd_103 17 = some (.aload_n 0) by decide +kernel) rfl ?_
    refine jr_1 jm_103 (show jw_cd cd_103 18 = some (.getfield 9) by decide +kernel) (cgr_5_0 (show jw_fld 6 9 3 = some 0 by decide +kernel)) ?_
    refine jr_1 jm_103 (show jw_cd cd_103 21 = some (.bipush 116) by decide +kernel) (mt_bi (by decide)) ?_
    refine jr_c jm_103 (show jw_cd cd_103 23 = some (.invokevirtual 35) by decide +kernel) (ccv (n := 1) (m2 := 64) (ci := 1) (a := 1) (bs := [.int (Int32.ofInt (116))]) (r := []) (js_cls cl_c1 (by decide)) (show jw_find jw_cvT 6 35 = some (1, [(1, 64)]) by decide +kernel) (by decide) rfl rfl rfl) jm_64 ⟨Nat.le_of_ble_eq_true rfl, by decide⟩ (jc_takeT hl hP ((tC_eq hP.1.2.2 hP.2.2.2.1 (by decide)).mpr hc) ⟨by decide, by decide⟩) ?_
    refine jr_1 jm_103 (show jw_cd cd_103 26 = some (.ifCond .eq 8) by decide +kernel) (mz_f (q := .eq) (a := 1) (by show ¬ (1 = 0); omega) ⟨by omega, by omega⟩ (by decide)) ?_
    refine jr_1 jm_103 (show jw_cd cd_103 29 = some (.iconst 2) by decide +kernel) rfl ?_
    refine jr_c jm_103 (show jw_cd cd_103 30 = some (.invokestatic 56) by decide +kernel) (mc_s (n := 1) (m2 := 9) (bs := [.int (Int32.ofInt (2))]) (r := []) (by decide) (show jw_find jw_csT 6 56 = some (9, 1) by decide +kernel) rfl rfl rfl) jm_9 ⟨Nat.le_of_ble_eq_true rfl, by decide⟩ (jc_ofK hl hN hb32 ⟨by decide, by decide⟩) ?_
    exact jr_v jm_103 (show jw_cd cd_103 33 = some (.areturn) by decide +kernel) rfl
  · skip
    refine jr_1 jm_103 (show jw_cd cd_103 0 = some (.aload_n 0) by decide +kernel) rfl ?_
    refine jr_1 jm_103 (show jw_cd cd_103 1 = some (.getfield 9) by decide +kernel) (cgr_5_0 (show jw_fld 6 9 3 = some 0 by decide +kernel)) ?_
    refine jr_1 jm_103 (show jw_cd cd_103 4 = some (.bipush 102) by decide +kernel) (mt_bi (by decide)) ?_
    refine jr_c jm_103 (show jw_cd cd_103 6 = some (.invokevirtual 35) by decide +kernel) (ccv (n := 1) (m2 := 64) (ci := 1) (a := 1) (bs := [.int (Int32.ofInt (102))]) (r := []) (js_cls cl_c1 (by decide)) (show jw_find jw_cvT 6 35 = some (1, [(1, 64)]) by decide +kernel) (by decide) rfl rfl rfl) jm_64 ⟨Nat.le_of_ble_eq_true rfl, by decide⟩ (jc_takeF hl hP (by rw [tC_eq hP.1.2.2 hP.2.2.2.1 (by decide)]; omega) ⟨by decide, by decide⟩) ?_
    refine jr_1 jm_103 (show jw_cd cd_103 9 = some (.ifCond .eq 8) by decide +kernel) (mz_t (q := .eq) (a := 0) (t := 17) (by show 0 = 0; omega) ⟨by omega, by omega⟩ (by decide) (by decide)) ?_
    refine jr_1 jm_103 (show jw_cd cd_103 17 = some (.aload_n 0) by decide +kernel) rfl ?_
    refine jr_1 jm_103 (show jw_cd cd_103 18 = some (.getfield 9) by decide +kernel) (cgr_5_0 (show jw_fld 6 9 3 = some 0 by decide +kernel)) ?_
    refine jr_1 jm_103 (show jw_cd cd_103 21 = some (.bipush 116) by decide +kernel) (mt_bi (by decide)) ?_
    refine jr_c jm_103 (show jw_cd cd_103 23 = some (.invokevirtual 35) by decide +kernel) (ccv (n := 1) (m2 := 64) (ci := 1) (a := 1) (bs := [.int (Int32.ofInt (116))]) (r := []) (js_cls cl_c1 (by decide)) (show jw_find jw_cvT 6 35 = some (1, [(1, 64)]) by decide +kernel) (by decide) rfl rfl rfl) jm_64 ⟨Nat.le_of_ble_eq_true rfl, by decide⟩ (jc_takeF hl hP (by rw [tC_eq hP.1.2.2 hP.2.2.2.1 (by decide)]; omega) ⟨by decide, by decide⟩) ?_
    refine jr_1 jm_103 (show jw_cd cd_103 26 = some (.ifCond .eq 8) by decide +kernel) (mz_t (q := .eq) (a := 0) (t := 34) (by show 0 = 0; omega) ⟨by omega, by omega⟩ (by decide) (by decide)) ?_
    refine jr_1 jm_103 (show jw_cd cd_103 34 = some (.aload_n 0) by decide +kernel) rfl ?_
    refine jr_1 jm_103 (show jw_cd cd_103 35 = some (.getfield 9) by decide +kernel) (cgr_5_0 (show jw_fld 6 9 3 = some 0 by decide +kernel)) ?_
    refine jr_1 jm_103 (show jw_cd cd_103 38 = some (.bipush 110) by decide +kernel) (mt_bi (by decide)) ?_
    refine jr_c jm_103 (show jw_cd cd_103 40 = some (.invokevirtual 59) by decide +kernel) (ccv (n := 1) (m2 := 96) (ci := 1) (a := 1) (bs := [.int (Int32.ofInt (110))]) (r := []) (js_cls cl_c1 (by decide)) (show jw_find jw_cvT 6 59 = some (1, [(1, 96)]) by decide +kernel) (by decide) rfl rfl rfl) jm_96 ⟨Nat.le_of_ble_eq_true rfl, by decide⟩ (jc_mustT hl hP ((tC_eq hP.1.2.2 hP.2.2.2.1 (by decide)).mpr hc) ⟨by decide, by decide⟩) ?_
    refine jr_1 jm_103 (show jw_cd cd_103 43 = some (.iconst 0) by decide +kernel) rfl ?_
    refine jr_c jm_103 (show jw_cd cd_103 44 = some (.invokestatic 56) by decide +kernel) (mc_s (n := 1) (m2 := 9) (bs := [.int (Int32.ofInt (0))]) (r := []) (by decide) (show jw_find jw_csT 6 56 = some (9, 1) by decide +kernel) rfl rfl rfl) jm_9 ⟨Nat.le_of_ble_eq_true rfl, by decide⟩ (jc_ofK hl hN hb32 ⟨by decide, by decide⟩) ?_
    exact jr_v jm_103 (show jw_cd cd_103 47 = some (.areturn) by decide +kernel) rfl
  · skip
    refine jr_1 jm_103 (show jw_cd cd_103 0 = some (.aload_n 0) by decide +kernel) rfl ?_
    refine jr_1 jm_103 (show jw_cd cd_103 1 = some (.getfield 9) by decide +kernel) (cgr_5_0 (show jw_fld 6 9 3 = some 0 by decide +kernel)) ?_
    refine jr_1 jm_103 (show jw_cd cd_103 4 = some (.bipush 102) by decide +kernel) (mt_bi (by decide)) ?_
    refine jr_c jm_103 (show jw_cd cd_103 6 = some (.invokevirtual 35) by decide +kernel) (ccv (n := 1) (m2 := 64) (ci := 1) (a := 1) (bs := [.int (Int32.ofInt (102))]) (r := []) (js_cls cl_c1 (by decide)) (show jw_find jw_cvT 6 35 = some (1, [(1, 64)]) by decide +kernel) (by decide) rfl rfl rfl) jm_64 ⟨Nat.le_of_ble_eq_true rfl, by decide⟩ (jc_takeF hl hP (by rw [tC_eq hP.1.2.2 hP.2.2.2.1 (by decide)]; omega) ⟨by decide, by decide⟩) ?_
    refine jr_1 jm_103 (show jw_cd cd_103 9 = some (.ifCond .eq 8) by decide +kernel) (mz_t (q := .eq) (a := 0) (t := 17) (by show 0 = 0; omega) ⟨by omega, by omega⟩ (by decide) (by decide)) ?_
    refine jr_1 jm_103 (show jw_cd cd_103 17 = some (.aload_n 0) by decide +kernel) rfl ?_
    refine jr_1 jm_103 (show jw_cd cd_103 18 = some (.getfield 9) by decide +kernel) (cgr_5_0 (show jw_fld 6 9 3 = some 0 by decide +kernel)) ?_
    refine jr_1 jm_103 (show jw_cd cd_103 21 = some (.bipush 116) by decide +kernel) (mt_bi (by decide)) ?_
    refine jr_c jm_103 (show jw_cd cd_103 23 = some (.invokevirtual 35) by decide +kernel) (ccv (n := 1) (m2 := 64) (ci := 1) (a := 1) (bs := [.int (Int32.ofInt (116))]) (r := []) (js_cls cl_c1 (by decide)) (show jw_find jw_cvT 6 35 = some (1, [(1, 64)]) by decide +kernel) (by decide) rfl rfl rfl) jm_64 ⟨Nat.le_of_ble_eq_true rfl, by decide⟩ (jc_takeF hl hP (by rw [tC_eq hP.1.2.2 hP.2.2.2.1 (by decide)]; omega) ⟨by decide, by decide⟩) ?_
    refine jr_1 jm_103 (show jw_cd cd_103 26 = some (.ifCond .eq 8) by decide +kernel) (mz_t (q := .eq) (a := 0) (t := 34) (by show 0 = 0; omega) ⟨by omega, by omega⟩ (by decide) (by decide)) ?_
    refine jr_1 jm_103 (show jw_cd cd_103 34 = some (.aload_n 0) by decide +kernel) rfl ?_
    refine jr_1 jm_103 (show jw_cd cd_103 35 = some (.getfield 9) by decide +kernel) (cgr_5_0 (show jw_fld 6 9 3 = some 0 by decide +kernel)) ?_
    refine jr_1 jm_103 (show jw_cd cd_103 38 = some (.bipush 110) by decide +kernel) (mt_bi (by decide)) ?_
    refine jr_c jm_103 (show jw_cd cd_103 40 = some (.invokevirtual 59) by decide +kernel) (ccv (n := 1) (m2 := 96) (ci := 1) (a := 1) (bs := [.int (Int32.ofInt (110))]) (r := []) (js_cls cl_c1 (by decide)) (show jw_find jw_cvT 6 59 = some (1, [(1, 96)]) by decide +kernel) (by decide) rfl rfl rfl) jm_96 ⟨Nat.le_of_ble_eq_true rfl, by decide⟩ (jc_mustF hl hP (by rw [tC_eq hP.1.2.2 hP.2.2.2.1 (by decide)]; omega) ⟨by decide, by decide⟩) ?_
    refine jr_1 jm_103 (show jw_cd cd_103 43 = some (.iconst 0) by decide +kernel) rfl ?_
    refine jr_c jm_103 (show jw_cd cd_103 44 = some (.invokestatic 56) by decide +kernel) (mc_s (n := 1) (m2 := 9) (bs := [.int (Int32.ofInt (0))]) (r := []) (by decide) (show jw_find jw_csT 6 56 = some (9, 1) by decide +kernel) rfl rfl rfl) jm_9 ⟨Nat.le_of_ble_eq_true rfl, by decide⟩ (jc_ofK hl hN hb32 ⟨by decide, by decide⟩) ?_
    exact jr_v jm_103 (show jw_cd cd_103 47 = some (.areturn) by decide +kernel) rfl
theorem jc_nameW {β : Bool} {d : Nat} {h : jx_H} {κ : mS} (hl : 50 ≤ h.length) {N : Nat} (hN : h.length = N) (hb32 : N < 3000000000) {e : Int} (hW : cW κ e) : jx_r (jz β) jw_M (d + 2) 103 (0, [some (.ref 5)], [], (cl_mk h κ)) (cl_mk (h ++ [.inr (5, [.int (Int32.ofInt (0)), .int (Int32.ofInt (0)), .ref (jx_big + 9), .ref (N + 1), .ref (N + 2), .int (Int32.ofInt (0))]), .inl (4, 0, fun _ => .null), .inl (4, 0, fun _ => .null)]) (κ), .inl (some (.ref (N)))) := by
  refine jr_1 jm_103 (show jw_cd cd_103 0 = some (.aload_n 0) by decide +kernel) rfl ?_
  refine jr_1 jm_103 (show jw_cd cd_103 1 = some (.getfield 9) by decide +kernel) (cgr_5_0 (show jw_fld 6 9 3 = some 0 by decide +kernel)) ?_
  refine jr_1 jm_103 (show jw_cd cd_103 4 = some (.bipush 102) by decide +kernel) (mt_bi (by decide)) ?_
  refine jr_c jm_103 (show jw_cd cd_103 6 = some (.invokevirtual 35) by decide +kernel) (ccv (n := 1) (m2 := 64) (ci := 1) (a := 1) (bs := [.int (Int32.ofInt (102))]) (r := []) (js_cls cl_c1 (by decide)) (show jw_find jw_cvT 6 35 = some (1, [(1, 64)]) by decide +kernel) (by decide) rfl rfl rfl) jm_64 ⟨Nat.le_of_ble_eq_true rfl, by decide⟩ (jc_takeW hl hW ⟨by decide, by decide⟩) ?_
  refine jr_1 jm_103 (show jw_cd cd_103 9 = some (.ifCond .eq 8) by decide +kernel) (mz_t (q := .eq) (a := 0) (t := 17) (by show 0 = 0; omega) ⟨by omega, by omega⟩ (by decide) (by decide)) ?_
  refine jr_1 jm_103 (show jw_cd cd_103 17 = some (.aload_n 0) by decide +kernel) rfl ?_
  refine jr_1 jm_103 (show jw_cd cd_103 18 = some (.getfield 9) by decide +kernel) (cgr_5_0 (show jw_fld 6 9 3 = some 0 by decide +kernel)) ?_
  refine jr_1 jm_103 (show jw_cd cd_103 21 = some (.bipush 116) by decide +kernel) (mt_bi (by decide)) ?_
  refine jr_c jm_103 (show jw_cd cd_103 23 = some (.invokevirtual 35) by decide +kernel) (ccv (n := 1) (m2 := 64) (ci := 1) (a := 1) (bs := [.int (Int32.ofInt (116))]) (r := []) (js_cls cl_c1 (by decide)) (show jw_find jw_cvT 6 35 = some (1, [(1, 64)]) by decide +kernel) (by decide) rfl rfl rfl) jm_64 ⟨Nat.le_of_ble_eq_true rfl, by decide⟩ (jc_takeW hl hW ⟨by decide, by decide⟩) ?_
  refine jr_1 jm_103 (show jw_cd cd_103 26 = some (.ifCond .eq 8) by decide +kernel) (mz_t (q := .eq) (a := 0) (t := 34) (by show 0 = 0; omega) ⟨by omega, by omega⟩ (by decide) (by decide)) ?_
  refine jr_1 jm_103 (show jw_cd cd_103 34 = some (.aload_n 0) by decide +kernel) rfl ?_
  refine jr_1 jm_103 (show jw_cd cd_103 35 = some (.getfield 9) by decide +kernel) (cgr_5_0 (show jw_fld 6 9 3 = some 0 by decide +kernel)) ?_
  refine jr_1 jm_103 (show jw_cd cd_103 38 = some (.bipush 110) by decide +kernel) (mt_bi (by decide)) ?_
  refine jr_c jm_103 (show jw_cd cd_103 40 = some (.invokevirtual 59) by decide +kernel) (ccv (n := 1) (m2 := 96) (ci := 1) (a := 1) (bs := [.int (Int32.ofInt (110))]) (r := []) (js_cls cl_c1 (by decide)) (show jw_find jw_cvT 6 59 = some (1, [(1, 96)]) by decide +kernel) (by decide) rfl rfl rfl) jm_96 ⟨Nat.le_of_ble_eq_true rfl, by decide⟩ (jc_mustW hl hW ⟨by decide, by decide⟩) ?_
  refine jr_1 jm_103 (show jw_cd cd_103 43 = some (.iconst 0) by decide +kernel) rfl ?_
  refine jr_c jm_103 (show jw_cd cd_103 44 = some (.invokestatic 56) by decide +kernel) (mc_s (n := 1) (m2 := 9) (bs := [.int (Int32.ofInt (0))]) (r := []) (by decide) (show jw_find jw_csT 6 56 = some (9, 1) by decide +kernel) rfl rfl rfl) jm_9 ⟨Nat.le_of_ble_eq_true rfl, by decide⟩ (jc_ofK hl hN hb32 ⟨by decide, by decide⟩) ?_
  exact jr_v jm_103 (show jw_cd cd_103 47 = some (.areturn) by decide +kernel) rfl
theorem jc_valW {β : Bool} {d : Nat} {h : jx_H} {κ : mS} (hl : 50 ≤ h.length) {N : Nat} (hN : h.length = N) (hb32 : N < 3000000000) {e : Int} (hW : cW κ e) {a : Nat} (ha : a ≤ 4) : jx_r (jz β) jw_M (d + 3) 57 (0, [some (.ref 5), some (.int (Int32.ofInt ((a : Int)))), none], [], (cl_mk h κ)) (cl_mk (h ++ [.inr (5, [.int (Int32.ofInt (0)), .int (Int32.ofInt (0)), .ref (jx_big + 9), .ref (N + 1), .ref (N + 2), .int (Int32.ofInt (0))]), .inl (4, 0, fun _ => .null), .inl (4, 0, fun _ => .null)]) (κ), .inl (some (.ref (N)))) := by
  by_cases h4 : a = 4
  · subst h4
    refine jr_1 jm_57 (show jw_cd cd_57 0 = some (.aload_n 0) by decide +kernel) rfl ?_
    refine jr_1 jm_57 (show jw_cd cd_57 1 = some (.getfield 9) by decide +kernel) (cgr_5_0 (show jw_fld 6 9 3 = some 0 by decide +kernel)) ?_
    refine jr_c jm_57 (show jw_cd cd_57 4 = some (.invokevirtual 15) by decide +kernel) (ccv (n := 0) (m2 := 58) (ci := 1) (a := 1) (bs := []) (r := []) (js_cls cl_c1 (by decide)) (show jw_find jw_cvT 6 15 = some (0, [(1, 58)]) by decide +kernel) (by decide) rfl rfl rfl) jm_58 ⟨Nat.le_of_ble_eq_true rfl, by decide⟩ (jc_hereW hl hW) ?_
    refine jr_1 jm_57 (F2 := (8, [some (.ref 5), some (.int (Int32.ofInt (((4 : Nat) : Int)))), some (.int (Int32.ofInt (0)))], [], (cl_mk h κ))) (show jw_cd cd_57 7 = some (.istore_n 2) by decide +kernel) rfl ?_
    refine jr_1 jm_57 (show jw_cd cd_57 8 = some (.iload_n 2) by decide +kernel) rfl ?_
    refine jr_c jm_57 (show jw_cd cd_57 9 = some (.invokestatic 21) by decide +kernel) (mc_s (n := 1) (m2 := 59) (bs := [.int (Int32.ofInt (0))]) (r := []) (by decide) (show jw_find jw_csT 6 21 = some (59, 1) by decide +kernel) rfl rfl rfl) jm_59 ⟨Nat.le_of_ble_eq_true rfl, by decide⟩ (jc_sN_f hl ⟨by decide, by decide⟩ (by decide)) ?_
    refine jr_1 jm_57 (show jw_cd cd_57 12 = some (.ifCond .eq 14) by decide +kernel) (mz_t (q := .eq) (a := 0) (t := 26) (by show 0 = 0; omega) ⟨by omega, by omega⟩ (by decide) (by decide)) ?_
    refine jr_1 jm_57 (show jw_cd cd_57 26 = some (.aload_n 0) by decide +kernel) rfl ?_
    refine jr_1 jm_57 (show jw_cd cd_57 27 = some (.getfield 9) by decide +kernel) (cgr_5_0 (show jw_fld 6 9 3 = some 0 by decide +kernel)) ?_
    refine jr_1 jm_57 (show jw_cd cd_57 30 = some (.bipush 39) by decide +kernel) (mt_bi (by decide)) ?_
    refine jr_c jm_57 (show jw_cd cd_57 32 = some (.invokevirtual 35) by decide +kernel) (ccv (n := 1) (m2 := 64) (ci := 1) (a := 1) (bs := [.int (Int32.ofInt (39))]) (r := []) (js_cls cl_c1 (by decide)) (show jw_find jw_cvT 6 35 = some (1, [(1, 64)]) by decide +kernel) (by decide) rfl rfl rfl) jm_64 ⟨Nat.le_of_ble_eq_true rfl, by decide⟩ (jc_takeW hl hW ⟨by decide, by decide⟩) ?_
    refine jr_1 jm_57 (show jw_cd cd_57 35 = some (.ifCond .eq 14) by decide +kernel) (mz_t (q := .eq) (a := 0) (t := 49) (by show 0 = 0; omega) ⟨by omega, by omega⟩ (by decide) (by decide)) ?_
    refine jr_1 jm_57 (show jw_cd cd_57 49 = some (.iload_n 1) by decide +kernel) rfl ?_
    refine jr_1 jm_57 (show jw_cd cd_57 50 = some (.iconst 3) by decide +kernel) rfl ?_
    refine jr_1 jm_57 (show jw_cd cd_57 51 = some (.if_icmp .gt 21) by decide +kernel) (mb_t (q := .gt) (a := ((4 : Nat) : Int)) (b := 3) (t := 72) (by show 3 < ((4 : Nat) : Int); omega) ⟨by omega, by omega⟩ ⟨by omega, by omega⟩ (by decide) (by decide)) ?_
    refine jr_1 jm_57 (show jw_cd cd_57 72 = some (.iload_n 1) by decide +kernel) rfl ?_
    refine jr_1 jm_57 (show jw_cd cd_57 73 = some (.iconst 3) by decide +kernel) rfl ?_
    refine jr_1 jm_57 (show jw_cd cd_57 74 = some (.if_icmp .gt 21) by decide +kernel) (mb_t (q := .gt) (a := ((4 : Nat) : Int)) (b := 3) (t := 95) (by show 3 < ((4 : Nat) : Int); omega) ⟨by omega, by omega⟩ ⟨by omega, by omega⟩ (by decide) (by decide)) ?_
    refine jr_1 jm_57 (show jw_cd cd_57 95 = some (.aload_n 0) by decide +kernel) rfl ?_
    refine jr_c jm_57 (show jw_cd cd_57 96 = some (.invokevirtual 52) by decide +kernel) (ccv (n := 0) (m2 := 103) (ci := 3) (a := 5) (bs := []) (r := []) (js_cls cl_c5 (by decide)) (show jw_find jw_cvT 6 52 = some (0, [(3, 103)]) by decide +kernel) (by decide) rfl rfl rfl) jm_103 ⟨Nat.le_of_ble_eq_true rfl, by decide⟩ (jc_nameW hl hN hb32 hW) ?_
    exact jr_v jm_57 (show jw_cd cd_57 99 = some (.areturn) by decide +kernel) rfl
  · skip
    refine jr_1 jm_57 (show jw_cd cd_57 0 = some (.aload_n 0) by decide +kernel) rfl ?_
    refine jr_1 jm_57 (show jw_cd cd_57 1 = some (.getfield 9) by decide +kernel) (cgr_5_0 (show jw_fld 6 9 3 = some 0 by decide +kernel)) ?_
    refine jr_c jm_57 (show jw_cd cd_57 4 = some (.invokevirtual 15) by decide +kernel) (ccv (n := 0) (m2 := 58) (ci := 1) (a := 1) (bs := []) (r := []) (js_cls cl_c1 (by decide)) (show jw_find jw_cvT 6 15 = some (0, [(1, 58)]) by decide +kernel) (by decide) rfl rfl rfl) jm_58 ⟨Nat.le_of_ble_eq_true rfl, by decide⟩ (jc_hereW hl hW) ?_
    refine jr_1 jm_57 (F2 := (8, [some (.ref 5), some (.int (Int32.ofInt ((a : Int)))), some (.int (Int32.ofInt (0)))], [], (cl_mk h κ))) (show jw_cd cd_57 7 = some (.istore_n 2) by decide +kernel) rfl ?_
    refine jr_1 jm_57 (show jw_cd cd_57 8 = some (.iload_n 2) by decide +kernel) rfl ?_
    refine jr_c jm_57 (show jw_cd cd_57 9 = some (.invokestatic 21) by decide +kernel) (mc_s (n := 1) (m2 := 59) (bs := [.int (Int32.ofInt (0))]) (r := []) (by decide) (show jw_find jw_csT 6 21 = some (59, 1) by decide +kernel) rfl rfl rfl) jm_59 ⟨Nat.le_of_ble_eq_true rfl, by decide⟩ (jc_sN_f hl ⟨by decide, by decide⟩ (by decide)) ?_
    refine jr_1 jm_57 (show jw_cd cd_57 12 = some (.ifCond .eq 14) by decide +kernel) (mz_t (q := .eq) (a := 0) (t := 26) (by show 0 = 0; omega) ⟨by omega, by omega⟩ (by decide) (by decide)) ?_
    refine jr_1 jm_57 (show jw_cd cd_57 26 = some (.aload_n 0) by decide +kernel) rfl ?_
    refine jr_1 jm_57 (show jw_cd cd_57 27 = some (.getfield 9) by decide +kernel) (cgr_5_0 (show jw_fld 6 9 3 = some 0 by decide +kernel)) ?_
    refine jr_1 jm_57 (show jw_cd cd_57 30 = some (.bipush 39) by decide +kernel) (mt_bi (by decide)) ?_
    refine jr_c jm_57 (show jw_cd cd_57 32 = some (.invokevirtual 35) by decide +kernel) (ccv (n := 1) (m2 := 64) (ci := 1) (a := 1) (bs := [.int (Int32.ofInt (39))]) (r := []) (js_cls cl_c1 (by decide)) (show jw_find jw_cvT 6 35 = some (1, [(1, 64)]) by decide +kernel) (by decide) rfl rfl rfl) jm_64 ⟨Nat.le_of_ble_eq_true rfl, by decide⟩ (jc_takeW hl hW ⟨by decide, by decide⟩) ?_
    refine jr_1 jm_57 (show jw_cd cd_57 35 = some (.ifCond .eq 14) by decide +kernel) (mz_t (q := .eq) (a := 0) (t := 49) (by show 0 = 0; omega) ⟨by omega, by omega⟩ (by decide) (by decide)) ?_
    refine jr_1 jm_57 (show jw_cd cd_57 49 = some (.iload_n 1) by decide +kernel) rfl ?_
    refine jr_1 jm_57 (show jw_cd cd_57 50 = some (.iconst 3) by decide +kernel) rfl ?_
    refine jr_1 jm_57 (show jw_cd cd_57 51 = some (.if_icmp .gt 21) by decide +kernel) (mb_f (q := .gt) (a := (a : Int)) (b := 3) (by show ¬ (3 < (a : Int)); omega) ⟨by omega, by omega⟩ ⟨by omega, by omega⟩ (by decide)) ?_
    refine jr_1 jm_57 (show jw_cd cd_57 54 = some (.aload_n 0) by decide +kernel) rfl ?_
    refine jr_1 jm_57 (show jw_cd cd_57 55 = some (.getfield 9) by decide +kernel) (cgr_5_0 (show jw_fld 6 9 3 = some 0 by decide +kernel)) ?_
    refine jr_1 jm_57 (show jw_cd cd_57 58 = some (.bipush 91) by decide +kernel) (mt_bi (by decide)) ?_
    refine jr_c jm_57 (show jw_cd cd_57 60 = some (.invokevirtual 35) by decide +kernel) (ccv (n := 1) (m2 := 64) (ci := 1) (a := 1) (bs := [.int (Int32.ofInt (91))]) (r := []) (js_cls cl_c1 (by decide)) (show jw_find jw_cvT 6 35 = some (1, [(1, 64)]) by decide +kernel) (by decide) rfl rfl rfl) jm_64 ⟨Nat.le_of_ble_eq_true rfl, by decide⟩ (jc_takeW hl hW ⟨by decide, by decide⟩) ?_
    refine jr_1 jm_57 (show jw_cd cd_57 63 = some (.ifCond .eq 9) by decide +kernel) (mz_t (q := .eq) (a := 0) (t := 72) (by show 0 = 0; omega) ⟨by omega, by omega⟩ (by decide) (by decide)) ?_
    refine jr_1 jm_57 (show jw_cd cd_57 72 = some (.iload_n 1) by decide +kernel) rfl ?_
    refine jr_1 jm_57 (show jw_cd cd_57 73 = some (.iconst 3) by decide +kernel) rfl ?_
    refine jr_1 jm_57 (show jw_cd cd_57 74 = some (.if_icmp .gt 21) by decide +kernel) (mb_f (q := .gt) (a := (a : Int)) (b := 3) (by show ¬ (3 < (a : Int)); omega) ⟨by omega, by omega⟩ ⟨by omega, by omega⟩ (by decide)) ?_
    refine jr_1 jm_57 (show jw_cd cd_57 77 = some (.aload_n 0) by decide +kernel) rfl ?_
    refine jr_1 jm_57 (show jw_cd cd_57 78 = some (.getfield 9) by decide +kernel) (cgr_5_0 (show jw_fld 6 9 3 = some 0 by decide +kernel)) ?_
    refine jr_1 jm_57 (show jw_cd cd_57 81 = some (.bipush 123) by decide +kernel) (mt_bi (by decide)) ?_
    refine jr_c jm_57 (show jw_cd cd_57 83 = some (.invokevirtual 35) by decide +kernel) (ccv (n := 1) (m2 := 64) (ci := 1) (a := 1) (bs := [.int (Int32.ofInt (123))]) (r := []) (js_cls cl_c1 (by decide)) (show jw_find jw_cvT 6 35 = some (1, [(1, 64)]) by decide +kernel) (by decide) rfl rfl rfl) jm_64 ⟨Nat.le_of_ble_eq_true rfl, by decide⟩ (jc_takeW hl hW ⟨by decide, by decide⟩) ?_
    refine jr_1 jm_57 (show jw_cd cd_57 86 = some (.ifCond .eq 9) by decide +kernel) (mz_t (q := .eq) (a := 0) (t := 95) (by show 0 = 0; omega) ⟨by omega, by omega⟩ (by decide) (by decide)) ?_
    refine jr_1 jm_57 (show jw_cd cd_57 95 = some (.aload_n 0) by decide +kernel) rfl ?_
    refine jr_c jm_57 (show jw_cd cd_57 96 = some (.invokevirtual 52) by decide +kernel) (ccv (n := 0) (m2 := 103) (ci := 3) (a := 5) (bs := []) (r := []) (js_cls cl_c5 (by decide)) (show jw_find jw_cvT 6 52 = some (0, [(3, 103)]) by decide +kernel) (by decide) rfl rfl rfl) jm_103 ⟨Nat.le_of_ble_eq_true rfl, by decide⟩ (jc_nameW hl hN hb32 hW) ?_
    exact jr_v jm_57 (show jw_cd cd_57 99 = some (.areturn) by decide +kernel) rfl
