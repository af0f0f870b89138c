/-! ===== the class: keep, about (printed by program: gen95.py) ===== -/
theorem jc_keep {β : Bool} {d : Nat} {h : jx_H} {κ : mS} (hl : 50 ≤ h.length) {X : Nat → Prop} {ra : Nat} {v : vT} (hra : (κ 2 0).toNat = ra) (hv : vR h X ra v) : jx_r (jz β) jw_M (d) 106 (0, [some (.ref 0)], [], (cl_mk h κ)) (cl_mk h ((su κ 1 (0) (((ra : Nat) : Int)))), .inl (some (.int (Int32.ofInt (v.1.1))))) := by
  obtain ⟨h0, t, ka, ia, kc, ic, f, g, h1, hA, -⟩ := vR_O (κ := (su κ 1 (0) (((ra : Nat) : Int)))) hl hv
  refine jr_1 jm_106 (show jw_cd cd_106 0 = some (.aload_n 0) by decide +kernel) rfl ?_
  refine jr_1 jm_106 (show jw_cd cd_106 1 = some (.aload_n 0) by decide +kernel) rfl ?_
  refine jr_1 jm_106 (show jw_cd cd_106 2 = some (.getfield 61) by decide +kernel) (cgk_2 (e := ra) hra (show jw_fld 0 61 0 = some 7 by decide +kernel)) ?_
  refine jr_1 jm_106 (show jw_cd cd_106 5 = some (.putfield 57) by decide +kernel) (cpk_1 (e := ra) (show jw_fld 0 57 0 = some 6 by decide +kernel) (show jw_fm 0 0 6 = some false by decide +kernel)) ?_
  refine jr_1 jm_106 (show jw_cd cd_106 8 = some (.aload_n 0) by decide +kernel) rfl ?_
  refine jr_1 jm_106 (show jw_cd cd_106 9 = some (.getfield 57) by decide +kernel) (cgk_1 (e := ra) (by rw [su_eq]; rfl) (show jw_fld 0 57 0 = some 6 by decide +kernel)) ?_
  refine jr_1 jm_106 (show jw_cd cd_106 12 = some (.getfield 118) by decide +kernel) (js_getf hA (jbg (by omega)) (show jw_fld 0 118 5 = some 0 by decide +kernel) rfl) ?_
  exact jr_v jm_106 (show jw_cd cd_106 15 = some (.ireturn) by decide +kernel) rfl
theorem jc_about {β : Bool} {d : Nat} {h : jx_H} {κ : mS} (hl : 50 ≤ h.length) {X : Nat → Prop} {da : Nat} {v : vT} {n q x : Int} (hda : (κ 1 0).toNat = da) (hv : vR h X da v) (hd : fdp v.2 ≤ 4) (e3 : κ 3 0 = n) (e0 : κ 0 0 = q) (hx : mr x) : jx_r (jz β) jw_M (d + 5) 112 (0, [some (.ref 0), some (.int (Int32.ofInt (x)))], [], (cl_mk h κ)) (cl_mk h (κ), .inl (some (.int (Int32.ofInt (aboS n v q x))))) := by
  have hvo := vR_O (κ := κ) hl hv
  obtain ⟨h0, t, ka, ia, kc, ic, f, g, h1, hA, -⟩ := id hvo
  unfold aboS
  by_cases hk : x = 0
  · rw [if_pos hk, ← e3]
    refine jr_1 jm_112 (show jw_cd cd_112 0 = some (.iload_n 1) by decide +kernel) rfl ?_
    refine jr_1 jm_112 (show jw_cd cd_112 1 = some (.tableswitch 61 0 3 #[31, 39, 44, 52]) by decide +kernel) (mt_ts (t := 32) (off := 31) hx (by omega) (by rw [hk]; rfl) (by decide)) ?_
    refine jr_1 jm_112 (show jw_cd cd_112 32 = some (.aload_n 0) by decide +kernel) rfl ?_
    refine jr_1 jm_112 (show jw_cd cd_112 33 = some (.getfield 10) by decide +kernel) (cgr_0_0 (show jw_fld 0 10 0 = some 0 by decide +kernel)) ?_
    refine jr_1 jm_112 (show jw_cd cd_112 36 = some (.getfield 89) by decide +kernel) (cg_3 (e := κ 3 0) rfl (show jw_fld 0 89 1 = some 1 by decide +kernel)) ?_
    exact jr_v jm_112 (show jw_cd cd_112 39 = some (.ireturn) by decide +kernel) rfl
  rw [if_neg hk]
  by_cases hk : x = 1
  · rw [if_pos hk, ← e0]
    refine jr_1 jm_112 (show jw_cd cd_112 0 = some (.iload_n 1) by decide +kernel) rfl ?_
    refine jr_1 jm_112 (show jw_cd cd_112 1 = some (.tableswitch 61 0 3 #[31, 39, 44, 52]) by decide +kernel) (mt_ts (t := 40) (off := 39) hx (by omega) (by rw [hk]; rfl) (by decide)) ?_
    refine jr_1 jm_112 (show jw_cd cd_112 40 = some (.aload_n 0) by decide +kernel) rfl ?_
    refine jr_1 jm_112 (show jw_cd cd_112 41 = some (.getfield 53) by decide +kernel) (cg_0 (e := κ 0 0) rfl (show jw_fld 0 53 0 = some 5 by decide +kernel)) ?_
    exact jr_v jm_112 (show jw_cd cd_112 44 = some (.ireturn) by decide +kernel) rfl
  rw [if_neg hk]
  by_cases hk : x = 2
  · rw [if_pos hk]
    refine jr_1 jm_112 (show jw_cd cd_112 0 = some (.iload_n 1) by decide +kernel) rfl ?_
    refine jr_1 jm_112 (show jw_cd cd_112 1 = some (.tableswitch 61 0 3 #[31, 39, 44, 52]) by decide +kernel) (mt_ts (t := 45) (off := 44) hx (by omega) (by rw [hk]; rfl) (by decide)) ?_
    refine jr_1 jm_112 (show jw_cd cd_112 45 = some (.aload_n 0) by decide +kernel) rfl ?_
    refine jr_1 jm_112 (show jw_cd cd_112 46 = some (.getfield 57) by decide +kernel) (cgk_1 (e := da) hda (show jw_fld 0 57 0 = some 6 by decide +kernel)) ?_
    refine jr_1 jm_112 (show jw_cd cd_112 49 = some (.getfield 118) by decide +kernel) (js_getf hA (jbg (by omega)) (show jw_fld 0 118 5 = some 0 by decide +kernel) rfl) ?_
    exact jr_v jm_112 (show jw_cd cd_112 52 = some (.ireturn) by decide +kernel) rfl
  rw [if_neg hk]
  by_cases hk : x = 3
  · rw [if_pos hk]
    refine jr_1 jm_112 (show jw_cd cd_112 0 = some (.iload_n 1) by decide +kernel) rfl ?_
    refine jr_1 jm_112 (show jw_cd cd_112 1 = some (.tableswitch 61 0 3 #[31, 39, 44, 52]) by decide +kernel) (mt_ts (t := 53) (off := 52) hx (by omega) (by rw [hk]; rfl) (by decide)) ?_
    refine jr_1 jm_112 (show jw_cd cd_112 53 = some (.aload_n 0) by decide +kernel) rfl ?_
    refine jr_1 jm_112 (show jw_cd cd_112 54 = some (.getfield 57) by decide +kernel) (cgk_1 (e := da) hda (show jw_fld 0 57 0 = some 6 by decide +kernel)) ?_
    refine jr_1 jm_112 (show jw_cd cd_112 57 = some (.iconst 0) by decide +kernel) rfl ?_
    refine jr_c jm_112 (show jw_cd cd_112 58 = some (.invokevirtual 99) by decide +kernel) (ccv (n := 1) (m2 := 105) (ci := 5) (a := da) (bs := [.int (Int32.ofInt (0))]) (r := []) (js_cls hA (jbg (by omega))) (show jw_find jw_cvT 0 99 = some (1, [(5, 105)]) by decide +kernel) (by decide) rfl rfl rfl) jm_105 ⟨Nat.le_of_ble_eq_true rfl, by decide⟩ (jc_cnt hl hvo hd) ?_
    exact jr_v jm_112 (show jw_cd cd_112 61 = some (.ireturn) by decide +kernel) rfl
  · rw [if_neg hk]
    refine jr_1 jm_112 (show jw_cd cd_112 0 = some (.iload_n 1) by decide +kernel) rfl ?_
    refine jr_1 jm_112 (show jw_cd cd_112 1 = some (.tableswitch 61 0 3 #[31, 39, 44, 52]) by decide +kernel) (mt_td (t := 62) hx (by omega) (by decide)) ?_
    refine jr_1 jm_112 (show jw_cd cd_112 62 = some (.iconst (-1)) by decide +kernel) rfl ?_
    exact jr_v jm_112 (show jw_cd cd_112 63 = some (.ireturn) by decide +kernel) rfl
