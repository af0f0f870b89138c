/-! ===== the class: pieces of readList and readObject (printed by program: gen89.py) ===== -/
theorem jc_rlA {β : Bool} {d : Nat} {h : jx_H} {κ : mS} (hl : 50 ≤ h.length) {a lst j t : Nat} {T : Int → Int} {n q : Int} (hP : cP κ T n q) (hj : j < 1000) (hc : tH T n q = 44) {res : jx_H × (Option Value ⊕ Nat)} (hr : jx_r (jz β) jw_M (d + 2) 92 (21, [some (.ref 5), some (.int (Int32.ofInt ((a : Int)))), some (.ref lst), some (.int (Int32.ofInt (((j + 1 : Nat) : Int))))], [], (cl_mk h (su κ 4 0 (q + 1)))) res) : jx_r (jz β) jw_M (d + 2) 92 (39, [some (.ref 5), some (.int (Int32.ofInt ((a : Int)))), some (.ref lst), some (.int (Int32.ofInt ((j : Int))))], [], (cl_mk h κ)) res := by
  refine jr_1 jm_92 (show jw_cd cd_92 39 = some (.aload_n 0) by decide +kernel) rfl ?_
  refine jr_1 jm_92 (show jw_cd cd_92 40 = some (.getfield 9) by decide +kernel) (cgr_5_0 (show jw_fld 6 9 3 = some 0 by decide +kernel)) ?_
  refine jr_1 jm_92 (show jw_cd cd_92 43 = some (.bipush 44) by decide +kernel) (mt_bi (by decide)) ?_
  refine jr_c jm_92 (show jw_cd cd_92 45 = some (.invokevirtual 35) by decide +kernel) (ccv (n := 1) (m2 := 64) (ci := 1) (a := 1) (bs := [.int (Int32.ofInt (44))]) (r := []) (js_cls cl_c1 (by decide)) (show jw_find jw_cvT 6 35 = some (1, [(1, 64)]) by decide +kernel) (by decide) rfl rfl rfl) jm_64 ⟨Nat.le_of_ble_eq_true rfl, by decide⟩ (jc_takeT hl hP ((tC_eq hP.1.2.2 hP.2.2.2.1 (by decide)).mpr hc) ⟨by decide, by decide⟩) ?_
  refine jr_1 jm_92 (show jw_cd cd_92 48 = some (.ifCond .ne 6) by decide +kernel) (mz_t (q := .ne) (a := 1) (t := 54) (by show ¬ (1 = 0); omega) ⟨by omega, by omega⟩ (by decide) (by decide)) ?_
  refine jr_1 jm_92 (F2 := (57, [some (.ref 5), some (.int (Int32.ofInt ((a : Int)))), some (.ref lst), some (.int (Int32.ofInt ((j : Int) + 1)))], [], (cl_mk h (su κ 4 (0) (q + 1))))) (show jw_cd cd_92 54 = some (.iinc 3 1) by decide +kernel) (mt_inc (a := (j : Int)) (c := (j : Int) + 1) rfl (by omega) rfl) ?_
  refine jr_1 jm_92 (show jw_cd cd_92 57 = some (.goto (-36)) by decide +kernel) (ju_go (t := 21) (by decide)) ?_
  exact hr
theorem jc_rlB {β : Bool} {d : Nat} {h : jx_H} {κ : mS} (hl : 50 ≤ h.length) {a lst j t : Nat} {T : Int → Int} {n q : Int} (hP : cP κ T n q) (hc2 : tH T n q = 93) : jx_r (jz β) jw_M (d + 2) 92 (39, [some (.ref 5), some (.int (Int32.ofInt ((a : Int)))), some (.ref lst), some (.int (Int32.ofInt ((j : Int))))], [], (cl_mk h κ)) (cl_mk h (su κ 4 0 (q + 1)), .inl (some (.ref (lst)))) := by
  refine jr_1 jm_92 (show jw_cd cd_92 39 = some (.aload_n 0) by decide +kernel) rfl ?_
  refine jr_1 jm_92 (show jw_cd cd_92 40 = some (.getfield 9) by decide +kernel) (cgr_5_0 (show jw_fld 6 9 3 = some 0 by decide +kernel)) ?_
  refine jr_1 jm_92 (show jw_cd cd_92 43 = some (.bipush 44) by decide +kernel) (mt_bi (by decide)) ?_
  refine jr_c jm_92 (show jw_cd cd_92 45 = some (.invokevirtual 35) by decide +kernel) (ccv (n := 1) (m2 := 64) (ci := 1) (a := 1) (bs := [.int (Int32.ofInt (44))]) (r := []) (js_cls cl_c1 (by decide)) (show jw_find jw_cvT 6 35 = some (1, [(1, 64)]) by decide +kernel) (by decide) rfl rfl rfl) jm_64 ⟨Nat.le_of_ble_eq_true rfl, by decide⟩ (jc_takeF hl hP (by rw [tC_eq hP.1.2.2 hP.2.2.2.1 (by decide)]; omega) ⟨by decide, by decide⟩) ?_
  refine jr_1 jm_92 (show jw_cd cd_92 48 = some (.ifCond .ne 6) by decide +kernel) (mz_f (q := .ne) (a := 0) (by show ¬ (¬ (0 = 0)); omega) ⟨by omega, by omega⟩ (by decide)) ?_
  refine jr_1 jm_92 (show jw_cd cd_92 51 = some (.goto 9) by decide +kernel) (ju_go (t := 60) (by decide)) ?_
  refine jr_1 jm_92 (show jw_cd cd_92 60 = some (.aload_n 0) by decide +kernel) rfl ?_
  refine jr_1 jm_92 (show jw_cd cd_92 61 = some (.getfield 9) by decide +kernel) (cgr_5_0 (show jw_fld 6 9 3 = some 0 by decide +kernel)) ?_
  refine jr_1 jm_92 (show jw_cd cd_92 64 = some (.bipush 93) by decide +kernel) (mt_bi (by decide)) ?_
  refine jr_c jm_92 (show jw_cd cd_92 66 = some (.invokevirtual 59) by decide +kernel) (ccv (n := 1) (m2 := 96) (ci := 1) (a := 1) (bs := [.int (Int32.ofInt (93))]) (r := []) (js_cls cl_c1 (by decide)) (show jw_find jw_cvT 6 59 = some (1, [(1, 96)]) by decide +kernel) (by decide) rfl rfl rfl) jm_96 ⟨Nat.le_of_ble_eq_true rfl, by decide⟩ (jc_mustT hl hP ((tC_eq hP.1.2.2 hP.2.2.2.1 (by decide)).mpr hc2) ⟨by decide, by decide⟩) ?_
  refine jr_1 jm_92 (show jw_cd cd_92 69 = some (.aload_n 2) by decide +kernel) rfl ?_
  exact jr_v jm_92 (show jw_cd cd_92 70 = some (.areturn) by decide +kernel) rfl
theorem jc_rlC {β : Bool} {d : Nat} {h : jx_H} {κ : mS} (hl : 50 ≤ h.length) {a lst j t : Nat} {T : Int → Int} {n q : Int} (hP : cP κ T n q) (hc : ¬ tH T n q = 44) (hc2 : ¬ tH T n q = 93) : jx_r (jz β) jw_M (d + 2) 92 (39, [some (.ref 5), some (.int (Int32.ofInt ((a : Int)))), some (.ref lst), some (.int (Int32.ofInt ((j : Int))))], [], (cl_mk h κ)) (cl_mk h (su κ 5 0 q), .inl (some (.ref (lst)))) := by
  refine jr_1 jm_92 (show jw_cd cd_92 39 = some (.aload_n 0) by decide +kernel) rfl ?_
  refine jr_1 jm_92 (show jw_cd cd_92 40 = some (.getfield 9) by decide +kernel) (cgr_5_0 (show jw_fld 6 9 3 = some 0 by decide +kernel)) ?_
  refine jr_1 jm_92 (show jw_cd cd_92 43 = some (.bipush 44) by decide +kernel) (mt_bi (by decide)) ?_
  refine jr_c jm_92 (show jw_cd cd_92 45 = some (.invokevirtual 35) by decide +kernel) (ccv (n := 1) (m2 := 64) (ci := 1) (a := 1) (bs := [.int (Int32.ofInt (44))]) (r := []) (js_cls cl_c1 (by decide)) (show jw_find jw_cvT 6 35 = some (1, [(1, 64)]) by decide +kernel) (by decide) rfl rfl rfl) jm_64 ⟨Nat.le_of_ble_eq_true rfl, by decide⟩ (jc_takeF hl hP (by rw [tC_eq hP.1.2.2 hP.2.2.2.1 (by decide)]; omega) ⟨by decide, by decide⟩) ?_
  refine jr_1 jm_92 (show jw_cd cd_92 48 = some (.ifCond .ne 6) by decide +kernel) (mz_f (q := .ne) (a := 0) (by show ¬ (¬ (0 = 0)); omega) ⟨by omega, by omega⟩ (by decide)) ?_
  refine jr_1 jm_92 (show jw_cd cd_92 51 = some (.goto 9) by decide +kernel) (ju_go (t := 60) (by decide)) ?_
  refine jr_1 jm_92 (show jw_cd cd_92 60 = some (.aload_n 0) by decide +kernel) rfl ?_
  refine jr_1 jm_92 (show jw_cd cd_92 61 = some (.getfield 9) by decide +kernel) (cgr_5_0 (show jw_fld 6 9 3 = some 0 by decide +kernel)) ?_
  refine jr_1 jm_92 (show jw_cd cd_92 64 = some (.bipush 93) by decide +kernel) (mt_bi (by decide)) ?_
  refine jr_c jm_92 (show jw_cd cd_92 66 = some (.invokevirtual 59) by decide +kernel) (ccv (n := 1) (m2 := 96) (ci := 1) (a := 1) (bs := [.int (Int32.ofInt (93))]) (r := []) (js_cls cl_c1 (by decide)) (show jw_find jw_cvT 6 59 = some (1, [(1, 96)]) by decide +kernel) (by decide) rfl rfl rfl) jm_96 ⟨Nat.le_of_ble_eq_true rfl, by decide⟩ (jc_mustF hl hP (by rw [tC_eq hP.1.2.2 hP.2.2.2.1 (by decide)]; omega) ⟨by decide, by decide⟩) ?_
  refine jr_1 jm_92 (show jw_cd cd_92 69 = some (.aload_n 2) by decide +kernel) rfl ?_
  exact jr_v jm_92 (show jw_cd cd_92 70 = some (.areturn) by decide +kernel) rfl
theorem jc_rlW {β : Bool} {d : Nat} {h : jx_H} {κ : mS} (hl : 50 ≤ h.length) {a lst j t : Nat} {e : Int} (hW : cW κ e) : jx_r (jz β) jw_M (d + 2) 92 (39, [some (.ref 5), some (.int (Int32.ofInt ((a : Int)))), some (.ref lst), some (.int (Int32.ofInt ((j : Int))))], [], (cl_mk h κ)) (cl_mk h (κ), .inl (some (.ref (lst)))) := by
  refine jr_1 jm_92 (show jw_cd cd_92 39 = some (.aload_n 0) by decide +kernel) rfl ?_
  refine jr_1 jm_92 (show jw_cd cd_92 40 = some (.getfield 9) by decide +kernel) (cgr_5_0 (show jw_fld 6 9 3 = some 0 by decide +kernel)) ?_
  refine jr_1 jm_92 (show jw_cd cd_92 43 = some (.bipush 44) by decide +kernel) (mt_bi (by decide)) ?_
  refine jr_c jm_92 (show jw_cd cd_92 45 = some (.invokevirtual 35) by decide +kernel) (ccv (n := 1) (m2 := 64) (ci := 1) (a := 1) (bs := [.int (Int32.ofInt (44))]) (r := []) (js_cls cl_c1 (by decide)) (show jw_find jw_cvT 6 35 = some (1, [(1, 64)]) by decide +kernel) (by decide) rfl rfl rfl) jm_64 ⟨Nat.le_of_ble_eq_true rfl, by decide⟩ (jc_takeW hl hW ⟨by decide, by decide⟩) ?_
  refine jr_1 jm_92 (show jw_cd cd_92 48 = some (.ifCond .ne 6) by decide +kernel) (mz_f (q := .ne) (a := 0) (by show ¬ (¬ (0 = 0)); omega) ⟨by omega, by omega⟩ (by decide)) ?_
  refine jr_1 jm_92 (show jw_cd cd_92 51 = some (.goto 9) by decide +kernel) (ju_go (t := 60) (by decide)) ?_
  refine jr_1 jm_92 (show jw_cd cd_92 60 = some (.aload_n 0) by decide +kernel) rfl ?_
  refine jr_1 jm_92 (show jw_cd cd_92 61 = some (.getfield 9) by decide +kernel) (cgr_5_0 (show jw_fld 6 9 3 = some 0 by decide +kernel)) ?_
  refine jr_1 jm_92 (show jw_cd cd_92 64 = some (.bipush 93) by decide +kernel) (mt_bi (by decide)) ?_
  refine jr_c jm_92 (show jw_cd cd_92 66 = some (.invokevirtual 59) by decide +kernel) (ccv (n := 1) (m2 := 96) (ci := 1) (a := 1) (bs := [.int (Int32.ofInt (93))]) (r := []) (js_cls cl_c1 (by decide)) (show jw_find jw_cvT 6 59 = some (1, [(1, 96)]) by decide +kernel) (by decide) rfl rfl rfl) jm_96 ⟨Nat.le_of_ble_eq_true rfl, by decide⟩ (jc_mustW hl hW ⟨by decide, by decide⟩) ?_
  refine jr_1 jm_92 (show jw_cd cd_92 69 = some (.aload_n 2) by decide +kernel) rfl ?_
  exact jr_v jm_92 (show jw_cd cd_92 70 = some (.areturn) by decide +kernel) rfl
theorem jc_roA {β : Bool} {d : Nat} {h : jx_H} {κ : mS} (hl : 50 ≤ h.length) {a lst j t : Nat} {t4 : Option Value} {T : Int → Int} {n q : Int} (hP : cP κ T n q) (hj : j < 1000) (hc : tH T n q = 44) {res : jx_H × (Option Value ⊕ Nat)} (hr : jx_r (jz β) jw_M (d + 2) 97 (22, [some (.ref 5), some (.int (Int32.ofInt ((a : Int)))), some (.ref lst), some (.int (Int32.ofInt (((j + 1 : Nat) : Int)))), t4], [], (cl_mk h (su κ 4 0 (q + 1)))) res) : jx_r (jz β) jw_M (d + 2) 97 (60, [some (.ref 5), some (.int (Int32.ofInt ((a : Int)))), some (.ref lst), some (.int (Int32.ofInt ((j : Int)))), t4], [], (cl_mk h κ)) res := by
  refine jr_1 jm_97 (show jw_cd cd_97 60 = some (.aload_n 0) by decide +kernel) rfl ?_
  refine jr_1 jm_97 (show jw_cd cd_97 61 = some (.getfield 9) by decide +kernel) (cgr_5_0 (show jw_fld 6 9 3 = some 0 by decide +kernel)) ?_
  refine jr_1 jm_97 (show jw_cd cd_97 64 = some (.bipush 44) by decide +kernel) (mt_bi (by decide)) ?_
  refine jr_c jm_97 (show jw_cd cd_97 66 = some (.invokevirtual 35) by decide +kernel) (ccv (n := 1) (m2 := 64) (ci := 1) (a := 1) (bs := [.int (Int32.ofInt (44))]) (r := []) (js_cls cl_c1 (by decide)) (show jw_find jw_cvT 6 35 = some (1, [(1, 64)]) by decide +kernel) (by decide) rfl rfl rfl) jm_64 ⟨Nat.le_of_ble_eq_true rfl, by decide⟩ (jc_takeT hl hP ((tC_eq hP.1.2.2 hP.2.2.2.1 (by decide)).mpr hc) ⟨by decide, by decide⟩) ?_
  refine jr_1 jm_97 (show jw_cd cd_97 69 = some (.ifCond .ne 6) by decide +kernel) (mz_t (q := .ne) (a := 1) (t := 75) (by show ¬ (1 = 0); omega) ⟨by omega, by omega⟩ (by decide) (by decide)) ?_
  refine jr_1 jm_97 (F2 := (78, [some (.ref 5), some (.int (Int32.ofInt ((a : Int)))), some (.ref lst), some (.int (Int32.ofInt ((j : Int) + 1))), t4], [], (cl_mk h (su κ 4 (0) (q + 1))))) (show jw_cd cd_97 75 = some (.iinc 3 1) by decide +kernel) (mt_inc (a := (j : Int)) (c := (j : Int) + 1) rfl (by omega) rfl) ?_
  refine jr_1 jm_97 (show jw_cd cd_97 78 = some (.goto (-56)) by decide +kernel) (ju_go (t := 22) (by decide)) ?_
  exact hr
theorem jc_roB {β : Bool} {d : Nat} {h : jx_H} {κ : mS} (hl : 50 ≤ h.length) {a lst j t : Nat} {t4 : Option Value} {T : Int → Int} {n q : Int} (hP : cP κ T n q) (hc2 : tH T n q = 125) : jx_r (jz β) jw_M (d + 2) 97 (60, [some (.ref 5), some (.int (Int32.ofInt ((a : Int)))), some (.ref lst), some (.int (Int32.ofInt ((j : Int)))), t4], [], (cl_mk h κ)) (cl_mk h (su κ 4 0 (q + 1)), .inl (some (.ref (lst)))) := by
  refine jr_1 jm_97 (show jw_cd cd_97 60 = some (.aload_n 0) by decide +kernel) rfl ?_
  refine jr_1 jm_97 (show jw_cd cd_97 61 = some (.getfield 9) by decide +kernel) (cgr_5_0 (show jw_fld 6 9 3 = some 0 by decide +kernel)) ?_
  refine jr_1 jm_97 (show jw_cd cd_97 64 = some (.bipush 44) by decide +kernel) (mt_bi (by decide)) ?_
  refine jr_c jm_97 (show jw_cd cd_97 66 = some (.invokevirtual 35) by decide +kernel) (ccv (n := 1) (m2 := 64) (ci := 1) (a := 1) (bs := [.int (Int32.ofInt (44))]) (r := []) (js_cls cl_c1 (by decide)) (show jw_find jw_cvT 6 35 = some (1, [(1, 64)]) by decide +kernel) (by decide) rfl rfl rfl) jm_64 ⟨Nat.le_of_ble_eq_true rfl, by decide⟩ (jc_takeF hl hP (by rw [tC_eq hP.1.2.2 hP.2.2.2.1 (by decide)]; omega) ⟨by decide, by decide⟩) ?_
  refine jr_1 jm_97 (show jw_cd cd_97 69 = some (.ifCond .ne 6) by decide +kernel) (mz_f (q := .ne) (a := 0) (by show ¬ (¬ (0 = 0)); omega) ⟨by omega, by omega⟩ (by decide)) ?_
  refine jr_1 jm_97 (show jw_cd cd_97 72 = some (.goto 9) by decide +kernel) (ju_go (t := 81) (by decide)) ?_
  refine jr_1 jm_97 (show jw_cd cd_97 81 = some (.aload_n 0) by decide +kernel) rfl ?_
  refine jr_1 jm_97 (show jw_cd cd_97 82 = some (.getfield 9) by decide +kernel) (cgr_5_0 (show jw_fld 6 9 3 = some 0 by decide +kernel)) ?_
  refine jr_1 jm_97 (show jw_cd cd_97 85 = some (.bipush 125) by decide +kernel) (mt_bi (by decide)) ?_
  refine jr_c jm_97 (show jw_cd cd_97 87 = some (.invokevirtual 59) by decide +kernel) (ccv (n := 1) (m2 := 96) (ci := 1) (a := 1) (bs := [.int (Int32.ofInt (125))]) (r := []) (js_cls cl_c1 (by decide)) (show jw_find jw_cvT 6 59 = some (1, [(1, 96)]) by decide +kernel) (by decide) rfl rfl rfl) jm_96 ⟨Nat.le_of_ble_eq_true rfl, by decide⟩ (jc_mustT hl hP ((tC_eq hP.1.2.2 hP.2.2.2.1 (by decide)).mpr hc2) ⟨by decide, by decide⟩) ?_
  refine jr_1 jm_97 (show jw_cd cd_97 90 = some (.aload_n 2) by decide +kernel) rfl ?_
  exact jr_v jm_97 (show jw_cd cd_97 91 = some (.areturn) by decide +kernel) rfl
theorem jc_roC {β : Bool} {d : Nat} {h : jx_H} {κ : mS} (hl : 50 ≤ h.length) {a lst j t : Nat} {t4 : Option Value} {T : Int → Int} {n q : Int} (hP : cP κ T n q) (hc : ¬ tH T n q = 44) (hc2 : ¬ tH T n q = 125) : jx_r (jz β) jw_M (d + 2) 97 (60, [some (.ref 5), some (.int (Int32.ofInt ((a : Int)))), some (.ref lst), some (.int (Int32.ofInt ((j : Int)))), t4], [], (cl_mk h κ)) (cl_mk h (su κ 5 0 q), .inl (some (.ref (lst)))) := by
  refine jr_1 jm_97 (show jw_cd cd_97 60 = some (.aload_n 0) by decide +kernel) rfl ?_
  refine jr_1 jm_97 (show jw_cd cd_97 61 = some (.getfield 9) by decide +kernel) (cgr_5_0 (show jw_fld 6 9 3 = some 0 by decide +kernel)) ?_
  refine jr_1 jm_97 (show jw_cd cd_97 64 = some (.bipush 44) by decide +kernel) (mt_bi (by decide)) ?_
  refine jr_c jm_97 (show jw_cd cd_97 66 = some (.invokevirtual 35) by decide +kernel) (ccv (n := 1) (m2 := 64) (ci := 1) (a := 1) (bs := [.int (Int32.ofInt (44))]) (r := []) (js_cls cl_c1 (by decide)) (show jw_find jw_cvT 6 35 = some (1, [(1, 64)]) by decide +kernel) (by decide) rfl rfl rfl) jm_64 ⟨Nat.le_of_ble_eq_true rfl, by decide⟩ (jc_takeF hl hP (by rw [tC_eq hP.1.2.2 hP.2.2.2.1 (by decide)]; omega) ⟨by decide, by decide⟩) ?_
  refine jr_1 jm_97 (show jw_cd cd_97 69 = some (.ifCond .ne 6) by decide +kernel) (mz_f (q := .ne) (a := 0) (by show ¬ (¬ (0 = 0)); omega) ⟨by omega, by omega⟩ (by decide)) ?_
  refine jr_1 jm_97 (show jw_cd cd_97 72 = some (.goto 9) by decide +kernel) (ju_go (t := 81) (by decide)) ?_
  refine jr_1 jm_97 (show jw_cd cd_97 81 = some (.aload_n 0) by decide +kernel) rfl ?_
  refine jr_1 jm_97 (show jw_cd cd_97 82 = some (.getfield 9) by decide +kernel) (cgr_5_0 (show jw_fld 6 9 3 = some 0 by decide +kernel)) ?_
  refine jr_1 jm_97 (show jw_cd cd_97 85 = some (.bipush 125) by decide +kernel) (mt_bi (by decide)) ?_
  refine jr_c jm_97 (show jw_cd cd_97 87 = some (.invokevirtual 59) by decide +kernel) (ccv (n := 1) (m2 := 96) (ci := 1) (a := 1) (bs := [.int (Int32.ofInt (125))]) (r := []) (js_cls cl_c1 (by decide)) (show jw_find jw_cvT 6 59 = some (1, [(1, 96)]) by decide +kernel) (by decide) rfl rfl rfl) jm_96 ⟨Nat.le_of_ble_eq_true rfl, by decide⟩ (jc_mustF hl hP (by rw [tC_eq hP.1.2.2 hP.2.2.2.1 (by decide)]; omega) ⟨by decide, by decide⟩) ?_
  refine jr_1 jm_97 (show jw_cd cd_97 90 = some (.aload_n 2) by decide +kernel) rfl ?_
  exact jr_v jm_97 (show jw_cd cd_97 91 = some (.areturn) by decide +kernel) rfl
theorem jc_roW {β : Bool} {d : Nat} {h : jx_H} {κ : mS} (hl : 50 ≤ h.length) {a lst j t : Nat} {t4 : Option Value} {e : Int} (hW : cW κ e) : jx_r (jz β) jw_M (d + 2) 97 (60, [some (.ref 5), some (.int (Int32.ofInt ((a : Int)))), some (.ref lst), some (.int (Int32.ofInt ((j : Int)))), t4], [], (cl_mk h κ)) (cl_mk h (κ), .inl (some (.ref (lst)))) := by
  refine jr_1 jm_97 (show jw_cd cd_97 60 = some (.aload_n 0) by decide +kernel) rfl ?_
  refine jr_1 jm_97 (show jw_cd cd_97 61 = some (.getfield 9) by decide +kernel) (cgr_5_0 (show jw_fld 6 9 3 = some 0 by decide +kernel)) ?_
  refine jr_1 jm_97 (show jw_cd cd_97 64 = some (.bipush 44) by decide +kernel) (mt_bi (by decide)) ?_
  refine jr_c jm_97 (show jw_cd cd_97 66 = some (.invokevirtual 35) by decide +kernel) (ccv (n := 1) (m2 := 64) (ci := 1) (a := 1) (bs := [.int (Int32.ofInt (44))]) (r := []) (js_cls cl_c1 (by decide)) (show jw_find jw_cvT 6 35 = some (1, [(1, 64)]) by decide +kernel) (by decide) rfl rfl rfl) jm_64 ⟨Nat.le_of_ble_eq_true rfl, by decide⟩ (jc_takeW hl hW ⟨by decide, by decide⟩) ?_
  refine jr_1 jm_97 (show jw_cd cd_97 69 = some (.ifCond .ne 6) by decide +kernel) (mz_f (q := .ne) (a := 0) (by show ¬ (¬ (0 = 0)); omega) ⟨by omega, by omega⟩ (by decide)) ?_
  refine jr_1 jm_97 (show jw_cd cd_97 72 = some (.goto 9) by decide +kernel) (ju_go (t := 81) (by decide)) ?_
  refine jr_1 jm_97 (show jw_cd cd_97 81 = some (.aload_n 0) by decide +kernel) rfl ?_
  refine jr_1 jm_97 (show jw_cd cd_97 82 = some (.getfield 9) by decide +kernel) (cgr_5_0 (show jw_fld 6 9 3 = some 0 by decide +kernel)) ?_
  refine jr_1 jm_97 (show jw_cd cd_97 85 = some (.bipush 125) by decide +kernel) (mt_bi (by decide)) ?_
  refine jr_c jm_97 (show jw_cd cd_97 87 = some (.invokevirtual 59) by decide +kernel) (ccv (n := 1) (m2 := 96) (ci := 1) (a := 1) (bs := [.int (Int32.ofInt (125))]) (r := []) (js_cls cl_c1 (by decide)) (show jw_find jw_cvT 6 59 = some (1, [(1, 96)]) by decide +kernel) (by decide) rfl rfl rfl) jm_96 ⟨Nat.le_of_ble_eq_true rfl, by decide⟩ (jc_mustW hl hW ⟨by decide, by decide⟩) ?_
  refine jr_1 jm_97 (show jw_cd cd_97 90 = some (.aload_n 2) by decide +kernel) rfl ?_
  exact jr_v jm_97 (show jw_cd cd_97 91 = some (.areturn) by decide +kernel) rfl
theorem jc_keyC {β : Bool} {d : Nat} {h : jx_H} {κ : mS} (hl : 50 ≤ h.length) {N : Nat} {X : Nat → Prop} (hN : h.length = N) (hb32 : N < 2900000000) (hx : ∀ c, N ≤ c → ¬ X c) {a lst j t : Nat} {t4 : Option Value} {T : Int → Int} {n p : Int} (hP : cP κ T n p) (hsc : 0 ≤ κ 7 0 ∧ κ 7 0 ≤ 16) : ∃ (κ' : mS) (L : List jx_C) (s' : List Int), (∀ res, jx_r (jz β) jw_M (d + 7) 97 (47, [some (.ref 5), some (.int (Int32.ofInt ((a : Int)))), some (.ref lst), some (.int (Int32.ofInt ((j : Int)))), some (.ref N)], [], (cl_mk (h ++ L) κ')) res → jx_r (jz β) jw_M (d + 7) 97 (29, [some (.ref 5), some (.int (Int32.ofInt ((a : Int)))), some (.ref lst), some (.int (Int32.ofInt ((j : Int)))), t4], [], (cl_mk h κ)) res) ∧ L.length = 2 ∧ cvol L ≤ 11 ∧ strR (h ++ L) X N s' ∧ tx s' ∧ mEq [4, 5, 7, 8, 15] κ κ' ∧ (0 ≤ κ' 7 0 ∧ κ' 7 0 ≤ 16) ∧ (∀ s q, sName true T n p = .inr (s, q) → s' = s ∧ cP κ' T n q) ∧ (∀ e, sName true T n p = .inl e → cE κ' T n e) := by
  have ht := hP.1.2.2
  obtain ⟨κ', L, s', r1, r2, r3, r4, r5, r6, r7, r8, r9⟩ := jc_readKey (β := β) (d := d) hl hN (by omega) hx hP hsc
  have hl2 : 50 ≤ (h ++ L).length := by rw [List.length_append]; omega
  cases hs : sKey T n p with
  | inl e =>
    have r8 := r9 e hs
    have hsn : sName true T n p = .inl e := by
      show (match sKey T n p with
        | .inl e => _
        | .inr (s, q) => _) = _
      rw [hs]
    refine ⟨κ', L, s', fun res hr => ?_, r2, r3, r4, r5, r6, r7, fun s q hh => (by rw [hsn] at hh; cases hh), fun e' hh => ?_⟩
    · skip
      refine jr_1 jm_97 (show jw_cd cd_97 29 = some (.aload_n 0) by decide +kernel) rfl ?_
      refine jr_1 jm_97 (show jw_cd cd_97 30 = some (.getfield 9) by decide +kernel) (cgr_5_0 (show jw_fld 6 9 3 = some 0 by decide +kernel)) ?_
      refine jr_c jm_97 (show jw_cd cd_97 33 = some (.invokevirtual 73) by decide +kernel) (ccv (n := 0) (m2 := 98) (ci := 1) (a := 1) (bs := []) (r := []) (js_cls cl_c1 (by decide)) (show jw_find jw_cvT 6 73 = some (0, [(1, 98)]) by decide +kernel) (by decide) rfl rfl rfl) jm_98 ⟨Nat.le_of_ble_eq_true rfl, by decide⟩ r1 ?_
      refine jr_1 jm_97 (F2 := (38, [some (.ref 5), some (.int (Int32.ofInt ((a : Int)))), some (.ref lst), some (.int (Int32.ofInt ((j : Int)))), some (.ref N)], [], (cl_mk (h ++ L) κ'))) (show jw_cd cd_97 36 = some (.astore 4) by decide +kernel) rfl ?_
      refine jr_1 jm_97 (show jw_cd cd_97 38 = some (.aload_n 0) by decide +kernel) rfl ?_
      refine jr_1 jm_97 (show jw_cd cd_97 39 = some (.getfield 9) by decide +kernel) (cgr_5_0 (show jw_fld 6 9 3 = some 0 by decide +kernel)) ?_
      refine jr_1 jm_97 (show jw_cd cd_97 42 = some (.bipush 58) by decide +kernel) (mt_bi (by decide)) ?_
      refine jr_c jm_97 (show jw_cd cd_97 44 = some (.invokevirtual 59) by decide +kernel) (ccv (n := 1) (m2 := 96) (ci := 1) (a := 1) (bs := [.int (Int32.ofInt (58))]) (r := []) (js_cls cl_c1 (by decide)) (show jw_find jw_cvT 6 59 = some (1, [(1, 96)]) by decide +kernel) (by decide) rfl rfl rfl) jm_96 ⟨Nat.le_of_ble_eq_true rfl, by decide⟩ (jc_mustW hl2 r8.2.1 ⟨by decide, by decide⟩) ?_
      exact hr
    · rw [hsn] at hh
      injection hh with hh
      rw [← hh]
      exact r8
  | inr sq =>
    obtain ⟨s, q⟩ := sq
    obtain ⟨z1, hP2⟩ := r8 s q hs
    have h02 := hP2.2.2.2.1
    by_cases h58 : tH T n q = 58
    · have hsn : sName true T n p = .inr (s, q + 1) := by
        show (match sKey T n p with
          | .inl e => _
          | .inr (s, q) => _) = _
        rw [hs]
        exact if_pos h58
      have hq1 : q < n := (tH_r ht h02).2.2.2 (by rw [h58]; decide)
      refine ⟨su κ' 4 0 (q + 1), L, s', fun res hr => ?_, r2, r3, r4, r5, fun f hf => (su_row (fun e => hf (by rw [e]; decide))).trans (r6 f hf), by rw [su_nf (by decide)]; exact r7, fun s2 q2 hh => ?_, fun e' hh => by rw [hsn] at hh; cases hh⟩
      · skip
        refine jr_1 jm_97 (show jw_cd cd_97 29 = some (.aload_n 0) by decide +kernel) rfl ?_
        refine jr_1 jm_97 (show jw_cd cd_97 30 = some (.getfield 9) by decide +kernel) (cgr_5_0 (show jw_fld 6 9 3 = some 0 by decide +kernel)) ?_
        refine jr_c jm_97 (show jw_cd cd_97 33 = some (.invokevirtual 73) by decide +kernel) (ccv (n := 0) (m2 := 98) (ci := 1) (a := 1) (bs := []) (r := []) (js_cls cl_c1 (by decide)) (show jw_find jw_cvT 6 73 = some (0, [(1, 98)]) by decide +kernel) (by decide) rfl rfl rfl) jm_98 ⟨Nat.le_of_ble_eq_true rfl, by decide⟩ r1 ?_
        refine jr_1 jm_97 (F2 := (38, [some (.ref 5), some (.int (Int32.ofInt ((a : Int)))), some (.ref lst), some (.int (Int32.ofInt ((j : Int)))), some (.ref N)], [], (cl_mk (h ++ L) κ'))) (show jw_cd cd_97 36 = some (.astore 4) by decide +kernel) rfl ?_
        refine jr_1 jm_97 (show jw_cd cd_97 38 = some (.aload_n 0) by decide +kernel) rfl ?_
        refine jr_1 jm_97 (show jw_cd cd_97 39 = some (.getfield 9) by decide +kernel) (cgr_5_0 (show jw_fld 6 9 3 = some 0 by decide +kernel)) ?_
        refine jr_1 jm_97 (show jw_cd cd_97 42 = some (.bipush 58) by decide +kernel) (mt_bi (by decide)) ?_
        refine jr_c jm_97 (show jw_cd cd_97 44 = some (.invokevirtual 59) by decide +kernel) (ccv (n := 1) (m2 := 96) (ci := 1) (a := 1) (bs := [.int (Int32.ofInt (58))]) (r := []) (js_cls cl_c1 (by decide)) (show jw_find jw_cvT 6 59 = some (1, [(1, 96)]) by decide +kernel) (by decide) rfl rfl rfl) jm_96 ⟨Nat.le_of_ble_eq_true rfl, by decide⟩ (jc_mustT hl2 hP2 ((tC_eq ht h02 (by decide)).mpr h58) ⟨by decide, by decide⟩) ?_
        exact hr
      · rw [hsn] at hh
        injection hh with hh
        injection hh with h1 h2
        exact ⟨z1.trans h1, by rw [← h2]; exact cP_mv hP2 (by omega) (by omega)⟩
    · have hsn : sName true T n p = .inl q := by
        show (match sKey T n p with
          | .inl e => _
          | .inr (s, q) => _) = _
        rw [hs]
        exact if_neg h58
      refine ⟨su κ' 5 0 q, L, s', fun res hr => ?_, r2, r3, r4, r5, fun f hf => (su_row (fun e => hf (by rw [e]; decide))).trans (r6 f hf), by rw [su_nf (by decide)]; exact r7, fun s2 q2 hh => (by rw [hsn] at hh; cases hh), fun e' hh => ?_⟩
      · skip
        refine jr_1 jm_97 (show jw_cd cd_97 29 = some (.aload_n 0) by decide +kernel) rfl ?_
        refine jr_1 jm_97 (show jw_cd cd_97 30 = some (.getfield 9) by decide +kernel) (cgr_5_0 (show jw_fld 6 9 3 = some 0 by decide +kernel)) ?_
        refine jr_c jm_97 (show jw_cd cd_97 33 = some (.invokevirtual 73) by decide +kernel) (ccv (n := 0) (m2 := 98) (ci := 1) (a := 1) (bs := []) (r := []) (js_cls cl_c1 (by decide)) (show jw_find jw_cvT 6 73 = some (0, [(1, 98)]) by decide +kernel) (by decide) rfl rfl rfl) jm_98 ⟨Nat.le_of_ble_eq_true rfl, by decide⟩ r1 ?_
        refine jr_1 jm_97 (F2 := (38, [some (.ref 5), some (.int (Int32.ofInt ((a : Int)))), some (.ref lst), some (.int (Int32.ofInt ((j : Int)))), some (.ref N)], [], (cl_mk (h ++ L) κ'))) (show jw_cd cd_97 36 = some (.astore 4) by decide +kernel) rfl ?_
        refine jr_1 jm_97 (show jw_cd cd_97 38 = some (.aload_n 0) by decide +kernel) rfl ?_
        refine jr_1 jm_97 (show jw_cd cd_97 39 = some (.getfield 9) by decide +kernel) (cgr_5_0 (show jw_fld 6 9 3 = some 0 by decide +kernel)) ?_
        refine jr_1 jm_97 (show jw_cd cd_97 42 = some (.bipush 58) by decide +kernel) (mt_bi (by decide)) ?_
        refine jr_c jm_97 (show jw_cd cd_97 44 = some (.invokevirtual 59) by decide +kernel) (ccv (n := 1) (m2 := 96) (ci := 1) (a := 1) (bs := [.int (Int32.ofInt (58))]) (r := []) (js_cls cl_c1 (by decide)) (show jw_find jw_cvT 6 59 = some (1, [(1, 96)]) by decide +kernel) (by decide) rfl rfl rfl) jm_96 ⟨Nat.le_of_ble_eq_true rfl, by decide⟩ (jc_mustF hl2 hP2 (by rw [tC_eq ht h02 (by decide)]; omega) ⟨by decide, by decide⟩) ?_
        exact hr
      · rw [hsn] at hh
        injection hh with hh
        rw [← hh]
        exact cP_w hP2 h02 (by have := ht.2.1; have := hP2.2.2.2.2; omega)
