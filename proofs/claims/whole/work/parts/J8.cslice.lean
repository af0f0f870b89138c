/-! ===== the class: readIndexOrSlice (printed by program: gen110.py) ===== -/
theorem sNum_no {T : Int → Int} {n p : Int} (h : ¬ pN (tH T n p) = true) : sNum T n p = .inl p := by
  have h45 : ¬ tH T n p = 45 := fun e => h (by rw [e]; decide)
  have hd : ¬ pD (tH T n p) = true := fun e => h (by
    unfold pN
    unfold pD at e
    simp only [decide_eq_true_eq, Bool.or_eq_true, Bool.and_eq_true] at e ⊢
    omega)
  have e0 : spn pD T n 7 p = [] := spn_f hd
  unfold sNum
  rw [if_neg h45, if_pos (by rw [e0]; rfl)]
theorem jm_151 : jw_M 151 = some (7, 8, ((Option.some (Jvm.ClassFile.FieldType.object "PickDesk$Step")), false), jw_cd cd_151, fun _ _ => none) := rfl
theorem jm_153 : jw_M 153 = some (7, 3, ((Option.some Jvm.ClassFile.FieldType.int), false), jw_cd cd_153, fun _ _ => none) := rfl
theorem jc_slStep {β : Bool} {d : Nat} {h : jx_H} {κ : mS} (hl : 50 ≤ h.length) {T : Int → Int} {n p : Int} (hP : cP κ T n p) (hpN : pN (tH T n p) = true) : ∃ (κ' : mS) (x : Int), jx_r (jz β) jw_M (d + 2) 153 (0, [some (.ref 6), none, none], [], (cl_mk h κ)) (cl_mk h (κ'), .inl (some (.int (Int32.ofInt (x))))) ∧ mr x ∧ mEq [4, 5] κ κ' ∧ (∀ a q, sOpt T n p true = .inr (a, q) → a = some x ∧ cP κ' T n q) ∧ (∀ e, sOpt T n p true = .inl e → cE κ' T n e) := by
  obtain ⟨κ1, x, r1, x1, m1, n1, n2⟩ := jc_numU (β := β) (d := d) hl hP
  have hp0 := hP.2.2.2.1
  have hpn := hP.2.2.2.2
  have hn160 := hP.1.2.2.2.1
  have x1a := x1.1
  have x1b := x1.2
  cases hs : sNum T n p with
  | inl e =>
    have e0 : sOpt T n p true = .inl e := by unfold sOpt; rw [if_pos hpN, hs]
    have hE := n2 e hs
    have hW := hE.2.1
    refine ⟨κ1, x, ?_, x1, m1, fun a q hh => (by rw [e0] at hh; cases hh), fun e' hh => by rw [e0] at hh; injection hh with hh; rw [← hh]; exact hE⟩
    by_cases h0 : x = 0
    · refine jr_1 jm_153 (show jw_cd cd_153 0 = some (.aload_n 0) by decide +kernel) rfl ?_
      refine jr_1 jm_153 (show jw_cd cd_153 1 = some (.getfield 9) by decide +kernel) (cgr_6_0 (show jw_fld 7 9 4 = some 0 by decide +kernel)) ?_
      refine jr_1 jm_153 (show jw_cd cd_153 4 = some (.getfield 74) by decide +kernel) (cg_4 (e := p) hP.2.1 (show jw_fld 7 74 1 = some 2 by decide +kernel)) ?_
      refine jr_1 jm_153 (F2 := (8, [some (.ref 6), some (.int (Int32.ofInt (p))), none], [], (cl_mk h κ))) (show jw_cd cd_153 7 = some (.istore_n 1) by decide +kernel) rfl ?_
      refine jr_1 jm_153 (show jw_cd cd_153 8 = some (.aload_n 0) by decide +kernel) rfl ?_
      refine jr_1 jm_153 (show jw_cd cd_153 9 = some (.getfield 9) by decide +kernel) (cgr_6_0 (show jw_fld 7 9 4 = some 0 by decide +kernel)) ?_
      refine jr_c jm_153 (show jw_cd cd_153 12 = some (.invokevirtual 120) by decide +kernel) (ccv (n := 0) (m2 := 60) (ci := 1) (a := 1) (bs := []) (r := []) (js_cls cl_c1 (by decide)) (show jw_find jw_cvT 7 120 = some (0, [(1, 60)]) by decide +kernel) (by decide) rfl rfl rfl) jm_60 ⟨Nat.le_of_ble_eq_true rfl, by decide⟩ r1 ?_
      refine jr_1 jm_153 (F2 := (16, [some (.ref 6), some (.int (Int32.ofInt (p))), some (.int (Int32.ofInt (x)))], [], (cl_mk h κ1))) (show jw_cd cd_153 15 = some (.istore_n 2) by decide +kernel) rfl ?_
      refine jr_1 jm_153 (show jw_cd cd_153 16 = some (.iload_n 2) by decide +kernel) rfl ?_
      refine jr_1 jm_153 (show jw_cd cd_153 17 = some (.ifCond .ne 11) by decide +kernel) (mz_f (q := .ne) (a := x) (by show ¬ (¬ (x = 0)); omega) ⟨by omega, by omega⟩ (by decide)) ?_
      refine jr_1 jm_153 (show jw_cd cd_153 20 = some (.aload_n 0) by decide +kernel) rfl ?_
      refine jr_1 jm_153 (show jw_cd cd_153 21 = some (.getfield 9) by decide +kernel) (cgr_6_0 (show jw_fld 7 9 4 = some 0 by decide +kernel)) ?_
      refine jr_1 jm_153 (show jw_cd cd_153 24 = some (.iload_n 1) by decide +kernel) rfl ?_
      refine jr_c jm_153 (show jw_cd cd_153 25 = some (.invokevirtual 70) by decide +kernel) (ccv (n := 1) (m2 := 62) (ci := 1) (a := 1) (bs := [.int (Int32.ofInt (p))]) (r := []) (js_cls cl_c1 (by decide)) (show jw_find jw_cvT 7 70 = some (1, [(1, 62)]) by decide +kernel) (by decide) rfl rfl rfl) jm_62 ⟨Nat.le_of_ble_eq_true rfl, by decide⟩ (jc_wrongW hl hW) ?_
      refine jr_1 jm_153 (show jw_cd cd_153 28 = some (.iload_n 2) by decide +kernel) rfl ?_
      exact jr_v jm_153 (show jw_cd cd_153 29 = some (.ireturn) by decide +kernel) rfl
    · refine jr_1 jm_153 (show jw_cd cd_153 0 = some (.aload_n 0) by decide +kernel) rfl ?_
      refine jr_1 jm_153 (show jw_cd cd_153 1 = some (.getfield 9) by decide +kernel) (cgr_6_0 (show jw_fld 7 9 4 = some 0 by decide +kernel)) ?_
      refine jr_1 jm_153 (show jw_cd cd_153 4 = some (.getfield 74) by decide +kernel) (cg_4 (e := p) hP.2.1 (show jw_fld 7 74 1 = some 2 by decide +kernel)) ?_
      refine jr_1 jm_153 (F2 := (8, [some (.ref 6), some (.int (Int32.ofInt (p))), none], [], (cl_mk h κ))) (show jw_cd cd_153 7 = some (.istore_n 1) by decide +kernel) rfl ?_
      refine jr_1 jm_153 (show jw_cd cd_153 8 = some (.aload_n 0) by decide +kernel) rfl ?_
      refine jr_1 jm_153 (show jw_cd cd_153 9 = some (.getfield 9) by decide +kernel) (cgr_6_0 (show jw_fld 7 9 4 = some 0 by decide +kernel)) ?_
      refine jr_c jm_153 (show jw_cd cd_153 12 = some (.invokevirtual 120) by decide +kernel) (ccv (n := 0) (m2 := 60) (ci := 1) (a := 1) (bs := []) (r := []) (js_cls cl_c1 (by decide)) (show jw_find jw_cvT 7 120 = some (0, [(1, 60)]) by decide +kernel) (by decide) rfl rfl rfl) jm_60 ⟨Nat.le_of_ble_eq_true rfl, by decide⟩ r1 ?_
      refine jr_1 jm_153 (F2 := (16, [some (.ref 6), some (.int (Int32.ofInt (p))), some (.int (Int32.ofInt (x)))], [], (cl_mk h κ1))) (show jw_cd cd_153 15 = some (.istore_n 2) by decide +kernel) rfl ?_
      refine jr_1 jm_153 (show jw_cd cd_153 16 = some (.iload_n 2) by decide +kernel) rfl ?_
      refine jr_1 jm_153 (show jw_cd cd_153 17 = some (.ifCond .ne 11) by decide +kernel) (mz_t (q := .ne) (a := x) (t := 28) (by show ¬ (x = 0); omega) ⟨by omega, by omega⟩ (by decide) (by decide)) ?_
      refine jr_1 jm_153 (show jw_cd cd_153 28 = some (.iload_n 2) by decide +kernel) rfl ?_
      exact jr_v jm_153 (show jw_cd cd_153 29 = some (.ireturn) by decide +kernel) rfl
  | inr y =>
    obtain ⟨x', q⟩ := y
    obtain ⟨y1, hP1⟩ := n1 x' q hs
    by_cases h0 : x = 0
    · have e0 : sOpt T n p true = .inl p := by unfold sOpt; rw [if_pos hpN, hs]; exact if_pos ⟨rfl, by omega⟩
      refine ⟨su κ1 5 0 p, x, ?_, x1, mEq_su m1 (by decide), fun a q hh => (by rw [e0] at hh; cases hh), fun e' hh => by rw [e0] at hh; injection hh with hh; rw [← hh]; exact cP_w hP1 (by omega) (by omega)⟩
      refine jr_1 jm_153 (show jw_cd cd_153 0 = some (.aload_n 0) by decide +kernel) rfl ?_
      refine jr_1 jm_153 (show jw_cd cd_153 1 = some (.getfield 9) by decide +kernel) (cgr_6_0 (show jw_fld 7 9 4 = some 0 by decide +kernel)) ?_
      refine jr_1 jm_153 (show jw_cd cd_153 4 = some (.getfield 74) by decide +kernel) (cg_4 (e := p) hP.2.1 (show jw_fld 7 74 1 = some 2 by decide +kernel)) ?_
      refine jr_1 jm_153 (F2 := (8, [some (.ref 6), some (.int (Int32.ofInt (p))), none], [], (cl_mk h κ))) (show jw_cd cd_153 7 = some (.istore_n 1) by decide +kernel) rfl ?_
      refine jr_1 jm_153 (show jw_cd cd_153 8 = some (.aload_n 0) by decide +kernel) rfl ?_
      refine jr_1 jm_153 (show jw_cd cd_153 9 = some (.getfield 9) by decide +kernel) (cgr_6_0 (show jw_fld 7 9 4 = some 0 by decide +kernel)) ?_
      refine jr_c jm_153 (show jw_cd cd_153 12 = some (.invokevirtual 120) by decide +kernel) (ccv (n := 0) (m2 := 60) (ci := 1) (a := 1) (bs := []) (r := []) (js_cls cl_c1 (by decide)) (show jw_find jw_cvT 7 120 = some (0, [(1, 60)]) by decide +kernel) (by decide) rfl rfl rfl) jm_60 ⟨Nat.le_of_ble_eq_true rfl, by decide⟩ r1 ?_
      refine jr_1 jm_153 (F2 := (16, [some (.ref 6), some (.int (Int32.ofInt (p))), some (.int (Int32.ofInt (x)))], [], (cl_mk h κ1))) (show jw_cd cd_153 15 = some (.istore_n 2) by decide +kernel) rfl ?_
      refine jr_1 jm_153 (show jw_cd cd_153 16 = some (.iload_n 2) by decide +kernel) rfl ?_
      refine jr_1 jm_153 (show jw_cd cd_153 17 = some (.ifCond .ne 11) by decide +kernel) (mz_f (q := .ne) (a := x) (by show ¬ (¬ (x = 0)); omega) ⟨by omega, by omega⟩ (by decide)) ?_
      refine jr_1 jm_153 (show jw_cd cd_153 20 = some (.aload_n 0) by decide +kernel) rfl ?_
      refine jr_1 jm_153 (show jw_cd cd_153 21 = some (.getfield 9) by decide +kernel) (cgr_6_0 (show jw_fld 7 9 4 = some 0 by decide +kernel)) ?_
      refine jr_1 jm_153 (show jw_cd cd_153 24 = some (.iload_n 1) by decide +kernel) rfl ?_
      refine jr_c jm_153 (show jw_cd cd_153 25 = some (.invokevirtual 70) by decide +kernel) (ccv (n := 1) (m2 := 62) (ci := 1) (a := 1) (bs := [.int (Int32.ofInt (p))]) (r := []) (js_cls cl_c1 (by decide)) (show jw_find jw_cvT 7 70 = some (1, [(1, 62)]) by decide +kernel) (by decide) rfl rfl rfl) jm_62 ⟨Nat.le_of_ble_eq_true rfl, by decide⟩ (jc_wrongAt hl hP1) ?_
      refine jr_1 jm_153 (show jw_cd cd_153 28 = some (.iload_n 2) by decide +kernel) rfl ?_
      exact jr_v jm_153 (show jw_cd cd_153 29 = some (.ireturn) by decide +kernel) rfl
    · have e0 : sOpt T n p true = .inr (some x', q) := by unfold sOpt; rw [if_pos hpN, hs]; exact if_neg (fun z => h0 (by omega))
      refine ⟨κ1, x, ?_, x1, m1, fun a q' hh => by rw [e0] at hh; injection hh with hh; injection hh with z1 z2; rw [← z1, ← z2]; exact ⟨by rw [y1], hP1⟩, fun e' hh => (by rw [e0] at hh; cases hh)⟩
      refine jr_1 jm_153 (show jw_cd cd_153 0 = some (.aload_n 0) by decide +kernel) rfl ?_
      refine jr_1 jm_153 (show jw_cd cd_153 1 = some (.getfield 9) by decide +kernel) (cgr_6_0 (show jw_fld 7 9 4 = some 0 by decide +kernel)) ?_
      refine jr_1 jm_153 (show jw_cd cd_153 4 = some (.getfield 74) by decide +kernel) (cg_4 (e := p) hP.2.1 (show jw_fld 7 74 1 = some 2 by decide +kernel)) ?_
      refine jr_1 jm_153 (F2 := (8, [some (.ref 6), some (.int (Int32.ofInt (p))), none], [], (cl_mk h κ))) (show jw_cd cd_153 7 = some (.istore_n 1) by decide +kernel) rfl ?_
      refine jr_1 jm_153 (show jw_cd cd_153 8 = some (.aload_n 0) by decide +kernel) rfl ?_
      refine jr_1 jm_153 (show jw_cd cd_153 9 = some (.getfield 9) by decide +kernel) (cgr_6_0 (show jw_fld 7 9 4 = some 0 by decide +kernel)) ?_
      refine jr_c jm_153 (show jw_cd cd_153 12 = some (.invokevirtual 120) by decide +kernel) (ccv (n := 0) (m2 := 60) (ci := 1) (a := 1) (bs := []) (r := []) (js_cls cl_c1 (by decide)) (show jw_find jw_cvT 7 120 = some (0, [(1, 60)]) by decide +kernel) (by decide) rfl rfl rfl) jm_60 ⟨Nat.le_of_ble_eq_true rfl, by decide⟩ r1 ?_
      refine jr_1 jm_153 (F2 := (16, [some (.ref 6), some (.int (Int32.ofInt (p))), some (.int (Int32.ofInt (x)))], [], (cl_mk h κ1))) (show jw_cd cd_153 15 = some (.istore_n 2) by decide +kernel) rfl ?_
      refine jr_1 jm_153 (show jw_cd cd_153 16 = some (.iload_n 2) by decide +kernel) rfl ?_
      refine jr_1 jm_153 (show jw_cd cd_153 17 = some (.ifCond .ne 11) by decide +kernel) (mz_t (q := .ne) (a := x) (t := 28) (by show ¬ (x = 0); omega) ⟨by omega, by omega⟩ (by decide) (by decide)) ?_
      refine jr_1 jm_153 (show jw_cd cd_153 28 = some (.iload_n 2) by decide +kernel) rfl ?_
      exact jr_v jm_153 (show jw_cd cd_153 29 = some (.ireturn) by decide +kernel) rfl
theorem jc_ix1 {β : Bool} {d : Nat} {h : jx_H} {κ : mS} (hl : 50 ≤ h.length) {T : Int → Int} {n p : Int} (hP : cP κ T n p) : ∃ (κ1 : mS) (fs x : Int), (∀ res, jx_r (jz β) jw_M (d + 2) 151 (34, [some (.ref 6), some (.int (Int32.ofInt (fs))), some (.int (Int32.ofInt (x))), none, none, none, none, none], [], (cl_mk h κ1)) res → jx_r (jz β) jw_M (d + 2) 151 (0, [some (.ref 6), none, none, none, none, none, none, none], [], (cl_mk h κ)) res) ∧ (fs = 0 ∨ fs = 1) ∧ mr x ∧ mEq [4, 5] κ κ1 ∧ (∀ a q, sOpt T n p false = .inr (a, q) → (a = none → ¬ tH T n q = 58 → cE κ1 T n q) ∧ (a = none → tH T n q = 58 → fs = 0 ∧ cP κ1 T n q) ∧ (∀ y, a = some y → fs = 1 ∧ x = y ∧ cP κ1 T n q)) ∧ (∀ e, sOpt T n p false = .inl e → cE κ1 T n e) := by
  have ht := hP.1.2.2
  have hp0 := hP.2.2.2.1
  have hpn := hP.2.2.2.2
  have hr0 : 0 ≤ tC T n p ∧ tC T n p ≤ 126 := (tC_H ht hp0).2.2
  by_cases h58 : tH T n p = 58
  · have hpN : ¬ pN (tH T n p) = true := by rw [h58]; decide
    have e0 : sOpt T n p false = .inr (none, p) := if_neg hpN
    refine ⟨κ, 0, 0, fun res kk => ?_, Or.inl rfl, ⟨by decide, by decide⟩, mEq_refl _ _, fun a q hh => ?_, fun e hh => (by rw [e0] at hh; cases hh)⟩
    rotate_left
    · rw [e0] at hh
      injection hh with hh
      injection hh with z1 z2
      rw [← z1, ← z2]
      exact ⟨fun _ z => absurd h58 z, fun _ _ => ⟨rfl, hP⟩, fun y hy => (by cases hy)⟩
    refine jr_1 jm_151 (show jw_cd cd_151 0 = some (.aload_n 0) by decide +kernel) rfl ?_
    refine jr_1 jm_151 (show jw_cd cd_151 1 = some (.getfield 9) by decide +kernel) (cgr_6_0 (show jw_fld 7 9 4 = some 0 by decide +kernel)) ?_
    refine jr_c jm_151 (show jw_cd cd_151 4 = some (.invokevirtual 45) by decide +kernel) (ccv (n := 0) (m2 := 58) (ci := 1) (a := 1) (bs := []) (r := []) (js_cls cl_c1 (by decide)) (show jw_find jw_cvT 7 45 = some (0, [(1, 58)]) by decide +kernel) (by decide) rfl rfl rfl) jm_58 ⟨Nat.le_of_ble_eq_true rfl, by decide⟩ (jc_here hl hP) ?_
    refine jr_1 jm_151 (show jw_cd cd_151 7 = some (.bipush 58) by decide +kernel) (mt_bi (by decide)) ?_
    refine jr_1 jm_151 (show jw_cd cd_151 9 = some (.if_icmp .eq 7) by decide +kernel) (mb_t (q := .eq) (a := tC T n p) (b := 58) (t := 16) (by show tC T n p = 58; exact ((tC_eq hP.1.2.2 hP.2.2.2.1 (by decide)).mpr h58)) ⟨by omega, by omega⟩ ⟨by omega, by omega⟩ (by decide) (by decide)) ?_
    refine jr_1 jm_151 (show jw_cd cd_151 16 = some (.iconst 0) by decide +kernel) rfl ?_
    refine jr_1 jm_151 (F2 := (18, [some (.ref 6), some (.int (Int32.ofInt (0))), none, none, none, none, none, none], [], (cl_mk h κ))) (show jw_cd cd_151 17 = some (.istore_n 1) by decide +kernel) rfl ?_
    refine jr_1 jm_151 (show jw_cd cd_151 18 = some (.iload_n 1) by decide +kernel) rfl ?_
    refine jr_1 jm_151 (show jw_cd cd_151 19 = some (.ifCond .eq 13) by decide +kernel) (mz_t (q := .eq) (a := 0) (t := 32) (by show 0 = 0; omega) ⟨by omega, by omega⟩ (by decide) (by decide)) ?_
    refine jr_1 jm_151 (show jw_cd cd_151 32 = some (.iconst 0) by decide +kernel) rfl ?_
    refine jr_1 jm_151 (F2 := (34, [some (.ref 6), some (.int (Int32.ofInt (0))), some (.int (Int32.ofInt (0))), none, none, none, none, none], [], (cl_mk h κ))) (show jw_cd cd_151 33 = some (.istore_n 2) by decide +kernel) rfl ?_
    exact kk
  · obtain ⟨κ1, x, r1, x1, m1, n1, n2⟩ := jc_numU (β := β) (d := d) hl hP
    refine ⟨κ1, 1, x, fun res kk => ?_, Or.inr rfl, x1, m1, fun a q hh => ?_, fun e hh => ?_⟩
    rotate_left
    · by_cases hpN : pN (tH T n p) = true
      · cases hs : sNum T n p with
        | inl e => rw [show sOpt T n p false = .inl e by unfold sOpt; rw [if_pos hpN, hs]] at hh; cases hh
        | inr y =>
          obtain ⟨x', q'⟩ := y
          rw [show sOpt T n p false = .inr (some x', q') by unfold sOpt; rw [if_pos hpN, hs]; exact if_neg (fun z => by cases z.1)] at hh
          injection hh with hh
          injection hh with z1 z2
          rw [← z1, ← z2]
          obtain ⟨y1, y2⟩ := n1 x' q' hs
          exact ⟨fun z => (by cases z), fun z => (by cases z), fun y hy => by injection hy with hy; exact ⟨rfl, by rw [y1, hy], y2⟩⟩
      · rw [show sOpt T n p false = .inr (none, p) from if_neg hpN] at hh
        injection hh with hh
        injection hh with z1 z2
        rw [← z1, ← z2]
        have hs : sNum T n p = .inl p := sNum_no hpN
        exact ⟨fun _ _ => n2 p hs, fun _ z => absurd z h58, fun y hy => (by cases hy)⟩
    · by_cases hpN : pN (tH T n p) = true
      · cases hs : sNum T n p with
        | inl e' =>
          rw [show sOpt T n p false = .inl e' by unfold sOpt; rw [if_pos hpN, hs]] at hh
          injection hh with hh
          rw [← hh]
          exact n2 e' hs
        | inr y =>
          obtain ⟨x', q'⟩ := y
          rw [show sOpt T n p false = .inr (some x', q') by unfold sOpt; rw [if_pos hpN, hs]; exact if_neg (fun z => by cases z.1)] at hh
          cases hh
      · rw [show sOpt T n p false = .inr (none, p) from if_neg hpN] at hh
        cases hh
    refine jr_1 jm_151 (show jw_cd cd_151 0 = some (.aload_n 0) by decide +kernel) rfl ?_
    refine jr_1 jm_151 (show jw_cd cd_151 1 = some (.getfield 9) by decide +kernel) (cgr_6_0 (show jw_fld 7 9 4 = some 0 by decide +kernel)) ?_
    refine jr_c jm_151 (show jw_cd cd_151 4 = some (.invokevirtual 45) by decide +kernel) (ccv (n := 0) (m2 := 58) (ci := 1) (a := 1) (bs := []) (r := []) (js_cls cl_c1 (by decide)) (show jw_find jw_cvT 7 45 = some (0, [(1, 58)]) by decide +kernel) (by decide) rfl rfl rfl) jm_58 ⟨Nat.le_of_ble_eq_true rfl, by decide⟩ (jc_here hl hP) ?_
    refine jr_1 jm_151 (show jw_cd cd_151 7 = some (.bipush 58) by decide +kernel) (mt_bi (by decide)) ?_
    refine jr_1 jm_151 (show jw_cd cd_151 9 = some (.if_icmp .eq 7) by decide +kernel) (mb_f (q := .eq) (a := tC T n p) (b := 58) (by show ¬ (tC T n p = 58); exact (fun e => h58 ((tC_eq hP.1.2.2 hP.2.2.2.1 (by decide)).mp e))) ⟨by omega, by omega⟩ ⟨by omega, by omega⟩ (by decide)) ?_
    refine jr_1 jm_151 (show jw_cd cd_151 12 = some (.iconst 1) by decide +kernel) rfl ?_
    refine jr_1 jm_151 (show jw_cd cd_151 13 = some (.goto 4) by decide +kernel) (ju_go (t := 17) (by decide)) ?_
    refine jr_1 jm_151 (F2 := (18, [some (.ref 6), some (.int (Int32.ofInt (1))), none, none, none, none, none, none], [], (cl_mk h κ))) (show jw_cd cd_151 17 = some (.istore_n 1) by decide +kernel) rfl ?_
    refine jr_1 jm_151 (show jw_cd cd_151 18 = some (.iload_n 1) by decide +kernel) rfl ?_
    refine jr_1 jm_151 (show jw_cd cd_151 19 = some (.ifCond .eq 13) by decide +kernel) (mz_f (q := .eq) (a := 1) (by show ¬ (1 = 0); omega) ⟨by omega, by omega⟩ (by decide)) ?_
    refine jr_1 jm_151 (show jw_cd cd_151 22 = some (.aload_n 0) by decide +kernel) rfl ?_
    refine jr_1 jm_151 (show jw_cd cd_151 23 = some (.getfield 9) by decide +kernel) (cgr_6_0 (show jw_fld 7 9 4 = some 0 by decide +kernel)) ?_
    refine jr_c jm_151 (show jw_cd cd_151 26 = some (.invokevirtual 120) by decide +kernel) (ccv (n := 0) (m2 := 60) (ci := 1) (a := 1) (bs := []) (r := []) (js_cls cl_c1 (by decide)) (show jw_find jw_cvT 7 120 = some (0, [(1, 60)]) by decide +kernel) (by decide) rfl rfl rfl) jm_60 ⟨Nat.le_of_ble_eq_true rfl, by decide⟩ r1 ?_
    refine jr_1 jm_151 (show jw_cd cd_151 29 = some (.goto 4) by decide +kernel) (ju_go (t := 33) (by decide)) ?_
    refine jr_1 jm_151 (F2 := (34, [some (.ref 6), some (.int (Int32.ofInt (1))), some (.int (Int32.ofInt (x))), none, none, none, none, none], [], (cl_mk h κ1))) (show jw_cd cd_151 33 = some (.istore_n 2) by decide +kernel) rfl ?_
    exact kk
theorem jc_ix2 {β : Bool} {d : Nat} {h : jx_H} {κ : mS} (hl : 50 ≤ h.length) {T : Int → Int} {n p fs x : Int} (hP : cP κ T n p) : ∃ (κ1 : mS) (es y : Int), (∀ res, jx_r (jz β) jw_M (d + 2) 151 (79, [some (.ref 6), some (.int (Int32.ofInt (fs))), some (.int (Int32.ofInt (x))), some (.int (Int32.ofInt (es))), some (.int (Int32.ofInt (y))), none, none, none], [], (cl_mk h κ1)) res → jx_r (jz β) jw_M (d + 2) 151 (51, [some (.ref 6), some (.int (Int32.ofInt (fs))), some (.int (Int32.ofInt (x))), none, none, none, none, none], [], (cl_mk h κ)) res) ∧ (es = 0 ∨ es = 1) ∧ mr y ∧ mEq [4, 5] κ κ1 ∧ (∀ a q, sOpt T n p false = .inr (a, q) → cP κ1 T n q ∧ (a = none → es = 0) ∧ (∀ z, a = some z → es = 1 ∧ y = z)) ∧ (∀ e, sOpt T n p false = .inl e → cE κ1 T n e) := by
  have ht := hP.1.2.2
  have hp0 := hP.2.2.2.1
  have hr0 : 0 ≤ tC T n p ∧ tC T n p ≤ 126 := (tC_H ht hp0).2.2
  have ep := pN_C ht hp0
  by_cases hpN : pN (tH T n p) = true
  · have hpC : pN (tC T n p) = true := ep.trans hpN
    obtain ⟨κ1, y, r1, x1, m1, n1, n2⟩ := jc_numU (β := β) (d := d) hl hP
    refine ⟨κ1, 1, y, fun res kk => ?_, Or.inr rfl, x1, m1, fun a q hh => ?_, fun e hh => ?_⟩
    rotate_left
    · cases hs : sNum T n p with
      | inl e => rw [show sOpt T n p false = .inl e by unfold sOpt; rw [if_pos hpN, hs]] at hh; cases hh
      | inr y' =>
        obtain ⟨x', q'⟩ := y'
        rw [show sOpt T n p false = .inr (some x', q') by unfold sOpt; rw [if_pos hpN, hs]; exact if_neg (fun z => by cases z.1)] at hh
        injection hh with hh
        injection hh with z1 z2
        rw [← z1, ← z2]
        obtain ⟨y1, y2⟩ := n1 x' q' hs
        exact ⟨y2, fun z => (by cases z), fun z hz => by injection hz with hz; exact ⟨rfl, by rw [y1, hz]⟩⟩
    · cases hs : sNum T n p with
      | inl e' =>
        rw [show sOpt T n p false = .inl e' by unfold sOpt; rw [if_pos hpN, hs]] at hh
        injection hh with hh
        rw [← hh]
        exact n2 e' hs
      | inr y' =>
        obtain ⟨x', q'⟩ := y'
        rw [show sOpt T n p false = .inr (some x', q') by unfold sOpt; rw [if_pos hpN, hs]; exact if_neg (fun z => by cases z.1)] at hh
        cases hh
    refine jr_1 jm_151 (show jw_cd cd_151 51 = some (.aload_n 0) by decide +kernel) rfl ?_
    refine jr_1 jm_151 (show jw_cd cd_151 52 = some (.getfield 9) by decide +kernel) (cgr_6_0 (show jw_fld 7 9 4 = some 0 by decide +kernel)) ?_
    refine jr_c jm_151 (show jw_cd cd_151 55 = some (.invokevirtual 45) by decide +kernel) (ccv (n := 0) (m2 := 58) (ci := 1) (a := 1) (bs := []) (r := []) (js_cls cl_c1 (by decide)) (show jw_find jw_cvT 7 45 = some (0, [(1, 58)]) by decide +kernel) (by decide) rfl rfl rfl) jm_58 ⟨Nat.le_of_ble_eq_true rfl, by decide⟩ (jc_here hl hP) ?_
    refine jr_c jm_151 (show jw_cd cd_151 58 = some (.invokestatic 127) by decide +kernel) (mc_s (n := 1) (m2 := 59) (bs := [.int (Int32.ofInt (tC T n p))]) (r := []) (by decide) (show jw_find jw_csT 7 127 = some (59, 1) by decide +kernel) rfl rfl rfl) jm_59 ⟨Nat.le_of_ble_eq_true rfl, by decide⟩ (jc_sN_t hl hr0 hpC) ?_
    refine jr_1 jm_151 (F2 := (62, [some (.ref 6), some (.int (Int32.ofInt (fs))), some (.int (Int32.ofInt (x))), some (.int (Int32.ofInt (1))), none, none, none, none], [], (cl_mk h κ))) (show jw_cd cd_151 61 = some (.istore_n 3) by decide +kernel) rfl ?_
    refine jr_1 jm_151 (show jw_cd cd_151 62 = some (.iload_n 3) by decide +kernel) rfl ?_
    refine jr_1 jm_151 (show jw_cd cd_151 63 = some (.ifCond .eq 13) by decide +kernel) (mz_f (q := .eq) (a := 1) (by show ¬ (1 = 0); omega) ⟨by omega, by omega⟩ (by decide)) ?_
    refine jr_1 jm_151 (show jw_cd cd_151 66 = some (.aload_n 0) by decide +kernel) rfl ?_
    refine jr_1 jm_151 (show jw_cd cd_151 67 = some (.getfield 9) by decide +kernel) (cgr_6_0 (show jw_fld 7 9 4 = some 0 by decide +kernel)) ?_
    refine jr_c jm_151 (show jw_cd cd_151 70 = some (.invokevirtual 120) by decide +kernel) (ccv (n := 0) (m2 := 60) (ci := 1) (a := 1) (bs := []) (r := []) (js_cls cl_c1 (by decide)) (show jw_find jw_cvT 7 120 = some (0, [(1, 60)]) by decide +kernel) (by decide) rfl rfl rfl) jm_60 ⟨Nat.le_of_ble_eq_true rfl, by decide⟩ r1 ?_
    refine jr_1 jm_151 (show jw_cd cd_151 73 = some (.goto 4) by decide +kernel) (ju_go (t := 77) (by decide)) ?_
    refine jr_1 jm_151 (F2 := (79, [some (.ref 6), some (.int (Int32.ofInt (fs))), some (.int (Int32.ofInt (x))), some (.int (Int32.ofInt (1))), some (.int (Int32.ofInt (y))), none, none, none], [], (cl_mk h κ1))) (show jw_cd cd_151 77 = some (.istore 4) by decide +kernel) rfl ?_
    exact kk
  · have hpC : ¬ pN (tC T n p) = true := by rw [ep]; exact hpN
    have e0 : sOpt T n p false = .inr (none, p) := if_neg hpN
    refine ⟨κ, 0, 0, fun res kk => ?_, Or.inl rfl, ⟨by decide, by decide⟩, mEq_refl _ _, fun a q hh => ?_, fun e hh => (by rw [e0] at hh; cases hh)⟩
    rotate_left
    · rw [e0] at hh
      injection hh with hh
      injection hh with z1 z2
      rw [← z1, ← z2]
      exact ⟨hP, fun _ => rfl, fun z hz => (by cases hz)⟩
    refine jr_1 jm_151 (show jw_cd cd_151 51 = some (.aload_n 0) by decide +kernel) rfl ?_
    refine jr_1 jm_151 (show jw_cd cd_151 52 = some (.getfield 9) by decide +kernel) (cgr_6_0 (show jw_fld 7 9 4 = some 0 by decide +kernel)) ?_
    refine jr_c jm_151 (show jw_cd cd_151 55 = some (.invokevirtual 45) by decide +kernel) (ccv (n := 0) (m2 := 58) (ci := 1) (a := 1) (bs := []) (r := []) (js_cls cl_c1 (by decide)) (show jw_find jw_cvT 7 45 = some (0, [(1, 58)]) by decide +kernel) (by decide) rfl rfl rfl) jm_58 ⟨Nat.le_of_ble_eq_true rfl, by decide⟩ (jc_here hl hP) ?_
    refine jr_c jm_151 (show jw_cd cd_151 58 = some (.invokestatic 127) by decide +kernel) (mc_s (n := 1) (m2 := 59) (bs := [.int (Int32.ofInt (tC T n p))]) (r := []) (by decide) (show jw_find jw_csT 7 127 = some (59, 1) by decide +kernel) rfl rfl rfl) jm_59 ⟨Nat.le_of_ble_eq_true rfl, by decide⟩ (jc_sN_f hl hr0 hpC) ?_
    refine jr_1 jm_151 (F2 := (62, [some (.ref 6), some (.int (Int32.ofInt (fs))), some (.int (Int32.ofInt (x))), some (.int (Int32.ofInt (0))), none, none, none, none], [], (cl_mk h κ))) (show jw_cd cd_151 61 = some (.istore_n 3) by decide +kernel) rfl ?_
    refine jr_1 jm_151 (show jw_cd cd_151 62 = some (.iload_n 3) by decide +kernel) rfl ?_
    refine jr_1 jm_151 (show jw_cd cd_151 63 = some (.ifCond .eq 13) by decide +kernel) (mz_t (q := .eq) (a := 0) (t := 76) (by show 0 = 0; omega) ⟨by omega, by omega⟩ (by decide) (by decide)) ?_
    refine jr_1 jm_151 (show jw_cd cd_151 76 = some (.iconst 0) by decide +kernel) rfl ?_
    refine jr_1 jm_151 (F2 := (79, [some (.ref 6), some (.int (Int32.ofInt (fs))), some (.int (Int32.ofInt (x))), some (.int (Int32.ofInt (0))), some (.int (Int32.ofInt (0))), none, none, none], [], (cl_mk h κ))) (show jw_cd cd_151 77 = some (.istore 4) by decide +kernel) rfl ?_
    exact kk
theorem jc_ix3W {β : Bool} {d : Nat} {h : jx_H} {κ : mS} (hl : 50 ≤ h.length) {fs x es y e : Int} (hW : cW κ e) {res : jx_H × (Option Value ⊕ Nat)} (kk : jx_r (jz β) jw_M (d + 3) 151 (113, [some (.ref 6), some (.int (Int32.ofInt (fs))), some (.int (Int32.ofInt (x))), some (.int (Int32.ofInt (es))), some (.int (Int32.ofInt (y))), some (.int (Int32.ofInt (1))), none, none], [], (cl_mk h κ)) res) : jx_r (jz β) jw_M (d + 3) 151 (79, [some (.ref 6), some (.int (Int32.ofInt (fs))), some (.int (Int32.ofInt (x))), some (.int (Int32.ofInt (es))), some (.int (Int32.ofInt (y))), none, none, none], [], (cl_mk h κ)) res := by
  refine jr_1 jm_151 (show jw_cd cd_151 79 = some (.iconst 1) by decide +kernel) rfl ?_
  refine jr_1 jm_151 (F2 := (82, [some (.ref 6), some (.int (Int32.ofInt (fs))), some (.int (Int32.ofInt (x))), some (.int (Int32.ofInt (es))), some (.int (Int32.ofInt (y))), some (.int (Int32.ofInt (1))), none, none], [], (cl_mk h κ))) (show jw_cd cd_151 80 = some (.istore 5) by decide +kernel) rfl ?_
  refine jr_1 jm_151 (show jw_cd cd_151 82 = some (.aload_n 0) by decide +kernel) rfl ?_
  refine jr_1 jm_151 (show jw_cd cd_151 83 = some (.getfield 9) by decide +kernel) (cgr_6_0 (show jw_fld 7 9 4 = some 0 by decide +kernel)) ?_
  refine jr_1 jm_151 (show jw_cd cd_151 86 = some (.bipush 58) by decide +kernel) (mt_bi (by decide)) ?_
  refine jr_c jm_151 (show jw_cd cd_151 88 = some (.invokevirtual 36) by decide +kernel) (ccv (n := 1) (m2 := 64) (ci := 1) (a := 1) (bs := [.int (Int32.ofInt (58))]) (r := []) (js_cls cl_c1 (by decide)) (show jw_find jw_cvT 7 36 = some (1, [(1, 64)]) by decide +kernel) (by decide) rfl rfl rfl) jm_64 ⟨Nat.le_of_ble_eq_true rfl, by decide⟩ (jc_takeW hl hW (by decide)) ?_
  refine jr_1 jm_151 (show jw_cd cd_151 91 = some (.ifCond .eq 22) by decide +kernel) (mz_t (q := .eq) (a := 0) (t := 113) (by show 0 = 0; omega) ⟨by omega, by omega⟩ (by decide) (by decide)) ?_
  exact kk
theorem jc_ix3n {β : Bool} {d : Nat} {h : jx_H} {κ : mS} (hl : 50 ≤ h.length) {T : Int → Int} {n p fs x es y : Int} (hP : cP κ T n p) (h58 : ¬ tH T n p = 58) {res : jx_H × (Option Value ⊕ Nat)} (kk : jx_r (jz β) jw_M (d + 3) 151 (113, [some (.ref 6), some (.int (Int32.ofInt (fs))), some (.int (Int32.ofInt (x))), some (.int (Int32.ofInt (es))), some (.int (Int32.ofInt (y))), some (.int (Int32.ofInt (1))), none, none], [], (cl_mk h κ)) res) : jx_r (jz β) jw_M (d + 3) 151 (79, [some (.ref 6), some (.int (Int32.ofInt (fs))), some (.int (Int32.ofInt (x))), some (.int (Int32.ofInt (es))), some (.int (Int32.ofInt (y))), none, none, none], [], (cl_mk h κ)) res := by
  refine jr_1 jm_151 (show jw_cd cd_151 79 = some (.iconst 1) by decide +kernel) rfl ?_
  refine jr_1 jm_151 (F2 := (82, [some (.ref 6), some (.int (Int32.ofInt (fs))), some (.int (Int32.ofInt (x))), some (.int (Int32.ofInt (es))), some (.int (Int32.ofInt (y))), some (.int (Int32.ofInt (1))), none, none], [], (cl_mk h κ))) (show jw_cd cd_151 80 = some (.istore 5) by decide +kernel) rfl ?_
  refine jr_1 jm_151 (show jw_cd cd_151 82 = some (.aload_n 0) by decide +kernel) rfl ?_
  refine jr_1 jm_151 (show jw_cd cd_151 83 = some (.getfield 9) by decide +kernel) (cgr_6_0 (show jw_fld 7 9 4 = some 0 by decide +kernel)) ?_
  refine jr_1 jm_151 (show jw_cd cd_151 86 = some (.bipush 58) by decide +kernel) (mt_bi (by decide)) ?_
  refine jr_c jm_151 (show jw_cd cd_151 88 = some (.invokevirtual 36) by decide +kernel) (ccv (n := 1) (m2 := 64) (ci := 1) (a := 1) (bs := [.int (Int32.ofInt (58))]) (r := []) (js_cls cl_c1 (by decide)) (show jw_find jw_cvT 7 36 = some (1, [(1, 64)]) by decide +kernel) (by decide) rfl rfl rfl) jm_64 ⟨Nat.le_of_ble_eq_true rfl, by decide⟩ (jc_takeF hl hP (fun e => h58 ((tC_eq hP.1.2.2 hP.2.2.2.1 (by decide)).mp e)) (by decide)) ?_
  refine jr_1 jm_151 (show jw_cd cd_151 91 = some (.ifCond .eq 22) by decide +kernel) (mz_t (q := .eq) (a := 0) (t := 113) (by show 0 = 0; omega) ⟨by omega, by omega⟩ (by decide) (by decide)) ?_
  exact kk
theorem jc_ix3 {β : Bool} {d : Nat} {h : jx_H} {κ : mS} (hl : 50 ≤ h.length) {T : Int → Int} {n p fs x es y : Int} (hP : cP κ T n p) (h58 : tH T n p = 58) : ∃ (κ1 : mS) (by_ : Int), (∀ res, jx_r (jz β) jw_M (d + 3) 151 (113, [some (.ref 6), some (.int (Int32.ofInt (fs))), some (.int (Int32.ofInt (x))), some (.int (Int32.ofInt (es))), some (.int (Int32.ofInt (y))), some (.int (Int32.ofInt (by_))), none, none], [], (cl_mk h κ1)) res → jx_r (jz β) jw_M (d + 3) 151 (79, [some (.ref 6), some (.int (Int32.ofInt (fs))), some (.int (Int32.ofInt (x))), some (.int (Int32.ofInt (es))), some (.int (Int32.ofInt (y))), none, none, none], [], (cl_mk h κ)) res) ∧ mr by_ ∧ mEq [4, 5] κ κ1 ∧ (∀ a q, sOpt T n (p + 1) true = .inr (a, q) → cP κ1 T n q ∧ by_ = (match a with | none => 1 | some z => z)) ∧ (∀ e, sOpt T n (p + 1) true = .inl e → cE κ1 T n e) := by
  have ht := hP.1.2.2
  have hp0 := hP.2.2.2.1
  have hpn : p < n := (tH_r ht hp0).2.2.2 (by rw [h58]; decide)
  have hP1 : cP (su κ 4 0 (p + 1)) T n (p + 1) := cP_mv hP (by omega) (by omega)
  have hr0 : 0 ≤ tC T n (p + 1) ∧ tC T n (p + 1) ≤ 126 := (tC_H ht (by omega)).2.2
  have ep := pN_C (p := p + 1) ht (by omega)
  by_cases hpN : pN (tH T n (p + 1)) = true
  · have hpC : pN (tC T n (p + 1)) = true := ep.trans hpN
    obtain ⟨κ1, by_, r1, x1, m1, n1, n2⟩ := jc_slStep (β := β) (d := d) hl hP1 hpN
    refine ⟨κ1, by_, fun res kk => ?_, x1, mEq_trans (mEq_su (mEq_refl _ _) (by decide)) m1, fun a q hh => ?_, n2⟩
    rotate_left
    · obtain ⟨y1, y2⟩ := n1 a q hh
      rw [y1]
      exact ⟨y2, rfl⟩
    refine jr_1 jm_151 (show jw_cd cd_151 79 = some (.iconst 1) by decide +kernel) rfl ?_
    refine jr_1 jm_151 (F2 := (82, [some (.ref 6), some (.int (Int32.ofInt (fs))), some (.int (Int32.ofInt (x))), some (.int (Int32.ofInt (es))), some (.int (Int32.ofInt (y))), some (.int (Int32.ofInt (1))), none, none], [], (cl_mk h κ))) (show jw_cd cd_151 80 = some (.istore 5) by decide +kernel) rfl ?_
    refine jr_1 jm_151 (show jw_cd cd_151 82 = some (.aload_n 0) by decide +kernel) rfl ?_
    refine jr_1 jm_151 (show jw_cd cd_151 83 = some (.getfield 9) by decide +kernel) (cgr_6_0 (show jw_fld 7 9 4 = some 0 by decide +kernel)) ?_
    refine jr_1 jm_151 (show jw_cd cd_151 86 = some (.bipush 58) by decide +kernel) (mt_bi (by decide)) ?_
    refine jr_c jm_151 (show jw_cd cd_151 88 = some (.invokevirtual 36) by decide +kernel) (ccv (n := 1) (m2 := 64) (ci := 1) (a := 1) (bs := [.int (Int32.ofInt (58))]) (r := []) (js_cls cl_c1 (by decide)) (show jw_find jw_cvT 7 36 = some (1, [(1, 64)]) by decide +kernel) (by decide) rfl rfl rfl) jm_64 ⟨Nat.le_of_ble_eq_true rfl, by decide⟩ (jc_takeT hl hP ((tC_eq hP.1.2.2 hP.2.2.2.1 (by decide)).mpr h58) (by decide)) ?_
    refine jr_1 jm_151 (show jw_cd cd_151 91 = some (.ifCond .eq 22) by decide +kernel) (mz_f (q := .eq) (a := 1) (by show ¬ (1 = 0); omega) ⟨by omega, by omega⟩ (by decide)) ?_
    refine jr_1 jm_151 (show jw_cd cd_151 94 = some (.aload_n 0) by decide +kernel) rfl ?_
    refine jr_1 jm_151 (show jw_cd cd_151 95 = some (.getfield 9) by decide +kernel) (cgr_6_0 (show jw_fld 7 9 4 = some 0 by decide +kernel)) ?_
    refine jr_c jm_151 (show jw_cd cd_151 98 = some (.invokevirtual 45) by decide +kernel) (ccv (n := 0) (m2 := 58) (ci := 1) (a := 1) (bs := []) (r := []) (js_cls cl_c1 (by decide)) (show jw_find jw_cvT 7 45 = some (0, [(1, 58)]) by decide +kernel) (by decide) rfl rfl rfl) jm_58 ⟨Nat.le_of_ble_eq_true rfl, by decide⟩ (jc_here hl hP1) ?_
    refine jr_c jm_151 (show jw_cd cd_151 101 = some (.invokestatic 127) by decide +kernel) (mc_s (n := 1) (m2 := 59) (bs := [.int (Int32.ofInt (tC T n (p + 1)))]) (r := []) (by decide) (show jw_find jw_csT 7 127 = some (59, 1) by decide +kernel) rfl rfl rfl) jm_59 ⟨Nat.le_of_ble_eq_true rfl, by decide⟩ (jc_sN_t hl hr0 hpC) ?_
    refine jr_1 jm_151 (show jw_cd cd_151 104 = some (.ifCond .eq 9) by decide +kernel) (mz_f (q := .eq) (a := 1) (by show ¬ (1 = 0); omega) ⟨by omega, by omega⟩ (by decide)) ?_
    refine jr_1 jm_151 (show jw_cd cd_151 107 = some (.aload_n 0) by decide +kernel) rfl ?_
    refine jr_c jm_151 (show jw_cd cd_151 108 = some (.invokevirtual 130) by decide +kernel) (ccv (n := 0) (m2 := 153) (ci := 4) (a := 6) (bs := []) (r := []) (js_cls cl_c6 (by decide)) (show jw_find jw_cvT 7 130 = some (0, [(4, 153)]) by decide +kernel) (by decide) rfl rfl rfl) jm_153 ⟨Nat.le_of_ble_eq_true rfl, by decide⟩ r1 ?_
    refine jr_1 jm_151 (F2 := (113, [some (.ref 6), some (.int (Int32.ofInt (fs))), some (.int (Int32.ofInt (x))), some (.int (Int32.ofInt (es))), some (.int (Int32.ofInt (y))), some (.int (Int32.ofInt (by_))), none, none], [], (cl_mk h κ1))) (show jw_cd cd_151 111 = some (.istore 5) by decide +kernel) rfl ?_
    exact kk
  · have hpC : ¬ pN (tC T n (p + 1)) = true := by rw [ep]; exact hpN
    have e0 : sOpt T n (p + 1) true = .inr (none, p + 1) := if_neg hpN
    refine ⟨su κ 4 0 (p + 1), 1, fun res kk => ?_, ⟨by decide, by decide⟩, mEq_su (mEq_refl _ _) (by decide), fun a q hh => ?_, fun e hh => (by rw [e0] at hh; cases hh)⟩
    rotate_left
    · rw [e0] at hh
      injection hh with hh
      injection hh with z1 z2
      rw [← z1, ← z2]
      exact ⟨hP1, rfl⟩
    refine jr_1 jm_151 (show jw_cd cd_151 79 = some (.iconst 1) by decide +kernel) rfl ?_
    refine jr_1 jm_151 (F2 := (82, [some (.ref 6), some (.int (Int32.ofInt (fs))), some (.int (Int32.ofInt (x))), some (.int (Int32.ofInt (es))), some (.int (Int32.ofInt (y))), some (.int (Int32.ofInt (1))), none, none], [], (cl_mk h κ))) (show jw_cd cd_151 80 = some (.istore 5) by decide +kernel) rfl ?_
    refine jr_1 jm_151 (show jw_cd cd_151 82 = some (.aload_n 0) by decide +kernel) rfl ?_
    refine jr_1 jm_151 (show jw_cd cd_151 83 = some (.getfield 9) by decide +kernel) (cgr_6_0 (show jw_fld 7 9 4 = some 0 by decide +kernel)) ?_
    refine jr_1 jm_151 (show jw_cd cd_151 86 = some (.bipush 58) by decide +kernel) (mt_bi (by decide)) ?_
    refine jr_c jm_151 (show jw_cd cd_151 88 = some (.invokevirtual 36) by decide +kernel) (ccv (n := 1) (m2 := 64) (ci := 1) (a := 1) (bs := [.int (Int32.ofInt (58))]) (r := []) (js_cls cl_c1 (by decide)) (show jw_find jw_cvT 7 36 = some (1, [(1, 64)]) by decide +kernel) (by decide) rfl rfl rfl) jm_64 ⟨Nat.le_of_ble_eq_true rfl, by decide⟩ (jc_takeT hl hP ((tC_eq hP.1.2.2 hP.2.2.2.1 (by decide)).mpr h58) (by decide)) ?_
    refine jr_1 jm_151 (show jw_cd cd_151 91 = some (.ifCond .eq 22) by decide +kernel) (mz_f (q := .eq) (a := 1) (by show ¬ (1 = 0); omega) ⟨by omega, by omega⟩ (by decide)) ?_
    refine jr_1 jm_151 (show jw_cd cd_151 94 = some (.aload_n 0) by decide +kernel) rfl ?_
    refine jr_1 jm_151 (show jw_cd cd_151 95 = some (.getfield 9) by decide +kernel) (cgr_6_0 (show jw_fld 7 9 4 = some 0 by decide +kernel)) ?_
    refine jr_c jm_151 (show jw_cd cd_151 98 = some (.invokevirtual 45) by decide +kernel) (ccv (n := 0) (m2 := 58) (ci := 1) (a := 1) (bs := []) (r := []) (js_cls cl_c1 (by decide)) (show jw_find jw_cvT 7 45 = some (0, [(1, 58)]) by decide +kernel) (by decide) rfl rfl rfl) jm_58 ⟨Nat.le_of_ble_eq_true rfl, by decide⟩ (jc_here hl hP1) ?_
    refine jr_c jm_151 (show jw_cd cd_151 101 = some (.invokestatic 127) by decide +kernel) (mc_s (n := 1) (m2 := 59) (bs := [.int (Int32.ofInt (tC T n (p + 1)))]) (r := []) (by decide) (show jw_find jw_csT 7 127 = some (59, 1) by decide +kernel) rfl rfl rfl) jm_59 ⟨Nat.le_of_ble_eq_true rfl, by decide⟩ (jc_sN_f hl hr0 hpC) ?_
    refine jr_1 jm_151 (show jw_cd cd_151 104 = some (.ifCond .eq 9) by decide +kernel) (mz_t (q := .eq) (a := 0) (t := 113) (by show 0 = 0; omega) ⟨by omega, by omega⟩ (by decide) (by decide)) ?_
    exact kk
theorem jc_ixF {β : Bool} {d : Nat} {h : jx_H} {κ : mS} (hl : 50 ≤ h.length) {N : Nat} (hN : h.length = N) (hb32 : N < 2700000000) {fs x es y z : Int} (hf : fs = 0 ∨ fs = 1) (he : es = 0 ∨ es = 1) (hz : mr z) : jx_r (jz β) jw_M (d + 2) 151 (113, [some (.ref 6), some (.int (Int32.ofInt (fs))), some (.int (Int32.ofInt (x))), some (.int (Int32.ofInt (es))), some (.int (Int32.ofInt (y))), some (.int (Int32.ofInt (z))), none, none], [], (cl_mk h κ)) (cl_mk (h ++ [.inr (14, [.int (Int32.ofInt (2)), .ref (jx_big + 9), .int (Int32.ofInt (if fs = 1 then x else if 0 < z then 0 else 1000000)), .int (Int32.ofInt (if es = 1 then y else if 0 < z then 1000000 else -1000000)), .int (Int32.ofInt (z)), .null, .int (Int32.ofInt (0)), .null])]) (κ), .inl (some (.ref (N)))) := by
  obtain ⟨hz1, hz2⟩ := hz
  by_cases hp : 0 < z
  · rcases hf with rfl | rfl <;> rcases he with rfl | rfl
    · simp only [if_pos hp, show ¬ (0 : Int) = 1 by decide, if_true, if_false]
      refine jr_1 jm_151 (show jw_cd cd_151 113 = some (.iload 5) by decide +kernel) rfl ?_
      refine jr_1 jm_151 (show jw_cd cd_151 115 = some (.ifCond .le 7) by decide +kernel) (mz_f (q := .le) (a := z) (by show ¬ (z ≤ 0); omega) ⟨by omega, by omega⟩ (by decide)) ?_
      refine jr_1 jm_151 (show jw_cd cd_151 118 = some (.iconst 0) by decide +kernel) rfl ?_
      refine jr_1 jm_151 (show jw_cd cd_151 119 = some (.goto 5) by decide +kernel) (ju_go (t := 124) (by decide)) ?_
      refine jr_1 jm_151 (F2 := (126, [some (.ref 6), some (.int (Int32.ofInt (0))), some (.int (Int32.ofInt (x))), some (.int (Int32.ofInt (0))), some (.int (Int32.ofInt (y))), some (.int (Int32.ofInt (z))), some (.int (Int32.ofInt (0))), none], [], (cl_mk h κ))) (show jw_cd cd_151 124 = some (.istore 6) by decide +kernel) rfl ?_
      refine jr_1 jm_151 (show jw_cd cd_151 126 = some (.iload 5) by decide +kernel) rfl ?_
      refine jr_1 jm_151 (show jw_cd cd_151 128 = some (.ifCond .le 8) by decide +kernel) (mz_f (q := .le) (a := z) (by show ¬ (z ≤ 0); omega) ⟨by omega, by omega⟩ (by decide)) ?_
      refine jr_1 jm_151 (show jw_cd cd_151 131 = some (.ldc 133) by decide +kernel) (cldI (a := 1000000) rfl) ?_
      refine jr_1 jm_151 (show jw_cd cd_151 133 = some (.goto 5) by decide +kernel) (ju_go (t := 138) (by decide)) ?_
      refine jr_1 jm_151 (F2 := (140, [some (.ref 6), some (.int (Int32.ofInt (0))), some (.int (Int32.ofInt (x))), some (.int (Int32.ofInt (0))), some (.int (Int32.ofInt (y))), some (.int (Int32.ofInt (z))), some (.int (Int32.ofInt (0))), some (.int (Int32.ofInt (1000000)))], [], (cl_mk h κ))) (show jw_cd cd_151 138 = some (.istore 7) by decide +kernel) rfl ?_
      refine jr_1 jm_151 (show jw_cd cd_151 140 = some (.iload_n 1) by decide +kernel) rfl ?_
      refine jr_1 jm_151 (show jw_cd cd_151 141 = some (.ifCond .eq 7) by decide +kernel) (mz_t (q := .eq) (a := 0) (t := 148) (by show 0 = 0; omega) ⟨by omega, by omega⟩ (by decide) (by decide)) ?_
      refine jr_1 jm_151 (show jw_cd cd_151 148 = some (.iload 6) by decide +kernel) rfl ?_
      refine jr_1 jm_151 (show jw_cd cd_151 150 = some (.iload_n 3) by decide +kernel) rfl ?_
      refine jr_1 jm_151 (show jw_cd cd_151 151 = some (.ifCond .eq 8) by decide +kernel) (mz_t (q := .eq) (a := 0) (t := 159) (by show 0 = 0; omega) ⟨by omega, by omega⟩ (by decide) (by decide)) ?_
      refine jr_1 jm_151 (show jw_cd cd_151 159 = some (.iload 7) by decide +kernel) rfl ?_
      refine jr_1 jm_151 (show jw_cd cd_151 161 = some (.iload 5) by decide +kernel) rfl ?_
      refine jr_c jm_151 (show jw_cd cd_151 163 = some (.invokestatic 135) by decide +kernel) (mc_s (n := 3) (m2 := 154) (bs := [.int (Int32.ofInt (0)), .int (Int32.ofInt (1000000)), .int (Int32.ofInt (z))]) (r := []) (by decide) (show jw_find jw_csT 7 135 = some (154, 3) by decide +kernel) rfl rfl rfl) jm_154 ⟨Nat.le_of_ble_eq_true rfl, by decide⟩ (jc_stSl hl hN (by omega)) ?_
      exact jr_v jm_151 (show jw_cd cd_151 166 = some (.areturn) by decide +kernel) rfl
    · simp only [if_pos hp, show ¬ (0 : Int) = 1 by decide, if_true, if_false]
      refine jr_1 jm_151 (show jw_cd cd_151 113 = some (.iload 5) by decide +kernel) rfl ?_
      refine jr_1 jm_151 (show jw_cd cd_151 115 = some (.ifCond .le 7) by decide +kernel) (mz_f (q := .le) (a := z) (by show ¬ (z ≤ 0); omega) ⟨by omega, by omega⟩ (by decide)) ?_
      refine jr_1 jm_151 (show jw_cd cd_151 118 = some (.iconst 0) by decide +kernel) rfl ?_
      refine jr_1 jm_151 (show jw_cd cd_151 119 = some (.goto 5) by decide +kernel) (ju_go (t := 124) (by decide)) ?_
      refine jr_1 jm_151 (F2 := (126, [some (.ref 6), some (.int (Int32.ofInt (0))), some (.int (Int32.ofInt (x))), some (.int (Int32.ofInt (1))), some (.int (Int32.ofInt (y))), some (.int (Int32.ofInt (z))), some (.int (Int32.ofInt (0))), none], [], (cl_mk h κ))) (show jw_cd cd_151 124 = some (.istore 6) by decide +kernel) rfl ?_
      refine jr_1 jm_151 (show jw_cd cd_151 126 = some (.iload 5) by decide +kernel) rfl ?_
      refine jr_1 jm_151 (show jw_cd cd_151 128 = some (.ifCond .le 8) by decide +kernel) (mz_f (q := .le) (a := z) (by show ¬ (z ≤ 0); omega) ⟨by omega, by omega⟩ (by decide)) ?_
      refine jr_1 jm_151 (show jw_cd cd_151 131 = some (.ldc 133) by decide +kernel) (cldI (a := 1000000) rfl) ?_
      refine jr_1 jm_151 (show jw_cd cd_151 133 = some (.goto 5) by decide +kernel) (ju_go (t := 138) (by decide)) ?_
      refine jr_1 jm_151 (F2 := (140, [some (.ref 6), some (.int (Int32.ofInt (0))), some (.int (Int32.ofInt (x))), some (.int (Int32.ofInt (1))), some (.int (Int32.ofInt (y))), some (.int (Int32.ofInt (z))), some (.int (Int32.ofInt (0))), some (.int (Int32.ofInt (1000000)))], [], (cl_mk h κ))) (show jw_cd cd_151 138 = some (.istore 7) by decide +kernel) rfl ?_
      refine jr_1 jm_151 (show jw_cd cd_151 140 = some (.iload_n 1) by decide +kernel) rfl ?_
      refine jr_1 jm_151 (show jw_cd cd_151 141 = some (.ifCond .eq 7) by decide +kernel) (mz_t (q := .eq) (a := 0) (t := 148) (by show 0 = 0; omega) ⟨by omega, by omega⟩ (by decide) (by decide)) ?_
      refine jr_1 jm_151 (show jw_cd cd_151 148 = some (.iload 6) by decide +kernel) rfl ?_
      refine jr_1 jm_151 (show jw_cd cd_151 150 = some (.iload_n 3) by decide +kernel) rfl ?_
      refine jr_1 jm_151 (show jw_cd cd_151 151 = some (.ifCond .eq 8) by decide +kernel) (mz_f (q := .eq) (a := 1) (by show ¬ (1 = 0); omega) ⟨by omega, by omega⟩ (by decide)) ?_
      refine jr_1 jm_151 (show jw_cd cd_151 154 = some (.iload 4) by decide +kernel) rfl ?_
      refine jr_1 jm_151 (show jw_cd cd_151 156 = some (.goto 5) by decide +kernel) (ju_go (t := 161) (by decide)) ?_
      refine jr_1 jm_151 (show jw_cd cd_151 161 = some (.iload 5) by decide +kernel) rfl ?_
      refine jr_c jm_151 (show jw_cd cd_151 163 = some (.invokestatic 135) by decide +kernel) (mc_s (n := 3) (m2 := 154) (bs := [.int (Int32.ofInt (0)), .int (Int32.ofInt (y)), .int (Int32.ofInt (z))]) (r := []) (by decide) (show jw_find jw_csT 7 135 = some (154, 3) by decide +kernel) rfl rfl rfl) jm_154 ⟨Nat.le_of_ble_eq_true rfl, by decide⟩ (jc_stSl hl hN (by omega)) ?_
      exact jr_v jm_151 (show jw_cd cd_151 166 = some (.areturn) by decide +kernel) rfl
    · simp only [if_pos hp, show ¬ (0 : Int) = 1 by decide, if_true, if_false]
      refine jr_1 jm_151 (show jw_cd cd_151 113 = some (.iload 5) by decide +kernel) rfl ?_
      refine jr_1 jm_151 (show jw_cd cd_151 115 = some (.ifCond .le 7) by decide +kernel) (mz_f (q := .le) (a := z) (by show ¬ (z ≤ 0); omega) ⟨by omega, by omega⟩ (by decide)) ?_
      refine jr_1 jm_151 (show jw_cd cd_151 118 = some (.iconst 0) by decide +kernel) rfl ?_
      refine jr_1 jm_151 (show jw_cd cd_151 119 = some (.goto 5) by decide +kernel) (ju_go (t := 124) (by decide)) ?_
      refine jr_1 jm_151 (F2 := (126, [some (.ref 6), some (.int (Int32.ofInt (1))), some (.int (Int32.ofInt (x))), some (.int (Int32.ofInt (0))), some (.int (Int32.ofInt (y))), some (.int (Int32.ofInt (z))), some (.int (Int32.ofInt (0))), none], [], (cl_mk h κ))) (show jw_cd cd_151 124 = some (.istore 6) by decide +kernel) rfl ?_
      refine jr_1 jm_151 (show jw_cd cd_151 126 = some (.iload 5) by decide +kernel) rfl ?_
      refine jr_1 jm_151 (show jw_cd cd_151 128 = some (.ifCond .le 8) by decide +kernel) (mz_f (q := .le) (a := z) (by show ¬ (z ≤ 0); omega) ⟨by omega, by omega⟩ (by decide)) ?_
      refine jr_1 jm_151 (show jw_cd cd_151 131 = some (.ldc 133) by decide +kernel) (cldI (a := 1000000) rfl) ?_
      refine jr_1 jm_151 (show jw_cd cd_151 133 = some (.goto 5) by decide +kernel) (ju_go (t := 138) (by decide)) ?_
      refine jr_1 jm_151 (F2 := (140, [some (.ref 6), some (.int (Int32.ofInt (1))), some (.int (Int32.ofInt (x))), some (.int (Int32.ofInt (0))), some (.int (Int32.ofInt (y))), some (.int (Int32.ofInt (z))), some (.int (Int32.ofInt (0))), some (.int (Int32.ofInt (1000000)))], [], (cl_mk h κ))) (show jw_cd cd_151 138 = some (.istore 7) by decide +kernel) rfl ?_
      refine jr_1 jm_151 (show jw_cd cd_151 140 = some (.iload_n 1) by decide +kernel) rfl ?_
      refine jr_1 jm_151 (show jw_cd cd_151 141 = some (.ifCond .eq 7) by decide +kernel) (mz_f (q := .eq) (a := 1) (by show ¬ (1 = 0); omega) ⟨by omega, by omega⟩ (by decide)) ?_
      refine jr_1 jm_151 (show jw_cd cd_151 144 = some (.iload_n 2) by decide +kernel) rfl ?_
      refine jr_1 jm_151 (show jw_cd cd_151 145 = some (.goto 5) by decide +kernel) (ju_go (t := 150) (by decide)) ?_
      refine jr_1 jm_151 (show jw_cd cd_151 150 = some (.iload_n 3) by decide +kernel) rfl ?_
      refine jr_1 jm_151 (show jw_cd cd_151 151 = some (.ifCond .eq 8) by decide +kernel) (mz_t (q := .eq) (a := 0) (t := 159) (by show 0 = 0; omega) ⟨by omega, by omega⟩ (by decide) (by decide)) ?_
      refine jr_1 jm_151 (show jw_cd cd_151 159 = some (.iload 7) by decide +kernel) rfl ?_
      refine jr_1 jm_151 (show jw_cd cd_151 161 = some (.iload 5) by decide +kernel) rfl ?_
      refine jr_c jm_151 (show jw_cd cd_151 163 = some (.invokestatic 135) by decide +kernel) (mc_s (n := 3) (m2 := 154) (bs := [.int (Int32.ofInt (x)), .int (Int32.ofInt (1000000)), .int (Int32.ofInt (z))]) (r := []) (by decide) (show jw_find jw_csT 7 135 = some (154, 3) by decide +kernel) rfl rfl rfl) jm_154 ⟨Nat.le_of_ble_eq_true rfl, by decide⟩ (jc_stSl hl hN (by omega)) ?_
      exact jr_v jm_151 (show jw_cd cd_151 166 = some (.areturn) by decide +kernel) rfl
    · simp only [if_pos hp, show ¬ (0 : Int) = 1 by decide, if_true, if_false]
      refine jr_1 jm_151 (show jw_cd cd_151 113 = some (.iload 5) by decide +kernel) rfl ?_
      refine jr_1 jm_151 (show jw_cd cd_151 115 = some (.ifCond .le 7) by decide +kernel) (mz_f (q := .le) (a := z) (by show ¬ (z ≤ 0); omega) ⟨by omega, by omega⟩ (by decide)) ?_
      refine jr_1 jm_151 (show jw_cd cd_151 118 = some (.iconst 0) by decide +kernel) rfl ?_
      refine jr_1 jm_151 (show jw_cd cd_151 119 = some (.goto 5) by decide +kernel) (ju_go (t := 124) (by decide)) ?_
      refine jr_1 jm_151 (F2 := (126, [some (.ref 6), some (.int (Int32.ofInt (1))), some (.int (Int32.ofInt (x))), some (.int (Int32.ofInt (1))), some (.int (Int32.ofInt (y))), some (.int (Int32.ofInt (z))), some (.int (Int32.ofInt (0))), none], [], (cl_mk h κ))) (show jw_cd cd_151 124 = some (.istore 6) by decide +kernel) rfl ?_
      refine jr_1 jm_151 (show jw_cd cd_151 126 = some (.iload 5) by decide +kernel) rfl ?_
      refine jr_1 jm_151 (show jw_cd cd_151 128 = some (.ifCond .le 8) by decide +kernel) (mz_f (q := .le) (a := z) (by show ¬ (z ≤ 0); omega) ⟨by omega, by omega⟩ (by decide)) ?_
      refine jr_1 jm_151 (show jw_cd cd_151 131 = some (.ldc 133) by decide +kernel) (cldI (a := 1000000) rfl) ?_
      refine jr_1 jm_151 (show jw_cd cd_151 133 = some (.goto 5) by decide +kernel) (ju_go (t := 138) (by decide)) ?_
      refine jr_1 jm_151 (F2 := (140, [some (.ref 6), some (.int (Int32.ofInt (1))), some (.int (Int32.ofInt (x))), some (.int (Int32.ofInt (1))), some (.int (Int32.ofInt (y))), some (.int (Int32.ofInt (z))), some (.int (Int32.ofInt (0))), some (.int (Int32.ofInt (1000000)))], [], (cl_mk h κ))) (show jw_cd cd_151 138 = some (.istore 7) by decide +kernel) rfl ?_
      refine jr_1 jm_151 (show jw_cd cd_151 140 = some (.iload_n 1) by decide +kernel) rfl ?_
      refine jr_1 jm_151 (show jw_cd cd_151 141 = some (.ifCond .eq 7) by decide +kernel) (mz_f (q := .eq) (a := 1) (by show ¬ (1 = 0); omega) ⟨by omega, by omega⟩ (by decide)) ?_
      refine jr_1 jm_151 (show jw_cd cd_151 144 = some (.iload_n 2) by decide +kernel) rfl ?_
      refine jr_1 jm_151 (show jw_cd cd_151 145 = some (.goto 5) by decide +kernel) (ju_go (t := 150) (by decide)) ?_
      refine jr_1 jm_151 (show jw_cd cd_151 150 = some (.iload_n 3) by decide +kernel) rfl ?_
      refine jr_1 jm_151 (show jw_cd cd_151 151 = some (.ifCond .eq 8) by decide +kernel) (mz_f (q := .eq) (a := 1) (by show ¬ (1 = 0); omega) ⟨by omega, by omega⟩ (by decide)) ?_
      refine jr_1 jm_151 (show jw_cd cd_151 154 = some (.iload 4) by decide +kernel) rfl ?_
      refine jr_1 jm_151 (show jw_cd cd_151 156 = some (.goto 5) by decide +kernel) (ju_go (t := 161) (by decide)) ?_
      refine jr_1 jm_151 (show jw_cd cd_151 161 = some (.iload 5) by decide +kernel) rfl ?_
      refine jr_c jm_151 (show jw_cd cd_151 163 = some (.invokestatic 135) by decide +kernel) (mc_s (n := 3) (m2 := 154) (bs := [.int (Int32.ofInt (x)), .int (Int32.ofInt (y)), .int (Int32.ofInt (z))]) (r := []) (by decide) (show jw_find jw_csT 7 135 = some (154, 3) by decide +kernel) rfl rfl rfl) jm_154 ⟨Nat.le_of_ble_eq_true rfl, by decide⟩ (jc_stSl hl hN (by omega)) ?_
      exact jr_v jm_151 (show jw_cd cd_151 166 = some (.areturn) by decide +kernel) rfl
  · rcases hf with rfl | rfl <;> rcases he with rfl | rfl
    · simp only [if_neg hp, show ¬ (0 : Int) = 1 by decide, if_true, if_false]
      refine jr_1 jm_151 (show jw_cd cd_151 113 = some (.iload 5) by decide +kernel) rfl ?_
      refine jr_1 jm_151 (show jw_cd cd_151 115 = some (.ifCond .le 7) by decide +kernel) (mz_t (q := .le) (a := z) (t := 122) (by show z ≤ 0; omega) ⟨by omega, by omega⟩ (by decide) (by decide)) ?_
      refine jr_1 jm_151 (show jw_cd cd_151 122 = some (.ldc 133) by decide +kernel) (cldI (a := 1000000) rfl) ?_
      refine jr_1 jm_151 (F2 := (126, [some (.ref 6), some (.int (Int32.ofInt (0))), some (.int (Int32.ofInt (x))), some (.int (Int32.ofInt (0))), some (.int (Int32.ofInt (y))), some (.int (Int32.ofInt (z))), some (.int (Int32.ofInt (1000000))), none], [], (cl_mk h κ))) (show jw_cd cd_151 124 = some (.istore 6) by decide +kernel) rfl ?_
      refine jr_1 jm_151 (show jw_cd cd_151 126 = some (.iload 5) by decide +kernel) rfl ?_
      refine jr_1 jm_151 (show jw_cd cd_151 128 = some (.ifCond .le 8) by decide +kernel) (mz_t (q := .le) (a := z) (t := 136) (by show z ≤ 0; omega) ⟨by omega, by omega⟩ (by decide) (by decide)) ?_
      refine jr_1 jm_151 (show jw_cd cd_151 136 = some (.ldc 134) by decide +kernel) (cldI (a := -1000000) rfl) ?_
      refine jr_1 jm_151 (F2 := (140, [some (.ref 6), some (.int (Int32.ofInt (0))), some (.int (Int32.ofInt (x))), some (.int (Int32.ofInt (0))), some (.int (Int32.ofInt (y))), some (.int (Int32.ofInt (z))), some (.int (Int32.ofInt (1000000))), some (.int (Int32.ofInt (-1000000)))], [], (cl_mk h κ))) (show jw_cd cd_151 138 = some (.istore 7) by decide +kernel) rfl ?_
      refine jr_1 jm_151 (show jw_cd cd_151 140 = some (.iload_n 1) by decide +kernel) rfl ?_
      refine jr_1 jm_151 (show jw_cd cd_151 141 = some (.ifCond .eq 7) by decide +kernel) (mz_t (q := .eq) (a := 0) (t := 148) (by show 0 = 0; omega) ⟨by omega, by omega⟩ (by decide) (by decide)) ?_
      refine jr_1 jm_151 (show jw_cd cd_151 148 = some (.iload 6) by decide +kernel) rfl ?_
      refine jr_1 jm_151 (show jw_cd cd_151 150 = some (.iload_n 3) by decide +kernel) rfl ?_
      refine jr_1 jm_151 (show jw_cd cd_151 151 = some (.ifCond .eq 8) by decide +kernel) (mz_t (q := .eq) (a := 0) (t := 159) (by show 0 = 0; omega) ⟨by omega, by omega⟩ (by decide) (by decide)) ?_
      refine jr_1 jm_151 (show jw_cd cd_151 159 = some (.iload 7) by decide +kernel) rfl ?_
      refine jr_1 jm_151 (show jw_cd cd_151 161 = some (.iload 5) by decide +kernel) rfl ?_
      refine jr_c jm_151 (show jw_cd cd_151 163 = some (.invokestatic 135) by decide +kernel) (mc_s (n := 3) (m2 := 154) (bs := [.int (Int32.ofInt (1000000)), .int (Int32.ofInt (-1000000)), .int (Int32.ofInt (z))]) (r := []) (by decide) (show jw_find jw_csT 7 135 = some (154, 3) by decide +kernel) rfl rfl rfl) jm_154 ⟨Nat.le_of_ble_eq_true rfl, by decide⟩ (jc_stSl hl hN (by omega)) ?_
      exact jr_v jm_151 (show jw_cd cd_151 166 = some (.areturn) by decide +kernel) rfl
    · simp only [if_neg hp, show ¬ (0 : Int) = 1 by decide, if_true, if_false]
      refine jr_1 jm_151 (show jw_cd cd_151 113 = some (.iload 5) by decide +kernel) rfl ?_
      refine jr_1 jm_151 (show jw_cd cd_151 115 = some (.ifCond .le 7) by decide +kernel) (mz_t (q := .le) (a := z) (t := 122) (by show z ≤ 0; omega) ⟨by omega, by omega⟩ (by decide) (by decide)) ?_
      refine jr_1 jm_151 (show jw_cd cd_151 122 = some (.ldc 133) by decide +kernel) (cldI (a := 1000000) rfl) ?_
      refine jr_1 jm_151 (F2 := (126, [some (.ref 6), some (.int (Int32.ofInt (0))), some (.int (Int32.ofInt (x))), some (.int (Int32.ofInt (1))), some (.int (Int32.ofInt (y))), some (.int (Int32.ofInt (z))), some (.int (Int32.ofInt (1000000))), none], [], (cl_mk h κ))) (show jw_cd cd_151 124 = some (.istore 6) by decide +kernel) rfl ?_
      refine jr_1 jm_151 (show jw_cd cd_151 126 = some (.iload 5) by decide +kernel) rfl ?_
      refine jr_1 jm_151 (show jw_cd cd_151 128 = some (.ifCond .le 8) by decide +kernel) (mz_t (q := .le) (a := z) (t := 136) (by show z ≤ 0; omega) ⟨by omega, by omega⟩ (by decide) (by decide)) ?_
      refine jr_1 jm_151 (show jw_cd cd_151 136 = some (.ldc 134) by decide +kernel) (cldI (a := -1000000) rfl) ?_
      refine jr_1 jm_151 (F2 := (140, [some (.ref 6), some (.int (Int32.ofInt (0))), some (.int (Int32.ofInt (x))), some (.int (Int32.ofInt (1))), some (.int (Int32.ofInt (y))), some (.int (Int32.ofInt (z))), some (.int (Int32.ofInt (1000000))), some (.int (Int32.ofInt (-1000000)))], [], (cl_mk h κ))) (show jw_cd cd_151 138 = some (.istore 7) by decide +kernel) rfl ?_
      refine jr_1 jm_151 (show jw_cd cd_151 140 = some (.iload_n 1) by decide +kernel) rfl ?_
      refine jr_1 jm_151 (show jw_cd cd_151 141 = some (.ifCond .eq 7) by decide +kernel) (mz_t (q := .eq) (a := 0) (t := 148) (by show 0 = 0; omega) ⟨by omega, by omega⟩ (by decide) (by decide)) ?_
      refine jr_1 jm_151 (show jw_cd cd_151 148 = some (.iload 6) by decide +kernel) rfl ?_
      refine jr_1 jm_151 (show jw_cd cd_151 150 = some (.iload_n 3) by decide +kernel) rfl ?_
      refine jr_1 jm_151 (show jw_cd cd_151 151 = some (.ifCond .eq 8) by decide +kernel) (mz_f (q := .eq) (a := 1) (by show ¬ (1 = 0); omega) ⟨by omega, by omega⟩ (by decide)) ?_
      refine jr_1 jm_151 (show jw_cd cd_151 154 = some (.iload 4) by decide +kernel) rfl ?_
      refine jr_1 jm_151 (show jw_cd cd_151 156 = some (.goto 5) by decide +kernel) (ju_go (t := 161) (by decide)) ?_
      refine jr_1 jm_151 (show jw_cd cd_151 161 = some (.iload 5) by decide +kernel) rfl ?_
      refine jr_c jm_151 (show jw_cd cd_151 163 = some (.invokestatic 135) by decide +kernel) (mc_s (n := 3) (m2 := 154) (bs := [.int (Int32.ofInt (1000000)), .int (Int32.ofInt (y)), .int (Int32.ofInt (z))]) (r := []) (by decide) (show jw_find jw_csT 7 135 = some (154, 3) by decide +kernel) rfl rfl rfl) jm_154 ⟨Nat.le_of_ble_eq_true rfl, by decide⟩ (jc_stSl hl hN (by omega)) ?_
      exact jr_v jm_151 (show jw_cd cd_151 166 = some (.areturn) by decide +kernel) rfl
    · simp only [if_neg hp, show ¬ (0 : Int) = 1 by decide, if_true, if_false]
      refine jr_1 jm_151 (show jw_cd cd_151 113 = some (.iload 5) by decide +kernel) rfl ?_
      refine jr_1 jm_151 (show jw_cd cd_151 115 = some (.ifCond .le 7) by decide +kernel) (mz_t (q := .le) (a := z) (t := 122) (by show z ≤ 0; omega) ⟨by omega, by omega⟩ (by decide) (by decide)) ?_
      refine jr_1 jm_151 (show jw_cd cd_151 122 = some (.ldc 133) by decide +kernel) (cldI (a := 1000000) rfl) ?_
      refine jr_1 jm_151 (F2 := (126, [some (.ref 6), some (.int (Int32.ofInt (1))), some (.int (Int32.ofInt (x))), some (.int (Int32.ofInt (0))), some (.int (Int32.ofInt (y))), some (.int (Int32.ofInt (z))), some (.int (Int32.ofInt (1000000))), none], [], (cl_mk h κ))) (show jw_cd cd_151 124 = some (.istore 6) by decide +kernel) rfl ?_
      refine jr_1 jm_151 (show jw_cd cd_151 126 = some (.iload 5) by decide +kernel) rfl ?_
      refine jr_1 jm_151 (show jw_cd cd_151 128 = some (.ifCond .le 8) by decide +kernel) (mz_t (q := .le) (a := z) (t := 136) (by show z ≤ 0; omega) ⟨by omega, by omega⟩ (by decide) (by decide)) ?_
      refine jr_1 jm_151 (show jw_cd cd_151 136 = some (.ldc 134) by decide +kernel) (cldI (a := -1000000) rfl) ?_
      refine jr_1 jm_151 (F2 := (140, [some (.ref 6), some (.int (Int32.ofInt (1))), some (.int (Int32.ofInt (x))), some (.int (Int32.ofInt (0))), some (.int (Int32.ofInt (y))), some (.int (Int32.ofInt (z))), some (.int (Int32.ofInt (1000000))), some (.int (Int32.ofInt (-1000000)))], [], (cl_mk h κ))) (show jw_cd cd_151 138 = some (.istore 7) by decide +kernel) rfl ?_
      refine jr_1 jm_151 (show jw_cd cd_151 140 = some (.iload_n 1) by decide +kernel) rfl ?_
      refine jr_1 jm_151 (show jw_cd cd_151 141 = some (.ifCond .eq 7) by decide +kernel) (mz_f (q := .eq) (a := 1) (by show ¬ (1 = 0); omega) ⟨by omega, by omega⟩ (by decide)) ?_
      refine jr_1 jm_151 (show jw_cd cd_151 144 = some (.iload_n 2) by decide +kernel) rfl ?_
      refine jr_1 jm_151 (show jw_cd cd_151 145 = some (.goto 5) by decide +kernel) (ju_go (t := 150) (by decide)) ?_
      refine jr_1 jm_151 (show jw_cd cd_151 150 = some (.iload_n 3) by decide +kernel) rfl ?_
      refine jr_1 jm_151 (show jw_cd cd_151 151 = some (.ifCond .eq 8) by decide +kernel) (mz_t (q := .eq) (a := 0) (t := 159) (by show 0 = 0; omega) ⟨by omega, by omega⟩ (by decide) (by decide)) ?_
      refine jr_1 jm_151 (show jw_cd cd_151 159 = some (.iload 7) by decide +kernel) rfl ?_
      refine jr_1 jm_151 (show jw_cd cd_151 161 = some (.iload 5) by decide +kernel) rfl ?_
      refine jr_c jm_151 (show jw_cd cd_151 163 = some (.invokestatic 135) by decide +kernel) (mc_s (n := 3) (m2 := 154) (bs := [.int (Int32.ofInt (x)), .int (Int32.ofInt (-1000000)), .int (Int32.ofInt (z))]) (r := []) (by decide) (show jw_find jw_csT 7 135 = some (154, 3) by decide +kernel) rfl rfl rfl) jm_154 ⟨Nat.le_of_ble_eq_true rfl, by decide⟩ (jc_stSl hl hN (by omega)) ?_
      exact jr_v jm_151 (show jw_cd cd_151 166 = some (.areturn) by decide +kernel) rfl
    · simp only [if_neg hp, show ¬ (0 : Int) = 1 by decide, if_true, if_false]
      refine jr_1 jm_151 (show jw_cd cd_151 113 = some (.iload 5) by decide +kernel) rfl ?_
      refine jr_1 jm_151 (show jw_cd cd_151 115 = some (.ifCond .le 7) by decide +kernel) (mz_t (q := .le) (a := z) (t := 122) (by show z ≤ 0; omega) ⟨by omega, by omega⟩ (by decide) (by decide)) ?_
      refine jr_1 jm_151 (show jw_cd cd_151 122 = some (.ldc 133) by decide +kernel) (cldI (a := 1000000) rfl) ?_
      refine jr_1 jm_151 (F2 := (126, [some (.ref 6), some (.int (Int32.ofInt (1))), some (.int (Int32.ofInt (x))), some (.int (Int32.ofInt (1))), some (.int (Int32.ofInt (y))), some (.int (Int32.ofInt (z))), some (.int (Int32.ofInt (1000000))), none], [], (cl_mk h κ))) (show jw_cd cd_151 124 = some (.istore 6) by decide +kernel) rfl ?_
      refine jr_1 jm_151 (show jw_cd cd_151 126 = some (.iload 5) by decide +kernel) rfl ?_
      refine jr_1 jm_151 (show jw_cd cd_151 128 = some (.ifCond .le 8) by decide +kernel) (mz_t (q := .le) (a := z) (t := 136) (by show z ≤ 0; omega) ⟨by omega, by omega⟩ (by decide) (by decide)) ?_
      refine jr_1 jm_151 (show jw_cd cd_151 136 = some (.ldc 134) by decide +kernel) (cldI (a := -1000000) rfl) ?_
      refine jr_1 jm_151 (F2 := (140, [some (.ref 6), some (.int (Int32.ofInt (1))), some (.int (Int32.ofInt (x))), some (.int (Int32.ofInt (1))), some (.int (Int32.ofInt (y))), some (.int (Int32.ofInt (z))), some (.int (Int32.ofInt (1000000))), some (.int (Int32.ofInt (-1000000)))], [], (cl_mk h κ))) (show jw_cd cd_151 138 = some (.istore 7) by decide +kernel) rfl ?_
      refine jr_1 jm_151 (show jw_cd cd_151 140 = some (.iload_n 1) by decide +kernel) rfl ?_
      refine jr_1 jm_151 (show jw_cd cd_151 141 = some (.ifCond .eq 7) by decide +kernel) (mz_f (q := .eq) (a := 1) (by show ¬ (1 = 0); omega) ⟨by omega, by omega⟩ (by decide)) ?_
      refine jr_1 jm_151 (show jw_cd cd_151 144 = some (.iload_n 2) by decide +kernel) rfl ?_
      refine jr_1 jm_151 (show jw_cd cd_151 145 = some (.goto 5) by decide +kernel) (ju_go (t := 150) (by decide)) ?_
      refine jr_1 jm_151 (show jw_cd cd_151 150 = some (.iload_n 3) by decide +kernel) rfl ?_
      refine jr_1 jm_151 (show jw_cd cd_151 151 = some (.ifCond .eq 8) by decide +kernel) (mz_f (q := .eq) (a := 1) (by show ¬ (1 = 0); omega) ⟨by omega, by omega⟩ (by decide)) ?_
      refine jr_1 jm_151 (show jw_cd cd_151 154 = some (.iload 4) by decide +kernel) rfl ?_
      refine jr_1 jm_151 (show jw_cd cd_151 156 = some (.goto 5) by decide +kernel) (ju_go (t := 161) (by decide)) ?_
      refine jr_1 jm_151 (show jw_cd cd_151 161 = some (.iload 5) by decide +kernel) rfl ?_
      refine jr_c jm_151 (show jw_cd cd_151 163 = some (.invokestatic 135) by decide +kernel) (mc_s (n := 3) (m2 := 154) (bs := [.int (Int32.ofInt (x)), .int (Int32.ofInt (y)), .int (Int32.ofInt (z))]) (r := []) (by decide) (show jw_find jw_csT 7 135 = some (154, 3) by decide +kernel) rfl rfl rfl) jm_154 ⟨Nat.le_of_ble_eq_true rfl, by decide⟩ (jc_stSl hl hN (by omega)) ?_
      exact jr_v jm_151 (show jw_cd cd_151 166 = some (.areturn) by decide +kernel) rfl
theorem jc_ixI {β : Bool} {d : Nat} {h : jx_H} {κ : mS} (hl : 50 ≤ h.length) {N : Nat} (hN : h.length = N) (hb32 : N < 2700000000) {T : Int → Int} {n p fs x : Int} (hP : cP κ T n p) (h58 : ¬ tH T n p = 58) : jx_r (jz β) jw_M (d + 2) 151 (34, [some (.ref 6), some (.int (Int32.ofInt (fs))), some (.int (Int32.ofInt (x))), none, none, none, none, none], [], (cl_mk h κ)) (cl_mk (h ++ [.inr (14, [.int (Int32.ofInt (1)), .ref (jx_big + 9), .int (Int32.ofInt (x)), .int (Int32.ofInt (1000000)), .int (Int32.ofInt (1)), .null, .int (Int32.ofInt (0)), .null])]) (κ), .inl (some (.ref (N)))) := by
  refine jr_1 jm_151 (show jw_cd cd_151 34 = some (.aload_n 0) by decide +kernel) rfl ?_
  refine jr_1 jm_151 (show jw_cd cd_151 35 = some (.getfield 9) by decide +kernel) (cgr_6_0 (show jw_fld 7 9 4 = some 0 by decide +kernel)) ?_
  refine jr_1 jm_151 (show jw_cd cd_151 38 = some (.bipush 58) by decide +kernel) (mt_bi (by decide)) ?_
  refine jr_c jm_151 (show jw_cd cd_151 40 = some (.invokevirtual 36) by decide +kernel) (ccv (n := 1) (m2 := 64) (ci := 1) (a := 1) (bs := [.int (Int32.ofInt (58))]) (r := []) (js_cls cl_c1 (by decide)) (show jw_find jw_cvT 7 36 = some (1, [(1, 64)]) by decide +kernel) (by decide) rfl rfl rfl) jm_64 ⟨Nat.le_of_ble_eq_true rfl, by decide⟩ (jc_takeF hl hP (fun e => h58 ((tC_eq hP.1.2.2 hP.2.2.2.1 (by decide)).mp e)) (by decide)) ?_
  refine jr_1 jm_151 (show jw_cd cd_151 43 = some (.ifCond .ne 8) by decide +kernel) (mz_f (q := .ne) (a := 0) (by show ¬ (¬ (0 = 0)); omega) ⟨by omega, by omega⟩ (by decide)) ?_
  refine jr_1 jm_151 (show jw_cd cd_151 46 = some (.iload_n 2) by decide +kernel) rfl ?_
  refine jr_c jm_151 (show jw_cd cd_151 47 = some (.invokestatic 124) by decide +kernel) (mc_s (n := 1) (m2 := 152) (bs := [.int (Int32.ofInt (x))]) (r := []) (by decide) (show jw_find jw_csT 7 124 = some (152, 1) by decide +kernel) rfl rfl rfl) jm_152 ⟨Nat.le_of_ble_eq_true rfl, by decide⟩ (jc_stIx hl hN (by omega)) ?_
  exact jr_v jm_151 (show jw_cd cd_151 50 = some (.areturn) by decide +kernel) rfl
theorem jc_ixIW {β : Bool} {d : Nat} {h : jx_H} {κ : mS} (hl : 50 ≤ h.length) {N : Nat} (hN : h.length = N) (hb32 : N < 2700000000) {fs x e : Int} (hW : cW κ e) : jx_r (jz β) jw_M (d + 2) 151 (34, [some (.ref 6), some (.int (Int32.ofInt (fs))), some (.int (Int32.ofInt (x))), none, none, none, none, none], [], (cl_mk h κ)) (cl_mk (h ++ [.inr (14, [.int (Int32.ofInt (1)), .ref (jx_big + 9), .int (Int32.ofInt (x)), .int (Int32.ofInt (1000000)), .int (Int32.ofInt (1)), .null, .int (Int32.ofInt (0)), .null])]) (κ), .inl (some (.ref (N)))) := by
  refine jr_1 jm_151 (show jw_cd cd_151 34 = some (.aload_n 0) by decide +kernel) rfl ?_
  refine jr_1 jm_151 (show jw_cd cd_151 35 = some (.getfield 9) by decide +kernel) (cgr_6_0 (show jw_fld 7 9 4 = some 0 by decide +kernel)) ?_
  refine jr_1 jm_151 (show jw_cd cd_151 38 = some (.bipush 58) by decide +kernel) (mt_bi (by decide)) ?_
  refine jr_c jm_151 (show jw_cd cd_151 40 = some (.invokevirtual 36) by decide +kernel) (ccv (n := 1) (m2 := 64) (ci := 1) (a := 1) (bs := [.int (Int32.ofInt (58))]) (r := []) (js_cls cl_c1 (by decide)) (show jw_find jw_cvT 7 36 = some (1, [(1, 64)]) by decide +kernel) (by decide) rfl rfl rfl) jm_64 ⟨Nat.le_of_ble_eq_true rfl, by decide⟩ (jc_takeW hl hW (by decide)) ?_
  refine jr_1 jm_151 (show jw_cd cd_151 43 = some (.ifCond .ne 8) by decide +kernel) (mz_f (q := .ne) (a := 0) (by show ¬ (¬ (0 = 0)); omega) ⟨by omega, by omega⟩ (by decide)) ?_
  refine jr_1 jm_151 (show jw_cd cd_151 46 = some (.iload_n 2) by decide +kernel) rfl ?_
  refine jr_c jm_151 (show jw_cd cd_151 47 = some (.invokestatic 124) by decide +kernel) (mc_s (n := 1) (m2 := 152) (bs := [.int (Int32.ofInt (x))]) (r := []) (by decide) (show jw_find jw_csT 7 124 = some (152, 1) by decide +kernel) rfl rfl rfl) jm_152 ⟨Nat.le_of_ble_eq_true rfl, by decide⟩ (jc_stIx hl hN (by omega)) ?_
  exact jr_v jm_151 (show jw_cd cd_151 50 = some (.areturn) by decide +kernel) rfl
theorem jc_ixS {β : Bool} {d : Nat} {h : jx_H} {κ : mS} (hl : 50 ≤ h.length) {T : Int → Int} {n p fs x : Int} (hP : cP κ T n p) (h58 : tH T n p = 58) {res : jx_H × (Option Value ⊕ Nat)} (kk : jx_r (jz β) jw_M (d + 2) 151 (51, [some (.ref 6), some (.int (Int32.ofInt (fs))), some (.int (Int32.ofInt (x))), none, none, none, none, none], [], (cl_mk h (su κ 4 0 (p + 1)))) res) : jx_r (jz β) jw_M (d + 2) 151 (34, [some (.ref 6), some (.int (Int32.ofInt (fs))), some (.int (Int32.ofInt (x))), none, none, none, none, none], [], (cl_mk h κ)) res := by
  refine jr_1 jm_151 (show jw_cd cd_151 34 = some (.aload_n 0) by decide +kernel) rfl ?_
  refine jr_1 jm_151 (show jw_cd cd_151 35 = some (.getfield 9) by decide +kernel) (cgr_6_0 (show jw_fld 7 9 4 = some 0 by decide +kernel)) ?_
  refine jr_1 jm_151 (show jw_cd cd_151 38 = some (.bipush 58) by decide +kernel) (mt_bi (by decide)) ?_
  refine jr_c jm_151 (show jw_cd cd_151 40 = some (.invokevirtual 36) by decide +kernel) (ccv (n := 1) (m2 := 64) (ci := 1) (a := 1) (bs := [.int (Int32.ofInt (58))]) (r := []) (js_cls cl_c1 (by decide)) (show jw_find jw_cvT 7 36 = some (1, [(1, 64)]) by decide +kernel) (by decide) rfl rfl rfl) jm_64 ⟨Nat.le_of_ble_eq_true rfl, by decide⟩ (jc_takeT hl hP ((tC_eq hP.1.2.2 hP.2.2.2.1 (by decide)).mpr h58) (by decide)) ?_
  refine jr_1 jm_151 (show jw_cd cd_151 43 = some (.ifCond .ne 8) by decide +kernel) (mz_t (q := .ne) (a := 1) (t := 51) (by show ¬ (1 = 0); omega) ⟨by omega, by omega⟩ (by decide) (by decide)) ?_
  exact kk
