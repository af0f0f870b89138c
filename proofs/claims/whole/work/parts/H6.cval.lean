/-! ===== the class: readValue, what is plain (printed by program: gen88.py) ===== -/
theorem jm_92 : jw_M 92 = some (6, 4, ((Option.some (Jvm.ClassFile.FieldType.object "PickDesk$Value")), false), jw_cd cd_92, fun _ _ => none) := rfl
theorem jm_97 : jw_M 97 = some (6, 5, ((Option.some (Jvm.ClassFile.FieldType.object "PickDesk$Value")), false), jw_cd cd_97, fun _ _ => none) := rfl
theorem jc_valNm {β : Bool} {d : Nat} {h : jx_H} {κ : mS} (hl : 50 ≤ h.length) {T : Int → Int} {n p : Int} (hP : cP κ T n p) {N : Nat} {h' : jx_H} {κ' : mS} {a : Nat} (ha : a ≤ 4) (hpn : ¬ pN (tC T n p) = true) (h39 : ¬ tH T n p = 39) (hnc : a ≤ 3 → ¬ tH T n p = 91 ∧ ¬ tH T n p = 123) (hnm : jx_r (jz β) jw_M (d + 6) 103 (0, [some (.ref 5)], [], (cl_mk h κ)) (cl_mk h' (κ'), .inl (some (.ref (N))))) : jx_r (jz β) jw_M (d + 7) 57 (0, [some (.ref 5), some (.int (Int32.ofInt ((a : Int)))), none], [], (cl_mk h κ)) (cl_mk h' (κ'), .inl (some (.ref (N)))) := by
  have hcr := (tC_H hP.1.2.2 hP.2.2.2.1).2.2
  by_cases h4 : a = 4
  · subst h4
    refine jr_1 jm_57 (show jw_cd cd_57 0 = some (.aload_n 0) by decide +kernel) rfl ?_
    refine jr_1 jm_57 (show jw_cd cd_57 1 = some (.getfield 9) by decide +kernel) (cgr_5_0 (show jw_fld 6 9 3 = some 0 by decide +kernel)) ?_
    refine jr_c jm_57 (show jw_cd cd_57 4 = some (.invokevirtual 15) by decide +kernel) (ccv (n := 0) (m2 := 58) (ci := 1) (a := 1) (bs := []) (r := []) (js_cls cl_c1 (by decide)) (show jw_find jw_cvT 6 15 = some (0, [(1, 58)]) by decide +kernel) (by decide) rfl rfl rfl) jm_58 ⟨Nat.le_of_ble_eq_true rfl, by decide⟩ (jc_here hl hP) ?_
    refine jr_1 jm_57 (F2 := (8, [some (.ref 5), some (.int (Int32.ofInt (((4 : Nat) : Int)))), some (.int (Int32.ofInt (tC T n p)))], [], (cl_mk h κ))) (show jw_cd cd_57 7 = some (.istore_n 2) by decide +kernel) rfl ?_
    refine jr_1 jm_57 (show jw_cd cd_57 8 = some (.iload_n 2) by decide +kernel) rfl ?_
    refine jr_c jm_57 (show jw_cd cd_57 9 = some (.invokestatic 21) by decide +kernel) (mc_s (n := 1) (m2 := 59) (bs := [.int (Int32.ofInt (tC T n p))]) (r := []) (by decide) (show jw_find jw_csT 6 21 = some (59, 1) by decide +kernel) rfl rfl rfl) jm_59 ⟨Nat.le_of_ble_eq_true rfl, by decide⟩ (jc_sN_f hl hcr hpn) ?_
    refine jr_1 jm_57 (show jw_cd cd_57 12 = some (.ifCond .eq 14) by decide +kernel) (mz_t (q := .eq) (a := 0) (t := 26) (by show 0 = 0; omega) ⟨by omega, by omega⟩ (by decide) (by decide)) ?_
    refine jr_1 jm_57 (show jw_cd cd_57 26 = some (.aload_n 0) by decide +kernel) rfl ?_
    refine jr_1 jm_57 (show jw_cd cd_57 27 = some (.getfield 9) by decide +kernel) (cgr_5_0 (show jw_fld 6 9 3 = some 0 by decide +kernel)) ?_
    refine jr_1 jm_57 (show jw_cd cd_57 30 = some (.bipush 39) by decide +kernel) (mt_bi (by decide)) ?_
    refine jr_c jm_57 (show jw_cd cd_57 32 = some (.invokevirtual 35) by decide +kernel) (ccv (n := 1) (m2 := 64) (ci := 1) (a := 1) (bs := [.int (Int32.ofInt (39))]) (r := []) (js_cls cl_c1 (by decide)) (show jw_find jw_cvT 6 35 = some (1, [(1, 64)]) by decide +kernel) (by decide) rfl rfl rfl) jm_64 ⟨Nat.le_of_ble_eq_true rfl, by decide⟩ (jc_takeF hl hP (by rw [tC_eq hP.1.2.2 hP.2.2.2.1 (by decide)]; omega) ⟨by decide, by decide⟩) ?_
    refine jr_1 jm_57 (show jw_cd cd_57 35 = some (.ifCond .eq 14) by decide +kernel) (mz_t (q := .eq) (a := 0) (t := 49) (by show 0 = 0; omega) ⟨by omega, by omega⟩ (by decide) (by decide)) ?_
    refine jr_1 jm_57 (show jw_cd cd_57 49 = some (.iload_n 1) by decide +kernel) rfl ?_
    refine jr_1 jm_57 (show jw_cd cd_57 50 = some (.iconst 3) by decide +kernel) rfl ?_
    refine jr_1 jm_57 (show jw_cd cd_57 51 = some (.if_icmp .gt 21) by decide +kernel) (mb_t (q := .gt) (a := ((4 : Nat) : Int)) (b := 3) (t := 72) (by show 3 < ((4 : Nat) : Int); omega) ⟨by omega, by omega⟩ ⟨by omega, by omega⟩ (by decide) (by decide)) ?_
    refine jr_1 jm_57 (show jw_cd cd_57 72 = some (.iload_n 1) by decide +kernel) rfl ?_
    refine jr_1 jm_57 (show jw_cd cd_57 73 = some (.iconst 3) by decide +kernel) rfl ?_
    refine jr_1 jm_57 (show jw_cd cd_57 74 = some (.if_icmp .gt 21) by decide +kernel) (mb_t (q := .gt) (a := ((4 : Nat) : Int)) (b := 3) (t := 95) (by show 3 < ((4 : Nat) : Int); omega) ⟨by omega, by omega⟩ ⟨by omega, by omega⟩ (by decide) (by decide)) ?_
    refine jr_1 jm_57 (show jw_cd cd_57 95 = some (.aload_n 0) by decide +kernel) rfl ?_
    refine jr_c jm_57 (show jw_cd cd_57 96 = some (.invokevirtual 52) by decide +kernel) (ccv (n := 0) (m2 := 103) (ci := 3) (a := 5) (bs := []) (r := []) (js_cls cl_c5 (by decide)) (show jw_find jw_cvT 6 52 = some (0, [(3, 103)]) by decide +kernel) (by decide) rfl rfl rfl) jm_103 ⟨Nat.le_of_ble_eq_true rfl, by decide⟩ hnm ?_
    exact jr_v jm_57 (show jw_cd cd_57 99 = some (.areturn) by decide +kernel) rfl
  · have hnc := hnc (by omega)
    refine jr_1 jm_57 (show jw_cd cd_57 0 = some (.aload_n 0) by decide +kernel) rfl ?_
    refine jr_1 jm_57 (show jw_cd cd_57 1 = some (.getfield 9) by decide +kernel) (cgr_5_0 (show jw_fld 6 9 3 = some 0 by decide +kernel)) ?_
    refine jr_c jm_57 (show jw_cd cd_57 4 = some (.invokevirtual 15) by decide +kernel) (ccv (n := 0) (m2 := 58) (ci := 1) (a := 1) (bs := []) (r := []) (js_cls cl_c1 (by decide)) (show jw_find jw_cvT 6 15 = some (0, [(1, 58)]) by decide +kernel) (by decide) rfl rfl rfl) jm_58 ⟨Nat.le_of_ble_eq_true rfl, by decide⟩ (jc_here hl hP) ?_
    refine jr_1 jm_57 (F2 := (8, [some (.ref 5), some (.int (Int32.ofInt ((a : Int)))), some (.int (Int32.ofInt (tC T n p)))], [], (cl_mk h κ))) (show jw_cd cd_57 7 = some (.istore_n 2) by decide +kernel) rfl ?_
    refine jr_1 jm_57 (show jw_cd cd_57 8 = some (.iload_n 2) by decide +kernel) rfl ?_
    refine jr_c jm_57 (show jw_cd cd_57 9 = some (.invokestatic 21) by decide +kernel) (mc_s (n := 1) (m2 := 59) (bs := [.int (Int32.ofInt (tC T n p))]) (r := []) (by decide) (show jw_find jw_csT 6 21 = some (59, 1) by decide +kernel) rfl rfl rfl) jm_59 ⟨Nat.le_of_ble_eq_true rfl, by decide⟩ (jc_sN_f hl hcr hpn) ?_
    refine jr_1 jm_57 (show jw_cd cd_57 12 = some (.ifCond .eq 14) by decide +kernel) (mz_t (q := .eq) (a := 0) (t := 26) (by show 0 = 0; omega) ⟨by omega, by omega⟩ (by decide) (by decide)) ?_
    refine jr_1 jm_57 (show jw_cd cd_57 26 = some (.aload_n 0) by decide +kernel) rfl ?_
    refine jr_1 jm_57 (show jw_cd cd_57 27 = some (.getfield 9) by decide +kernel) (cgr_5_0 (show jw_fld 6 9 3 = some 0 by decide +kernel)) ?_
    refine jr_1 jm_57 (show jw_cd cd_57 30 = some (.bipush 39) by decide +kernel) (mt_bi (by decide)) ?_
    refine jr_c jm_57 (show jw_cd cd_57 32 = some (.invokevirtual 35) by decide +kernel) (ccv (n := 1) (m2 := 64) (ci := 1) (a := 1) (bs := [.int (Int32.ofInt (39))]) (r := []) (js_cls cl_c1 (by decide)) (show jw_find jw_cvT 6 35 = some (1, [(1, 64)]) by decide +kernel) (by decide) rfl rfl rfl) jm_64 ⟨Nat.le_of_ble_eq_true rfl, by decide⟩ (jc_takeF hl hP (by rw [tC_eq hP.1.2.2 hP.2.2.2.1 (by decide)]; omega) ⟨by decide, by decide⟩) ?_
    refine jr_1 jm_57 (show jw_cd cd_57 35 = some (.ifCond .eq 14) by decide +kernel) (mz_t (q := .eq) (a := 0) (t := 49) (by show 0 = 0; omega) ⟨by omega, by omega⟩ (by decide) (by decide)) ?_
    refine jr_1 jm_57 (show jw_cd cd_57 49 = some (.iload_n 1) by decide +kernel) rfl ?_
    refine jr_1 jm_57 (show jw_cd cd_57 50 = some (.iconst 3) by decide +kernel) rfl ?_
    refine jr_1 jm_57 (show jw_cd cd_57 51 = some (.if_icmp .gt 21) by decide +kernel) (mb_f (q := .gt) (a := (a : Int)) (b := 3) (by show ¬ (3 < (a : Int)); omega) ⟨by omega, by omega⟩ ⟨by omega, by omega⟩ (by decide)) ?_
    refine jr_1 jm_57 (show jw_cd cd_57 54 = some (.aload_n 0) by decide +kernel) rfl ?_
    refine jr_1 jm_57 (show jw_cd cd_57 55 = some (.getfield 9) by decide +kernel) (cgr_5_0 (show jw_fld 6 9 3 = some 0 by decide +kernel)) ?_
    refine jr_1 jm_57 (show jw_cd cd_57 58 = some (.bipush 91) by decide +kernel) (mt_bi (by decide)) ?_
    refine jr_c jm_57 (show jw_cd cd_57 60 = some (.invokevirtual 35) by decide +kernel) (ccv (n := 1) (m2 := 64) (ci := 1) (a := 1) (bs := [.int (Int32.ofInt (91))]) (r := []) (js_cls cl_c1 (by decide)) (show jw_find jw_cvT 6 35 = some (1, [(1, 64)]) by decide +kernel) (by decide) rfl rfl rfl) jm_64 ⟨Nat.le_of_ble_eq_true rfl, by decide⟩ (jc_takeF hl hP (by rw [tC_eq hP.1.2.2 hP.2.2.2.1 (by decide)]; omega) ⟨by decide, by decide⟩) ?_
    refine jr_1 jm_57 (show jw_cd cd_57 63 = some (.ifCond .eq 9) by decide +kernel) (mz_t (q := .eq) (a := 0) (t := 72) (by show 0 = 0; omega) ⟨by omega, by omega⟩ (by decide) (by decide)) ?_
    refine jr_1 jm_57 (show jw_cd cd_57 72 = some (.iload_n 1) by decide +kernel) rfl ?_
    refine jr_1 jm_57 (show jw_cd cd_57 73 = some (.iconst 3) by decide +kernel) rfl ?_
    refine jr_1 jm_57 (show jw_cd cd_57 74 = some (.if_icmp .gt 21) by decide +kernel) (mb_f (q := .gt) (a := (a : Int)) (b := 3) (by show ¬ (3 < (a : Int)); omega) ⟨by omega, by omega⟩ ⟨by omega, by omega⟩ (by decide)) ?_
    refine jr_1 jm_57 (show jw_cd cd_57 77 = some (.aload_n 0) by decide +kernel) rfl ?_
    refine jr_1 jm_57 (show jw_cd cd_57 78 = some (.getfield 9) by decide +kernel) (cgr_5_0 (show jw_fld 6 9 3 = some 0 by decide +kernel)) ?_
    refine jr_1 jm_57 (show jw_cd cd_57 81 = some (.bipush 123) by decide +kernel) (mt_bi (by decide)) ?_
    refine jr_c jm_57 (show jw_cd cd_57 83 = some (.invokevirtual 35) by decide +kernel) (ccv (n := 1) (m2 := 64) (ci := 1) (a := 1) (bs := [.int (Int32.ofInt (123))]) (r := []) (js_cls cl_c1 (by decide)) (show jw_find jw_cvT 6 35 = some (1, [(1, 64)]) by decide +kernel) (by decide) rfl rfl rfl) jm_64 ⟨Nat.le_of_ble_eq_true rfl, by decide⟩ (jc_takeF hl hP (by rw [tC_eq hP.1.2.2 hP.2.2.2.1 (by decide)]; omega) ⟨by decide, by decide⟩) ?_
    refine jr_1 jm_57 (show jw_cd cd_57 86 = some (.ifCond .eq 9) by decide +kernel) (mz_t (q := .eq) (a := 0) (t := 95) (by show 0 = 0; omega) ⟨by omega, by omega⟩ (by decide) (by decide)) ?_
    refine jr_1 jm_57 (show jw_cd cd_57 95 = some (.aload_n 0) by decide +kernel) rfl ?_
    refine jr_c jm_57 (show jw_cd cd_57 96 = some (.invokevirtual 52) by decide +kernel) (ccv (n := 0) (m2 := 103) (ci := 3) (a := 5) (bs := []) (r := []) (js_cls cl_c5 (by decide)) (show jw_find jw_cvT 6 52 = some (0, [(3, 103)]) by decide +kernel) (by decide) rfl rfl rfl) jm_103 ⟨Nat.le_of_ble_eq_true rfl, by decide⟩ hnm ?_
    exact jr_v jm_57 (show jw_cd cd_57 99 = some (.areturn) by decide +kernel) rfl
theorem pN_C {T : Int → Int} {n p : Int} (ht : tOK T n) (h0 : 0 ≤ p) : pN (tC T n p) = pN (tH T n p) := by
  obtain ⟨h1, h2, h3⟩ := tC_H ht h0
  by_cases e : tH T n p = -1
  · rw [h1 e, e]
    decide
  · rw [(h2 e).1]
theorem jc_valP {β : Bool} {d : Nat} {h : jx_H} {κ : mS} (hl : 50 ≤ h.length) {N : Nat} {X : Nat → Prop} (hN : h.length = N) (hb32 : N < 2900000000) (hx : ∀ c, N ≤ c → ¬ X c) {T : Int → Int} {n p : Int} (hP : cP κ T n p) (hsc : 0 ≤ κ 7 0 ∧ κ 7 0 ≤ 16) {a : Nat} (ha : a ≤ 4) (hnc : a ≤ 3 → ¬ tH T n p = 91 ∧ ¬ tH T n p = 123) : ∃ (κ' : mS) (L : List jx_C) (b : Nat) (i : tI), jx_r (jz β) jw_M (d + 7) 57 (0, [some (.ref 5), some (.int (Int32.ofInt ((a : Int)))), none], [], (cl_mk h κ)) (cl_mk (h ++ L) (κ'), .inl (some (.ref (b)))) ∧ vN (h ++ L) X b i .leaf ∧ iok i ∧ i.2.2.2 = [] ∧ L.length ≤ 5 ∧ cvol L ≤ 17 ∧ mEq [4, 5, 7, 8, 15] κ κ' ∧ (0 ≤ κ' 7 0 ∧ κ' 7 0 ≤ 16) ∧ (∀ i' q, sPlain T n p = .inr (i', q) → i = i' ∧ cP κ' T n q) ∧ (∀ e, sPlain T n p = .inl e → cE κ' T n e) := by
  have ht := hP.1.2.2
  have h0 := hP.2.2.2.1
  have hp1 := hP.2.2.2.2
  have hcr := (tC_H ht h0).2.2
  have t0 : tx ([] : List Int) := ⟨by decide, fun c hc => absurd hc List.not_mem_nil⟩
  have mq1 : ∀ {κ' : mS} {l : List Nat}, mEq l κ κ' → (∀ g ∈ l, g ∈ [4, 5]) → mEq [4, 5, 7, 8, 15] κ κ' ∧ (0 ≤ κ' 7 0 ∧ κ' 7 0 ≤ 16) := fun {κ'} {l} hq hL => by
    refine ⟨fun f hf => hq f (fun z => hf ?_), ?_⟩
    · rcases List.mem_cons.mp (hL f z) with e | e
      · rw [e]; decide
      · rcases List.mem_cons.mp e with e | e
        · rw [e]; decide
        · exact absurd e List.not_mem_nil
    · rw [hq 7 (fun z => absurd (hL 7 z) (by decide))]
      exact hsc
  by_cases hpn : pN (tC T n p) = true
  · have hpH : pN (tH T n p) = true := by rw [← pN_C ht h0]; exact hpn
    have hnn : ¬ tH T n p = 110 ∧ ¬ tH T n p = 102 ∧ ¬ tH T n p = 116 := by
      refine ⟨fun e => ?_, fun e => ?_, fun e => ?_⟩
      all_goals
        rw [e] at hpH
        exact absurd hpH (by decide)
    obtain ⟨n1, n2⟩ := jc_num (β := β) (d := d + 5) (h := h) hl hP
    cases hs : sNum T n p with
    | inl e =>
      obtain ⟨κ', x, r1, r2, r3, r4⟩ := n2 e hs
      have hsp : sPlain T n p = .inl e := by
        unfold sPlain
        rw [if_neg hnn.1, if_neg hnn.2.1, if_neg hnn.2.2, if_pos hpH, hs]
      obtain ⟨q1, q2⟩ := mq1 r3 (fun g hg => hg)
      refine ⟨κ', [.inr (5, [.int (Int32.ofInt (3)), .int (Int32.ofInt (x)), .ref (jx_big + 9), .ref (N + 1), .ref (N + 2), .int (Int32.ofInt (0))]), .inl (4, 0, fun _ => .null), .inl (4, 0, fun _ => .null)], N, (3, x, [], []), ?_, ofV_vN hl hN (by omega) hx emp_str (by decide), ⟨show (0 : Int) ≤ 3 by decide, show (3 : Int) ≤ 6 by decide, r4, t0, t0⟩, rfl, by show 3 ≤ 5; decide, by show 6 ≤ 17; decide, q1, q2, fun i' q hh => ?_, fun e' hh => ?_⟩
      refine jr_1 jm_57 (show jw_cd cd_57 0 = some (.aload_n 0) by decide +kernel) rfl ?_
      refine jr_1 jm_57 (show jw_cd cd_57 1 = some (.getfield 9) by decide +kernel) (cgr_5_0 (show jw_fld 6 9 3 = some 0 by decide +kernel)) ?_
      refine jr_c jm_57 (show jw_cd cd_57 4 = some (.invokevirtual 15) by decide +kernel) (ccv (n := 0) (m2 := 58) (ci := 1) (a := 1) (bs := []) (r := []) (js_cls cl_c1 (by decide)) (show jw_find jw_cvT 6 15 = some (0, [(1, 58)]) by decide +kernel) (by decide) rfl rfl rfl) jm_58 ⟨Nat.le_of_ble_eq_true rfl, by decide⟩ (jc_here hl hP) ?_
      refine jr_1 jm_57 (F2 := (8, [some (.ref 5), some (.int (Int32.ofInt ((a : Int)))), some (.int (Int32.ofInt (tC T n p)))], [], (cl_mk h κ))) (show jw_cd cd_57 7 = some (.istore_n 2) by decide +kernel) rfl ?_
      refine jr_1 jm_57 (show jw_cd cd_57 8 = some (.iload_n 2) by decide +kernel) rfl ?_
      refine jr_c jm_57 (show jw_cd cd_57 9 = some (.invokestatic 21) by decide +kernel) (mc_s (n := 1) (m2 := 59) (bs := [.int (Int32.ofInt (tC T n p))]) (r := []) (by decide) (show jw_find jw_csT 6 21 = some (59, 1) by decide +kernel) rfl rfl rfl) jm_59 ⟨Nat.le_of_ble_eq_true rfl, by decide⟩ (jc_sN_t hl hcr hpn) ?_
      refine jr_1 jm_57 (show jw_cd cd_57 12 = some (.ifCond .eq 14) by decide +kernel) (mz_f (q := .eq) (a := 1) (by show ¬ (1 = 0); omega) ⟨by omega, by omega⟩ (by decide)) ?_
      refine jr_1 jm_57 (show jw_cd cd_57 15 = some (.aload_n 0) by decide +kernel) rfl ?_
      refine jr_1 jm_57 (show jw_cd cd_57 16 = some (.getfield 9) by decide +kernel) (cgr_5_0 (show jw_fld 6 9 3 = some 0 by decide +kernel)) ?_
      refine jr_c jm_57 (show jw_cd cd_57 19 = some (.invokevirtual 25) by decide +kernel) (ccv (n := 0) (m2 := 60) (ci := 1) (a := 1) (bs := []) (r := []) (js_cls cl_c1 (by decide)) (show jw_find jw_cvT 6 25 = some (0, [(1, 60)]) by decide +kernel) (by decide) rfl rfl rfl) jm_60 ⟨Nat.le_of_ble_eq_true rfl, by decide⟩ r1 ?_
      refine jr_c jm_57 (show jw_cd cd_57 22 = some (.invokestatic 29) by decide +kernel) (mc_s (n := 1) (m2 := 63) (bs := [.int (Int32.ofInt (x))]) (r := []) (by decide) (show jw_find jw_csT 6 29 = some (63, 1) by decide +kernel) rfl rfl rfl) jm_63 ⟨Nat.le_of_ble_eq_true rfl, by decide⟩ (jc_ofN hl hN (by omega)) ?_
      exact jr_v jm_57 (show jw_cd cd_57 25 = some (.areturn) by decide +kernel) rfl
      · rw [hsp] at hh; cases hh
      · rw [hsp] at hh
        injection hh with hh
        rw [← hh]; exact r2
    | inr xq =>
      obtain ⟨x, q⟩ := xq
      obtain ⟨κ', r1, r2, r3⟩ := n1 x q hs
      have hxb := (sNum_ok ht h0 hp1 hs).2.2
      have hsp : sPlain T n p = .inr ((3, x, [], []), q) := by
        unfold sPlain
        rw [if_neg hnn.1, if_neg hnn.2.1, if_neg hnn.2.2, if_pos hpH, hs]
      obtain ⟨q1, q2⟩ := mq1 r3 (fun g hg => by rcases List.mem_cons.mp hg with e | e; · rw [e]; decide
                                                · exact absurd e List.not_mem_nil)
      refine ⟨κ', [.inr (5, [.int (Int32.ofInt (3)), .int (Int32.ofInt (x)), .ref (jx_big + 9), .ref (N + 1), .ref (N + 2), .int (Int32.ofInt (0))]), .inl (4, 0, fun _ => .null), .inl (4, 0, fun _ => .null)], N, (3, x, [], []), ?_, ofV_vN hl hN (by omega) hx emp_str (by decide), ⟨show (0 : Int) ≤ 3 by decide, show (3 : Int) ≤ 6 by decide, ⟨by show -2147483648 ≤ x; omega, by show x ≤ 2147483647; omega⟩, t0, t0⟩, rfl, by show 3 ≤ 5; decide, by show 6 ≤ 17; decide, q1, q2, fun i' q hh => ?_, fun e' hh => ?_⟩
      refine jr_1 jm_57 (show jw_cd cd_57 0 = some (.aload_n 0) by decide +kernel) rfl ?_
      refine jr_1 jm_57 (show jw_cd cd_57 1 = some (.getfield 9) by decide +kernel) (cgr_5_0 (show jw_fld 6 9 3 = some 0 by decide +kernel)) ?_
      refine jr_c jm_57 (show jw_cd cd_57 4 = some (.invokevirtual 15) by decide +kernel) (ccv (n := 0) (m2 := 58) (ci := 1) (a := 1) (bs := []) (r := []) (js_cls cl_c1 (by decide)) (show jw_find jw_cvT 6 15 = some (0, [(1, 58)]) by decide +kernel) (by decide) rfl rfl rfl) jm_58 ⟨Nat.le_of_ble_eq_true rfl, by decide⟩ (jc_here hl hP) ?_
      refine jr_1 jm_57 (F2 := (8, [some (.ref 5), some (.int (Int32.ofInt ((a : Int)))), some (.int (Int32.ofInt (tC T n p)))], [], (cl_mk h κ))) (show jw_cd cd_57 7 = some (.istore_n 2) by decide +kernel) rfl ?_
      refine jr_1 jm_57 (show jw_cd cd_57 8 = some (.iload_n 2) by decide +kernel) rfl ?_
      refine jr_c jm_57 (show jw_cd cd_57 9 = some (.invokestatic 21) by decide +kernel) (mc_s (n := 1) (m2 := 59) (bs := [.int (Int32.ofInt (tC T n p))]) (r := []) (by decide) (show jw_find jw_csT 6 21 = some (59, 1) by decide +kernel) rfl rfl rfl) jm_59 ⟨Nat.le_of_ble_eq_true rfl, by decide⟩ (jc_sN_t hl hcr hpn) ?_
      refine jr_1 jm_57 (show jw_cd cd_57 12 = some (.ifCond .eq 14) by decide +kernel) (mz_f (q := .eq) (a := 1) (by show ¬ (1 = 0); omega) ⟨by omega, by omega⟩ (by decide)) ?_
      refine jr_1 jm_57 (show jw_cd cd_57 15 = some (.aload_n 0) by decide +kernel) rfl ?_
      refine jr_1 jm_57 (show jw_cd cd_57 16 = some (.getfield 9) by decide +kernel) (cgr_5_0 (show jw_fld 6 9 3 = some 0 by decide +kernel)) ?_
      refine jr_c jm_57 (show jw_cd cd_57 19 = some (.invokevirtual 25) by decide +kernel) (ccv (n := 0) (m2 := 60) (ci := 1) (a := 1) (bs := []) (r := []) (js_cls cl_c1 (by decide)) (show jw_find jw_cvT 6 25 = some (0, [(1, 60)]) by decide +kernel) (by decide) rfl rfl rfl) jm_60 ⟨Nat.le_of_ble_eq_true rfl, by decide⟩ r1 ?_
      refine jr_c jm_57 (show jw_cd cd_57 22 = some (.invokestatic 29) by decide +kernel) (mc_s (n := 1) (m2 := 63) (bs := [.int (Int32.ofInt (x))]) (r := []) (by decide) (show jw_find jw_csT 6 29 = some (63, 1) by decide +kernel) rfl rfl rfl) jm_63 ⟨Nat.le_of_ble_eq_true rfl, by decide⟩ (jc_ofN hl hN (by omega)) ?_
      exact jr_v jm_57 (show jw_cd cd_57 25 = some (.areturn) by decide +kernel) rfl
      · rw [hsp] at hh
        injection hh with hh
        injection hh with h1 h2
        exact ⟨h1, by rw [← h2]; exact r2⟩
      · rw [hsp] at hh; cases hh
  have hpH : ¬ pN (tH T n p) = true := by rw [← pN_C ht h0]; exact hpn
  by_cases hc : tH T n p = 39
  · have hpn1 : p < n := (tH_r ht h0).2.2.2 (by rw [hc]; decide)
    have hP1 : cP (su κ 4 0 (p + 1)) T n (p + 1) := cP_mv hP (by omega) (by omega)
    obtain ⟨κ', L1, s', r1, r2, r3, r4, r5, r6, r7, r8, r9⟩ := jc_readQ (β := β) (d := d) (h := h) hl hN (by omega) hx hP1 (by rw [su_nf (by decide)]; exact hsc)
    have hl2 : 50 ≤ (h ++ L1).length := by rw [List.length_append]; omega
    have hN2 : (h ++ L1).length = N + 2 := by rw [List.length_append]; omega
    have hsp : sPlain T n p = (match sText T n p with
        | .inl e => .inl e
        | .inr (s, q) => .inr ((4, 0, s, []), q)) := by
      unfold sPlain
      rw [if_neg (by rw [hc]; decide), if_neg (by rw [hc]; decide), if_neg (by rw [hc]; decide), if_neg hpH, if_pos hc]
      cases sText T n p with
      | inl e => rfl
      | inr x => rfl
    refine ⟨κ', L1 ++ [.inr (5, [.int (Int32.ofInt (4)), .int (Int32.ofInt (0)), .ref N, .ref (N + 2 + 1), .ref (N + 2 + 2), .int (Int32.ofInt (0))]), .inl (4, 0, fun _ => .null), .inl (4, 0, fun _ => .null)], N + 2, (4, 0, s', []), ?_, ?_, ⟨show (0 : Int) ≤ 4 by decide, show (4 : Int) ≤ 6 by decide, ⟨by show -2147483648 ≤ (0 : Int); decide, by show (0 : Int) ≤ 2147483647; decide⟩, r5, t0⟩, rfl, by rw [List.length_append, r2]; show 2 + 3 ≤ 5; decide, by rw [cvol_app]; show cvol L1 + 6 ≤ 17; omega, fun f hf => ?_, r7, fun i' q hh => ?_, fun e' hh => ?_⟩
    · rw [← List.append_assoc]
      refine jr_1 jm_57 (show jw_cd cd_57 0 = some (.aload_n 0) by decide +kernel) rfl ?_
      refine jr_1 jm_57 (show jw_cd cd_57 1 = some (.getfield 9) by decide +kernel) (cgr_5_0 (show jw_fld 6 9 3 = some 0 by decide +kernel)) ?_
      refine jr_c jm_57 (show jw_cd cd_57 4 = some (.invokevirtual 15) by decide +kernel) (ccv (n := 0) (m2 := 58) (ci := 1) (a := 1) (bs := []) (r := []) (js_cls cl_c1 (by decide)) (show jw_find jw_cvT 6 15 = some (0, [(1, 58)]) by decide +kernel) (by decide) rfl rfl rfl) jm_58 ⟨Nat.le_of_ble_eq_true rfl, by decide⟩ (jc_here hl hP) ?_
      refine jr_1 jm_57 (F2 := (8, [some (.ref 5), some (.int (Int32.ofInt ((a : Int)))), some (.int (Int32.ofInt (tC T n p)))], [], (cl_mk h κ))) (show jw_cd cd_57 7 = some (.istore_n 2) by decide +kernel) rfl ?_
      refine jr_1 jm_57 (show jw_cd cd_57 8 = some (.iload_n 2) by decide +kernel) rfl ?_
      refine jr_c jm_57 (show jw_cd cd_57 9 = some (.invokestatic 21) by decide +kernel) (mc_s (n := 1) (m2 := 59) (bs := [.int (Int32.ofInt (tC T n p))]) (r := []) (by decide) (show jw_find jw_csT 6 21 = some (59, 1) by decide +kernel) rfl rfl rfl) jm_59 ⟨Nat.le_of_ble_eq_true rfl, by decide⟩ (jc_sN_f hl hcr hpn) ?_
      refine jr_1 jm_57 (show jw_cd cd_57 12 = some (.ifCond .eq 14) by decide +kernel) (mz_t (q := .eq) (a := 0) (t := 26) (by show 0 = 0; omega) ⟨by omega, by omega⟩ (by decide) (by decide)) ?_
      refine jr_1 jm_57 (show jw_cd cd_57 26 = some (.aload_n 0) by decide +kernel) rfl ?_
      refine jr_1 jm_57 (show jw_cd cd_57 27 = some (.getfield 9) by decide +kernel) (cgr_5_0 (show jw_fld 6 9 3 = some 0 by decide +kernel)) ?_
      refine jr_1 jm_57 (show jw_cd cd_57 30 = some (.bipush 39) by decide +kernel) (mt_bi (by decide)) ?_
      refine jr_c jm_57 (show jw_cd cd_57 32 = some (.invokevirtual 35) by decide +kernel) (ccv (n := 1) (m2 := 64) (ci := 1) (a := 1) (bs := [.int (Int32.ofInt (39))]) (r := []) (js_cls cl_c1 (by decide)) (show jw_find jw_cvT 6 35 = some (1, [(1, 64)]) by decide +kernel) (by decide) rfl rfl rfl) jm_64 ⟨Nat.le_of_ble_eq_true rfl, by decide⟩ (jc_takeT hl hP ((tC_eq hP.1.2.2 hP.2.2.2.1 (by decide)).mpr hc) ⟨by decide, by decide⟩) ?_
      refine jr_1 jm_57 (show jw_cd cd_57 35 = some (.ifCond .eq 14) by decide +kernel) (mz_f (q := .eq) (a := 1) (by show ¬ (1 = 0); omega) ⟨by omega, by omega⟩ (by decide)) ?_
      refine jr_1 jm_57 (show jw_cd cd_57 38 = some (.aload_n 0) by decide +kernel) rfl ?_
      refine jr_1 jm_57 (show jw_cd cd_57 39 = some (.getfield 9) by decide +kernel) (cgr_5_0 (show jw_fld 6 9 3 = some 0 by decide +kernel)) ?_
      refine jr_c jm_57 (show jw_cd cd_57 42 = some (.invokevirtual 38) by decide +kernel) (ccv (n := 0) (m2 := 65) (ci := 1) (a := 1) (bs := []) (r := []) (js_cls cl_c1 (by decide)) (show jw_find jw_cvT 6 38 = some (0, [(1, 65)]) by decide +kernel) (by decide) rfl rfl rfl) jm_65 ⟨Nat.le_of_ble_eq_true rfl, by decide⟩ r1 ?_
      refine jr_c jm_57 (show jw_cd cd_57 45 = some (.invokestatic 42) by decide +kernel) (mc_s (n := 1) (m2 := 91) (bs := [.ref N]) (r := []) (by decide) (show jw_find jw_csT 6 42 = some (91, 1) by decide +kernel) rfl rfl rfl) jm_91 ⟨Nat.le_of_ble_eq_true rfl, by decide⟩ (jc_ofT (N := N + 2) hl2 hN2 (by omega)) ?_
      exact jr_v jm_57 (show jw_cd cd_57 48 = some (.areturn) by decide +kernel) rfl
    · rw [← List.append_assoc]
      exact ofV_vN hl2 hN2 (by omega) (fun c hc => hx c (by omega)) r4 (by decide)
    · rw [r6 f hf]
      exact su_row (fun e => hf (by rw [e]; decide))
    · rw [hsp] at hh
      cases hs : sText T n p with
      | inl e => rw [hs] at hh; cases hh
      | inr sq =>
        obtain ⟨s, q'⟩ := sq
        rw [hs] at hh
        injection hh with hh
        injection hh with h1 h2
        obtain ⟨z1, z2⟩ := r8 s q' hs
        exact ⟨by rw [← h1, z1], by rw [← h2]; exact z2⟩
    · rw [hsp] at hh
      cases hs : sText T n p with
      | inr sq =>
        obtain ⟨s, q'⟩ := sq
        rw [hs] at hh
        cases hh
      | inl e =>
        rw [hs] at hh
        injection hh with hh
        rw [← hh]
        exact r9 e hs
  obtain ⟨m1, m2, m3, m4⟩ := jc_name (β := β) (d := d + 4) hl hN (by omega) hP
  have mqs : ∀ (g : Nat) (x : Int), g = 4 ∨ g = 5 → mEq [4, 5, 7, 8, 15] κ (su κ g 0 x) ∧ (0 ≤ (su κ g 0 x) 7 0 ∧ (su κ g 0 x) 7 0 ≤ 16) := fun g x hg => by
    refine mq1 (l := [g]) (fun f hf => su_row (fun e => hf (by rw [e]; exact List.mem_singleton.mpr rfl))) (fun g' hg' => ?_)
    rw [List.mem_singleton.mp hg']
    rcases hg with e | e
    · rw [e]; decide
    · rw [e]; decide
  have fin : ∀ (kd : Int) (κ' : mS), 0 ≤ kd ∧ kd ≤ 2 → jx_r (jz β) jw_M (d + 6) 103 (0, [some (.ref 5)], [], (cl_mk h κ)) (cl_mk (h ++ [.inr (5, [.int (Int32.ofInt (kd)), .int (Int32.ofInt (0)), .ref (jx_big + 9), .ref (N + 1), .ref (N + 2), .int (Int32.ofInt (0))]), .inl (4, 0, fun _ => .null), .inl (4, 0, fun _ => .null)]) (κ'), .inl (some (.ref (N)))) → mEq [4, 5, 7, 8, 15] κ κ' ∧ (0 ≤ κ' 7 0 ∧ κ' 7 0 ≤ 16) → (∀ i' q, sPlain T n p = .inr (i', q) → (kd, 0, [], []) = i' ∧ cP κ' T n q) → (∀ e, sPlain T n p = .inl e → cE κ' T n e) → ∃ (κ' : mS) (L : List jx_C) (b : Nat) (i : tI), jx_r (jz β) jw_M (d + 7) 57 (0, [some (.ref 5), some (.int (Int32.ofInt ((a : Int)))), none], [], (cl_mk h κ)) (cl_mk (h ++ L) (κ'), .inl (some (.ref (b)))) ∧ vN (h ++ L) X b i .leaf ∧ iok i ∧ i.2.2.2 = [] ∧ L.length ≤ 5 ∧ cvol L ≤ 17 ∧ mEq [4, 5, 7, 8, 15] κ κ' ∧ (0 ≤ κ' 7 0 ∧ κ' 7 0 ≤ 16) ∧ (∀ i' q, sPlain T n p = .inr (i', q) → i = i' ∧ cP κ' T n q) ∧ (∀ e, sPlain T n p = .inl e → cE κ' T n e) := by
    intro kd κ' hkd hr hm h1 h2
    exact ⟨κ', [.inr (5, [.int (Int32.ofInt (kd)), .int (Int32.ofInt (0)), .ref (jx_big + 9), .ref (N + 1), .ref (N + 2), .int (Int32.ofInt (0))]), .inl (4, 0, fun _ => .null), .inl (4, 0, fun _ => .null)], N, (kd, 0, [], []), jc_valNm hl hP ha hpn hc hnc hr, ofV_vN hl hN (by omega) hx emp_str (by omega), ⟨by show 0 ≤ kd; omega, by show kd ≤ 6; omega, ⟨by show -2147483648 ≤ (0 : Int); decide, by show (0 : Int) ≤ 2147483647; decide⟩, t0, t0⟩, rfl, by show 3 ≤ 5; decide, by show 6 ≤ 17; decide, hm.1, hm.2, h1, h2⟩
  have mv : ∀ c : Int, tH T n p = c → 1 ≤ c → cP (su κ 4 0 (p + 1)) T n (p + 1) := fun c hc h1 => cP_mv hP (by omega) (by have := (tH_r ht h0).2.2.2 (by omega); omega)
  by_cases c0 : tH T n p = 110
  · have hsp : sPlain T n p = .inr ((0, 0, [], []), p + 1) := if_pos c0
    refine fin 0 _ ⟨by decide, by decide⟩ (m3 c0) (mqs 4 _ (Or.inl rfl)) (fun i' q hh => ?_) (fun e hh => by rw [hsp] at hh; cases hh)
    rw [hsp] at hh
    injection hh with hh
    injection hh with h1 h2
    exact ⟨h1, by rw [← h2]; exact mv _ c0 (by decide)⟩
  by_cases c1 : tH T n p = 102
  · have hsp : sPlain T n p = .inr ((1, 0, [], []), p + 1) := (if_neg c0).trans (if_pos c1)
    refine fin 1 _ ⟨by decide, by decide⟩ (m1 c1) (mqs 4 _ (Or.inl rfl)) (fun i' q hh => ?_) (fun e hh => by rw [hsp] at hh; cases hh)
    rw [hsp] at hh
    injection hh with hh
    injection hh with h1 h2
    exact ⟨h1, by rw [← h2]; exact mv _ c1 (by decide)⟩
  by_cases c2 : tH T n p = 116
  · have hsp : sPlain T n p = .inr ((2, 0, [], []), p + 1) := (if_neg c0).trans ((if_neg c1).trans (if_pos c2))
    refine fin 2 _ ⟨by decide, by decide⟩ (m2 c2) (mqs 4 _ (Or.inl rfl)) (fun i' q hh => ?_) (fun e hh => by rw [hsp] at hh; cases hh)
    rw [hsp] at hh
    injection hh with hh
    injection hh with h1 h2
    exact ⟨h1, by rw [← h2]; exact mv _ c2 (by decide)⟩
  · have hsp : sPlain T n p = .inl p := by
      unfold sPlain
      rw [if_neg c0, if_neg c1, if_neg c2, if_neg hpH, if_neg hc]
    refine fin 0 _ ⟨by decide, by decide⟩ (m4 c1 c2 c0) (mqs 5 _ (Or.inr rfl)) (fun i' q hh => by rw [hsp] at hh; cases hh) (fun e hh => ?_)
    rw [hsp] at hh
    injection hh with hh
    rw [← hh]
    exact cP_w hP h0 (by have := ht.2.1; omega)
theorem jc_val91 {β : Bool} {d : Nat} {h : jx_H} {κ : mS} (hl : 50 ≤ h.length) {T : Int → Int} {n p : Int} (hP : cP κ T n p) {h' : jx_H} {κ' : mS} {a b : Nat} (ha : a ≤ 3) (hc : tH T n p = 91) (hr : jx_r (jz β) jw_M (d + 1) 92 (0, [some (.ref 5), some (.int (Int32.ofInt ((a : Int)))), none, none], [], (cl_mk h (su κ 4 0 (p + 1)))) (cl_mk h' (κ'), .inl (some (.ref (b))))) : jx_r (jz β) jw_M (d + 2) 57 (0, [some (.ref 5), some (.int (Int32.ofInt ((a : Int)))), none], [], (cl_mk h κ)) (cl_mk h' (κ'), .inl (some (.ref (b)))) := by
  have ht := hP.1.2.2
  have h0 := hP.2.2.2.1
  have hcr := (tC_H ht h0).2.2
  have hpn : ¬ pN (tC T n p) = true := by rw [pN_C ht h0, hc]; decide
  refine jr_1 jm_57 (show jw_cd cd_57 0 = some (.aload_n 0) by decide +kernel) rfl ?_
  refine jr_1 jm_57 (show jw_cd cd_57 1 = some (.getfield 9) by decide +kernel) (cgr_5_0 (show jw_fld 6 9 3 = some 0 by decide +kernel)) ?_
  refine jr_c jm_57 (show jw_cd cd_57 4 = some (.invokevirtual 15) by decide +kernel) (ccv (n := 0) (m2 := 58) (ci := 1) (a := 1) (bs := []) (r := []) (js_cls cl_c1 (by decide)) (show jw_find jw_cvT 6 15 = some (0, [(1, 58)]) by decide +kernel) (by decide) rfl rfl rfl) jm_58 ⟨Nat.le_of_ble_eq_true rfl, by decide⟩ (jc_here hl hP) ?_
  refine jr_1 jm_57 (F2 := (8, [some (.ref 5), some (.int (Int32.ofInt ((a : Int)))), some (.int (Int32.ofInt (tC T n p)))], [], (cl_mk h κ))) (show jw_cd cd_57 7 = some (.istore_n 2) by decide +kernel) rfl ?_
  refine jr_1 jm_57 (show jw_cd cd_57 8 = some (.iload_n 2) by decide +kernel) rfl ?_
  refine jr_c jm_57 (show jw_cd cd_57 9 = some (.invokestatic 21) by decide +kernel) (mc_s (n := 1) (m2 := 59) (bs := [.int (Int32.ofInt (tC T n p))]) (r := []) (by decide) (show jw_find jw_csT 6 21 = some (59, 1) by decide +kernel) rfl rfl rfl) jm_59 ⟨Nat.le_of_ble_eq_true rfl, by decide⟩ (jc_sN_f hl hcr hpn) ?_
  refine jr_1 jm_57 (show jw_cd cd_57 12 = some (.ifCond .eq 14) by decide +kernel) (mz_t (q := .eq) (a := 0) (t := 26) (by show 0 = 0; omega) ⟨by omega, by omega⟩ (by decide) (by decide)) ?_
  refine jr_1 jm_57 (show jw_cd cd_57 26 = some (.aload_n 0) by decide +kernel) rfl ?_
  refine jr_1 jm_57 (show jw_cd cd_57 27 = some (.getfield 9) by decide +kernel) (cgr_5_0 (show jw_fld 6 9 3 = some 0 by decide +kernel)) ?_
  refine jr_1 jm_57 (show jw_cd cd_57 30 = some (.bipush 39) by decide +kernel) (mt_bi (by decide)) ?_
  refine jr_c jm_57 (show jw_cd cd_57 32 = some (.invokevirtual 35) by decide +kernel) (ccv (n := 1) (m2 := 64) (ci := 1) (a := 1) (bs := [.int (Int32.ofInt (39))]) (r := []) (js_cls cl_c1 (by decide)) (show jw_find jw_cvT 6 35 = some (1, [(1, 64)]) by decide +kernel) (by decide) rfl rfl rfl) jm_64 ⟨Nat.le_of_ble_eq_true rfl, by decide⟩ (jc_takeF hl hP (by rw [tC_eq hP.1.2.2 hP.2.2.2.1 (by decide)]; omega) ⟨by decide, by decide⟩) ?_
  refine jr_1 jm_57 (show jw_cd cd_57 35 = some (.ifCond .eq 14) by decide +kernel) (mz_t (q := .eq) (a := 0) (t := 49) (by show 0 = 0; omega) ⟨by omega, by omega⟩ (by decide) (by decide)) ?_
  refine jr_1 jm_57 (show jw_cd cd_57 49 = some (.iload_n 1) by decide +kernel) rfl ?_
  refine jr_1 jm_57 (show jw_cd cd_57 50 = some (.iconst 3) by decide +kernel) rfl ?_
  refine jr_1 jm_57 (show jw_cd cd_57 51 = some (.if_icmp .gt 21) by decide +kernel) (mb_f (q := .gt) (a := (a : Int)) (b := 3) (by show ¬ (3 < (a : Int)); omega) ⟨by omega, by omega⟩ ⟨by omega, by omega⟩ (by decide)) ?_
  refine jr_1 jm_57 (show jw_cd cd_57 54 = some (.aload_n 0) by decide +kernel) rfl ?_
  refine jr_1 jm_57 (show jw_cd cd_57 55 = some (.getfield 9) by decide +kernel) (cgr_5_0 (show jw_fld 6 9 3 = some 0 by decide +kernel)) ?_
  refine jr_1 jm_57 (show jw_cd cd_57 58 = some (.bipush 91) by decide +kernel) (mt_bi (by decide)) ?_
  refine jr_c jm_57 (show jw_cd cd_57 60 = some (.invokevirtual 35) by decide +kernel) (ccv (n := 1) (m2 := 64) (ci := 1) (a := 1) (bs := [.int (Int32.ofInt (91))]) (r := []) (js_cls cl_c1 (by decide)) (show jw_find jw_cvT 6 35 = some (1, [(1, 64)]) by decide +kernel) (by decide) rfl rfl rfl) jm_64 ⟨Nat.le_of_ble_eq_true rfl, by decide⟩ (jc_takeT hl hP ((tC_eq hP.1.2.2 hP.2.2.2.1 (by decide)).mpr hc) ⟨by decide, by decide⟩) ?_
  refine jr_1 jm_57 (show jw_cd cd_57 63 = some (.ifCond .eq 9) by decide +kernel) (mz_f (q := .eq) (a := 1) (by show ¬ (1 = 0); omega) ⟨by omega, by omega⟩ (by decide)) ?_
  refine jr_1 jm_57 (show jw_cd cd_57 66 = some (.aload_n 0) by decide +kernel) rfl ?_
  refine jr_1 jm_57 (show jw_cd cd_57 67 = some (.iload_n 1) by decide +kernel) rfl ?_
  refine jr_c jm_57 (show jw_cd cd_57 68 = some (.invokevirtual 46) by decide +kernel) (ccv (n := 1) (m2 := 92) (ci := 3) (a := 5) (bs := [.int (Int32.ofInt ((a : Int)))]) (r := []) (js_cls cl_c5 (by decide)) (show jw_find jw_cvT 6 46 = some (1, [(3, 92)]) by decide +kernel) (by decide) rfl rfl rfl) jm_92 ⟨Nat.le_of_ble_eq_true rfl, by decide⟩ hr ?_
  exact jr_v jm_57 (show jw_cd cd_57 71 = some (.areturn) by decide +kernel) rfl
theorem jc_val123 {β : Bool} {d : Nat} {h : jx_H} {κ : mS} (hl : 50 ≤ h.length) {T : Int → Int} {n p : Int} (hP : cP κ T n p) {h' : jx_H} {κ' : mS} {a b : Nat} (ha : a ≤ 3) (hc : tH T n p = 123) (hr : jx_r (jz β) jw_M (d + 1) 97 (0, [some (.ref 5), some (.int (Int32.ofInt ((a : Int)))), none, none, none], [], (cl_mk h (su κ 4 0 (p + 1)))) (cl_mk h' (κ'), .inl (some (.ref (b))))) : jx_r (jz β) jw_M (d + 2) 57 (0, [some (.ref 5), some (.int (Int32.ofInt ((a : Int)))), none], [], (cl_mk h κ)) (cl_mk h' (κ'), .inl (some (.ref (b)))) := by
  have ht := hP.1.2.2
  have h0 := hP.2.2.2.1
  have hcr := (tC_H ht h0).2.2
  have hpn : ¬ pN (tC T n p) = true := by rw [pN_C ht h0, hc]; decide
  refine jr_1 jm_57 (show jw_cd cd_57 0 = some (.aload_n 0) by decide +kernel) rfl ?_
  refine jr_1 jm_57 (show jw_cd cd_57 1 = some (.getfield 9) by decide +kernel) (cgr_5_0 (show jw_fld 6 9 3 = some 0 by decide +kernel)) ?_
  refine jr_c jm_57 (show jw_cd cd_57 4 = some (.invokevirtual 15) by decide +kernel) (ccv (n := 0) (m2 := 58) (ci := 1) (a := 1) (bs := []) (r := []) (js_cls cl_c1 (by decide)) (show jw_find jw_cvT 6 15 = some (0, [(1, 58)]) by decide +kernel) (by decide) rfl rfl rfl) jm_58 ⟨Nat.le_of_ble_eq_true rfl, by decide⟩ (jc_here hl hP) ?_
  refine jr_1 jm_57 (F2 := (8, [some (.ref 5), some (.int (Int32.ofInt ((a : Int)))), some (.int (Int32.ofInt (tC T n p)))], [], (cl_mk h κ))) (show jw_cd cd_57 7 = some (.istore_n 2) by decide +kernel) rfl ?_
  refine jr_1 jm_57 (show jw_cd cd_57 8 = some (.iload_n 2) by decide +kernel) rfl ?_
  refine jr_c jm_57 (show jw_cd cd_57 9 = some (.invokestatic 21) by decide +kernel) (mc_s (n := 1) (m2 := 59) (bs := [.int (Int32.ofInt (tC T n p))]) (r := []) (by decide) (show jw_find jw_csT 6 21 = some (59, 1) by decide +kernel) rfl rfl rfl) jm_59 ⟨Nat.le_of_ble_eq_true rfl, by decide⟩ (jc_sN_f hl hcr hpn) ?_
  refine jr_1 jm_57 (show jw_cd cd_57 12 = some (.ifCond .eq 14) by decide +kernel) (mz_t (q := .eq) (a := 0) (t := 26) (by show 0 = 0; omega) ⟨by omega, by omega⟩ (by decide) (by decide)) ?_
  refine jr_1 jm_57 (show jw_cd cd_57 26 = some (.aload_n 0) by decide +kernel) rfl ?_
  refine jr_1 jm_57 (show jw_cd cd_57 27 = some (.getfield 9) by decide +kernel) (cgr_5_0 (show jw_fld 6 9 3 = some 0 by decide +kernel)) ?_
  refine jr_1 jm_57 (show jw_cd cd_57 30 = some (.bipush 39) by decide +kernel) (mt_bi (by decide)) ?_
  refine jr_c jm_57 (show jw_cd cd_57 32 = some (.invokevirtual 35) by decide +kernel) (ccv (n := 1) (m2 := 64) (ci := 1) (a := 1) (bs := [.int (Int32.ofInt (39))]) (r := []) (js_cls cl_c1 (by decide)) (show jw_find jw_cvT 6 35 = some (1, [(1, 64)]) by decide +kernel) (by decide) rfl rfl rfl) jm_64 ⟨Nat.le_of_ble_eq_true rfl, by decide⟩ (jc_takeF hl hP (by rw [tC_eq hP.1.2.2 hP.2.2.2.1 (by decide)]; omega) ⟨by decide, by decide⟩) ?_
  refine jr_1 jm_57 (show jw_cd cd_57 35 = some (.ifCond .eq 14) by decide +kernel) (mz_t (q := .eq) (a := 0) (t := 49) (by show 0 = 0; omega) ⟨by omega, by omega⟩ (by decide) (by decide)) ?_
  refine jr_1 jm_57 (show jw_cd cd_57 49 = some (.iload_n 1) by decide +kernel) rfl ?_
  refine jr_1 jm_57 (show jw_cd cd_57 50 = some (.iconst 3) by decide +kernel) rfl ?_
  refine jr_1 jm_57 (show jw_cd cd_57 51 = some (.if_icmp .gt 21) by decide +kernel) (mb_f (q := .gt) (a := (a : Int)) (b := 3) (by show ¬ (3 < (a : Int)); omega) ⟨by omega, by omega⟩ ⟨by omega, by omega⟩ (by decide)) ?_
  refine jr_1 jm_57 (show jw_cd cd_57 54 = some (.aload_n 0) by decide +kernel) rfl ?_
  refine jr_1 jm_57 (show jw_cd cd_57 55 = some (.getfield 9) by decide +kernel) (cgr_5_0 (show jw_fld 6 9 3 = some 0 by decide +kernel)) ?_
  refine jr_1 jm_57 (show jw_cd cd_57 58 = some (.bipush 91) by decide +kernel) (mt_bi (by decide)) ?_
  refine jr_c jm_57 (show jw_cd cd_57 60 = some (.invokevirtual 35) by decide +kernel) (ccv (n := 1) (m2 := 64) (ci := 1) (a := 1) (bs := [.int (Int32.ofInt (91))]) (r := []) (js_cls cl_c1 (by decide)) (show jw_find jw_cvT 6 35 = some (1, [(1, 64)]) by decide +kernel) (by decide) rfl rfl rfl) jm_64 ⟨Nat.le_of_ble_eq_true rfl, by decide⟩ (jc_takeF hl hP (by rw [tC_eq hP.1.2.2 hP.2.2.2.1 (by decide)]; omega) ⟨by decide, by decide⟩) ?_
  refine jr_1 jm_57 (show jw_cd cd_57 63 = some (.ifCond .eq 9) by decide +kernel) (mz_t (q := .eq) (a := 0) (t := 72) (by show 0 = 0; omega) ⟨by omega, by omega⟩ (by decide) (by decide)) ?_
  refine jr_1 jm_57 (show jw_cd cd_57 72 = some (.iload_n 1) by decide +kernel) rfl ?_
  refine jr_1 jm_57 (show jw_cd cd_57 73 = some (.iconst 3) by decide +kernel) rfl ?_
  refine jr_1 jm_57 (show jw_cd cd_57 74 = some (.if_icmp .gt 21) by decide +kernel) (mb_f (q := .gt) (a := (a : Int)) (b := 3) (by show ¬ (3 < (a : Int)); omega) ⟨by omega, by omega⟩ ⟨by omega, by omega⟩ (by decide)) ?_
  refine jr_1 jm_57 (show jw_cd cd_57 77 = some (.aload_n 0) by decide +kernel) rfl ?_
  refine jr_1 jm_57 (show jw_cd cd_57 78 = some (.getfield 9) by decide +kernel) (cgr_5_0 (show jw_fld 6 9 3 = some 0 by decide +kernel)) ?_
  refine jr_1 jm_57 (show jw_cd cd_57 81 = some (.bipush 123) by decide +kernel) (mt_bi (by decide)) ?_
  refine jr_c jm_57 (show jw_cd cd_57 83 = some (.invokevirtual 35) by decide +kernel) (ccv (n := 1) (m2 := 64) (ci := 1) (a := 1) (bs := [.int (Int32.ofInt (123))]) (r := []) (js_cls cl_c1 (by decide)) (show jw_find jw_cvT 6 35 = some (1, [(1, 64)]) by decide +kernel) (by decide) rfl rfl rfl) jm_64 ⟨Nat.le_of_ble_eq_true rfl, by decide⟩ (jc_takeT hl hP ((tC_eq hP.1.2.2 hP.2.2.2.1 (by decide)).mpr hc) ⟨by decide, by decide⟩) ?_
  refine jr_1 jm_57 (show jw_cd cd_57 86 = some (.ifCond .eq 9) by decide +kernel) (mz_f (q := .eq) (a := 1) (by show ¬ (1 = 0); omega) ⟨by omega, by omega⟩ (by decide)) ?_
  refine jr_1 jm_57 (show jw_cd cd_57 89 = some (.aload_n 0) by decide +kernel) rfl ?_
  refine jr_1 jm_57 (show jw_cd cd_57 90 = some (.iload_n 1) by decide +kernel) rfl ?_
  refine jr_c jm_57 (show jw_cd cd_57 91 = some (.invokevirtual 49) by decide +kernel) (ccv (n := 1) (m2 := 97) (ci := 3) (a := 5) (bs := [.int (Int32.ofInt ((a : Int)))]) (r := []) (js_cls cl_c5 (by decide)) (show jw_find jw_cvT 6 49 = some (1, [(3, 97)]) by decide +kernel) (by decide) rfl rfl rfl) jm_97 ⟨Nat.le_of_ble_eq_true rfl, by decide⟩ hr ?_
  exact jr_v jm_57 (show jw_cd cd_57 94 = some (.areturn) by decide +kernel) rfl
