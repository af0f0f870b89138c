/-! ===== the class: run, its query is there (printed by program: gen136.py) ===== -/
theorem jm_157 : jw_M 157 = some (0, 2, ((Option.some Jvm.ClassFile.FieldType.int), false), jw_cd cd_157, fun _ _ => none) := rfl
theorem js_wr7 {β : Bool} {d : Nat} {h : jx_H} {κ : mS} (hl : 50 ≤ h.length) {r cap : Nat} {fb : Nat → Value} {l : List Int} (hs : sbR h κ r cap fb l) (hb32 : h.length + sbP cap < 2999999999) (hle : l.length < 240) : ∃ (h' : jx_H) (κ' : mS) (r' cap' : Nat) (fb' : Nat → Value), jx_r (jz β) jw_M (d + 6) 13 (0, [some (.ref 7), some (.ref 13), some (.int (Int32.ofInt (0)))], [], (cl_mk h κ)) (cl_mk h' κ', .inl none) ∧ sbR h' κ' r' cap' fb' (l ++ [110]) ∧ sbF h κ r cap h' κ' r' cap' := by
  obtain ⟨h', κ', r', cap', fb', c0, hc, hF⟩ := js_app (β := β) (d := d + 1) hl rfl (by omega) hs (x := 110) (by decide) (by omega)
  refine ⟨h', κ', r', cap', fb', ?_, hc, hF⟩
  refine jr_1 jm_13 (show jw_cd cd_13 0 = some (.aload_n 0) by decide +kernel) rfl ?_
  refine jr_1 jm_13 (show jw_cd cd_13 1 = some (.getfield 9) by decide +kernel) (js_getf cl_c7 (by decide) (show jw_fld 8 9 5 = some 0 by decide +kernel) rfl) ?_
  refine jr_1 jm_13 (show jw_cd cd_13 4 = some (.tableswitch 144 1 6 #[40, 50, 60, 72, 98, 121]) by decide +kernel) (mt_td (t := 148) ⟨by decide, by decide⟩ (by decide) (by decide)) ?_
  refine jr_1 jm_13 (show jw_cd cd_13 148 = some (.aload_n 1) by decide +kernel) rfl ?_
  refine jr_1 jm_13 (show jw_cd cd_13 149 = some (.bipush 110) by decide +kernel) (mt_bi (by decide)) ?_
  refine jr_c jm_13 (show jw_cd cd_13 151 = some (.invokevirtual 95) by decide +kernel) (ccv (n := 1) (m2 := 14) (ci := 2) (a := 13) (bs := [.int (Int32.ofInt (110))]) (r := []) (js_cls cl_c13 (by decide)) (show jw_find jw_cvT 8 95 = some (1, [(2, 14)]) by decide +kernel) (by decide) rfl rfl rfl) jm_14 ⟨Nat.le_of_ble_eq_true rfl, by decide⟩ c0 ?_
  refine jr_1 jm_13 (show jw_cd cd_13 154 = some (.pop) by decide +kernel) rfl ?_
  exact jr_v jm_13 (show jw_cd cd_13 155 = some (.return_) by decide +kernel) rfl
theorem js_wrR {β : Bool} {d : Nat} {h : jx_H} {κ : mS} (hl : 50 ≤ h.length) {r cap : Nat} {fb : Nat → Value} (hs : sbR h κ r cap fb []) (hb32 : h.length + sbP cap < 2999999999) {a : Nat} {v : vT} (hv : vR h (Xr r) a v) (hok : vok v) (hd : fdp v.2 ≤ 8) (hle : (wV v.1 v.2).length < 240) : ∃ (h' : jx_H) (κ' : mS) (r' cap' : Nat) (fb' : Nat → Value), jx_r (jz β) jw_M (d + 22) 13 (0, [some (.ref a), some (.ref 13), some (.int (Int32.ofInt (0)))], [], (cl_mk h κ)) (cl_mk h' κ', .inl none) ∧ sbR h' κ' r' cap' fb' (wV v.1 v.2) ∧ sbF h κ r cap h' κ' r' cap' := by
  rcases hv with ⟨rfl, e1, -⟩ | hv
  · have ew : wV v.1 v.2 = [110] := by
      unfold wV wL
      rw [if_pos e1, if_neg (by omega)]
      rfl
    rw [ew]
    exact js_wr7 (β := β) (d := d + 16) hl hs hb32 (by show (0 : Nat) < 240; decide)
  · exact js_wrV (β := β) (d := d + 16) (m := 8) (k := 0) (js_wrI v.2) hl hs hb32 hv hok.1 hok.2 hd (by omega) (by omega) (by show 0 + _ < 240; omega)
theorem sbR_ext {h h' : jx_H} {κ κ' : mS} {r cap : Nat} {fb : Nat → Value} {l : List Int} (hl : 50 ≤ h.length) (hl' : 50 ≤ h'.length) (hs : sbR h κ r cap fb l) (hq : ∀ (c : Nat) (y : jx_C), h[c]? = some y → h'[c]? = some y) (hm : mEq [2, 10] κ κ') : sbR h' κ' r cap fb l := by
  obtain ⟨a1, a2, a3, a4, a5⟩ := hs
  have e12 := hm 12 (by decide)
  have e13 := hm 13 (by decide)
  have e14 := hm 14 (by decide)
  refine ⟨by rw [e13]; exact a1, by rw [e12]; exact a2, a3, ?_, a5⟩
  rcases a3 with rfl | a3
  · rw [← a4]
    show some _ = some _
    rw [e14]
  · rw [cl_dy (by omega) (by omega)] at a4 ⊢
    exact hq r _ a4
theorem runS_p : ∀ (l : List sT) (v : vT), (∀ st ∈ l, sgP st) → prP v → prP (runS l v).2
  | [], v, _, hp => hp
  | st :: l, v, hs, hp => by
    by_cases h0 : (stg st v).1 = 0
    · have er : runS (st :: l) v = runS l (stgV (stg st v)) := if_pos h0
      rw [er]
      exact runS_p l _ (fun st' h' => hs st' (List.mem_cons_of_mem _ h')) (stg_p (hs st List.mem_cons_self) hp)
    · have er : runS (st :: l) v = ((stg st v).1, nulV) := if_neg h0
      rw [er]
      exact nul_p
theorem jc_run {β : Bool} {d : Nat} {h : jx_H} {κ : mS} (hl : 50 ≤ h.length) {r cap : Nat} {fb : Nat → Value} {l : List Int} (hs : sbR h κ r cap fb l) {q : Int} (h0 : 0 ≤ q ∧ q < κ 0 0 ∧ κ 0 0 ≤ 12) {qy dc : Nat} {L : List sT} {v : vT} (hqy : κ 11 q = (qy : Int)) (hq : qyR h (Xr r) qy L) (hP : ∀ st ∈ L, sgP st) (hdc : (κ 1 0).toNat = dc) (hv : vR h (Xr r) dc v) (hp : prP v) (hW : (wV (runS L v).2.1 (runS L v).2.2).length < 240) (hlen : h.length + rnC L v + sbP cap + 20 < 2700000000) : ∃ (h' : jx_H) (κ' : mS) (r' cap' : Nat) (fb' : Nat → Value) (c : Nat), jx_r (jz β) jw_M (d + 29) 157 (0, [some (.ref 0), some (.int (Int32.ofInt (q)))], [], (cl_mk h κ)) (cl_mk h' (κ'), .inl (some (.int (Int32.ofInt ((runS L v).1))))) ∧ sbR h' κ' r' cap' fb' (wV (runS L v).2.1 (runS L v).2.2) ∧ (κ' 2 0).toNat = c ∧ vR h' (Xr r') c (runS L v).2 ∧ mEq [2, 10, 12, 13, 14, 16] κ κ' ∧ (∀ (c : Nat) (y : jx_C), zc (Xr r) c → h[c]? = some y → zc (Xr r') c ∧ h'[c]? = some y) ∧ (h.length ≤ h'.length ∧ h'.length + sbP cap' ≤ h.length + sbP cap + rnC L v) ∧ cvol h' + sbV cap' ≤ cvol h + sbV cap + rnW L v ∧ (∀ (c : Nat) (y : jx_C), 15 ≤ c → c < 50 → h[c]? = some y → h'[c]? = some y) := by
  obtain ⟨q0, q1, q2⟩ := h0
  have hrl : r < h.length := by
    have := (List.getElem?_eq_some_iff.mp hs.2.2.2.1).1
    rw [cl_len (by omega)] at this
    exact this
  have hqv : (fun i : Nat => if κ 11 i < 0 then Value.null else .ref (κ 11 i).toNat) q.toNat = .ref qy := by
    show (if κ 11 ((q.toNat : Nat) : Int) < 0 then Value.null else .ref (κ 11 ((q.toNat : Nat) : Int)).toNat) = _
    rw [show ((q.toNat : Nat) : Int) = q by omega, hqy, if_neg (by omega)]
    rfl
  obtain ⟨h1, κ1, c, c1, p1, p2, p3, p4, p5, p6⟩ := jc_ans (β := β) (d := d) (κ := κ) (X := Xr r) hl hP (fun c hc e => by have e : c = r := e; omega) (by omega) hq hv hp
  have hl1 : 50 ≤ h1.length := by omega
  have m1 : mEq [2, 10] κ (su κ1 2 0 ((c : Nat) : Int)) := mEq_su (mEq_sub p3 (by decide)) (by decide)
  have s1 := sbR_ext hl hl1 hs p4 m1
  obtain ⟨κ2, c2, s2, f2⟩ := js_set0 (β := β) (d := d + 26) hl1 s1
  have hk2 : (κ2 2 0).toNat = c := by rw [f2.1 2 (by decide), su_eq]; rfl
  have hvp := runS_p L v hP hp
  have hcls := vO_cls (β := β) (vR_O (κ := κ2) hl1 p1)
  obtain ⟨h3, κ3, r3, cap3, fb3, c3, s3, f3⟩ := js_wrR (β := β) (d := d + 6) hl1 s2 (by omega) p1 hvp.1 hvp.2.2.1 hW
  have e10 : κ3 10 0 = (runS L v).1 := by rw [f3.1 10 (by decide), f2.1 10 (by decide), su_nf (by decide)]; exact p2
  have e2 : (κ3 2 0).toNat = c := by rw [f3.1 2 (by decide)]; exact hk2
  refine ⟨h3, κ3, r3, cap3, fb3, c, ?_, s3, e2, vR_fr (sbF_q f3) p1, ?_, fun c y z hy => sbF_q f3 c y z (p4 c y hy), ⟨by have := f3.2.1; omega, by have := f3.2.2.2.1; omega⟩, by have := f3.2.2.2.2; omega, fun c y hc1 hc2 hy => (f3.2.2.1 c y (by have := hs.2.2.1; omega) (p4 c y hy)).2⟩
  rotate_left
  · exact mEq_trans (mEq_trans (mEq_sub m1 (by decide)) (mEq_sub f2.1 (by decide))) (mEq_sub f3.1 (by decide))
  rw [← e10]
  refine jr_1 jm_157 (show jw_cd cd_157 0 = some (.iload_n 1) by decide +kernel) rfl ?_
  refine jr_1 jm_157 (show jw_cd cd_157 1 = some (.ifCond .lt 11) by decide +kernel) (mz_f (q := .lt) (a := q) (by show ¬ (q < 0); omega) ⟨by omega, by omega⟩ (by decide)) ?_
  refine jr_1 jm_157 (show jw_cd cd_157 4 = some (.iload_n 1) by decide +kernel) rfl ?_
  refine jr_1 jm_157 (show jw_cd cd_157 5 = some (.aload_n 0) by decide +kernel) rfl ?_
  refine jr_1 jm_157 (show jw_cd cd_157 6 = some (.getfield 53) by decide +kernel) (cg_0 (e := κ 0 0) rfl (show jw_fld 0 53 0 = some 5 by decide +kernel)) ?_
  refine jr_1 jm_157 (show jw_cd cd_157 9 = some (.if_icmp .lt 11) by decide +kernel) (mb_t (q := .lt) (a := q) (b := κ 0 0) (t := 20) (by show q < κ 0 0; omega) ⟨by omega, by omega⟩ ⟨by omega, by omega⟩ (by decide) (by decide)) ?_
  refine jr_1 jm_157 (show jw_cd cd_157 20 = some (.aload_n 0) by decide +kernel) rfl ?_
  refine jr_1 jm_157 (show jw_cd cd_157 21 = some (.aload_n 0) by decide +kernel) rfl ?_
  refine jr_1 jm_157 (show jw_cd cd_157 22 = some (.getfield 43) by decide +kernel) (cgr_0_3 (show jw_fld 0 43 0 = some 3 by decide +kernel)) ?_
  refine jr_1 jm_157 (show jw_cd cd_157 25 = some (.aload_n 0) by decide +kernel) rfl ?_
  refine jr_1 jm_157 (show jw_cd cd_157 26 = some (.getfield 49) by decide +kernel) (cgr_0_4 (show jw_fld 0 49 0 = some 4 by decide +kernel)) ?_
  refine jr_1 jm_157 (show jw_cd cd_157 29 = some (.iload_n 1) by decide +kernel) rfl ?_
  refine jr_1 jm_157 (show jw_cd cd_157 30 = some (.aaload) by decide +kernel) (cal_a (e := .ref qy) (jx_ar_h cl_c12 (by decide)) (Or.inr (Or.inl rfl)) (by decide) (by omega) (by omega) hqv) ?_
  refine jr_1 jm_157 (show jw_cd cd_157 31 = some (.aload_n 0) by decide +kernel) rfl ?_
  refine jr_1 jm_157 (show jw_cd cd_157 32 = some (.getfield 57) by decide +kernel) (cgk_1 (e := dc) hdc (show jw_fld 0 57 0 = some 6 by decide +kernel)) ?_
  refine jr_c jm_157 (show jw_cd cd_157 35 = some (.invokevirtual 107) by decide +kernel) (ccv (n := 2) (m2 := 158) (ci := 6) (a := 10) (bs := [.ref qy, .ref dc]) (r := [.ref 0]) (js_cls cl_c10 (by decide)) (show jw_find jw_cvT 0 107 = some (2, [(6, 158)]) by decide +kernel) (by decide) rfl rfl rfl) jm_158 ⟨Nat.le_of_ble_eq_true rfl, by decide⟩ c1 ?_
  refine jr_1 jm_157 (show jw_cd cd_157 38 = some (.putfield 61) by decide +kernel) (cpk_2 (e := c) (show jw_fld 0 61 0 = some 7 by decide +kernel) (show jw_fm 0 0 7 = some false by decide +kernel)) ?_
  refine jr_1 jm_157 (show jw_cd cd_157 41 = some (.aload_n 0) by decide +kernel) rfl ?_
  refine jr_1 jm_157 (show jw_cd cd_157 42 = some (.getfield 67) by decide +kernel) (cgr_0_8 (show jw_fld 0 67 0 = some 8 by decide +kernel)) ?_
  refine jr_1 jm_157 (show jw_cd cd_157 45 = some (.iconst 0) by decide +kernel) rfl ?_
  refine jr_c jm_157 (show jw_cd cd_157 46 = some (.invokevirtual 111) by decide +kernel) (ccv (n := 1) (m2 := 66) (ci := 2) (a := 13) (bs := [.int (Int32.ofInt (0))]) (r := []) (js_cls cl_c13 (by decide)) (show jw_find jw_cvT 0 111 = some (1, [(2, 66)]) by decide +kernel) (by decide) rfl rfl rfl) jm_66 ⟨Nat.le_of_ble_eq_true rfl, by decide⟩ c2 ?_
  refine jr_1 jm_157 (show jw_cd cd_157 49 = some (.aload_n 0) by decide +kernel) rfl ?_
  refine jr_1 jm_157 (show jw_cd cd_157 50 = some (.getfield 61) by decide +kernel) (cgk_2 (e := c) hk2 (show jw_fld 0 61 0 = some 7 by decide +kernel)) ?_
  refine jr_1 jm_157 (show jw_cd cd_157 53 = some (.aload_n 0) by decide +kernel) rfl ?_
  refine jr_1 jm_157 (show jw_cd cd_157 54 = some (.getfield 67) by decide +kernel) (cgr_0_8 (show jw_fld 0 67 0 = some 8 by decide +kernel)) ?_
  refine jr_1 jm_157 (show jw_cd cd_157 57 = some (.iconst 0) by decide +kernel) rfl ?_
  refine jr_c jm_157 (show jw_cd cd_157 58 = some (.invokevirtual 71) by decide +kernel) (ccv (n := 2) (m2 := 13) (ci := 5) (a := c) (bs := [.ref 13, .int (Int32.ofInt (0))]) (r := []) hcls (show jw_find jw_cvT 0 71 = some (2, [(5, 13)]) by decide +kernel) (by decide) rfl rfl rfl) jm_13 ⟨Nat.le_of_ble_eq_true rfl, by decide⟩ c3 ?_
  refine jr_1 jm_157 (show jw_cd cd_157 61 = some (.aload_n 0) by decide +kernel) rfl ?_
  refine jr_1 jm_157 (show jw_cd cd_157 62 = some (.getfield 43) by decide +kernel) (cgr_0_3 (show jw_fld 0 43 0 = some 3 by decide +kernel)) ?_
  refine jr_1 jm_157 (show jw_cd cd_157 65 = some (.getfield 115) by decide +kernel) (cg_10 (e := κ3 10 0) rfl (show jw_fld 0 115 6 = some 2 by decide +kernel)) ?_
  exact jr_v jm_157 (show jw_cd cd_157 68 = some (.ireturn) by decide +kernel) rfl
