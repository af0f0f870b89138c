/-! ===== the class: read, query (printed by program: gen118.py) ===== -/
theorem jm_122 : jw_M 122 = some (0, 3, ((Option.some Jvm.ClassFile.FieldType.int), false), jw_cd cd_122, fun _ _ => none) := rfl
theorem jm_123 : jw_M 123 = some (7, 3, ((Option.some (Jvm.ClassFile.FieldType.object "PickDesk$Query")), false), jw_cd cd_123, fun _ _ => none) := rfl
/-- a query that stages come to -/
def quU (h : jx_H) (X : Nat → Prop) (N0 qa qla qea cap : Nat) (f : Nat → Value) (acc : List sT) : Prop := (50 ≤ N0 ∧ N0 ≤ qa ∧ N0 ≤ qla ∧ ¬ qa = qla ∧ ¬ qa = qea ∧ (qea = jx_big + 53 ∨ N0 ≤ qea) ∧ qa < 4000000000) ∧ (∀ c, N0 ≤ c → ¬ X c) ∧ h[qa]? = some (.inr (11, [.ref qla])) ∧ alC h X qla qea cap acc.length f ∧ sgL h (gX X qa qla qea) f acc ∧ cap ≤ 10 + acc.length + acc.length / 2
theorem quU_fr {h h' : jx_H} {X : Nat → Prop} {N0 qa qla qea cap : Nat} {f : Nat → Value} {acc : List sT} (hq : ∀ (c : Nat) (y : jx_C), h[c]? = some y → h'[c]? = some y) (hU : quU h X N0 qa qla qea cap f acc) : quU h' X N0 qa qla qea cap f acc := by
  obtain ⟨u1, u2, u3, u4, u5, u6⟩ := hU
  exact ⟨u1, u2, hq _ _ u3, alC_fr (fun c y z hy => ⟨z, hq c y hy⟩) u4, sgL_fr (fun c y z hy => ⟨z, hq c y hy⟩) u5, u6⟩
theorem quU_lt {h : jx_H} {X : Nat → Prop} {N0 qa qla qea cap : Nat} {f : Nat → Value} {acc : List sT} (hU : quU h X N0 qa qla qea cap f acc) : N0 ≤ h.length ∧ qa < h.length ∧ qla < h.length ∧ (qea < 4000000000 → qea < h.length) := by
  obtain ⟨u1, u2, u3, ⟨u4, ⟨md, u4b⟩, u4c⟩, u5, u6⟩ := hU
  have a1 := (List.getElem?_eq_some_iff.mp u3).1
  have a2 := (List.getElem?_eq_some_iff.mp u4b).1
  refine ⟨by omega, a1, a2, fun z => ?_⟩
  rcases u4c with ⟨e, -⟩ | ⟨z1, z2, z3, -⟩
  · have hb : jx_big = 4294967296 := rfl
    omega
  · exact (List.getElem?_eq_some_iff.mp z3).1
theorem quU_x {h : jx_H} {X : Nat → Prop} {N0 qa qla qea cap : Nat} {f : Nat → Value} {acc : List sT} (hU : quU h X N0 qa qla qea cap f acc) : ∀ c, h.length ≤ c → ¬ gX X qa qla qea c := fun c hc z => by
  obtain ⟨l0, l1, l2, l3⟩ := quU_lt hU
  rcases z with z | z | z | ⟨z, y⟩
  · exact hU.2.1 c (by omega) z
  · omega
  · omega
  · have := l3 (by omega)
    omega
theorem quU_done {h : jx_H} {X : Nat → Prop} {N0 qa qla qea cap : Nat} {f : Nat → Value} {acc : List sT} (hU : quU h X N0 qa qla qea cap f acc) : qyR h X qa acc := by
  obtain ⟨u1, u2, u3, u4, u5, u6⟩ := hU
  exact ⟨⟨by omega, by omega, u2 qa u1.2.1⟩, qla, qea, cap, f, u3, u4, sgL_fr (fun c y z hy => ⟨⟨z.1, z.2.1, (gX_o z.2.2).1⟩, hy⟩) u5⟩
theorem qu_put {β : Bool} {d : Nat} {κ : mS} {h : jx_H} {X : Nat → Prop} {N0 qa qla qea cap b : Nat} {f : Nat → Value} {acc : List sT} {fs : List Value} (hl : 50 ≤ h.length) (hb32 : h.length < 2800000000) (hU1 : quU h X N0 qa qla qea cap f acc) (hacc : acc.length ≤ 100) (hS : h[b]? = some (.inr (13, fs))) (hb1 : 50 ≤ b ∧ b < 4000000000) : ∃ (h' : jx_H) (ea' cap' : Nat) (f' : Nat → Value), jx_r (jz β) jw_M (d + 5) 136 (0, [some (.ref qla), some (.ref b)], [], (cl_mk h κ)) (cl_mk h' (κ), .inl (some (.int (Int32.ofInt (1))))) ∧ (∀ (c : Nat) (y : jx_C), ¬ c = qla → ¬ c = qea → h[c]? = some y → h'[c]? = some y) ∧ (h.length ≤ h'.length ∧ h'.length ≤ h.length + 1) ∧ cvol h' + 4 * cap ≤ cvol h + 4 * cap' ∧ (cap ≤ cap' ∧ cap' ≤ 10 + acc.length + acc.length / 2) ∧ (∀ st, sgR h (gX X qa qla qea) b st → quU h' X N0 qa qla ea' cap' f' (acc ++ [st])) := by
  obtain ⟨l0, l1, l2, l3⟩ := quU_lt hU1
  obtain ⟨u1, u2, u3, u4, u5, u6⟩ := id hU1
  obtain ⟨h', ea', cap', f', hr, hm⟩ := jc_alAdd (β := β) (d := d) (κ := κ) hl rfl (by omega) (sgL_U u4 u5) ⟨by omega, by omega⟩ hb1 hS (Or.inl rfl)
  have hC := alN_C u4 (fun c hc => u2 c (by omega)) hm
  obtain ⟨m1, m2, m3, m4, m5, m6, m7, m8, m9, m10⟩ := hm
  refine ⟨h', ea', cap', f', hr, m5, ⟨by omega, by omega⟩, m8, ⟨m9, by omega⟩, fun e he => ?_⟩
  have hbig : jx_big = 4294967296 := rfl
  have fr : ∀ (c : Nat) (y : jx_C), zc (gX X qa qla qea) c → h[c]? = some y → zc (gX X qa qla ea') c ∧ h'[c]? = some y := fun c y z hy => by
    obtain ⟨g1, g2, g3, g4⟩ := gX_o z.2.2
    have c4 := g4 z.2.1
    refine ⟨⟨z.1, z.2.1, fun w => ?_⟩, m5 c y g3 c4 hy⟩
    rcases w with w | w | w | ⟨w, -⟩
    · exact g1 w
    · exact g2 w
    · exact g3 w
    · rcases m7 with e | e
      · exact c4 (by omega)
      · have := (List.getElem?_eq_some_iff.mp hy).1
        omega
  refine ⟨⟨u1.1, u1.2.1, u1.2.2.1, u1.2.2.2.1, ?_, ?_, u1.2.2.2.2.2.2⟩, u2, m5 _ _ u1.2.2.2.1 u1.2.2.2.2.1 u3, by rw [List.length_append]; exact hC, fun i e' hi => ?_, by rw [List.length_append]; show cap' ≤ 10 + (acc.length + 1) + (acc.length + 1) / 2; omega⟩
  · rcases m7 with e | e
    · rw [e]; exact u1.2.2.2.2.1
    · omega
  · rcases m7 with e | e
    · rw [e]; exact u1.2.2.2.2.2.1
    · exact Or.inr (by omega)
  · by_cases hik : i < acc.length
    · rw [List.getElem?_append_left hik] at hi
      obtain ⟨b', b1, b2⟩ := u5 i e' hi
      exact ⟨b', (m3 i hik).trans b1, sgR_fr fr b2⟩
    · rw [List.getElem?_append_right (by omega)] at hi
      have hi0 : i - acc.length = 0 := by
        have := (List.getElem?_eq_some_iff.mp hi).1
        simp only [List.length_cons, List.length_nil] at this
        omega
      rw [hi0] at hi
      injection hi with hi
      obtain rfl : i = acc.length := by omega
      refine ⟨b, m4, ?_⟩
      rw [← hi]
      exact sgR_fr fr he
theorem jc_rdM {β : Bool} {d : Nat} {h h1 h2 : jx_H} {κ κ1 κ2 : mS} (hl : 50 ≤ h.length) (hl1 : 50 ≤ h1.length) {qa qla qea i b nn : Nat} {md : Int} (hqa : 50 ≤ qa ∧ qa < 4000000000) (hqla : 50 ≤ qla ∧ qla < 4000000000) (hi : i < 160) (oQ : h[qa]? = some (.inr (11, [.ref qla]))) (oL : h1[qla]? = some (.inr (12, [.ref qea, .int (Int32.ofInt (((nn : Nat) : Int))), .int (Int32.ofInt (md))]))) (c1 : jx_r (jz β) jw_M (d) 128 (0, [some (.ref 6), none, none], [], (cl_mk h κ)) (cl_mk h1 (κ1), .inl (some (.ref (b))))) (ra : jx_r (jz β) jw_M (d) 136 (0, [some (.ref qla), some (.ref b)], [], (cl_mk h1 κ1)) (cl_mk h2 (κ1), .inl (some (.int (Int32.ofInt (1)))))) (c2 : jx_r (jz β) jw_M (d) 64 (0, [some (.ref 1), some (.int (Int32.ofInt (124)))], [], (cl_mk h2 κ1)) (cl_mk h2 (κ2), .inl (some (.int (Int32.ofInt (1)))))) {res : jx_H × (Option Value ⊕ Nat)} (kk : jx_r (jz β) jw_M (d + 1) 123 (15, [some (.ref 6), some (.ref qa), some (.int (Int32.ofInt (((i + 1 : Nat) : Int))))], [], (cl_mk h2 κ2)) res) : jx_r (jz β) jw_M (d + 1) 123 (15, [some (.ref 6), some (.ref qa), some (.int (Int32.ofInt (((i : Nat) : Int))))], [], (cl_mk h κ)) res := by
  refine jr_1 jm_123 (show jw_cd cd_123 15 = some (.iload_n 2) by decide +kernel) rfl ?_
  refine jr_1 jm_123 (show jw_cd cd_123 16 = some (.sipush 160) by decide +kernel) (mt_si (by decide)) ?_
  refine jr_1 jm_123 (show jw_cd cd_123 19 = some (.if_icmp .ge 36) by decide +kernel) (mb_f (q := .ge) (a := ((i : Nat) : Int)) (b := 160) (by show ¬ (160 ≤ ((i : Nat) : Int)); omega) ⟨by omega, by omega⟩ ⟨by omega, by omega⟩ (by decide)) ?_
  refine jr_1 jm_123 (show jw_cd cd_123 22 = some (.aload_n 1) by decide +kernel) rfl ?_
  refine jr_1 jm_123 (show jw_cd cd_123 23 = some (.getfield 22) by decide +kernel) (js_getf (cl_old hl ⟨by omega, oQ⟩) (jbg (by omega)) (show jw_fld 7 22 11 = some 0 by decide +kernel) rfl) ?_
  refine jr_1 jm_123 (show jw_cd cd_123 26 = some (.aload_n 0) by decide +kernel) rfl ?_
  refine jr_c jm_123 (show jw_cd cd_123 27 = some (.invokevirtual 26) by decide +kernel) (ccv (n := 0) (m2 := 128) (ci := 4) (a := 6) (bs := []) (r := [.ref qla]) (js_cls cl_c6 (by decide)) (show jw_find jw_cvT 7 26 = some (0, [(4, 128)]) by decide +kernel) (by decide) rfl rfl rfl) jm_128 ⟨Nat.le_of_ble_eq_true rfl, by decide⟩ c1 ?_
  refine jr_c jm_123 (show jw_cd cd_123 30 = some (.invokevirtual 30) by decide +kernel) (ccv (n := 1) (m2 := 136) (ci := 12) (a := qla) (bs := [.ref b]) (r := []) (js_cls (cl_old hl1 ⟨by omega, oL⟩) (jbg (by omega))) (show jw_find jw_cvT 7 30 = some (1, [(12, 136)]) by decide +kernel) (by decide) rfl rfl rfl) jm_136 ⟨Nat.le_of_ble_eq_true rfl, by decide⟩ ra ?_
  refine jr_1 jm_123 (show jw_cd cd_123 33 = some (.pop) by decide +kernel) rfl ?_
  refine jr_1 jm_123 (show jw_cd cd_123 34 = some (.aload_n 0) by decide +kernel) rfl ?_
  refine jr_1 jm_123 (show jw_cd cd_123 35 = some (.getfield 9) by decide +kernel) (cgr_6_0 (show jw_fld 7 9 4 = some 0 by decide +kernel)) ?_
  refine jr_1 jm_123 (show jw_cd cd_123 38 = some (.bipush 124) by decide +kernel) (mt_bi (by decide)) ?_
  refine jr_c jm_123 (show jw_cd cd_123 40 = some (.invokevirtual 36) by decide +kernel) (ccv (n := 1) (m2 := 64) (ci := 1) (a := 1) (bs := [.int (Int32.ofInt (124))]) (r := []) (js_cls cl_c1 (by decide)) (show jw_find jw_cvT 7 36 = some (1, [(1, 64)]) by decide +kernel) (by decide) rfl rfl rfl) jm_64 ⟨Nat.le_of_ble_eq_true rfl, by decide⟩ c2 ?_
  refine jr_1 jm_123 (show jw_cd cd_123 43 = some (.ifCond .ne 6) by decide +kernel) (mz_t (q := .ne) (a := 1) (t := 49) (by show ¬ (1 = 0); omega) ⟨by omega, by omega⟩ (by decide) (by decide)) ?_
  refine jr_1 jm_123 (F2 := (52, [some (.ref 6), some (.ref qa), some (.int (Int32.ofInt (((i : Nat) : Int) + 1)))], [], (cl_mk h2 κ2))) (show jw_cd cd_123 49 = some (.iinc 2 1) by decide +kernel) (mt_inc (a := ((i : Nat) : Int)) (c := ((i : Nat) : Int) + 1) rfl (by omega) rfl) ?_
  refine jr_1 jm_123 (show jw_cd cd_123 52 = some (.goto (-37)) by decide +kernel) (ju_go (t := 15) (by decide)) ?_
  exact kk
theorem jc_rdE {β : Bool} {d : Nat} {h h1 h2 : jx_H} {κ κ1 κ2 : mS} (hl : 50 ≤ h.length) (hl1 : 50 ≤ h1.length) {qa qla qea i b nn : Nat} {md : Int} (hqa : 50 ≤ qa ∧ qa < 4000000000) (hqla : 50 ≤ qla ∧ qla < 4000000000) (hi : i < 160) (oQ : h[qa]? = some (.inr (11, [.ref qla]))) (oL : h1[qla]? = some (.inr (12, [.ref qea, .int (Int32.ofInt (((nn : Nat) : Int))), .int (Int32.ofInt (md))]))) (c1 : jx_r (jz β) jw_M (d) 128 (0, [some (.ref 6), none, none], [], (cl_mk h κ)) (cl_mk h1 (κ1), .inl (some (.ref (b))))) (ra : jx_r (jz β) jw_M (d) 136 (0, [some (.ref qla), some (.ref b)], [], (cl_mk h1 κ1)) (cl_mk h2 (κ1), .inl (some (.int (Int32.ofInt (1)))))) (c2 : jx_r (jz β) jw_M (d) 64 (0, [some (.ref 1), some (.int (Int32.ofInt (124)))], [], (cl_mk h2 κ1)) (cl_mk h2 (κ2), .inl (some (.int (Int32.ofInt (0)))))) : jx_r (jz β) jw_M (d + 1) 123 (15, [some (.ref 6), some (.ref qa), some (.int (Int32.ofInt (((i : Nat) : Int))))], [], (cl_mk h κ)) (cl_mk h2 (κ2), .inl (some (.ref (qa)))) := by
  refine jr_1 jm_123 (show jw_cd cd_123 15 = some (.iload_n 2) by decide +kernel) rfl ?_
  refine jr_1 jm_123 (show jw_cd cd_123 16 = some (.sipush 160) by decide +kernel) (mt_si (by decide)) ?_
  refine jr_1 jm_123 (show jw_cd cd_123 19 = some (.if_icmp .ge 36) by decide +kernel) (mb_f (q := .ge) (a := ((i : Nat) : Int)) (b := 160) (by show ¬ (160 ≤ ((i : Nat) : Int)); omega) ⟨by omega, by omega⟩ ⟨by omega, by omega⟩ (by decide)) ?_
  refine jr_1 jm_123 (show jw_cd cd_123 22 = some (.aload_n 1) by decide +kernel) rfl ?_
  refine jr_1 jm_123 (show jw_cd cd_123 23 = some (.getfield 22) by decide +kernel) (js_getf (cl_old hl ⟨by omega, oQ⟩) (jbg (by omega)) (show jw_fld 7 22 11 = some 0 by decide +kernel) rfl) ?_
  refine jr_1 jm_123 (show jw_cd cd_123 26 = some (.aload_n 0) by decide +kernel) rfl ?_
  refine jr_c jm_123 (show jw_cd cd_123 27 = some (.invokevirtual 26) by decide +kernel) (ccv (n := 0) (m2 := 128) (ci := 4) (a := 6) (bs := []) (r := [.ref qla]) (js_cls cl_c6 (by decide)) (show jw_find jw_cvT 7 26 = some (0, [(4, 128)]) by decide +kernel) (by decide) rfl rfl rfl) jm_128 ⟨Nat.le_of_ble_eq_true rfl, by decide⟩ c1 ?_
  refine jr_c jm_123 (show jw_cd cd_123 30 = some (.invokevirtual 30) by decide +kernel) (ccv (n := 1) (m2 := 136) (ci := 12) (a := qla) (bs := [.ref b]) (r := []) (js_cls (cl_old hl1 ⟨by omega, oL⟩) (jbg (by omega))) (show jw_find jw_cvT 7 30 = some (1, [(12, 136)]) by decide +kernel) (by decide) rfl rfl rfl) jm_136 ⟨Nat.le_of_ble_eq_true rfl, by decide⟩ ra ?_
  refine jr_1 jm_123 (show jw_cd cd_123 33 = some (.pop) by decide +kernel) rfl ?_
  refine jr_1 jm_123 (show jw_cd cd_123 34 = some (.aload_n 0) by decide +kernel) rfl ?_
  refine jr_1 jm_123 (show jw_cd cd_123 35 = some (.getfield 9) by decide +kernel) (cgr_6_0 (show jw_fld 7 9 4 = some 0 by decide +kernel)) ?_
  refine jr_1 jm_123 (show jw_cd cd_123 38 = some (.bipush 124) by decide +kernel) (mt_bi (by decide)) ?_
  refine jr_c jm_123 (show jw_cd cd_123 40 = some (.invokevirtual 36) by decide +kernel) (ccv (n := 1) (m2 := 64) (ci := 1) (a := 1) (bs := [.int (Int32.ofInt (124))]) (r := []) (js_cls cl_c1 (by decide)) (show jw_find jw_cvT 7 36 = some (1, [(1, 64)]) by decide +kernel) (by decide) rfl rfl rfl) jm_64 ⟨Nat.le_of_ble_eq_true rfl, by decide⟩ c2 ?_
  refine jr_1 jm_123 (show jw_cd cd_123 43 = some (.ifCond .ne 6) by decide +kernel) (mz_f (q := .ne) (a := 0) (by show ¬ (¬ (0 = 0)); omega) ⟨by omega, by omega⟩ (by decide)) ?_
  refine jr_1 jm_123 (show jw_cd cd_123 46 = some (.goto 9) by decide +kernel) (ju_go (t := 55) (by decide)) ?_
  refine jr_1 jm_123 (show jw_cd cd_123 55 = some (.aload_n 1) by decide +kernel) rfl ?_
  exact jr_v jm_123 (show jw_cd cd_123 56 = some (.areturn) by decide +kernel) rfl
theorem jc_rdL {β : Bool} {d : Nat} {T : Int → Int} {n : Int} {X : Nat → Prop} {N0 qa qla : Nat} : ∀ (f i k : Nat) (acc : List sT) (p : Int) (h : jx_H) (κ : mS) (qea cap : Nat) (fr : Nat → Value), n < p + f → i = acc.length → 2 * (acc.length : Int) ≤ p → k ≤ 12 → 50 ≤ h.length → (h.length : Int) + 68 * (n - p) + 900 < 2600000000 → quU h X N0 qa qla qea cap fr acc → cP κ T n p → 0 ≤ κ 7 0 ∧ κ 7 0 ≤ 16 → κ 9 0 = ((k : Nat) : Int) → ∃ (κ' : mS) (h' : jx_H) (cap' : Nat), jx_r (jz β) jw_M (d + 12) 123 (15, [some (.ref 6), some (.ref qa), some (.int (Int32.ofInt (((i : Nat) : Int))))], [], (cl_mk h κ)) (cl_mk h' (κ'), .inl (some (.ref (qa)))) ∧ (∀ (c : Nat) (y : jx_C), c < N0 → h[c]? = some y → h'[c]? = some y) ∧ h.length ≤ h'.length ∧ cap' ≤ 200 ∧ mEq [4, 5, 7, 8, 9, 15] κ κ' ∧ (0 ≤ κ' 7 0 ∧ κ' 7 0 ≤ 16) ∧ (∀ l, sQs T n f acc k p = .inr l → qyR h' X qa l ∧ ∃ q, cP κ' T n q ∧ ¬ q < n) ∧ (∀ e, sQs T n f acc k p = .inl e → cE κ' T n e ∨ (cP κ' T n e ∧ e < n)) ∧ (h'.length : Int) ≤ h.length + 68 * (n - p) + 200 ∧ (cvol h' : Int) + 4 * cap ≤ cvol h + 4 * cap' + 380 * (n - p) + 700
  | 0, i, k, acc, p, h, κ, qea, cap, fr, hf, hi, h2, hk, hl, hb, hU, hP, hsc, e9 => by
    have := hP.2.2.2.2
    omega
  | f + 1, i, k, acc, p, h, κ, qea, cap, fr, hf, hi, h2p, hk, hl, hb, hU, hP, hsc, e9 => by
    have ht := hP.1.2.2
    have hp0 := hP.2.2.2.1
    have hpn := hP.2.2.2.2
    have hn160 := ht.2.1
    have hbig : jx_big = 4294967296 := rfl
    obtain ⟨l0, l1, l2, l3⟩ := quU_lt hU
    obtain ⟨κ1, h1, c1, w1, w2, w3, w4, ⟨fs, w5⟩, w6, w7⟩ := jc_stage (β := β) (d := d) hl rfl (quU_x hU) (by omega) hP hsc e9 hk
    have hU1 := quU_fr w1 hU
    obtain ⟨u1, u2, u3, u4, u5, u6⟩ := id hU1
    obtain ⟨z4, ⟨md, oL⟩, -⟩ := id u4
    have hl1 : 50 ≤ h1.length := by omega
    have hb1 : h1.length < 2800000000 := by
      cases hs : sStg T n p k with
      | inl e =>
        have := (w7 e hs).2.1
        omega
      | inr x =>
        obtain ⟨st, q, k2⟩ := x
        have := (w6 st q k2 hs).2.2.2.1
        have := (w6 st q k2 hs).2.1.2.2.2.2
        omega
    obtain ⟨h2, ea', cap', f', ra, p1, p2, p3, p4, p5⟩ := qu_put (β := β) (d := d + 6) (κ := κ1) hl1 hb1 hU1 (by omega) w5 ⟨by omega, by omega⟩
    have fN : ∀ (c : Nat) (y : jx_C), c < N0 → h[c]? = some y → h2[c]? = some y := fun c y hc hy => p1 c y (by omega) (by omega) (w1 c y hy)
    have oQ := hU.2.2.1
    cases hs : sStg T n p k with
    | inl e' =>
      have e0 : sQs T n (f + 1) acc k p = .inl e' := by unfold sQs; rw [hs]
      obtain ⟨hE, b1, b2⟩ := w7 e' hs
      have c2 := jc_takeW (β := β) (d := d + 10) (h := h2) (c := 124) (by omega) hE.2.1 (by decide)
      refine ⟨κ1, h2, cap', jc_rdE hl hl1 ⟨by omega, by omega⟩ ⟨by omega, by omega⟩ (by omega) oQ oL c1 ra c2, fN, by omega, by omega, w3, w4, fun l hh => (by rw [e0] at hh; cases hh), fun e hh => ?_, by omega, by omega⟩
      rw [e0] at hh
      injection hh with hh
      rw [← hh]
      exact Or.inl hE
    | inr x =>
      obtain ⟨st, q, k2⟩ := x
      obtain ⟨a1, hPq, a3, a4, a5⟩ := w6 st q k2 hs
      have sr := (sStg_R (T := T) (n := n) (p := p) (k := k) ht hp0 hpn hk).2 st q k2 hs
      obtain ⟨sr1, sr2, -, sr4, sr5, -⟩ := sr
      have hq0 := hPq.2.2.2.1
      by_cases h124 : tH T n q = 124
      · have hqn : q < n := (tH_r ht hq0).2.2.2 (by rw [h124]; decide)
        have e0 : sQs T n (f + 1) acc k p = sQs T n f (acc ++ [st]) k2 (q + 1) := by
          unfold sQs
          rw [hs]
          exact (if_pos h124).trans (by cases f <;> rfl)
        have c2 := jc_takeT (β := β) (d := d + 10) (h := h2) (by omega) hPq ((tC_eq hPq.1.2.2 hPq.2.2.2.1 (by decide)).mpr h124) (by decide)
        have la1 : (acc ++ [st]).length = acc.length + 1 := by rw [List.length_append]; rfl
        obtain ⟨κ3, h3, cap3, x1, x2, x3, x4, x5, x6, x7, x8, x9, x10⟩ := jc_rdL (β := β) (d := d) f (i + 1) k2 (acc ++ [st]) (q + 1) h2 _ ea' cap' f' (by omega) (by omega) (by omega) sr5 (by omega) (by omega) (p5 st a1) (cP_mv hPq (by omega) (by omega)) (by rw [su_nf (by decide)]; exact w4) (by rw [su_nf (by decide)]; exact a3)
        rw [e0]
        refine ⟨κ3, h3, cap3, jc_rdM hl hl1 ⟨by omega, by omega⟩ ⟨by omega, by omega⟩ (by omega) oQ oL c1 ra c2 x1, fun c y hc hy => x2 c y hc (fN c y hc hy), by omega, x4, mEq_trans w3 (mEq_trans (mEq_su (mEq_refl _ _) (by decide)) x5), x6, x7, x8, by omega, by omega⟩
      · have c2 := jc_takeF (β := β) (d := d + 10) (h := h2) (by omega) hPq (fun e => h124 ((tC_eq hPq.1.2.2 hPq.2.2.2.1 (by decide)).mp e)) (by decide)
        have e0 : sQs T n (f + 1) acc k p = if q < n then .inl q else .inr (acc ++ [st]) := by
          unfold sQs
          rw [hs]
          exact if_neg h124
        refine ⟨κ1, h2, cap', jc_rdE hl hl1 ⟨by omega, by omega⟩ ⟨by omega, by omega⟩ (by omega) oQ oL c1 ra c2, fN, by omega, by omega, w3, w4, fun l hh => ?_, fun e hh => ?_, by omega, by omega⟩
        · rw [e0] at hh
          by_cases hq : q < n
          · rw [if_pos hq] at hh
            cases hh
          · rw [if_neg hq] at hh
            injection hh with hh
            rw [← hh]
            exact ⟨quU_done (p5 st a1), q, hPq, hq⟩
        · rw [e0] at hh
          by_cases hq : q < n
          · rw [if_pos hq] at hh
            injection hh with hh
            rw [← hh]
            exact Or.inr ⟨hPq, hq⟩
          · rw [if_neg hq] at hh
            cases hh
theorem jc_read {β : Bool} {d : Nat} {h : jx_H} {κ : mS} (hl : 50 ≤ h.length) {N : Nat} (hN : h.length = N) {X : Nat → Prop} (hx : ∀ c, N ≤ c → ¬ X c) {T : Int → Int} {n : Int} (hb32 : (N : Int) + 68 * n + 1000 < 2600000000) (hP : cP κ T n 0) (hsc : 0 ≤ κ 7 0 ∧ κ 7 0 ≤ 16) : ∃ (κ' : mS) (h' : jx_H), jx_r (jz β) jw_M (d + 12) 123 (0, [some (.ref 6), none, none], [], (cl_mk h κ)) (cl_mk h' (κ'), .inl (some (.ref (N)))) ∧ (∀ (c : Nat) (y : jx_C), h[c]? = some y → h'[c]? = some y) ∧ N ≤ h'.length ∧ mEq [4, 5, 7, 8, 9, 15] κ κ' ∧ (0 ≤ κ' 7 0 ∧ κ' 7 0 ≤ 16) ∧ (∀ l, sQry T n = .inr l → qyR h' X N l ∧ ∃ q, cP κ' T n q ∧ ¬ q < n) ∧ (∀ e, sQry T n = .inl e → cE κ' T n e ∨ (cP κ' T n e ∧ e < n)) ∧ (h'.length : Int) ≤ N + 68 * n + 210 ∧ (cvol h' : Int) ≤ cvol h + 380 * n + 1600 := by
  have hbig : jx_big = 4294967296 := rfl
  have hn0 := hP.1.2.2.1
  have hn160 := hP.1.2.2.2.1
  obtain ⟨h1, eh1⟩ : ∃ h1, h1 = h ++ [.inr (11, [.ref (N + 1)]), .inr (12, [.ref (jx_big + 53), .int (Int32.ofInt (0)), .int (Int32.ofInt (0))])] := ⟨_, rfl⟩
  have hN1 : h1.length = N + 2 := by rw [eh1, List.length_append, hN]; rfl
  have hl1 : 50 ≤ h1.length := by omega
  have q1 : ∀ (c : Nat) (y : jx_C), h[c]? = some y → h1[c]? = some y := fun c y hy => by rw [eh1, List.getElem?_append_left (List.getElem?_eq_some_iff.mp hy).1]; exact hy
  have v1 : cvol h1 = cvol h + 4 := by rw [eh1, cvol_app]; rfl
  have hU1 : quU h1 X N N (N + 1) (jx_big + 53) 0 (fun _ => .null) [] := by
    refine ⟨⟨by omega, by omega, by omega, by omega, by omega, Or.inl rfl, by omega⟩, hx, ?_, ⟨⟨by omega, by omega, hx _ (by omega)⟩, ⟨0, ?_⟩, Or.inl ⟨rfl, rfl, rfl⟩⟩, fun i e hi => (by cases hi), by decide⟩
    · rw [eh1, ← hN, List.getElem?_append_right (Nat.le_refl _), Nat.sub_self]
      rfl
    · rw [eh1, ← hN, List.getElem?_append_right (by omega), show h.length + 1 - h.length = 1 by omega]
      rfl
  have hP1 : cP (su κ 9 0 0) T n 0 := cP_q (L := [9]) hP (mEq_su (mEq_refl _ _) (by decide)) (by decide)
  obtain ⟨κ3, h3, cap3, x1, x2, x3, x4, x5, x6, x7, x8, x9, x10⟩ := jc_rdL (β := β) (d := d) 161 0 0 [] 0 h1 (su κ 9 0 0) (jx_big + 53) 0 _ (by omega) rfl (by decide) (by decide) hl1 (by omega) hU1 hP1 (by rw [su_nf (by decide)]; exact hsc) (su_eq _ _ _ _)
  refine ⟨κ3, h3, ?_, fun c y hy => x2 c y (by have := (List.getElem?_eq_some_iff.mp hy).1; omega) (q1 c y hy), by omega, mEq_trans (mEq_su (mEq_refl _ _) (by decide)) x5, x6, x7, x8, by omega, by omega⟩
  refine jr_1 jm_123 (show jw_cd cd_123 0 = some (.aload_n 0) by decide +kernel) rfl ?_
  refine jr_1 jm_123 (show jw_cd cd_123 1 = some (.iconst 0) by decide +kernel) rfl ?_
  refine jr_1 jm_123 (show jw_cd cd_123 2 = some (.putfield 15) by decide +kernel) (cp_9 (x := 0) (show jw_fld 7 15 4 = some 1 by decide +kernel) (show jw_fm 7 4 1 = some false by decide +kernel)) ?_
  refine jr_1 jm_123 (F2 := (8, [some (.ref 6), none, none], [.ref N], (cl_mk (h ++ [.inr (11, [.null])]) (su κ 9 (0) (0))))) (show jw_cd cd_123 5 = some (.new 19) by decide +kernel) (cnw0 hl hN (by omega) (show jw_find jw_xcT 7 19 = none by decide +kernel) (show jw_find jw_nwT 7 19 = some 11 by decide +kernel)) ?_
  refine jr_1 jm_123 (show jw_cd cd_123 8 = some (.dup) by decide +kernel) rfl ?_
  refine jr_c jm_123 (show jw_cd cd_123 9 = some (.invokespecial 21) by decide +kernel) (ccp (n := 0) (m2 := 124) (ci := 11) (a := N) (bs := []) (r := [.ref N]) (by decide +kernel) (js_cls (ap_get hl hN 0 rfl) (jbg (by omega))) (by decide) (jbg (by omega)) (show jw_find jw_cpT 7 21 = some (0, 124) by decide +kernel) rfl rfl rfl) jm_124 ⟨Nat.le_of_ble_eq_true rfl, by decide⟩ (jc_qI hl hN (by omega)) ?_
  refine jr_1 jm_123 (F2 := (13, [some (.ref 6), some (.ref N), none], [], (cl_mk (h ++ [.inr (11, [.ref (N + 1)]), .inr (12, [.ref (jx_big + 53), .int (Int32.ofInt (0)), .int (Int32.ofInt (0))])]) (su κ 9 (0) (0))))) (show jw_cd cd_123 12 = some (.astore_n 1) by decide +kernel) rfl ?_
  refine jr_1 jm_123 (show jw_cd cd_123 13 = some (.iconst 0) by decide +kernel) rfl ?_
  refine jr_1 jm_123 (F2 := (15, [some (.ref 6), some (.ref N), some (.int (Int32.ofInt (0)))], [], (cl_mk (h ++ [.inr (11, [.ref (N + 1)]), .inr (12, [.ref (jx_big + 53), .int (Int32.ofInt (0)), .int (Int32.ofInt (0))])]) (su κ 9 (0) (0))))) (show jw_cd cd_123 14 = some (.istore_n 2) by decide +kernel) rfl ?_
  rw [← eh1]
  exact x1
