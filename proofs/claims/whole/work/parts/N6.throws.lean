/-! ===== the class: what letter, query and run throw, over tables where nothing may be written (printed by program: gen138.py) ===== -/
theorem ccvw {β : Bool} {w : Nat → Bool} {cd : Nat → Option Instr} {own pc k : Nat} {rt : Option FieldType × Bool} {lo : jx_L} {st : List Value} {H : jx_H} {n m2 ci a : Nat} {l : List (Nat × Nat)} {bs r : List Value} (hc : jx_cls (jw_TB β w) H a = some ci) (hcv : jw_find jw_cvT own k = some (n, l)) (hg : jw_ls l ci = some m2) (hn : bs.length = n) (hst : st = bs.reverse ++ .ref a :: r) (hw : jx_wt r = true) : jx_do (jw_TB β w) cd own pc rt (.invokevirtual k) lo st H = some (.inr (.inl (m2, .ref a :: bs, r))) := by
  have e1 : jx_cv (jw_TB β w) own k = some (n, jw_ls l) := by
    show jw_cv own k = _
    unfold jw_cv
    rw [hcv]
  have e2 : jx_args n st = some (bs, .ref a :: r) := by
    unfold jx_args
    rw [hst, ← hn, if_pos (by rw [List.length_append, List.length_reverse]; omega), List.take_append_of_le_length (by rw [List.length_reverse]; exact Nat.le_refl _), List.drop_append_of_le_length (by rw [List.length_reverse]; exact Nat.le_refl _), List.take_of_length_le (by rw [List.length_reverse]; exact Nat.le_refl _), List.drop_of_length_le (by rw [List.length_reverse]; exact Nat.le_refl _), List.reverse_reverse]
    rfl
  simp only [jx_do, e1, e2, hc, hg, hw]
  rfl
theorem cthw {β : Bool} {w : Nat → Bool} {cd : Nat → Option Instr} {own pc : Nat} {rt : Option FieldType × Bool} {lo : jx_L} {H : jx_H} {k ic ci : Nat} (hb : H.length < jx_big) (hx : jw_find jw_xcT own k = some (ic, ci)) (h3 : cd (pc + 3) = some .dup) (h4 : cd (pc + 4) = some (.invokespecial ic)) (h7 : cd (pc + 7) = some .athrow) : jx_do (jw_TB β w) cd own pc rt (.new k) lo [] H = some (.inr (.inr (.inr (H.length, H ++ [.inr (ci, [])])))) := jr_new (T := jw_TB β w) hx h3 h4 h7 hb
theorem cln_2w {β : Bool} {w : Nat → Bool} {cd : Nat → Option Instr} {own pc : Nat} {rt : Option FieldType × Bool} {lo : jx_L} {st : List Value} {h : jx_H} {κ : mS} : jx_do (jw_TB β w) cd own pc rt .arraylength lo (.ref 2 :: st) (cl_mk h κ) = some (.inl (pc + 1, lo, .int (Int32.ofInt 160) :: st, cl_mk h κ)) := js_len (n := 160) cl_c2 (by decide) rfl
theorem jd_full_t {β : Bool} {w : Nat → Bool} {d : Nat} {h : jx_H} {κ : mS} {n : Int} (e3 : κ 3 0 = n) (hn : n = 160) : jx_r (jw_TB β w) jw_M (d) 118 (0, [some (.ref 1)], [], (cl_mk h κ)) (cl_mk h (κ), .inl (some (.int (Int32.ofInt (1))))) := by
  refine jr_1 jm_118 (show jw_cd cd_118 0 = some (.aload_n 0) by decide +kernel) rfl ?_
  refine jr_1 jm_118 (show jw_cd cd_118 1 = some (.getfield 15) by decide +kernel) (js_getf (v := .int (Int32.ofInt n)) cl_c1 (by decide) (show jw_fld 2 15 1 = some 1 by decide +kernel) (by rw [← e3]; rfl)) ?_
  refine jr_1 jm_118 (show jw_cd cd_118 4 = some (.aload_n 0) by decide +kernel) rfl ?_
  refine jr_1 jm_118 (show jw_cd cd_118 5 = some (.getfield 9) by decide +kernel) (js_getf cl_c1 (by decide) (show jw_fld 2 9 1 = some 0 by decide +kernel) rfl) ?_
  refine jr_1 jm_118 (show jw_cd cd_118 8 = some (.arraylength) by decide +kernel) cln_2w ?_
  refine jr_1 jm_118 (show jw_cd cd_118 9 = some (.if_icmp .lt 7) by decide +kernel) (mb_f (q := .lt) (a := n) (b := 160) (by show ¬ (n < 160); omega) ⟨by omega, by omega⟩ ⟨by omega, by omega⟩ (by decide)) ?_
  refine jr_1 jm_118 (show jw_cd cd_118 12 = some (.iconst 1) by decide +kernel) rfl ?_
  refine jr_1 jm_118 (show jw_cd cd_118 13 = some (.goto 4) by decide +kernel) (ju_go (t := 17) (by decide)) ?_
  exact jr_v jm_118 (show jw_cd cd_118 17 = some (.ireturn) by decide +kernel) rfl
theorem jd_letA {β : Bool} {w : Nat → Bool} {d : Nat} {h : jx_H} {κ : mS} (hb : (cl_mk h κ).length < jx_big) {x : Int} (hx : mr x) (h1 : x < 32) : jx_r (jw_TB β w) jw_M (d) 114 (0, [some (.ref 0), some (.int (Int32.ofInt (x)))], [], (cl_mk h κ)) (cl_mk h κ ++ [.inr (8, [])], .inr (cl_mk h κ).length) := by
  obtain ⟨x1, x2⟩ := hx
  refine jr_1 jm_114 (show jw_cd cd_114 0 = some (.iload_n 1) by decide +kernel) rfl ?_
  refine jr_1 jm_114 (show jw_cd cd_114 1 = some (.bipush 32) by decide +kernel) (mt_bi (by decide)) ?_
  refine jr_1 jm_114 (show jw_cd cd_114 3 = some (.if_icmp .lt 9) by decide +kernel) (mb_t (q := .lt) (a := x) (b := 32) (t := 12) (by show x < 32; omega) ⟨by omega, by omega⟩ ⟨by omega, by omega⟩ (by decide) (by decide)) ?_
  exact jr_x jm_114 (show jw_cd cd_114 12 = some (.new 75) by decide +kernel) (cthw (ic := 77) hb (by decide +kernel) (by decide +kernel) (by decide +kernel) (by decide +kernel))
theorem jd_letB {β : Bool} {w : Nat → Bool} {d : Nat} {h : jx_H} {κ : mS} (hb : (cl_mk h κ).length < jx_big) {x : Int} (hx : mr x) (h1 : 126 < x) : jx_r (jw_TB β w) jw_M (d) 114 (0, [some (.ref 0), some (.int (Int32.ofInt (x)))], [], (cl_mk h κ)) (cl_mk h κ ++ [.inr (8, [])], .inr (cl_mk h κ).length) := by
  obtain ⟨x1, x2⟩ := hx
  refine jr_1 jm_114 (show jw_cd cd_114 0 = some (.iload_n 1) by decide +kernel) rfl ?_
  refine jr_1 jm_114 (show jw_cd cd_114 1 = some (.bipush 32) by decide +kernel) (mt_bi (by decide)) ?_
  refine jr_1 jm_114 (show jw_cd cd_114 3 = some (.if_icmp .lt 9) by decide +kernel) (mb_f (q := .lt) (a := x) (b := 32) (by show ¬ (x < 32); omega) ⟨by omega, by omega⟩ ⟨by omega, by omega⟩ (by decide)) ?_
  refine jr_1 jm_114 (show jw_cd cd_114 6 = some (.iload_n 1) by decide +kernel) rfl ?_
  refine jr_1 jm_114 (show jw_cd cd_114 7 = some (.bipush 126) by decide +kernel) (mt_bi (by decide)) ?_
  refine jr_1 jm_114 (show jw_cd cd_114 9 = some (.if_icmp .le 11) by decide +kernel) (mb_f (q := .le) (a := x) (b := 126) (by show ¬ (x ≤ 126); omega) ⟨by omega, by omega⟩ ⟨by omega, by omega⟩ (by decide)) ?_
  exact jr_x jm_114 (show jw_cd cd_114 12 = some (.new 75) by decide +kernel) (cthw (ic := 77) hb (by decide +kernel) (by decide +kernel) (by decide +kernel) (by decide +kernel))
theorem jd_letF {β : Bool} {w : Nat → Bool} {d : Nat} {h : jx_H} {κ : mS} (hb : (cl_mk h κ).length < jx_big) {x : Int} (hx : 32 ≤ x ∧ x ≤ 126) (e3 : κ 3 0 = 160) : jx_r (jw_TB β w) jw_M (d + 1) 114 (0, [some (.ref 0), some (.int (Int32.ofInt (x)))], [], (cl_mk h κ)) (cl_mk h κ ++ [.inr (10, [])], .inr (cl_mk h κ).length) := by
  obtain ⟨x1, x2⟩ := hx
  refine jr_1 jm_114 (show jw_cd cd_114 0 = some (.iload_n 1) by decide +kernel) rfl ?_
  refine jr_1 jm_114 (show jw_cd cd_114 1 = some (.bipush 32) by decide +kernel) (mt_bi (by decide)) ?_
  refine jr_1 jm_114 (show jw_cd cd_114 3 = some (.if_icmp .lt 9) by decide +kernel) (mb_f (q := .lt) (a := x) (b := 32) (by show ¬ (x < 32); omega) ⟨by omega, by omega⟩ ⟨by omega, by omega⟩ (by decide)) ?_
  refine jr_1 jm_114 (show jw_cd cd_114 6 = some (.iload_n 1) by decide +kernel) rfl ?_
  refine jr_1 jm_114 (show jw_cd cd_114 7 = some (.bipush 126) by decide +kernel) (mt_bi (by decide)) ?_
  refine jr_1 jm_114 (show jw_cd cd_114 9 = some (.if_icmp .le 11) by decide +kernel) (mb_t (q := .le) (a := x) (b := 126) (t := 20) (by show x ≤ 126; omega) ⟨by omega, by omega⟩ ⟨by omega, by omega⟩ (by decide) (by decide)) ?_
  refine jr_1 jm_114 (show jw_cd cd_114 20 = some (.aload_n 0) by decide +kernel) rfl ?_
  refine jr_1 jm_114 (show jw_cd cd_114 21 = some (.getfield 10) by decide +kernel) (js_getf cl_c0 (by decide) (show jw_fld 0 10 0 = some 0 by decide +kernel) rfl) ?_
  refine jr_c jm_114 (show jw_cd cd_114 24 = some (.invokevirtual 78) by decide +kernel) (ccvw (n := 0) (m2 := 118) (ci := 1) (a := 1) (bs := []) (r := []) (js_cls cl_c1 (by decide)) (show jw_find jw_cvT 0 78 = some (0, [(1, 118)]) by decide +kernel) (by decide) rfl rfl rfl) jm_118 ⟨Nat.le_of_ble_eq_true rfl, by decide⟩ (jd_full_t rfl e3) ?_
  refine jr_1 jm_114 (show jw_cd cd_114 27 = some (.ifCond .eq 11) by decide +kernel) (mz_f (q := .eq) (a := 1) (by show ¬ (1 = 0); omega) ⟨by omega, by omega⟩ (by decide)) ?_
  exact jr_x jm_114 (show jw_cd cd_114 30 = some (.new 82) by decide +kernel) (cthw (ic := 84) hb (by decide +kernel) (by decide +kernel) (by decide +kernel) (by decide +kernel))
theorem jd_qryX {β : Bool} {w : Nat → Bool} {d : Nat} {h : jx_H} {κ : mS} (hb : (cl_mk h κ).length < jx_big) (e0 : κ 0 0 = 12) : jx_r (jw_TB β w) jw_M (d) 122 (0, [some (.ref 0), none, none], [], (cl_mk h κ)) (cl_mk h κ ++ [.inr (10, [])], .inr (cl_mk h κ).length) := by
  refine jr_1 jm_122 (show jw_cd cd_122 0 = some (.aload_n 0) by decide +kernel) rfl ?_
  refine jr_1 jm_122 (show jw_cd cd_122 1 = some (.getfield 53) by decide +kernel) (js_getf cl_c0 (by decide) (show jw_fld 0 53 0 = some 5 by decide +kernel) rfl) ?_
  refine jr_1 jm_122 (show jw_cd cd_122 4 = some (.bipush 12) by decide +kernel) (mt_bi (by decide)) ?_
  refine jr_1 jm_122 (show jw_cd cd_122 6 = some (.if_icmp .lt 11) by decide +kernel) (mb_f (q := .lt) (a := κ 0 0) (b := 12) (by show ¬ (κ 0 0 < 12); omega) ⟨by omega, by omega⟩ ⟨by omega, by omega⟩ (by decide)) ?_
  exact jr_x jm_122 (show jw_cd cd_122 9 = some (.new 82) by decide +kernel) (cthw (ic := 84) hb (by decide +kernel) (by decide +kernel) (by decide +kernel) (by decide +kernel))
theorem jd_runX {β : Bool} {w : Nat → Bool} {d : Nat} {h : jx_H} {κ : mS} (hb : (cl_mk h κ).length < jx_big) {q : Int} (hq : mr q) (h1 : q < 0) : jx_r (jw_TB β w) jw_M (d) 157 (0, [some (.ref 0), some (.int (Int32.ofInt (q)))], [], (cl_mk h κ)) (cl_mk h κ ++ [.inr (8, [])], .inr (cl_mk h κ).length) := by
  obtain ⟨q1, q2⟩ := hq
  refine jr_1 jm_157 (show jw_cd cd_157 0 = some (.iload_n 1) by decide +kernel) rfl ?_
  refine jr_1 jm_157 (show jw_cd cd_157 1 = some (.ifCond .lt 11) by decide +kernel) (mz_t (q := .lt) (a := q) (t := 12) (by show q < 0; omega) ⟨by omega, by omega⟩ (by decide) (by decide)) ?_
  exact jr_x jm_157 (show jw_cd cd_157 12 = some (.new 75) by decide +kernel) (cthw (ic := 77) hb (by decide +kernel) (by decide +kernel) (by decide +kernel) (by decide +kernel))
theorem jd_runY {β : Bool} {w : Nat → Bool} {d : Nat} {h : jx_H} {κ : mS} (hb : (cl_mk h κ).length < jx_big) {q : Int} (hq : mr q) (h0 : 0 ≤ q) (h12 : 0 ≤ κ 0 0 ∧ κ 0 0 ≤ 12) (h1 : κ 0 0 ≤ q) : jx_r (jw_TB β w) jw_M (d) 157 (0, [some (.ref 0), some (.int (Int32.ofInt (q)))], [], (cl_mk h κ)) (cl_mk h κ ++ [.inr (8, [])], .inr (cl_mk h κ).length) := by
  obtain ⟨q1, q2⟩ := hq
  refine jr_1 jm_157 (show jw_cd cd_157 0 = some (.iload_n 1) by decide +kernel) rfl ?_
  refine jr_1 jm_157 (show jw_cd cd_157 1 = some (.ifCond .lt 11) by decide +kernel) (mz_f (q := .lt) (a := q) (by show ¬ (q < 0); omega) ⟨by omega, by omega⟩ (by decide)) ?_
  refine jr_1 jm_157 (show jw_cd cd_157 4 = some (.iload_n 1) by decide +kernel) rfl ?_
  refine jr_1 jm_157 (show jw_cd cd_157 5 = some (.aload_n 0) by decide +kernel) rfl ?_
  refine jr_1 jm_157 (show jw_cd cd_157 6 = some (.getfield 53) by decide +kernel) (js_getf cl_c0 (by decide) (show jw_fld 0 53 0 = some 5 by decide +kernel) rfl) ?_
  refine jr_1 jm_157 (show jw_cd cd_157 9 = some (.if_icmp .lt 11) by decide +kernel) (mb_f (q := .lt) (a := q) (b := κ 0 0) (by show ¬ (q < κ 0 0); omega) ⟨by omega, by omega⟩ ⟨by omega, by omega⟩ (by decide)) ?_
  exact jr_x jm_157 (show jw_cd cd_157 12 = some (.new 75) by decide +kernel) (cthw (ic := 77) hb (by decide +kernel) (by decide +kernel) (by decide +kernel) (by decide +kernel))
theorem jw_shXB {L : Nat} {xs : Nat → Int32} {mc d ci : Nat} {E : jx_M} {as : List Value} {h : jx_H} (hM : jw_M mc = some E) (hl : (lg_sl as).length ≤ E.2.1) (hc : mc < 1000) (hd : d ≤ 800) (hb : h.length < jx_big) (hns : jw_ns ci = 6) (hr : jx_r (jw_TB (jw_bt L xs) (fun _ => false)) jw_M d mc (0, jx_in0 E.2.1 as, [], h) (h ++ [.inr (ci, [])], .inr h.length)) : jw_sh L xs mc as h (h ++ [.inr (ci, [])], .inr h.length) := by
  obtain ⟨f, hr⟩ := hr
  obtain ⟨own, n2, rt, cd, hd9⟩ := E
  exact ⟨f + 0, d + 0, own, n2, rt, cd, hd9, hM, hl, hc, hd, Or.inr ⟨ci, rfl, hns, hns, rfl, hb, jx_ex_mono (jw_leB (fun _ h => h)) 0 f 0 d mc _ _ hr⟩⟩
theorem jw_shRB {L : Nat} {xs : Nat → Int32} {mc d : Nat} {E : jx_M} {as : List Value} {h h2 : jx_H} {v : Option Value} (hM : jw_M mc = some E) (hl : (lg_sl as).length ≤ E.2.1) (hc : mc < 1000) (hd : d ≤ 800) (hr : jx_r (jz (jw_bt L xs)) jw_M d mc (0, jx_in0 E.2.1 as, [], h) (h2, .inl v)) : jw_sh L xs mc as h (h2, .inl v) := by
  obtain ⟨f, hr⟩ := hr
  obtain ⟨own, n2, rt, cd, hd9⟩ := E
  exact ⟨f + 0, d + 0, own, n2, rt, cd, hd9, hM, hl, hc, hd, Or.inl ⟨v, rfl, jx_ex_mono (jw_leB (fun _ h => h)) 0 f 0 d mc _ _ hr⟩⟩
theorem jw_suRB {L : Nat} {xs : Nat → Int32} {mc d : Nat} {E : jx_M} {as : List Value} {h h2 : jx_H} {v : Option Value} (hM : jw_M mc = some E) (hl : (lg_sl as).length ≤ E.2.1) (hc : mc < 1000) (hd : d ≤ 800) (hr : jx_r (jz (jw_bt L xs)) jw_M d mc (0, jx_in0 E.2.1 as, [], h) (h2, .inl v)) : jw_su L xs mc as h (h2, .inl v) := by
  obtain ⟨f, hr⟩ := hr
  obtain ⟨own, n2, rt, cd, hd9⟩ := E
  exact ⟨v, rfl, Or.inl ⟨f + 0, d + 0, own, n2, rt, cd, hd9, hM, hl, hc, hd, Or.inl ⟨v, rfl, jx_ex_mono (jw_leB (fun _ h => h)) 0 f 0 d mc _ _ hr⟩⟩⟩
