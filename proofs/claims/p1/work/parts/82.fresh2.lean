/-! ===== refused calls, and default answers ===== -/
theorem jm_mletter_lo {w : Nat → Bool} (hw : ∀ a, w a = true) {d m : Nat} {h : jx_H} {fs : List Value} {x y : Int32} {u : Value} (ho : h[m]? = some (.inr (16, fs))) (hm : m < jx_big) (hu : fs[0]? = some u) (hv : fs[2]? = some (.int y)) (hx : x < 32) : jx_r (jw_TC w) jw_M d 210 (0, [some (.ref m), some (.int x)], [], h) (h.set m (.inr (16, fs.set 0 (.int 1))), .inl (some (.int y))) := by
  refine jr_1 jm_210 (show jw_cd cd_210 0 = some (.aload_n 0) by decide +kernel) rfl ?_
  refine jr_1 jm_210 (show jw_cd cd_210 1 = some (.iload_n 1) by decide +kernel) rfl ?_
  refine jr_1 jm_210 (show jw_cd cd_210 2 = some (.bipush 32) by decide +kernel) rfl ?_
  refine jr_1 jm_210 (show jw_cd cd_210 4 = some (.if_icmp .lt 9) by decide +kernel) (jr_br (b := true) (t := 13) (decide_eq_true hx) (by decide) (by decide)) ?_
  exact jm_mletter_13 hw ho hm hu hv
theorem jm_mletter_hi {w : Nat → Bool} (hw : ∀ a, w a = true) {d m : Nat} {h : jx_H} {fs : List Value} {x y : Int32} {u : Value} (ho : h[m]? = some (.inr (16, fs))) (hm : m < jx_big) (hu : fs[0]? = some u) (hv : fs[2]? = some (.int y)) (h1 : ¬ x < 32) (hx : ¬ x ≤ 126) : jx_r (jw_TC w) jw_M d 210 (0, [some (.ref m), some (.int x)], [], h) (h.set m (.inr (16, fs.set 0 (.int 1))), .inl (some (.int y))) := by
  refine jr_1 jm_210 (show jw_cd cd_210 0 = some (.aload_n 0) by decide +kernel) rfl ?_
  refine jr_1 jm_210 (show jw_cd cd_210 1 = some (.iload_n 1) by decide +kernel) rfl ?_
  refine jr_1 jm_210 (show jw_cd cd_210 2 = some (.bipush 32) by decide +kernel) rfl ?_
  refine jr_1 jm_210 (show jw_cd cd_210 4 = some (.if_icmp .lt 9) by decide +kernel) (jr_br (b := false) (t := 7) (decide_eq_false h1) (by decide) (by decide)) ?_
  refine jr_1 jm_210 (show jw_cd cd_210 7 = some (.iload_n 1) by decide +kernel) rfl ?_
  refine jr_1 jm_210 (show jw_cd cd_210 8 = some (.bipush 126) by decide +kernel) rfl ?_
  refine jr_1 jm_210 (show jw_cd cd_210 10 = some (.if_icmp .le 7) by decide +kernel) (jr_br (b := false) (t := 13) (decide_eq_false hx) (by decide) (by decide)) ?_
  exact jm_mletter_13 hw ho hm hu hv
theorem jm_157 : jw_M 157 = some (0, 2, (some .int, false), jw_cd cd_157, fun _ _ => none) := rfl
theorem jm_run_no {w : Nat → Bool} {d : Nat} {h : jx_H} {fs : List Value} {x n : Int32} (hb : h.length < jx_big) (ho : h[0]? = some (.inr (0, fs))) (hv : fs[5]? = some (.int n)) (hx : x < 0 ∨ ¬ x < n) : jx_r (jw_TC w) jw_M d 157 (0, [some (.ref 0), some (.int x)], [], h) (h ++ [.inr (8, [])], .inr h.length) := by
  refine jr_1 jm_157 (show jw_cd cd_157 0 = some (.iload_n 1) by decide +kernel) rfl ?_
  by_cases h1 : x < 0
  · refine jr_1 jm_157 (show jw_cd cd_157 1 = some (.ifCond .lt 11) by decide +kernel) (jr_if (b := true) (t := 12) (decide_eq_true h1) (by decide) (by decide)) ?_
    exact jr_x jm_157 (show jw_cd cd_157 12 = some (.new 75) by decide +kernel) (jr_new (ic := 77) (ci := 8) (show jw_find jw_xcT 0 75 = some (77, 8) by decide +kernel) (by decide +kernel) (by decide +kernel) (by decide +kernel) hb)
  · have h2 : ¬ x < n := hx.resolve_left h1
    refine jr_1 jm_157 (show jw_cd cd_157 1 = some (.ifCond .lt 11) by decide +kernel) (jr_if (b := false) (t := 4) (decide_eq_false h1) (by decide) (by decide)) ?_
    refine jr_1 jm_157 (show jw_cd cd_157 4 = some (.iload_n 1) by decide +kernel) rfl ?_
    refine jr_1 jm_157 (show jw_cd cd_157 5 = some (.aload_n 0) by decide +kernel) rfl ?_
    refine jr_1 jm_157 (show jw_cd cd_157 6 = some (.getfield 53) by decide +kernel) (js_getf (f := 5) (v := .int n) ho (by decide) (show jw_fld 0 53 0 = some 5 by decide +kernel) hv) ?_
    refine jr_1 jm_157 (show jw_cd cd_157 9 = some (.if_icmp .lt 11) by decide +kernel) (jr_br (b := false) (t := 12) (decide_eq_false h2) (by decide) (by decide)) ?_
    exact jr_x jm_157 (show jw_cd cd_157 12 = some (.new 75) by decide +kernel) (jr_new (ic := 77) (ci := 8) (show jw_find jw_xcT 0 75 = some (77, 8) by decide +kernel) (by decide +kernel) (by decide +kernel) (by decide +kernel) hb)
theorem jm_245 : jw_M 245 = some (34, 8, (some .int, false), jw_cd cd_245, fun _ _ => none) := rfl
theorem jm_mrun_13 {w : Nat → Bool} (hw : ∀ a, w a = true) {d m : Nat} {h : jx_H} {fs : List Value} {x : Int32} {u : Value} (ho : h[m]? = some (.inr (16, fs))) (hm : m < jx_big) (hu : fs[0]? = some u) : jx_r (jw_TC w) jw_M d 245 (13, [some (.ref m), some (.int x), none, none, none, none, none, none], [.ref m], h) (h.set m (.inr (16, fs.set 0 (.int 1))), .inl (some (.int 0))) := by
  have hlt : 0 < fs.length := (List.getElem?_eq_some_iff.mp hu).1
  refine jr_1 jm_245 (show jw_cd cd_245 13 = some (.iconst 1) by decide +kernel) rfl ?_
  refine jr_1 jm_245 (show jw_cd cd_245 14 = some (.goto 4) by decide +kernel) (ju_go (t := 18) (by decide)) ?_
  refine jr_1 jm_245 (show jw_cd cd_245 18 = some (.putfield 121) by decide +kernel) (js_putf (f := 0) (ty := .int) (fin := false) ho hm (show jw_fld 34 121 16 = some 0 by decide +kernel) (show jw_ft 16 0 = some .int by decide +kernel) (show jw_fm 34 16 0 = some false by decide +kernel) (hw m) rfl rfl) ?_
  have ho2 : (h.set m (.inr (16, fs.set 0 (.int (Int32.ofInt 1)))))[m]? = some (.inr (16, fs.set 0 (.int (Int32.ofInt 1)))) := js_set_eq ho
  refine jr_1 jm_245 (show jw_cd cd_245 21 = some (.aload_n 0) by decide +kernel) rfl ?_
  refine jr_1 jm_245 (show jw_cd cd_245 22 = some (.getfield 121) by decide +kernel) (js_getf (f := 0) (v := .int (Int32.ofInt 1)) ho2 hm (show jw_fld 34 121 16 = some 0 by decide +kernel) (List.getElem?_set_self hlt)) ?_
  refine jr_1 jm_245 (show jw_cd cd_245 25 = some (.ifCond .le 5) by decide +kernel) (jr_if (b := false) (t := 28) (by decide) (by decide) (by decide)) ?_
  refine jr_1 jm_245 (show jw_cd cd_245 28 = some (.iconst 0) by decide +kernel) rfl ?_
  exact jr_v jm_245 (show jw_cd cd_245 29 = some (.ireturn) by decide +kernel) rfl
theorem jm_mrun_no {w : Nat → Bool} (hw : ∀ a, w a = true) {d m : Nat} {h : jx_H} {fs : List Value} {x : Int32} {u : Value} (ho : h[m]? = some (.inr (16, fs))) (hm : m < jx_big) (hu : fs[0]? = some u) {n : Int32} (hv : fs[15]? = some (.int n)) (hx : x < 0 ∨ ¬ x < n) : jx_r (jw_TC w) jw_M d 245 (0, [some (.ref m), some (.int x), none, none, none, none, none, none], [], h) (h.set m (.inr (16, fs.set 0 (.int 1))), .inl (some (.int 0))) := by
  refine jr_1 jm_245 (show jw_cd cd_245 0 = some (.aload_n 0) by decide +kernel) rfl ?_
  refine jr_1 jm_245 (show jw_cd cd_245 1 = some (.iload_n 1) by decide +kernel) rfl ?_
  by_cases h1 : x < 0
  · refine jr_1 jm_245 (show jw_cd cd_245 2 = some (.ifCond .lt 11) by decide +kernel) (jr_if (b := true) (t := 13) (decide_eq_true h1) (by decide) (by decide)) ?_
    exact jm_mrun_13 hw ho hm hu
  · have h2 : ¬ x < n := hx.resolve_left h1
    refine jr_1 jm_245 (show jw_cd cd_245 2 = some (.ifCond .lt 11) by decide +kernel) (jr_if (b := false) (t := 5) (decide_eq_false h1) (by decide) (by decide)) ?_
    refine jr_1 jm_245 (show jw_cd cd_245 5 = some (.iload_n 1) by decide +kernel) rfl ?_
    refine jr_1 jm_245 (show jw_cd cd_245 6 = some (.aload_n 0) by decide +kernel) rfl ?_
    refine jr_1 jm_245 (show jw_cd cd_245 7 = some (.getfield 219) by decide +kernel) (js_getf (f := 15) (v := .int n) ho hm (show jw_fld 34 219 16 = some 15 by decide +kernel) hv) ?_
    refine jr_1 jm_245 (show jw_cd cd_245 10 = some (.if_icmp .lt 7) by decide +kernel) (jr_br (b := false) (t := 13) (decide_eq_false h2) (by decide) (by decide)) ?_
    exact jm_mrun_13 hw ho hm hu
theorem jm_107 : jw_M 107 = some (0, 2, (some .int, false), jw_cd cd_107, fun _ _ => none) := rfl
theorem jm_107_d {w : Nat → Bool} {d : Nat} {h : jx_H} {v : Value} {x : Int32} (hx : x.toInt < 0 ∨ 3 < x.toInt) : jx_r (jw_TC w) jw_M d 107 (0, [some v, some (.int x)], [], h) (h, .inl (some (.int (-1)))) := by
  refine jr_1 jm_107 (show jw_cd cd_107 0 = some (.iload_n 1) by decide +kernel) rfl ?_
  refine jr_1 jm_107 (show jw_cd cd_107 1 = some (.tableswitch 85 0 3 #[31, 39, 68, 76]) by decide +kernel) (jr_tsD (t := 86) hx (by decide)) ?_
  refine jr_1 jm_107 (show jw_cd cd_107 86 = some (.iconst (-1)) by decide +kernel) rfl ?_
  exact jr_v jm_107 (show jw_cd cd_107 87 = some (.ireturn) by decide +kernel) rfl
theorem jm_112 : jw_M 112 = some (0, 2, (some .int, false), jw_cd cd_112, fun _ _ => none) := rfl
theorem jm_112_d {w : Nat → Bool} {d : Nat} {h : jx_H} {v : Value} {x : Int32} (hx : x.toInt < 0 ∨ 3 < x.toInt) : jx_r (jw_TC w) jw_M d 112 (0, [some v, some (.int x)], [], h) (h, .inl (some (.int (-1)))) := by
  refine jr_1 jm_112 (show jw_cd cd_112 0 = some (.iload_n 1) by decide +kernel) rfl ?_
  refine jr_1 jm_112 (show jw_cd cd_112 1 = some (.tableswitch 61 0 3 #[31, 39, 44, 52]) by decide +kernel) (jr_tsD (t := 62) hx (by decide)) ?_
  refine jr_1 jm_112 (show jw_cd cd_112 62 = some (.iconst (-1)) by decide +kernel) rfl ?_
  exact jr_v jm_112 (show jw_cd cd_112 63 = some (.ireturn) by decide +kernel) rfl
theorem jm_274 : jw_M 274 = some (34, 2, (some .int, false), jw_cd cd_274, fun _ _ => none) := rfl
theorem jm_274_d {w : Nat → Bool} (hw : ∀ a, w a = true) {d m : Nat} {h : jx_H} {fs : List Value} {x : Int32} {u : Value} (ho : h[m]? = some (.inr (16, fs))) (hm : m < jx_big) (hu : fs[0]? = some u) (hx : x.toInt < 0 ∨ 3 < x.toInt) : jx_r (jw_TC w) jw_M d 274 (0, [some (.ref m), some (.int x)], [], h) (h.set m (.inr (16, fs.set 0 (.int 0))), .inl (some (.int (-1)))) := by
  refine jr_1 jm_274 (show jw_cd cd_274 0 = some (.aload_n 0) by decide +kernel) rfl ?_
  refine jr_1 jm_274 (show jw_cd cd_274 1 = some (.iconst 0) by decide +kernel) rfl ?_
  refine jr_1 jm_274 (show jw_cd cd_274 2 = some (.putfield 121) by decide +kernel) (js_putf (f := 0) (ty := .int) (fin := false) ho hm (show jw_fld 34 121 16 = some 0 by decide +kernel) (show jw_ft 16 0 = some .int by decide +kernel) (show jw_fm 34 16 0 = some false by decide +kernel) (hw m) rfl rfl) ?_
  refine jr_1 jm_274 (show jw_cd cd_274 5 = some (.iload_n 1) by decide +kernel) rfl ?_
  refine jr_1 jm_274 (show jw_cd cd_274 6 = some (.tableswitch 121 0 3 #[30, 40, 103, 112]) by decide +kernel) (jr_tsD (t := 127) hx (by decide)) ?_
  refine jr_1 jm_274 (show jw_cd cd_274 127 = some (.iconst (-1)) by decide +kernel) rfl ?_
  exact jr_v jm_274 (show jw_cd cd_274 128 = some (.ireturn) by decide +kernel) rfl
theorem jm_281 : jw_M 281 = some (34, 2, (some .int, false), jw_cd cd_281, fun _ _ => none) := rfl
theorem jm_281_d {w : Nat → Bool} (hw : ∀ a, w a = true) {d m : Nat} {h : jx_H} {fs : List Value} {x : Int32} {u : Value} (ho : h[m]? = some (.inr (16, fs))) (hm : m < jx_big) (hu : fs[0]? = some u) (hx : x.toInt < 0 ∨ 3 < x.toInt) : jx_r (jw_TC w) jw_M d 281 (0, [some (.ref m), some (.int x)], [], h) (h.set m (.inr (16, fs.set 0 (.int 0))), .inl (some (.int (-1)))) := by
  refine jr_1 jm_281 (show jw_cd cd_281 0 = some (.aload_n 0) by decide +kernel) rfl ?_
  refine jr_1 jm_281 (show jw_cd cd_281 1 = some (.iconst 0) by decide +kernel) rfl ?_
  refine jr_1 jm_281 (show jw_cd cd_281 2 = some (.putfield 121) by decide +kernel) (js_putf (f := 0) (ty := .int) (fin := false) ho hm (show jw_fld 34 121 16 = some 0 by decide +kernel) (show jw_ft 16 0 = some .int by decide +kernel) (show jw_fm 34 16 0 = some false by decide +kernel) (hw m) rfl rfl) ?_
  refine jr_1 jm_281 (show jw_cd cd_281 5 = some (.iload_n 1) by decide +kernel) rfl ?_
  refine jr_1 jm_281 (show jw_cd cd_281 6 = some (.tableswitch 59 0 3 #[30, 35, 40, 50]) by decide +kernel) (jr_tsD (t := 65) hx (by decide)) ?_
  refine jr_1 jm_281 (show jw_cd cd_281 65 = some (.iconst (-1)) by decide +kernel) rfl ?_
  exact jr_v jm_281 (show jw_cd cd_281 66 = some (.ireturn) by decide +kernel) rfl
theorem jm_109 : jw_M 109 = some (0, 2, (some .int, false), jw_cd cd_109, fun _ _ => none) := rfl
theorem jm_280 : jw_M 280 = some (34, 2, (some .int, false), jw_cd cd_280, fun _ _ => none) := rfl
theorem jl_same {α : Type} {l : List α} {i : Nat} {a : α} (h : l[i]? = some a) : l.set i a = l := by
  apply List.ext_getElem?
  intro j
  by_cases hj : i = j
  · subst hj
    rw [List.getElem?_set_self (List.getElem?_eq_some_iff.mp h).1, h]
  · rw [List.getElem?_set_ne hj]
noncomputable def jq_rt : Nat := match jw_fi jw_hC 0 0 8 with
  | some (.ref a) => a
  | _ => 0
set_option maxRecDepth 100000 in
theorem jq_f8 : jw_fi jw_hC 0 0 8 = some (.ref jq_rt) ∧ jx_cls jw_C1 jw_hC jq_rt = some 2 ∧ jw_val (jw_ev 77 [.ref jq_rt] jw_hC) = some 1 ∧ decide (jw_ev 77 [.ref jq_rt] jw_hC).isSome = true := by decide +kernel
noncomputable def jq_hL : jx_H := jw_heap (jw_ev 77 [.ref jq_rt] jw_hC)
noncomputable def jq_hW : jx_H := jw_heap (jw_ev 275 [.ref 15] jq_hL)
set_option maxRecDepth 100000 in
theorem jq_w : jw_void (jw_ev 275 [.ref 15] jw_hC) = true ∧ jw_fi (jw_heap (jw_ev 275 [.ref 15] jw_hC)) 15 16 45 = some (.int 1) ∧ jw_fits (jw_heap (jw_ev 275 [.ref 15] jw_hC)) = true := by decide +kernel
set_option maxRecDepth 100000 in
theorem jq_wL : jw_void (jw_ev 275 [.ref 15] jq_hL) = true ∧ jw_fi jq_hW 15 16 45 = some (.int 1) ∧ jw_fits jq_hW = true ∧ jw_fi jq_hL 15 16 0 = some (.int 0) := by decide +kernel
theorem jm_77 : ∃ own rt cd hd, jw_M 77 = some (own, 1, rt, cd, hd) := ⟨_, _, _, _, rfl⟩
theorem jm_275 : ∃ own n rt cd hd, jw_M 275 = some (own, n, rt, cd, hd) ∧ 1 ≤ n := ⟨_, _, _, _, _, rfl, by decide⟩
theorem jq_w109_lo {d : Nat} {h : jx_H} {v : Value} {x : Int32} (hx : x < 0) : jx_r jw_C1 jw_M d 109 (0, [some v, some (.int x)], [], h) (h, .inl (some (.int (-1)))) := by
  refine jr_1 jm_109 (show jw_cd cd_109 0 = some (.iload_n 1) by decide +kernel) rfl ?_
  refine jr_1 jm_109 (show jw_cd cd_109 1 = some (.ifCond .lt 14) by decide +kernel) (jr_if (b := true) (t := 15) (decide_eq_true hx) (by decide) (by decide)) ?_
  refine jr_1 jm_109 (show jw_cd cd_109 15 = some (.iconst (-1)) by decide +kernel) rfl ?_
  exact jr_v jm_109 (show jw_cd cd_109 16 = some (.ireturn) by decide +kernel) rfl
theorem jq_w109_hi {x : Int32} (h1 : ¬ x < 0) (hx : ¬ x < 1) : jx_r jw_C1 jw_M 101 109 (0, [some (.ref 0), some (.int x)], [], jw_hC) (jq_hL, .inl (some (.int (-1)))) := by
  obtain ⟨fs, ho, hv⟩ := jw_fi_ok jq_f8.1
  obtain ⟨own2, rt2, cd2, hd2, hM2⟩ := jm_77
  have hc := jw_ev_r (mc := 77) (as := [.ref jq_rt]) hM2 ⟨Nat.le_refl 1, by decide⟩ (jw_val_ok jq_f8.2.2.1)
  refine jr_1 jm_109 (show jw_cd cd_109 0 = some (.iload_n 1) by decide +kernel) rfl ?_
  refine jr_1 jm_109 (show jw_cd cd_109 1 = some (.ifCond .lt 14) by decide +kernel) (jr_if (b := false) (t := 4) (decide_eq_false h1) (by decide) (by decide)) ?_
  refine jr_1 jm_109 (show jw_cd cd_109 4 = some (.iload_n 1) by decide +kernel) rfl ?_
  refine jr_1 jm_109 (show jw_cd cd_109 5 = some (.aload_n 0) by decide +kernel) rfl ?_
  refine jr_1 jm_109 (show jw_cd cd_109 6 = some (.getfield 67) by decide +kernel) (js_getf (f := 8) (v := .ref jq_rt) ho (by decide) (show jw_fld 0 67 0 = some 8 by decide +kernel) hv) ?_
  refine jr_c jm_109 (show jw_cd cd_109 9 = some (.invokevirtual 127) by decide +kernel) (jr_cv (n := 0) (ci := 2) (m2 := 77) (a := jq_rt) (bs := []) (r := [.int x]) rfl (show jw_find jw_cvT 0 127 = some (0, [(2, 77)]) by decide +kernel) (by decide) jq_f8.2.1 rfl rfl rfl) hM2 ⟨(by decide : (1 : Nat) ≤ 1), by decide⟩ hc ?_
  refine jr_1 jm_109 (show jw_cd cd_109 12 = some (.if_icmp .lt 5) by decide +kernel) (jr_br (b := false) (t := 15) (decide_eq_false hx) (by decide) (by decide)) ?_
  refine jr_1 jm_109 (show jw_cd cd_109 15 = some (.iconst (-1)) by decide +kernel) rfl ?_
  exact jr_v jm_109 (show jw_cd cd_109 16 = some (.ireturn) by decide +kernel) rfl
theorem jq_w280 {h : jx_H} {x : Int32} (h0 : jw_fi h 15 16 0 = some (.int 0)) (hv0 : jw_void (jw_ev 275 [.ref 15] h) = true) (h45 : jw_fi (jw_heap (jw_ev 275 [.ref 15] h)) 15 16 45 = some (.int 1)) (hx : x < 0 ∨ ¬ x < 1) : jx_r jw_C1 jw_M 101 280 (0, [some (.ref 15), some (.int x)], [], h) (jw_heap (jw_ev 275 [.ref 15] h), .inl (some (.int (-1)))) := by
  obtain ⟨fs, ho, hu⟩ := jw_fi_ok h0
  obtain ⟨fs2, ho2, hv2⟩ := jw_fi_ok h45
  obtain ⟨own2, n2, rt2, cd2, hd2, hM2, hn2⟩ := jm_275
  have hc := jw_ev_r (mc := 275) (as := [.ref 15]) (E := (own2, n2, rt2, cd2, hd2)) hM2 ⟨hn2, by decide⟩ (jw_void_ok hv0)
  have hm : 15 < jx_big := by decide
  have hw : ∀ a : Nat, (fun _ => true) a = true := fun _ => rfl
  refine jr_1 jm_280 (show jw_cd cd_280 0 = some (.aload_n 0) by decide +kernel) rfl ?_
  refine jr_1 jm_280 (show jw_cd cd_280 1 = some (.iconst 0) by decide +kernel) rfl ?_
  refine jr_1 jm_280 (show jw_cd cd_280 2 = some (.putfield 121) by decide +kernel) (js_putf (f := 0) (ty := .int) (fin := false) ho hm (show jw_fld 34 121 16 = some 0 by decide +kernel) (show jw_ft 16 0 = some .int by decide +kernel) (show jw_fm 34 16 0 = some false by decide +kernel) (hw 15) rfl rfl) ?_
  rw [show fs.set 0 (.int (Int32.ofInt 0)) = fs from jl_same hu, jl_same ho]
  refine jr_1 jm_280 (show jw_cd cd_280 5 = some (.aload_n 0) by decide +kernel) rfl ?_
  refine jr_c jm_280 (show jw_cd cd_280 6 = some (.invokevirtual 373) by decide +kernel) (jr_cv (n := 0) (ci := 16) (m2 := 275) (a := 15) (bs := []) (r := []) rfl (show jw_find jw_cvT 34 373 = some (0, [(16, 275)]) by decide +kernel) (by decide) (js_cls ho hm) rfl rfl rfl) hM2 ⟨hn2, by decide⟩ hc ?_
  refine jr_1 jm_280 (show jw_cd cd_280 9 = some (.iload_n 1) by decide +kernel) rfl ?_
  by_cases h1 : x < 0
  · refine jr_1 jm_280 (show jw_cd cd_280 10 = some (.ifCond .lt 11) by decide +kernel) (jr_if (b := true) (t := 21) (decide_eq_true h1) (by decide) (by decide)) ?_
    refine jr_1 jm_280 (show jw_cd cd_280 21 = some (.iconst (-1)) by decide +kernel) rfl ?_
    refine jr_1 jm_280 (show jw_cd cd_280 22 = some (.goto 9) by decide +kernel) (ju_go (t := 31) (by decide)) ?_
    exact jr_v jm_280 (show jw_cd cd_280 31 = some (.ireturn) by decide +kernel) rfl
  · have h2 : ¬ x < 1 := hx.resolve_left h1
    refine jr_1 jm_280 (show jw_cd cd_280 10 = some (.ifCond .lt 11) by decide +kernel) (jr_if (b := false) (t := 13) (decide_eq_false h1) (by decide) (by decide)) ?_
    refine jr_1 jm_280 (show jw_cd cd_280 13 = some (.iload_n 1) by decide +kernel) rfl ?_
    refine jr_1 jm_280 (show jw_cd cd_280 14 = some (.aload_n 0) by decide +kernel) rfl ?_
    refine jr_1 jm_280 (show jw_cd cd_280 15 = some (.getfield 353) by decide +kernel) (js_getf (f := 45) (v := .int 1) ho2 hm (show jw_fld 34 353 16 = some 45 by decide +kernel) hv2) ?_
    refine jr_1 jm_280 (show jw_cd cd_280 18 = some (.if_icmp .lt 7) by decide +kernel) (jr_br (b := false) (t := 21) (decide_eq_false h2) (by decide) (by decide)) ?_
    refine jr_1 jm_280 (show jw_cd cd_280 21 = some (.iconst (-1)) by decide +kernel) rfl ?_
    refine jr_1 jm_280 (show jw_cd cd_280 22 = some (.goto 9) by decide +kernel) (ju_go (t := 31) (by decide)) ?_
    exact jr_v jm_280 (show jw_cd cd_280 31 = some (.ireturn) by decide +kernel) rfl
noncomputable def jw_evB (β : Bool) (mc : Nat) (as : List Value) (h : jx_H) : Option jx_R := match jw_M mc with
  | some E => if (lg_sl as).length ≤ E.2.1 ∧ mc < 1000 then jx_ex (jw_TB β (fun _ => true)) jw_M 4000 100 mc (0, jx_in0 E.2.1 as, [], h) else none
  | none => none
theorem jw_evB_su {L : Nat} {xs : Nat → Int32} {mc : Nat} {as : List Value} {h : jx_H} {k : Int32} (e : jw_val (jw_evB (jw_bt L xs) mc as h) = some k) : jw_su L xs mc as h (jw_heap (jw_evB (jw_bt L xs) mc as h), .inl (some (.int k))) := by
  have e1 := jw_val_ok e
  generalize jw_heap (jw_evB (jw_bt L xs) mc as h) = h2 at e1 ⊢
  unfold jw_evB at e1
  split at e1
  · rename_i E hM
    split at e1
    · rename_i hc
      exact jw_suB hM hc.1 hc.2 (d := 100) (by decide) ⟨4000, e1⟩
    · cases e1
  · cases e1
set_option maxRecDepth 100000 in
theorem jq_w0 : ∀ β : Bool, jw_val (jw_evB β 109 [.ref 0, .int 0] jw_hC) = some 110 ∧ jx_cls jw_C1 (jw_heap (jw_evB β 109 [.ref 0, .int 0] jw_hC)) 15 = some 16 ∧ jw_val (jw_ev 280 [.ref 15, .int 0] (jw_heap (jw_evB β 109 [.ref 0, .int 0] jw_hC))) = some 110 ∧ jw_fits (jw_heap (jw_ev 280 [.ref 15, .int 0] (jw_heap (jw_evB β 109 [.ref 0, .int 0] jw_hC)))) = true := by decide +kernel
