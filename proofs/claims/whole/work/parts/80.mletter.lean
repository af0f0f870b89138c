/-! ===== the model's letter refuses what is no letter, on any heap ===== -/
theorem jm_210 : jw_M 210 = some (34, 2, (some .int, false), jw_cd cd_210, fun _ _ => none) := rfl
theorem jm_mletter_13 {w : Nat → Bool} (hw : ∀ a, w a = true) {d m : Nat} {h : jx_H} {fs : List Value} {x y : Int32} {u : Value} (ho : h[m]? = some (.inr (16, fs))) (hm : m < jx_big) (hu : fs[0]? = some u) (hv : fs[2]? = some (.int y)) : jx_r (jw_TC w) jw_M d 210 (13, [some (.ref m), some (.int x)], [.ref m], h) (h.set m (.inr (16, fs.set 0 (.int 1))), .inl (some (.int y))) := by
  have hlt : 0 < fs.length := (List.getElem?_eq_some_iff.mp hu).1
  refine jr_1 jm_210 (show jw_cd cd_210 13 = some (.iconst 1) by decide +kernel) rfl ?_
  refine jr_1 jm_210 (show jw_cd cd_210 14 = some (.goto 18) by decide +kernel) (ju_go (t := 32) (by decide)) ?_
  refine jr_1 jm_210 (show jw_cd cd_210 32 = some (.putfield 121) by decide +kernel) (js_putf (f := 0) (ty := .int) (fin := false) ho hm (show jw_fld 34 121 16 = some 0 by decide +kernel) (show jw_ft 16 0 = some .int by decide +kernel) (show jw_fm 34 16 0 = some false by decide +kernel) (hw m) rfl rfl) ?_
  have ho2 : (h.set m (.inr (16, fs.set 0 (.int (Int32.ofInt 1)))))[m]? = some (.inr (16, fs.set 0 (.int (Int32.ofInt 1)))) := js_set_eq ho
  refine jr_1 jm_210 (show jw_cd cd_210 35 = some (.aload_n 0) by decide +kernel) rfl ?_
  refine jr_1 jm_210 (show jw_cd cd_210 36 = some (.getfield 121) by decide +kernel) (js_getf (f := 0) (v := .int (Int32.ofInt 1)) ho2 hm (show jw_fld 34 121 16 = some 0 by decide +kernel) (List.getElem?_set_self hlt)) ?_
  refine jr_1 jm_210 (F2 := (62, [some (.ref m), some (.int x)], [], h.set m (.inr (16, fs.set 0 (.int (Int32.ofInt 1)))))) (show jw_cd cd_210 39 = some (.ifCond .ne 23) by decide +kernel) rfl ?_
  refine jr_1 jm_210 (show jw_cd cd_210 62 = some (.aload_n 0) by decide +kernel) rfl ?_
  refine jr_1 jm_210 (show jw_cd cd_210 63 = some (.getfield 142) by decide +kernel) (js_getf (f := 2) (v := .int y) ho2 hm (show jw_fld 34 142 16 = some 2 by decide +kernel) (by rw [List.getElem?_set_ne (by decide)]; exact hv)) ?_
  exact jr_v jm_210 (show jw_cd cd_210 66 = some .ireturn by decide +kernel) rfl
