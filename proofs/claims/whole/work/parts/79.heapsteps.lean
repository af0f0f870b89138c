/-! ===== steps that read and write the heap ===== -/
section JS
variable {T : jx_T} {own pc k a ci f n t : Nat} {rt : Option FieldType × Bool} {cd : Nat → Option Instr} {lo : jx_L} {st fs : List Value} {h : jx_H} {v : Value} {g : Nat → Value}
theorem js_cls (ho : h[a]? = some (.inr (ci, fs))) (ha : a < jx_big) : jx_cls T h a = some ci := by
  unfold jx_cls
  rw [if_pos ha, ho]
theorem js_get (ho : h[a]? = some (.inr (ci, fs))) (ha : a < jx_big) : jx_get T h a f = fs[f]? := by
  unfold jx_get
  rw [if_pos ha, ho]
theorem js_arr (ho : h[a]? = some (.inl (t, n, g))) (ha : a < jx_big) : jx_arr T h a = some (t, n, g) := by
  unfold jx_arr
  rw [if_pos ha, ho]
theorem js_getf (ho : h[a]? = some (.inr (ci, fs))) (ha : a < jx_big) (hf : jx_fld T own k ci = some f) (hv : fs[f]? = some v) : jx_do T cd own pc rt (.getfield k) lo (.ref a :: st) h = some (.inl (pc + 3, lo, v :: st, h)) := by
  simp only [jx_do, js_cls ho ha, hf, js_get ho ha, hv]
theorem js_putf {ty : FieldType} {fin : Bool} (ho : h[a]? = some (.inr (ci, fs))) (ha : a < jx_big) (hf : jx_fld T own k ci = some f) (hty : jx_ft T ci f = some ty) (hfm : jx_fm T own ci f = some fin) (hw : jx_wr T a = true) (hfit : fits ty v = true) (hfin : (!fin || rt.2) = true) : jx_do T cd own pc rt (.putfield k) lo (v :: .ref a :: st) h = some (.inl (pc + 3, lo, st, h.set a (.inr (ci, fs.set f v)))) := by
  simp only [jx_do, ho, hf, hty, hfm, hw, hfit, hfin, decide_eq_true ha]
  rfl
theorem js_len {ty : FieldType} (ho : h[a]? = some (.inl (t, n, g))) (ha : a < jx_big) (hty : jx_ty T t = some ty) : jx_do T cd own pc rt .arraylength lo (.ref a :: st) h = some (.inl (pc + 1, lo, .int (Int32.ofNat n) :: st, h)) := by
  simp only [jx_do, js_arr ho ha, hty]
theorem js_ald {ok : FieldType → Bool} {ty : FieldType} {j : Int32} (ho : h[a]? = some (.inl (t, n, g))) (ha : a < jx_big) (hty : jx_ty T t = some ty) (hk : ok ty = true) (hj : jx_in j n = true) : jx_ald T ok pc lo (.int j :: .ref a :: st) h = some (.inl (pc + 1, lo, g j.toNatClampNeg :: st, h)) := by
  simp only [jx_ald, js_arr ho ha, hty, hk, hj]
  rfl
theorem js_ast {ok : FieldType → Bool} {ty : FieldType} {j : Int32} (ho : h[a]? = some (.inl (t, n, g))) (ha : a < jx_big) (hty : jx_ty T t = some ty) (hk : ok ty = true) (hw : jx_wr T a = true) (hj : jx_in j n = true) : jx_ast T ok v j a pc lo st h = some (.inl (pc + 1, lo, st, h.set a (.inl (t, n, updV g j.toNatClampNeg (narrow ty v))))) := by
  simp only [jx_ast, ho, hty, hk, hj, hw, decide_eq_true ha]
  rfl
/-- what a write leaves alone, what it lays down; what a new cell leaves alone -/
theorem js_set_ne {b : Nat} {x : jx_C} (hne : a ≠ b) : (h.set a x)[b]? = h[b]? := List.getElem?_set_ne hne
theorem js_set_eq {x y : jx_C} (ho : h[a]? = some y) : (h.set a x)[a]? = some x := by
  have := (List.getElem?_eq_some_iff.mp ho).1
  rw [List.getElem?_set_self this]
theorem js_push {b : Nat} {x y : jx_C} (ho : h[b]? = some y) : (h ++ [x])[b]? = some y := by
  rw [List.getElem?_append_left (List.getElem?_eq_some_iff.mp ho).1, ho]
theorem js_last {x : jx_C} : (h ++ [x])[h.length]? = some x := by simp
end JS
theorem jm_209 : jw_M 209 = some (34, 1, (some .int, false), jw_cd cd_209, fun _ _ => none) := rfl
/-- the model's 'thrown' -/
theorem jm_thrown {w : Nat → Bool} {d m f : Nat} {h : jx_H} {fs : List Value} {x : Int32} (ho : h[m]? = some (.inr (16, fs))) (hm : m < jx_big) (hf : jw_fld 34 121 16 = some f) (hv : fs[f]? = some (.int x)) : jx_r (jw_TC w) jw_M d 209 (0, [some (.ref m)], [], h) (h, .inl (some (.int x))) := by
  refine jr_1 jm_209 (show jw_cd cd_209 0 = some (.aload_n 0) by decide +kernel) rfl ?_
  refine jr_1 jm_209 (show jw_cd cd_209 1 = some (.getfield 121) by decide +kernel) (js_getf ho hm hf hv) ?_
  exact jr_v jm_209 (show jw_cd cd_209 4 = some .ireturn by decide +kernel) rfl
