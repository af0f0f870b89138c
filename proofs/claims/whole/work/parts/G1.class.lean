/-! ===== the class: its lasting cells as numbers (printed by program: gen73.py) ===== -/
def cl_ce (κ : mS) : List jx_C := [.inr (0, [.ref 1, .ref 5, .ref 6, .ref 10, .ref 12, .int (Int32.ofInt (κ 0 0)), .ref (κ 1 0).toNat, .ref (κ 2 0).toNat, .ref 13]),
  .inr (1, [.ref 2, .int (Int32.ofInt (κ 3 0)), .int (Int32.ofInt (κ 4 0)), .int (Int32.ofInt (κ 5 0)), .ref 3]),
  .inl (2, 160, fun i => .int (Int32.ofInt (κ 6 i))),
  .inr (2, [.ref 4, .int (Int32.ofInt 0), .int (Int32.ofInt (κ 15 0)), .int (Int32.ofInt (κ 7 0))]),
  .inl (3, 16, fun i => .int (Int32.ofInt (κ 8 i))),
  .inr (3, [.ref 1]),
  .inr (4, [.ref 1, .int (Int32.ofInt (κ 9 0))]),
  .inr (5, [.int (Int32.ofInt 0), .int (Int32.ofInt 0), .ref (jx_big + 9), .ref 8, .ref 9, .int (Int32.ofInt 0)]),
  .inl (4, 0, fun _ => .null),
  .inl (4, 0, fun _ => .null),
  .inr (6, [.ref 7, .ref 11, .int (Int32.ofInt (κ 10 0))]),
  .inr (7, [.ref 7]),
  .inl (5, 12, fun i => if κ 11 i < 0 then .null else .ref (κ 11 i).toNat),
  .inr (2, [.ref (κ 13 0).toNat, .int (Int32.ofInt 0), .int (Int32.ofInt (κ 16 0)), .int (Int32.ofInt (κ 12 0))]),
  .inl (3, 16, fun i => .int (Int32.ofInt (κ 14 i)))]
def cl_mk (h : jx_H) (κ : mS) : jx_H := cl_ce κ ++ h.drop 15
section CL
variable {h : jx_H} {κ : mS}
theorem cl_len (hl : 15 ≤ h.length) : (cl_mk h κ).length = h.length := by
  show (cl_ce κ ++ h.drop 15).length = h.length
  rw [List.length_append, List.length_drop]
  show 15 + (h.length - 15) = h.length
  omega
theorem cl_dy (hl : 15 ≤ h.length) {a : Nat} (ha : 15 ≤ a) : (cl_mk h κ)[a]? = h[a]? := by
  unfold cl_mk
  rw [List.getElem?_append_right (by show 15 ≤ a; exact ha), List.getElem?_drop]
  congr 1
  show 15 + (a - 15) = a
  omega
theorem cl_set (hl : 15 ≤ h.length) {a : Nat} {c : jx_C} (ha : 15 ≤ a) : (cl_mk h κ).set a c = cl_mk (h.set a c) κ := by
  unfold cl_mk
  rw [List.set_append_right _ _ (by show 15 ≤ a; exact ha), List.drop_set]
  rw [if_neg (by omega)]
  rfl
theorem cl_app (hl : 15 ≤ h.length) {c : jx_C} : cl_mk h κ ++ [c] = cl_mk (h ++ [c]) κ := by
  unfold cl_mk
  rw [List.drop_append_of_le_length hl, List.append_assoc]
theorem cl_c0 : (cl_mk h κ)[0]? = some (.inr (0, [.ref 1, .ref 5, .ref 6, .ref 10, .ref 12, .int (Int32.ofInt (κ 0 0)), .ref (κ 1 0).toNat, .ref (κ 2 0).toNat, .ref 13])) := rfl
theorem cl_c1 : (cl_mk h κ)[1]? = some (.inr (1, [.ref 2, .int (Int32.ofInt (κ 3 0)), .int (Int32.ofInt (κ 4 0)), .int (Int32.ofInt (κ 5 0)), .ref 3])) := rfl
theorem cl_c2 : (cl_mk h κ)[2]? = some (.inl (2, 160, fun i => .int (Int32.ofInt (κ 6 i)))) := rfl
theorem cl_c3 : (cl_mk h κ)[3]? = some (.inr (2, [.ref 4, .int (Int32.ofInt 0), .int (Int32.ofInt (κ 15 0)), .int (Int32.ofInt (κ 7 0))])) := rfl
theorem cl_c4 : (cl_mk h κ)[4]? = some (.inl (3, 16, fun i => .int (Int32.ofInt (κ 8 i)))) := rfl
theorem cl_c5 : (cl_mk h κ)[5]? = some (.inr (3, [.ref 1])) := rfl
theorem cl_c6 : (cl_mk h κ)[6]? = some (.inr (4, [.ref 1, .int (Int32.ofInt (κ 9 0))])) := rfl
theorem cl_c7 : (cl_mk h κ)[7]? = some (.inr (5, [.int (Int32.ofInt 0), .int (Int32.ofInt 0), .ref (jx_big + 9), .ref 8, .ref 9, .int (Int32.ofInt 0)])) := rfl
theorem cl_c8 : (cl_mk h κ)[8]? = some (.inl (4, 0, fun _ => .null)) := rfl
theorem cl_c9 : (cl_mk h κ)[9]? = some (.inl (4, 0, fun _ => .null)) := rfl
theorem cl_c10 : (cl_mk h κ)[10]? = some (.inr (6, [.ref 7, .ref 11, .int (Int32.ofInt (κ 10 0))])) := rfl
theorem cl_c11 : (cl_mk h κ)[11]? = some (.inr (7, [.ref 7])) := rfl
theorem cl_c12 : (cl_mk h κ)[12]? = some (.inl (5, 12, fun i => if κ 11 i < 0 then .null else .ref (κ 11 i).toNat)) := rfl
theorem cl_c13 : (cl_mk h κ)[13]? = some (.inr (2, [.ref (κ 13 0).toNat, .int (Int32.ofInt 0), .int (Int32.ofInt (κ 16 0)), .int (Int32.ofInt (κ 12 0))])) := rfl
theorem cl_c14 : (cl_mk h κ)[14]? = some (.inl (3, 16, fun i => .int (Int32.ofInt (κ 14 i)))) := rfl
end CL
section CS
variable {β : Bool} {cd : Nat → Option Instr} {own pc k : Nat} {rt : Option FieldType × Bool} {lo : jx_L} {st : List Value} {h : jx_H} {κ : mS} {H : jx_H}
theorem cpf {H' : jx_H} {a ci f : Nat} {fs : List Value} {v : Value} {ty : FieldType} {fin : Bool} (ho : H[a]? = some (.inr (ci, fs))) (ha : a < jx_big) (hf : jw_fld own k ci = some f) (hty : jw_ft ci f = some ty) (hfm : jw_fm own ci f = some fin) (hfit : fits ty v = true) (hfin : (!fin || rt.2) = true) (hs : H.set a (.inr (ci, fs.set f v)) = H') : jx_do (jz β) cd own pc rt (.putfield k) lo (v :: .ref a :: st) H = some (.inl (pc + 3, lo, st, H')) := by
  have e := js_putf (T := jz β) (cd := cd) (own := own) (pc := pc) (rt := rt) (lo := lo) (st := st) (v := v) ho ha hf hty hfm rfl hfit hfin
  rw [hs] at e
  exact e
theorem cg_0 {e : Int} (hv : κ 0 0 = e) (hf : jw_fld own k 0 = some 5) : jx_do (jz β) cd own pc rt (.getfield k) lo (.ref 0 :: st) (cl_mk h κ) = some (.inl (pc + 3, lo, .int (Int32.ofInt e) :: st, cl_mk h κ)) := js_getf cl_c0 (by decide) hf (by rw [← hv]; rfl)
theorem cp_0 {x : Int} (hf : jw_fld own k 0 = some 5) (hfm : jw_fm own 0 5 = some false) : jx_do (jz β) cd own pc rt (.putfield k) lo (.int (Int32.ofInt x) :: .ref 0 :: st) (cl_mk h κ) = some (.inl (pc + 3, lo, st, cl_mk h (su κ 0 0 x))) := cpf cl_c0 (by decide) hf (ty := .int) (by decide +kernel) hfm rfl rfl rfl
theorem cg_3 {e : Int} (hv : κ 3 0 = e) (hf : jw_fld own k 1 = some 1) : jx_do (jz β) cd own pc rt (.getfield k) lo (.ref 1 :: st) (cl_mk h κ) = some (.inl (pc + 3, lo, .int (Int32.ofInt e) :: st, cl_mk h κ)) := js_getf cl_c1 (by decide) hf (by rw [← hv]; rfl)
theorem cp_3 {x : Int} (hf : jw_fld own k 1 = some 1) (hfm : jw_fm own 1 1 = some false) : jx_do (jz β) cd own pc rt (.putfield k) lo (.int (Int32.ofInt x) :: .ref 1 :: st) (cl_mk h κ) = some (.inl (pc + 3, lo, st, cl_mk h (su κ 3 0 x))) := cpf cl_c1 (by decide) hf (ty := .int) (by decide +kernel) hfm rfl rfl rfl
theorem cg_4 {e : Int} (hv : κ 4 0 = e) (hf : jw_fld own k 1 = some 2) : jx_do (jz β) cd own pc rt (.getfield k) lo (.ref 1 :: st) (cl_mk h κ) = some (.inl (pc + 3, lo, .int (Int32.ofInt e) :: st, cl_mk h κ)) := js_getf cl_c1 (by decide) hf (by rw [← hv]; rfl)
theorem cp_4 {x : Int} (hf : jw_fld own k 1 = some 2) (hfm : jw_fm own 1 2 = some false) : jx_do (jz β) cd own pc rt (.putfield k) lo (.int (Int32.ofInt x) :: .ref 1 :: st) (cl_mk h κ) = some (.inl (pc + 3, lo, st, cl_mk h (su κ 4 0 x))) := cpf cl_c1 (by decide) hf (ty := .int) (by decide +kernel) hfm rfl rfl rfl
theorem cg_5 {e : Int} (hv : κ 5 0 = e) (hf : jw_fld own k 1 = some 3) : jx_do (jz β) cd own pc rt (.getfield k) lo (.ref 1 :: st) (cl_mk h κ) = some (.inl (pc + 3, lo, .int (Int32.ofInt e) :: st, cl_mk h κ)) := js_getf cl_c1 (by decide) hf (by rw [← hv]; rfl)
theorem cp_5 {x : Int} (hf : jw_fld own k 1 = some 3) (hfm : jw_fm own 1 3 = some false) : jx_do (jz β) cd own pc rt (.putfield k) lo (.int (Int32.ofInt x) :: .ref 1 :: st) (cl_mk h κ) = some (.inl (pc + 3, lo, st, cl_mk h (su κ 5 0 x))) := cpf cl_c1 (by decide) hf (ty := .int) (by decide +kernel) hfm rfl rfl rfl
theorem cg_7 {e : Int} (hv : κ 7 0 = e) (hf : jw_fld own k 2 = some 3) : jx_do (jz β) cd own pc rt (.getfield k) lo (.ref 3 :: st) (cl_mk h κ) = some (.inl (pc + 3, lo, .int (Int32.ofInt e) :: st, cl_mk h κ)) := js_getf cl_c3 (by decide) hf (by rw [← hv]; rfl)
theorem cp_7 {x : Int} (hf : jw_fld own k 2 = some 3) (hfm : jw_fm own 2 3 = some false) : jx_do (jz β) cd own pc rt (.putfield k) lo (.int (Int32.ofInt x) :: .ref 3 :: st) (cl_mk h κ) = some (.inl (pc + 3, lo, st, cl_mk h (su κ 7 0 x))) := cpf cl_c3 (by decide) hf (ty := .int) (by decide +kernel) hfm rfl rfl rfl
theorem cg_9 {e : Int} (hv : κ 9 0 = e) (hf : jw_fld own k 4 = some 1) : jx_do (jz β) cd own pc rt (.getfield k) lo (.ref 6 :: st) (cl_mk h κ) = some (.inl (pc + 3, lo, .int (Int32.ofInt e) :: st, cl_mk h κ)) := js_getf cl_c6 (by decide) hf (by rw [← hv]; rfl)
theorem cp_9 {x : Int} (hf : jw_fld own k 4 = some 1) (hfm : jw_fm own 4 1 = some false) : jx_do (jz β) cd own pc rt (.putfield k) lo (.int (Int32.ofInt x) :: .ref 6 :: st) (cl_mk h κ) = some (.inl (pc + 3, lo, st, cl_mk h (su κ 9 0 x))) := cpf cl_c6 (by decide) hf (ty := .int) (by decide +kernel) hfm rfl rfl rfl
theorem cg_10 {e : Int} (hv : κ 10 0 = e) (hf : jw_fld own k 6 = some 2) : jx_do (jz β) cd own pc rt (.getfield k) lo (.ref 10 :: st) (cl_mk h κ) = some (.inl (pc + 3, lo, .int (Int32.ofInt e) :: st, cl_mk h κ)) := js_getf cl_c10 (by decide) hf (by rw [← hv]; rfl)
theorem cp_10 {x : Int} (hf : jw_fld own k 6 = some 2) (hfm : jw_fm own 6 2 = some false) : jx_do (jz β) cd own pc rt (.putfield k) lo (.int (Int32.ofInt x) :: .ref 10 :: st) (cl_mk h κ) = some (.inl (pc + 3, lo, st, cl_mk h (su κ 10 0 x))) := cpf cl_c10 (by decide) hf (ty := .int) (by decide +kernel) hfm rfl rfl rfl
theorem cg_12 {e : Int} (hv : κ 12 0 = e) (hf : jw_fld own k 2 = some 3) : jx_do (jz β) cd own pc rt (.getfield k) lo (.ref 13 :: st) (cl_mk h κ) = some (.inl (pc + 3, lo, .int (Int32.ofInt e) :: st, cl_mk h κ)) := js_getf cl_c13 (by decide) hf (by rw [← hv]; rfl)
theorem cp_12 {x : Int} (hf : jw_fld own k 2 = some 3) (hfm : jw_fm own 2 3 = some false) : jx_do (jz β) cd own pc rt (.putfield k) lo (.int (Int32.ofInt x) :: .ref 13 :: st) (cl_mk h κ) = some (.inl (pc + 3, lo, st, cl_mk h (su κ 12 0 x))) := cpf cl_c13 (by decide) hf (ty := .int) (by decide +kernel) hfm rfl rfl rfl
theorem cg_15 {e : Int} (hv : κ 15 0 = e) (hf : jw_fld own k 2 = some 2) : jx_do (jz β) cd own pc rt (.getfield k) lo (.ref 3 :: st) (cl_mk h κ) = some (.inl (pc + 3, lo, .int (Int32.ofInt e) :: st, cl_mk h κ)) := js_getf cl_c3 (by decide) hf (by rw [← hv]; rfl)
theorem cp_15 {x : Int} (hf : jw_fld own k 2 = some 2) (hfm : jw_fm own 2 2 = some false) (hfit : fits .boolean (.int (Int32.ofInt x)) = true) : jx_do (jz β) cd own pc rt (.putfield k) lo (.int (Int32.ofInt x) :: .ref 3 :: st) (cl_mk h κ) = some (.inl (pc + 3, lo, st, cl_mk h (su κ 15 0 x))) := cpf cl_c3 (by decide) hf (ty := .boolean) (by decide +kernel) hfm hfit rfl rfl
theorem cg_16 {e : Int} (hv : κ 16 0 = e) (hf : jw_fld own k 2 = some 2) : jx_do (jz β) cd own pc rt (.getfield k) lo (.ref 13 :: st) (cl_mk h κ) = some (.inl (pc + 3, lo, .int (Int32.ofInt e) :: st, cl_mk h κ)) := js_getf cl_c13 (by decide) hf (by rw [← hv]; rfl)
theorem cp_16 {x : Int} (hf : jw_fld own k 2 = some 2) (hfm : jw_fm own 2 2 = some false) (hfit : fits .boolean (.int (Int32.ofInt x)) = true) : jx_do (jz β) cd own pc rt (.putfield k) lo (.int (Int32.ofInt x) :: .ref 13 :: st) (cl_mk h κ) = some (.inl (pc + 3, lo, st, cl_mk h (su κ 16 0 x))) := cpf cl_c13 (by decide) hf (ty := .boolean) (by decide +kernel) hfm hfit rfl rfl
theorem cgr_0_0 (hf : jw_fld own k 0 = some 0) : jx_do (jz β) cd own pc rt (.getfield k) lo (.ref 0 :: st) (cl_mk h κ) = some (.inl (pc + 3, lo, .ref 1 :: st, cl_mk h κ)) := js_getf cl_c0 (by decide) hf rfl
theorem cgr_0_1 (hf : jw_fld own k 0 = some 1) : jx_do (jz β) cd own pc rt (.getfield k) lo (.ref 0 :: st) (cl_mk h κ) = some (.inl (pc + 3, lo, .ref 5 :: st, cl_mk h κ)) := js_getf cl_c0 (by decide) hf rfl
theorem cgr_0_2 (hf : jw_fld own k 0 = some 2) : jx_do (jz β) cd own pc rt (.getfield k) lo (.ref 0 :: st) (cl_mk h κ) = some (.inl (pc + 3, lo, .ref 6 :: st, cl_mk h κ)) := js_getf cl_c0 (by decide) hf rfl
theorem cgr_0_3 (hf : jw_fld own k 0 = some 3) : jx_do (jz β) cd own pc rt (.getfield k) lo (.ref 0 :: st) (cl_mk h κ) = some (.inl (pc + 3, lo, .ref 10 :: st, cl_mk h κ)) := js_getf cl_c0 (by decide) hf rfl
theorem cgr_0_4 (hf : jw_fld own k 0 = some 4) : jx_do (jz β) cd own pc rt (.getfield k) lo (.ref 0 :: st) (cl_mk h κ) = some (.inl (pc + 3, lo, .ref 12 :: st, cl_mk h κ)) := js_getf cl_c0 (by decide) hf rfl
theorem cgr_0_8 (hf : jw_fld own k 0 = some 8) : jx_do (jz β) cd own pc rt (.getfield k) lo (.ref 0 :: st) (cl_mk h κ) = some (.inl (pc + 3, lo, .ref 13 :: st, cl_mk h κ)) := js_getf cl_c0 (by decide) hf rfl
theorem cgr_1_0 (hf : jw_fld own k 1 = some 0) : jx_do (jz β) cd own pc rt (.getfield k) lo (.ref 1 :: st) (cl_mk h κ) = some (.inl (pc + 3, lo, .ref 2 :: st, cl_mk h κ)) := js_getf cl_c1 (by decide) hf rfl
theorem cgr_1_4 (hf : jw_fld own k 1 = some 4) : jx_do (jz β) cd own pc rt (.getfield k) lo (.ref 1 :: st) (cl_mk h κ) = some (.inl (pc + 3, lo, .ref 3 :: st, cl_mk h κ)) := js_getf cl_c1 (by decide) hf rfl
theorem cgr_3_0 (hf : jw_fld own k 2 = some 0) : jx_do (jz β) cd own pc rt (.getfield k) lo (.ref 3 :: st) (cl_mk h κ) = some (.inl (pc + 3, lo, .ref 4 :: st, cl_mk h κ)) := js_getf cl_c3 (by decide) hf rfl
theorem cgr_5_0 (hf : jw_fld own k 3 = some 0) : jx_do (jz β) cd own pc rt (.getfield k) lo (.ref 5 :: st) (cl_mk h κ) = some (.inl (pc + 3, lo, .ref 1 :: st, cl_mk h κ)) := js_getf cl_c5 (by decide) hf rfl
theorem cgr_6_0 (hf : jw_fld own k 4 = some 0) : jx_do (jz β) cd own pc rt (.getfield k) lo (.ref 6 :: st) (cl_mk h κ) = some (.inl (pc + 3, lo, .ref 1 :: st, cl_mk h κ)) := js_getf cl_c6 (by decide) hf rfl
theorem cgr_10_0 (hf : jw_fld own k 6 = some 0) : jx_do (jz β) cd own pc rt (.getfield k) lo (.ref 10 :: st) (cl_mk h κ) = some (.inl (pc + 3, lo, .ref 7 :: st, cl_mk h κ)) := js_getf cl_c10 (by decide) hf rfl
theorem cgr_10_1 (hf : jw_fld own k 6 = some 1) : jx_do (jz β) cd own pc rt (.getfield k) lo (.ref 10 :: st) (cl_mk h κ) = some (.inl (pc + 3, lo, .ref 11 :: st, cl_mk h κ)) := js_getf cl_c10 (by decide) hf rfl
theorem cgr_11_0 (hf : jw_fld own k 7 = some 0) : jx_do (jz β) cd own pc rt (.getfield k) lo (.ref 11 :: st) (cl_mk h κ) = some (.inl (pc + 3, lo, .ref 7 :: st, cl_mk h κ)) := js_getf cl_c11 (by decide) hf rfl
theorem cgk_1 {e : Nat} (hv : (κ 1 0).toNat = e) (hf : jw_fld own k 0 = some 6) : jx_do (jz β) cd own pc rt (.getfield k) lo (.ref 0 :: st) (cl_mk h κ) = some (.inl (pc + 3, lo, .ref e :: st, cl_mk h κ)) := js_getf cl_c0 (by decide) hf (by rw [← hv]; rfl)
theorem cpk_1 {e : Nat} (hf : jw_fld own k 0 = some 6) (hfm : jw_fm own 0 6 = some false) : jx_do (jz β) cd own pc rt (.putfield k) lo (.ref e :: .ref 0 :: st) (cl_mk h κ) = some (.inl (pc + 3, lo, st, cl_mk h (su κ 1 0 e))) := cpf cl_c0 (by decide) hf (ty := .object "PickDesk$Value") rfl hfm rfl rfl rfl
theorem cgk_2 {e : Nat} (hv : (κ 2 0).toNat = e) (hf : jw_fld own k 0 = some 7) : jx_do (jz β) cd own pc rt (.getfield k) lo (.ref 0 :: st) (cl_mk h κ) = some (.inl (pc + 3, lo, .ref e :: st, cl_mk h κ)) := js_getf cl_c0 (by decide) hf (by rw [← hv]; rfl)
theorem cpk_2 {e : Nat} (hf : jw_fld own k 0 = some 7) (hfm : jw_fm own 0 7 = some false) : jx_do (jz β) cd own pc rt (.putfield k) lo (.ref e :: .ref 0 :: st) (cl_mk h κ) = some (.inl (pc + 3, lo, st, cl_mk h (su κ 2 0 e))) := cpf cl_c0 (by decide) hf (ty := .object "PickDesk$Value") rfl hfm rfl rfl rfl
theorem cgk_13 {e : Nat} (hv : (κ 13 0).toNat = e) (hf : jw_fld own k 2 = some 0) : jx_do (jz β) cd own pc rt (.getfield k) lo (.ref 13 :: st) (cl_mk h κ) = some (.inl (pc + 3, lo, .ref e :: st, cl_mk h κ)) := js_getf cl_c13 (by decide) hf (by rw [← hv]; rfl)
theorem cpk_13 {e : Nat} (hf : jw_fld own k 2 = some 0) (hfm : jw_fm own 2 0 = some false) : jx_do (jz β) cd own pc rt (.putfield k) lo (.ref e :: .ref 13 :: st) (cl_mk h κ) = some (.inl (pc + 3, lo, st, cl_mk h (su κ 13 0 e))) := cpf cl_c13 (by decide) hf (ty := .array .byte) rfl hfm rfl rfl rfl
theorem cgc_3 (hf : jw_fld own k 2 = some 1) : jx_do (jz β) cd own pc rt (.getfield k) lo (.ref 3 :: st) (cl_mk h κ) = some (.inl (pc + 3, lo, .int (Int32.ofInt 0) :: st, cl_mk h κ)) := js_getf cl_c3 (by decide) hf rfl
theorem cgc_13 (hf : jw_fld own k 2 = some 1) : jx_do (jz β) cd own pc rt (.getfield k) lo (.ref 13 :: st) (cl_mk h κ) = some (.inl (pc + 3, lo, .int (Int32.ofInt 0) :: st, cl_mk h κ)) := js_getf cl_c13 (by decide) hf rfl
/-! arrays anywhere -/
theorem ci_nat {i : Int} {n : Nat} (hn : n ≤ 2000000000) (h0 : 0 ≤ i) (h1 : i < n) : jx_in (Int32.ofInt i) n = true ∧ (Int32.ofInt i).toNatClampNeg = i.toNat := by
  have e : (Int32.ofInt i).toInt = i := Int32.toInt_ofInt_of_le (by show (-2 ^ 31 : Int) ≤ i; omega) (by show i < (2 ^ 31 : Int); omega)
  have e2 : (Int32.ofInt i).toNatClampNeg = i.toNat := by
    show (Int32.ofInt i).toInt.toNat = i.toNat
    rw [e]
  refine ⟨?_, e2⟩
  unfold jx_in
  have e3 : ¬ Int32.ofInt i < 0 := by
    rw [Int32.lt_iff_toInt_lt, e]
    show ¬ i < 0
    omega
  rw [decide_eq_false e3, decide_eq_true (by omega)]
  rfl
theorem cal_c {a n : Nat} {g : Nat → Value} {i : Int} {e : Value} (ho : jx_arr (jz β) H a = some (2, n, g)) (hn : n ≤ 2000000000) (h0 : 0 ≤ i) (h1 : i < n) (hv : g i.toNat = e) : jx_do (jz β) cd own pc rt .caload lo (.int (Int32.ofInt i) :: .ref a :: st) H = some (.inl (pc + 1, lo, e :: st, H)) := by
  obtain ⟨k1, k2⟩ := ci_nat hn h0 h1
  show jx_ald (jz β) _ pc lo (.int (Int32.ofInt i) :: .ref a :: st) H = _
  simp only [jx_ald, ho]
  show (if (true && jx_in (Int32.ofInt i) n) = true then some (.inl (pc + 1, lo, g (Int32.ofInt i).toNatClampNeg :: st, H)) else none : Option jx_A) = _
  rw [k1, k2, hv]
  rfl
theorem cal_b {a n : Nat} {g : Nat → Value} {i : Int} {e : Value} (ho : jx_arr (jz β) H a = some (3, n, g)) (hn : n ≤ 2000000000) (h0 : 0 ≤ i) (h1 : i < n) (hv : g i.toNat = e) : jx_do (jz β) cd own pc rt .baload lo (.int (Int32.ofInt i) :: .ref a :: st) H = some (.inl (pc + 1, lo, e :: st, H)) := by
  obtain ⟨k1, k2⟩ := ci_nat hn h0 h1
  show jx_ald (jz β) _ pc lo (.int (Int32.ofInt i) :: .ref a :: st) H = _
  simp only [jx_ald, ho]
  show (if (true && jx_in (Int32.ofInt i) n) = true then some (.inl (pc + 1, lo, g (Int32.ofInt i).toNatClampNeg :: st, H)) else none : Option jx_A) = _
  rw [k1, k2, hv]
  rfl
theorem cal_i {a n : Nat} {g : Nat → Value} {i : Int} {e : Value} (ho : jx_arr (jz β) H a = some (0, n, g)) (hn : n ≤ 2000000000) (h0 : 0 ≤ i) (h1 : i < n) (hv : g i.toNat = e) : jx_do (jz β) cd own pc rt .iaload lo (.int (Int32.ofInt i) :: .ref a :: st) H = some (.inl (pc + 1, lo, e :: st, H)) := by
  obtain ⟨k1, k2⟩ := ci_nat hn h0 h1
  show jx_ald (jz β) _ pc lo (.int (Int32.ofInt i) :: .ref a :: st) H = _
  simp only [jx_ald, ho]
  show (if (true && jx_in (Int32.ofInt i) n) = true then some (.inl (pc + 1, lo, g (Int32.ofInt i).toNatClampNeg :: st, H)) else none : Option jx_A) = _
  rw [k1, k2, hv]
  rfl
theorem cal_a {a n t : Nat} {g : Nat → Value} {i : Int} {e : Value} (ho : jx_arr (jz β) H a = some (t, n, g)) (ht : t = 4 ∨ t = 5 ∨ t = 6 ∨ t = 100) (hn : n ≤ 2000000000) (h0 : 0 ≤ i) (h1 : i < n) (hv : g i.toNat = e) : jx_do (jz β) cd own pc rt .aaload lo (.int (Int32.ofInt i) :: .ref a :: st) H = some (.inl (pc + 1, lo, e :: st, H)) := by
  obtain ⟨k1, k2⟩ := ci_nat hn h0 h1
  rcases ht with rfl | rfl | rfl | rfl
  · show jx_ald (jz β) _ pc lo (.int (Int32.ofInt i) :: .ref a :: st) H = _
    simp only [jx_ald, ho]
    show (if (true && jx_in (Int32.ofInt i) n) = true then some (.inl (pc + 1, lo, g (Int32.ofInt i).toNatClampNeg :: st, H)) else none : Option jx_A) = _
    rw [k1, k2, hv]
    rfl
  · show jx_ald (jz β) _ pc lo (.int (Int32.ofInt i) :: .ref a :: st) H = _
    simp only [jx_ald, ho]
    show (if (true && jx_in (Int32.ofInt i) n) = true then some (.inl (pc + 1, lo, g (Int32.ofInt i).toNatClampNeg :: st, H)) else none : Option jx_A) = _
    rw [k1, k2, hv]
    rfl
  · show jx_ald (jz β) _ pc lo (.int (Int32.ofInt i) :: .ref a :: st) H = _
    simp only [jx_ald, ho]
    show (if (true && jx_in (Int32.ofInt i) n) = true then some (.inl (pc + 1, lo, g (Int32.ofInt i).toNatClampNeg :: st, H)) else none : Option jx_A) = _
    rw [k1, k2, hv]
    rfl
  · show jx_ald (jz β) _ pc lo (.int (Int32.ofInt i) :: .ref a :: st) H = _
    simp only [jx_ald, ho]
    show (if (true && jx_in (Int32.ofInt i) n) = true then some (.inl (pc + 1, lo, g (Int32.ofInt i).toNatClampNeg :: st, H)) else none : Option jx_A) = _
    rw [k1, k2, hv]
    rfl
theorem ofN (n : Nat) : Int32.ofNat n = Int32.ofInt (n : Int) := rfl
theorem cln {a n t : Nat} {g : Nat → Value} (ho : jx_arr (jz β) H a = some (t, n, g)) (ht : t < 7) : jx_do (jz β) cd own pc rt .arraylength lo (.ref a :: st) H = some (.inl (pc + 1, lo, .int (Int32.ofInt (n : Int)) :: st, H)) := by
  have e : ∃ ty, jx_ty (jz β) t = some ty := by
    rcases (by omega : t = 0 ∨ t = 1 ∨ t = 2 ∨ t = 3 ∨ t = 4 ∨ t = 5 ∨ t = 6) with rfl | rfl | rfl | rfl | rfl | rfl | rfl
    all_goals exact ⟨_, rfl⟩
  obtain ⟨ty, e⟩ := e
  simp only [jx_do, ho, e]
  rfl
theorem jx_ar_h {a : Nat} {x : Nat × Nat × (Nat → Value)} (ho : H[a]? = some (.inl x)) (ha : a < jx_big) : jx_arr (jz β) H a = some x := by
  obtain ⟨t, n, g⟩ := x
  exact js_arr ho ha
/-! calls on objects -/
theorem ccv {n m2 ci a : Nat} {l : List (Nat × Nat)} {bs r : List Value} (hc : jx_cls (jz β) H a = some ci) (hcv : jw_find jw_cvT own k = some (n, l)) (hg : jw_ls l ci = some m2) (hn : bs.length = n) (hst : st = bs.reverse ++ .ref a :: r) (hw : jx_wt r = true) : jx_do (jz β) cd own pc rt (.invokevirtual k) lo st H = some (.inr (.inl (m2, .ref a :: bs, r))) := by
  have e1 : jx_cv (jz β) own k = some (n, jw_ls l) := by
    show jw_cv own k = _
    unfold jw_cv
    rw [hcv]
  have e2 : jx_args n st = some (bs, .ref a :: r) := by
    unfold jx_args
    rw [hst, ← hn, if_pos (by rw [List.length_append, List.length_reverse]; omega), List.take_append_of_le_length (by rw [List.length_reverse]; exact Nat.le_refl _), List.drop_append_of_le_length (by rw [List.length_reverse]; exact Nat.le_refl _), List.take_of_length_le (by rw [List.length_reverse]; exact Nat.le_refl _), List.drop_of_length_le (by rw [List.length_reverse]; exact Nat.le_refl _), List.reverse_reverse]
    rfl
  simp only [jx_do, e1, e2, hc, hg, hw]
  rfl
theorem ccp {n m2 ci a : Nat} {bs r : List Value} (hoi : jw_oi own k = false) (hc : jx_cls (jz β) H a = some ci) (h17 : ci < 17) (ha : a < jx_big) (hcp : jw_find jw_cpT own k = some (n, m2)) (hn : bs.length = n) (hst : st = bs.reverse ++ .ref a :: r) (hw : jx_wt r = true) : jx_do (jz β) cd own pc rt (.invokespecial k) lo st H = some (.inr (.inl (m2, .ref a :: bs, r))) := by
  have e0 : jx_oi (jz β) own k = false := hoi
  have e1 : jx_cp (jz β) own k = some (n, fun ci => if ci < 17 then some m2 else none) := by
    show jw_cp own k = _
    unfold jw_cp
    rw [hcp]
  have e2 : jx_args n st = some (bs, .ref a :: r) := by
    unfold jx_args
    rw [hst, ← hn, if_pos (by rw [List.length_append, List.length_reverse]; omega), List.take_append_of_le_length (by rw [List.length_reverse]; exact Nat.le_refl _), List.drop_append_of_le_length (by rw [List.length_reverse]; exact Nat.le_refl _), List.take_of_length_le (by rw [List.length_reverse]; exact Nat.le_refl _), List.drop_of_length_le (by rw [List.length_reverse]; exact Nat.le_refl _), List.reverse_reverse]
    rfl
  simp only [jx_do, e0, e1, e2, hc, if_pos h17, hw, decide_eq_true ha]
  rfl
theorem fitC {c : Int} (h : 0 ≤ c ∧ c ≤ 65535) : fits .char (.int (Int32.ofInt c)) = true := by
  have e : (Int32.ofInt c).toInt = c := Int32.toInt_ofInt_of_le (by show (-2 ^ 31 : Int) ≤ c; omega) (by show c < (2 ^ 31 : Int); omega)
  show ((0 : Int32) ≤ Int32.ofInt c && Int32.ofInt c ≤ (65535 : Int32)) = true
  rw [Bool.and_eq_true, decide_eq_true_eq, decide_eq_true_eq, Int32.le_iff_toInt_le, Int32.le_iff_toInt_le, e]
  exact ⟨h.1, h.2⟩
theorem crC {c : Int} (h : 0 ≤ c ∧ c ≤ 65535) (hr : rt.1 = some .char) : jx_do (jz β) cd own pc rt .ireturn lo [.int (Int32.ofInt c)] H = some (.inr (.inr (.inl (some (.int (Int32.ofInt c)))))) := by
  simp only [jx_do, hr, fitC h]
  rfl
end CS
