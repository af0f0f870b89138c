/-! ===== the class: new cells, and the scratch text (printed by program: gen76.py) ===== -/
theorem jm_14 : jw_M 14 = some (3, 2, ((Option.some (Jvm.ClassFile.FieldType.object "java/lang/StringBuilder")), false), jw_cd cd_14, fun _ _ => none) := rfl
theorem jm_15 : jw_M 15 = some (4, 2, ((Option.some (Jvm.ClassFile.FieldType.object "java/lang/AbstractStringBuilder")), false), jw_cd cd_15, fun _ _ => none) := rfl
theorem jm_16 : jw_M 16 = some (4, 3, (none, false), jw_cd cd_16, fun _ _ => none) := rfl
theorem jm_23 : jw_M 23 = some (4, 1, ((Option.some Jvm.ClassFile.FieldType.boolean), false), jw_cd cd_23, fun _ _ => none) := rfl
theorem jm_24 : jw_M 24 = some (14, 1, ((Option.some Jvm.ClassFile.FieldType.boolean), false), jw_cd cd_24, fun _ _ => none) := rfl
theorem jm_66 : jw_M 66 = some (3, 2, (none, false), jw_cd cd_66, fun _ _ => none) := rfl
theorem jm_67 : jw_M 67 = some (4, 2, (none, false), jw_cd cd_67, fun _ _ => none) := rfl
theorem jm_77 : jw_M 77 = some (3, 1, ((Option.some Jvm.ClassFile.FieldType.int), false), jw_cd cd_77, fun _ _ => none) := rfl
theorem jm_78 : jw_M 78 = some (4, 1, ((Option.some Jvm.ClassFile.FieldType.int), false), jw_cd cd_78, fun _ _ => none) := rfl
theorem jm_73 : jw_M 73 = some (3, 1, ((Option.some (Jvm.ClassFile.FieldType.object "java/lang/String")), false), jw_cd cd_73, fun _ _ => none) := rfl
theorem jm_74 : jw_M 74 = some (15, 2, (none, true), jw_cd cd_74, fun _ _ => none) := rfl
theorem jm_75 : jw_M 75 = some (15, 5, (none, true), jw_cd cd_75, fun _ _ => none) := rfl
theorem jm_76 : jw_M 76 = some (4, 1, ((Option.some (Jvm.ClassFile.FieldType.array Jvm.ClassFile.FieldType.byte)), false), jw_cd cd_76, fun _ _ => none) := rfl
theorem jm_79 : jw_M 79 = some (13, 3, ((Option.some (Jvm.ClassFile.FieldType.array Jvm.ClassFile.FieldType.byte)), false), jw_cd cd_79, fun _ _ => none) := rfl
theorem jm_80 : jw_M 80 = some (13, 5, ((Option.some (Jvm.ClassFile.FieldType.array Jvm.ClassFile.FieldType.byte)), false), jw_cd cd_80, fun _ _ => none) := rfl
theorem jm_81 : jw_M 81 = some (13, 2, (none, false), jw_cd cd_81, fun _ _ => none) := rfl
section CN
variable {β : Bool} {cd : Nat → Option Instr} {own pc k : Nat} {rt : Option FieldType × Bool} {lo : jx_L} {st : List Value} {h : jx_H} {κ : mS} {H : jx_H}
theorem ap_get (hl : 50 ≤ h.length) {N : Nat} (hN : h.length = N) {L : List jx_C} (i : Nat) {c : jx_C} (hi : L[i]? = some c) : (cl_mk (h ++ L) κ)[N + i]? = some c := by
  rw [cl_dy (by rw [List.length_append]; omega) (by omega), List.getElem?_append_right (by omega), ← hi]
  congr 1
  omega
theorem ap_set (hl : 50 ≤ h.length) {N : Nat} (hN : h.length = N) {L L' : List jx_C} (i : Nat) {c : jx_C} (hi : L.set i c = L') : (cl_mk (h ++ L) κ).set (N + i) c = cl_mk (h ++ L') κ := by
  rw [cl_set (by rw [List.length_append]; omega) (by omega), List.set_append_right _ _ (by omega), show N + i - h.length = i by omega, hi]
theorem cl_old (hl : 50 ≤ h.length) {a : Nat} {c : jx_C} (ho : 15 ≤ a ∧ h[a]? = some c) : (cl_mk h κ)[a]? = some c := by
  rw [cl_dy (by omega) ho.1]
  exact ho.2
theorem ap_old (hl : 50 ≤ h.length) {L : List jx_C} {a : Nat} {c : jx_C} (ho : 15 ≤ a ∧ h[a]? = some c) : (cl_mk (h ++ L) κ)[a]? = some c := by
  have hlt := (List.getElem?_eq_some_iff.mp ho.2).1
  rw [cl_dy (by rw [List.length_append]; omega) ho.1, List.getElem?_append_left hlt]
  exact ho.2
theorem cnw (hl : 50 ≤ h.length) {N : Nat} (hN : h.length = N) {L : List jx_C} {ci : Nat} {fs : List Value} (i : Nat) (hi : L.length = i) (hb : N + i < 4294967296) (hx : jw_find jw_xcT own k = none) (hn : jw_find jw_nwT own k = some ci) (hf : jw_nf ci = fs := by rfl) : jx_do (jz β) cd own pc rt (.new k) lo st (cl_mk (h ++ L) κ) = some (.inl (pc + 3, lo, .ref (N + i) :: st, cl_mk (h ++ (L ++ [.inr (ci, fs)])) κ)) := by
  have e1 : jx_xc (jz β) own k = none := hx
  have e2 : jx_nw (jz β) own k = some ci := hn
  have e3 : jx_nf (jz β) ci = fs := hf
  have hlen : (cl_mk (h ++ L) κ).length = N + i := by rw [cl_len (by rw [List.length_append]; omega), List.length_append]; omega
  simp only [jx_do, e1, e2, e3, jx_more, hlen]
  rw [if_pos (show N + i < jx_big from hb), cl_app (by rw [List.length_append]; omega), List.append_assoc]
theorem ofI_n {x : Int} (h0 : 0 ≤ x) (h1 : x ≤ 60000000) : (!(decide (Int32.ofInt x < 0)) && decide ((Int32.ofInt x).toNatClampNeg ≤ 60000000)) = true ∧ (Int32.ofInt x).toNatClampNeg = x.toNat := by
  have e : (Int32.ofInt x).toInt = x := Int32.toInt_ofInt_of_le (by show (-2 ^ 31 : Int) ≤ x; omega) (by show x < (2 ^ 31 : Int); omega)
  have e2 : (Int32.ofInt x).toNatClampNeg = x.toNat := by
    show (Int32.ofInt x).toInt.toNat = x.toNat
    rw [e]
  have e3 : ¬ Int32.ofInt x < 0 := by
    rw [Int32.lt_iff_toInt_lt, e]
    show ¬ x < 0
    omega
  refine ⟨?_, e2⟩
  rw [decide_eq_false e3, e2, decide_eq_true (by omega)]
  rfl
theorem cna_0 (hl : 50 ≤ h.length) {N : Nat} (hN : h.length = N) {L : List jx_C} {t m : Nat} {x : Int} {v : Value} (i : Nat) (hi : L.length = i) (hb : N + i < 4294967296) (h0 : 0 ≤ x) (h1 : x ≤ 60000000) (hm : x.toNat = m) {pc' : Nat} : jx_newa (jz β) t (Int32.ofInt x) v pc' lo st (cl_mk (h ++ L) κ) = some (.inl (pc', lo, .ref (N + i) :: st, cl_mk (h ++ (L ++ [.inl (t, m, fun _ => v)])) κ)) := by
  obtain ⟨e1, e2⟩ := ofI_n h0 h1
  have hlen : (cl_mk (h ++ L) κ).length = N + i := by rw [cl_len (by rw [List.length_append]; omega), List.length_append]; omega
  unfold jx_newa
  rw [if_pos e1, e2, hm]
  unfold jx_more
  rw [hlen, if_pos (show N + i < jx_big from hb), cl_app (by rw [List.length_append]; omega), List.append_assoc]
theorem cna_byte (hl : 50 ≤ h.length) {N : Nat} (hN : h.length = N) {L : List jx_C} {m : Nat} {x : Int} (i : Nat) (hi : L.length = i) (hb : N + i < 4294967296) (h0 : 0 ≤ x) (h1 : x ≤ 60000000) (hm : x.toNat = m := by rfl) : jx_do (jz β) cd own pc rt (.newarray .byte) lo (.int (Int32.ofInt x) :: st) (cl_mk (h ++ L) κ) = some (.inl (pc + 2, lo, .ref (N + i) :: st, cl_mk (h ++ (L ++ [.inl (3, m, fun _ => .int 0)])) κ)) := cna_0 (β := β) hl hN i hi hb h0 h1 hm
theorem cna_byte0 (hl : 50 ≤ h.length) {N : Nat} (hN : h.length = N) {m : Nat} {x : Int} (hb : N < 4294967296) (h0 : 0 ≤ x) (h1 : x ≤ 60000000) (hm : x.toNat = m := by rfl) : jx_do (jz β) cd own pc rt (.newarray .byte) lo (.int (Int32.ofInt x) :: st) (cl_mk h κ) = some (.inl (pc + 2, lo, .ref N :: st, cl_mk (h ++ [.inl (3, m, fun _ => .int 0)]) κ)) := by
  have e := cna_byte (β := β) (cd := cd) (own := own) (pc := pc) (rt := rt) (lo := lo) (st := st) (κ := κ) (L := []) hl hN 0 rfl hb h0 h1 hm
  rw [List.append_nil] at e
  exact e
theorem cna_char (hl : 50 ≤ h.length) {N : Nat} (hN : h.length = N) {L : List jx_C} {m : Nat} {x : Int} (i : Nat) (hi : L.length = i) (hb : N + i < 4294967296) (h0 : 0 ≤ x) (h1 : x ≤ 60000000) (hm : x.toNat = m := by rfl) : jx_do (jz β) cd own pc rt (.newarray .char) lo (.int (Int32.ofInt x) :: st) (cl_mk (h ++ L) κ) = some (.inl (pc + 2, lo, .ref (N + i) :: st, cl_mk (h ++ (L ++ [.inl (2, m, fun _ => .int 0)])) κ)) := cna_0 (β := β) hl hN i hi hb h0 h1 hm
theorem cna_char0 (hl : 50 ≤ h.length) {N : Nat} (hN : h.length = N) {m : Nat} {x : Int} (hb : N < 4294967296) (h0 : 0 ≤ x) (h1 : x ≤ 60000000) (hm : x.toNat = m := by rfl) : jx_do (jz β) cd own pc rt (.newarray .char) lo (.int (Int32.ofInt x) :: st) (cl_mk h κ) = some (.inl (pc + 2, lo, .ref N :: st, cl_mk (h ++ [.inl (2, m, fun _ => .int 0)]) κ)) := by
  have e := cna_char (β := β) (cd := cd) (own := own) (pc := pc) (rt := rt) (lo := lo) (st := st) (κ := κ) (L := []) hl hN 0 rfl hb h0 h1 hm
  rw [List.append_nil] at e
  exact e
theorem cna_int (hl : 50 ≤ h.length) {N : Nat} (hN : h.length = N) {L : List jx_C} {m : Nat} {x : Int} (i : Nat) (hi : L.length = i) (hb : N + i < 4294967296) (h0 : 0 ≤ x) (h1 : x ≤ 60000000) (hm : x.toNat = m := by rfl) : jx_do (jz β) cd own pc rt (.newarray .int) lo (.int (Int32.ofInt x) :: st) (cl_mk (h ++ L) κ) = some (.inl (pc + 2, lo, .ref (N + i) :: st, cl_mk (h ++ (L ++ [.inl (0, m, fun _ => .int 0)])) κ)) := cna_0 (β := β) hl hN i hi hb h0 h1 hm
theorem cna_int0 (hl : 50 ≤ h.length) {N : Nat} (hN : h.length = N) {m : Nat} {x : Int} (hb : N < 4294967296) (h0 : 0 ≤ x) (h1 : x ≤ 60000000) (hm : x.toNat = m := by rfl) : jx_do (jz β) cd own pc rt (.newarray .int) lo (.int (Int32.ofInt x) :: st) (cl_mk h κ) = some (.inl (pc + 2, lo, .ref N :: st, cl_mk (h ++ [.inl (0, m, fun _ => .int 0)]) κ)) := by
  have e := cna_int (β := β) (cd := cd) (own := own) (pc := pc) (rt := rt) (lo := lo) (st := st) (κ := κ) (L := []) hl hN 0 rfl hb h0 h1 hm
  rw [List.append_nil] at e
  exact e
theorem cnw0 (hl : 50 ≤ h.length) {N : Nat} (hN : h.length = N) {ci : Nat} {fs : List Value} (hb : N < 4294967296) (hx : jw_find jw_xcT own k = none) (hn : jw_find jw_nwT own k = some ci) (hf : jw_nf ci = fs := by rfl) : jx_do (jz β) cd own pc rt (.new k) lo st (cl_mk h κ) = some (.inl (pc + 3, lo, .ref N :: st, cl_mk (h ++ [.inr (ci, fs)]) κ)) := by
  have e := cnw (β := β) (cd := cd) (own := own) (pc := pc) (rt := rt) (lo := lo) (st := st) (κ := κ) (L := []) hl hN 0 rfl hb hx hn hf
  rw [List.append_nil] at e
  exact e
theorem cna_r (hl : 50 ≤ h.length) {N : Nat} (hN : h.length = N) {L : List jx_C} {t m : Nat} {x : Int} (i : Nat) (hi : L.length = i) (hb : N + i < 4294967296) (h0 : 0 ≤ x) (h1 : x ≤ 60000000) (ht : jw_find jw_anT own k = some t) (hm : x.toNat = m := by rfl) : jx_do (jz β) cd own pc rt (.anewarray k) lo (.int (Int32.ofInt x) :: st) (cl_mk (h ++ L) κ) = some (.inl (pc + 3, lo, .ref (N + i) :: st, cl_mk (h ++ (L ++ [.inl (t, m, fun _ => .null)])) κ)) := by
  have e : jx_an (jz β) own k = some t := ht
  simp only [jx_do, e]
  exact cna_0 hl hN i hi hb h0 h1 hm
theorem cna_r0 (hl : 50 ≤ h.length) {N : Nat} (hN : h.length = N) {t m : Nat} {x : Int} (hb : N < 4294967296) (h0 : 0 ≤ x) (h1 : x ≤ 60000000) (ht : jw_find jw_anT own k = some t) (hm : x.toNat = m := by rfl) : jx_do (jz β) cd own pc rt (.anewarray k) lo (.int (Int32.ofInt x) :: st) (cl_mk h κ) = some (.inl (pc + 3, lo, .ref N :: st, cl_mk (h ++ [.inl (t, m, fun _ => .null)]) κ)) := by
  have e := cna_r (β := β) (cd := cd) (own := own) (pc := pc) (rt := rt) (lo := lo) (st := st) (κ := κ) (L := []) hl hN 0 rfl hb h0 h1 ht hm
  rw [List.append_nil] at e
  exact e
theorem cgs {v : Value} (hb : (own == 15 && k == 1053) = false) (hs : jw_find jw_svT own k = some v) : jx_do (jz β) cd own pc rt (.getstatic k) lo st H = some (.inl (pc + 3, lo, v :: st, H)) := by
  have e : jx_sv (jz β) own k = some v := by
    show jw_svB β own k = some v
    unfold jw_svB
    rw [hb]
    exact hs
  simp only [jx_do, e]
theorem mt_ishr {a b c : Int} (hc : Int32.ofInt a >>> (Int32.ofInt b &&& 31) = Int32.ofInt c) : jx_do (jz β) cd own pc rt .ishr lo (.int (Int32.ofInt b) :: .int (Int32.ofInt a) :: st) H = some (.inl (pc + 1, lo, .int (Int32.ofInt c) :: st, H)) := by
  simp only [jx_do, hc]
theorem shr0 (x : Int32) : x >>> (Int32.ofInt 0 &&& 31) = x := by
  have : (Int32.ofInt 0 &&& 31 : Int32) = 0 := by decide
  rw [this]
  simp
theorem shl0 (x : Int32) : x <<< (Int32.ofInt 0 &&& 31) = x := by
  have : (Int32.ofInt 0 &&& 31 : Int32) = 0 := by decide
  rw [this]
  simp
theorem mt_shr0 {a : Int} : jx_do (jz β) cd own pc rt .ishr lo (.int (Int32.ofInt 0) :: .int (Int32.ofInt a) :: st) H = some (.inl (pc + 1, lo, .int (Int32.ofInt a) :: st, H)) := by
  simp only [jx_do, shr0]
theorem mt_shl0 {a : Int} : jx_do (jz β) cd own pc rt .ishl lo (.int (Int32.ofInt 0) :: .int (Int32.ofInt a) :: st) H = some (.inl (pc + 1, lo, .int (Int32.ofInt a) :: st, H)) := by
  simp only [jx_do, shl0]
theorem i2b_s : ∀ t : Fin 128, (Int32.ofInt (t.1 : Int)).toInt8.toInt32 = Int32.ofInt (t.1 : Int) := by decide +kernel
theorem i2c_s : ∀ t : Fin 128, ((Int32.ofInt (t.1 : Int)).toUInt32 % 65536).toInt32 = Int32.ofInt (t.1 : Int) := by decide +kernel
theorem mt_i2b {c : Int} (hc : 0 ≤ c ∧ c ≤ 127) : jx_do (jz β) cd own pc rt .i2b lo (.int (Int32.ofInt c) :: st) H = some (.inl (pc + 1, lo, .int (Int32.ofInt c) :: st, H)) := by
  have e := i2b_s ⟨c.toNat, by omega⟩
  have e2 : (((⟨c.toNat, by omega⟩ : Fin 128).1 : Nat) : Int) = c := by show ((c.toNat : Nat) : Int) = c; omega
  rw [e2] at e
  simp only [jx_do, e]
theorem mt_i2c {c : Int} (hc : 0 ≤ c ∧ c ≤ 127) : jx_do (jz β) cd own pc rt .i2c lo (.int (Int32.ofInt c) :: st) H = some (.inl (pc + 1, lo, .int (Int32.ofInt c) :: st, H)) := by
  have e := i2c_s ⟨c.toNat, by omega⟩
  have e2 : (((⟨c.toNat, by omega⟩ : Fin 128).1 : Nat) : Int) = c := by show ((c.toNat : Nat) : Int) = c; omega
  rw [e2] at e
  simp only [jx_do, e]
theorem coi {a : Nat} {r : List Value} (h1 : jw_oi own k = true) (hw : jx_wt r = true) : jx_do (jz β) cd own pc rt (.invokespecial k) lo (.ref a :: r) H = some (.inl (pc + 3, lo, r, H)) := by
  have e : jx_oi (jz β) own k = true := h1
  simp only [jx_do, e, hw]
  rfl
theorem fitB {c : Int} (h : 0 ≤ c ∧ c ≤ 127) : fits .byte (.int (Int32.ofInt c)) = true := by
  have e : (Int32.ofInt c).toInt = c := Int32.toInt_ofInt_of_le (by show (-2 ^ 31 : Int) ≤ c; omega) (by show c < (2 ^ 31 : Int); omega)
  show ((-128 : Int32) ≤ Int32.ofInt c && Int32.ofInt c ≤ (127 : Int32)) = true
  rw [Bool.and_eq_true, decide_eq_true_eq, decide_eq_true_eq, Int32.le_iff_toInt_le, Int32.le_iff_toInt_le, e]
  exact ⟨by show (-128 : Int) ≤ c; omega, by show c ≤ 127; omega⟩
theorem cs_8 {i x : Int} (h0 : 0 ≤ i) (h1 : i < 16) (hx : 0 ≤ x ∧ x ≤ 127) : jx_do (jz β) cd own pc rt .bastore lo (.int (Int32.ofInt x) :: .int (Int32.ofInt i) :: .ref 4 :: st) (cl_mk h κ) = some (.inl (pc + 1, lo, st, cl_mk h (su κ 8 i x))) := by
  obtain ⟨k1, k2⟩ := ci_nat (n := 16) (by decide) h0 h1
  have e := js_ast (T := jz β) (ok := fun ty => match ty with | .byte => true | _ => false) (pc := pc) (lo := lo) (st := st) (v := .int (Int32.ofInt x)) (cl_c4 (h := h) (κ := κ)) (by decide) (ty := .byte) rfl rfl rfl k1
  rw [narrow_of_fits (fitB hx), k2, updV_row h0] at e
  exact e
theorem cln_4 : jx_do (jz β) cd own pc rt .arraylength lo (.ref 4 :: st) (cl_mk h κ) = some (.inl (pc + 1, lo, .int (Int32.ofInt 16) :: st, cl_mk h κ)) := cln (jx_ar_h cl_c4 (by decide)) (by decide)
/-- System.arraycopy of bytes into a new row -/
theorem ccy {H : jx_H} {a a0 n0 n1 : Nat} {f g : Nat → Value} {n sp dp : Int} (hbi : jw_biB own k = some 2) (ho : H[a]? = some (.inl (3, n1, g))) (ha : a < jx_big) (ho0 : jx_arr (jz β) H a0 = some (3, n0, f)) (h0 : 0 ≤ n ∧ 0 ≤ sp ∧ 0 ≤ dp) (hn0 : sp.toNat + n.toNat ≤ n0) (hn1 : dp.toNat + n.toNat ≤ n1) (hr : n0 ≤ 60000000 ∧ n1 ≤ 60000000) (hw : jx_wt st = true) (hf : ∀ i, i < n.toNat → ∃ c : Int, f (sp.toNat + i) = .int (Int32.ofInt c) ∧ 0 ≤ c ∧ c ≤ 127) : jx_do (jz β) cd own pc rt (.invokestatic k) lo (.int (Int32.ofInt n) :: .int (Int32.ofInt dp) :: .ref a :: .int (Int32.ofInt sp) :: .ref a0 :: st) H = some (.inl (pc + 3, lo, st, H.set a (.inl (3, n1, va_cpy f g sp.toNat dp.toNat n.toNat)))) := by
  have e0 : jx_bi (jz β) own k = some 2 := hbi
  obtain ⟨i1, i2⟩ := ofI_n (x := n) h0.1 (by omega)
  obtain ⟨j1, j2⟩ := ofI_n (x := sp) h0.2.1 (by omega)
  obtain ⟨k1, k2⟩ := ofI_n (x := dp) h0.2.2 (by omega)
  rw [Bool.and_eq_true] at i1 j1 k1
  have hall : ((List.range n.toNat).all fun i => jx_cpok (jz β) H 3 .byte (f (sp.toNat + i))) = true := by
    rw [List.all_eq_true]
    intro i hi
    obtain ⟨c, c1, c2, c3⟩ := hf i (List.mem_range.mp hi)
    rw [c1]
    show (fits .byte (.int (Int32.ofInt c)) && true) = true
    rw [fitB ⟨c2, c3⟩]
    rfl
  have ety : jx_ty (jz β) 3 = some .byte := rfl
  have ewr : jx_wr (jz β) a = true := rfl
  show (match jx_bi (jz β) own k with
    | some b => _
    | none => _) = _
  simp only [e0]
  show jx_cpy (jz β) (Int32.ofInt n) (Int32.ofInt dp) a (Int32.ofInt sp) a0 pc lo st H = _
  unfold jx_cpy
  simp only [ho, ho0, ety, i2, j2, k2, hw, hall, ewr, i1.1, j1.1, k1.1, decide_eq_true ha, decide_eq_true hn0, decide_eq_true hn1]
  rfl
end CN
