/-! ===== the class: Strings are equal (printed by program: gen84.py) ===== -/
theorem jm_101 : jw_M 101 = some (15, 3, ((Option.some Jvm.ClassFile.FieldType.boolean), false), jw_cd cd_101, fun _ _ => none) := rfl
theorem jm_102 : jw_M 102 = some (14, 3, ((Option.some Jvm.ClassFile.FieldType.boolean), false), jw_cd cd_102, fun _ _ => none) := rfl
section CF
variable {β : Bool} {cd : Nat → Option Instr} {own pc k : Nat} {rt : Option FieldType × Bool} {lo : jx_L} {st : List Value} {H : jx_H}
theorem cgf {a ci f : Nat} {v : Value} (hc : jx_cls (jz β) H a = some ci) (hf : jw_fld own k ci = some f) (hv : jx_get (jz β) H a f = some v) : jx_do (jz β) cd own pc rt (.getfield k) lo (.ref a :: st) H = some (.inl (pc + 3, lo, v :: st, H)) := by
  have e : jx_fld (jz β) own k ci = some f := hf
  simp only [jx_do, hc, e, hv]
theorem cio {a ci : Nat} (hc : jx_cls (jz β) H a = some ci) (hf : jw_ct own k ci = some true) : jx_do (jz β) cd own pc rt (.instanceof k) lo (.ref a :: st) H = some (.inl (pc + 3, lo, .int (Int32.ofInt 1) :: st, H)) := by
  have e : jx_ct (jz β) own k ci = some true := hf
  simp only [jx_do, hc, e]
  rfl
theorem cck {a ci : Nat} (hc : jx_cls (jz β) H a = some ci) (hf : jw_ct own k ci = some true) : jx_do (jz β) cd own pc rt (.checkcast k) lo (.ref a :: st) H = some (.inl (pc + 3, lo, .ref a :: st, H)) := by
  have e : jx_ct (jz β) own k ci = some true := hf
  simp only [jx_do, hc, e]
/-- two references are the same, or not -/
def sadr (a : Nat) : Prop := a < jx_big ∨ (jx_big + 9 ≤ a ∧ a < jx_big + 29)
theorem jx_neS {a b : Nat} (ha : sadr a) (hb : sadr b) : jx_ne (jz β) a b = true := by
  have e : jx_no (jz β) = (9, 29, 55) := rfl
  unfold jx_ne
  rw [e]
  simp only [Bool.or_eq_true, Bool.and_eq_true, decide_eq_true_eq]
  unfold sadr at ha hb
  omega
theorem cac_ne_t {a b t : Nat} {off : Int} (hab : ¬ a = b) (hn : jx_ne (jz β) a b = true) (h0 : 0 ≤ (pc : Int) + off) (ht : jx_to pc off = some t) : jx_do (jz β) cd own pc rt (.if_acmp .ne off) lo (.ref b :: .ref a :: st) H = some (.inl (t, lo, st, H)) := by
  simp only [jx_do, if_neg hab, hn, if_true, jx_br, if_pos h0, jx_holdA, Bool.not_false, jx_go, ht]
theorem cac_ne_f {a : Nat} {off : Int} (h0 : 0 ≤ (pc : Int) + off) : jx_do (jz β) cd own pc rt (.if_acmp .ne off) lo (.ref a :: .ref a :: st) H = some (.inl (pc + 3, lo, st, H)) := by
  simp only [jx_do, if_true, jx_br, if_pos h0, jx_holdA, Bool.not_true]
end CF
theorem jw_prg : ∀ j, j < 20 → jw_ocl (9 + j) = some 9 ∧ jw_ofl (9 + j) 0 = some (.ref (jx_big + 20 + (9 + j))) ∧ jw_ofl (9 + j) 1 = some (.int 0) := by
  intro j hj
  have e1 : ¬ 9 + j < 9 := by omega
  have e2 : 9 + j < 29 := by omega
  unfold jw_ocl jw_ofl
  simp only [if_neg e1, if_pos e2, and_self]
theorem gd_r {s : List Int} (r : ∀ c ∈ s, 0 ≤ c ∧ c ≤ 127) (j : Nat) : mr (s.getD j 0) := by
  rw [List.getD_eq_getElem?_getD]
  by_cases h : j < s.length
  · rw [List.getElem?_eq_getElem h]
    have := r _ (List.getElem_mem h)
    show mr s[j]
    unfold mr
    omega
  · rw [List.getElem?_eq_none (by omega)]
    show mr 0
    unfold mr
    omega
theorem getD_map32 (L : List Int32) (i : Nat) : Value.int (Int32.ofInt ((L.map Int32.toInt).getD i 0)) = Value.int (L.getD i 0) := by
  congr 1
  rw [List.getD_eq_getElem?_getD, List.getD_eq_getElem?_getD, List.getElem?_map]
  cases L[i]? with
  | none => rfl
  | some x => exact Int32.ofInt_toInt x
theorem strR_q {β : Bool} {h : jx_H} {κ : mS} {X : Nat → Prop} {a : Nat} {s : List Int} (hl : 50 ≤ h.length) (hs : strR h X a s) : jx_cls (jz β) (cl_mk h κ) a = some 9 ∧ sadr a ∧ ∃ (b : Nat) (f : Nat → Value), jx_get (jz β) (cl_mk h κ) a 0 = some (.ref b) ∧ jx_get (jz β) (cl_mk h κ) a 1 = some (.int (Int32.ofInt 0)) ∧ jx_arr (jz β) (cl_mk h κ) b = some (3, s.length, f) ∧ ∀ i, i < s.length → f i = .int (Int32.ofInt (s.getD i 0)) := by
  rcases hs with ⟨j, hj, ea, es⟩ | ⟨z1, b, f, z2, h1, h2, h3⟩ | ⟨z1, es, h1⟩
  · have hn : ¬ a < jx_big := by omega
    have e : a - jx_big = 9 + j := by omega
    obtain ⟨p1, p2, p3⟩ := jw_prg j hj
    have c1 : jx_ocl (jz β) (9 + j) = some 9 := p1
    have c2 : jx_ofl (jz β) (9 + j) 0 = _ := p2
    have c3 : jx_ofl (jz β) (9 + j) 1 = _ := p3
    have hn2 : ¬ jx_big + 20 + (9 + j) < jx_big := by omega
    have e2 : jx_big + 20 + (9 + j) - jx_big = 29 + j := by omega
    refine ⟨?_, Or.inr ⟨by omega, by omega⟩, jx_big + 20 + (9 + j), fun i => .int ((jw_txL.getD j []).getD i 0), ?_, ?_, ?_, fun i hi => ?_⟩
    · unfold jx_cls
      rw [if_neg hn, e, c1]
    · unfold jx_get
      rw [if_neg hn, e, c2]
    · unfold jx_get
      rw [if_neg hn, e, c3]
      rfl
    · unfold jx_arr
      rw [if_neg hn2, e2]
      show jw_oc (29 + j) = _
      unfold jw_oc
      rw [if_pos (by omega)]
      unfold jw_oar
      rw [if_neg (by omega), if_pos (by omega), show 29 + j - 29 = j by omega, es, List.length_map]
    · rw [es]
      exact (getD_map32 _ i).symm
  · have hb : a < jx_big := jbg (by have := z1.2.1; omega)
    have hb2 : b < jx_big := jbg (by have := z2.2.1; omega)
    have g1 : (cl_mk h κ)[a]? = _ := cl_old hl ⟨by have := z1.1; omega, h1⟩
    have g2 : (cl_mk h κ)[b]? = _ := cl_old hl ⟨by have := z2.1; omega, h2⟩
    refine ⟨js_cls g1 hb, Or.inl hb, b, f, ?_, ?_, js_arr g2 hb2, h3⟩
    · unfold jx_get
      rw [if_pos hb, g1]
      rfl
    · unfold jx_get
      rw [if_pos hb, g1]
      rfl
  · have hb : a < jx_big := jbg (by have := z1.2.1; omega)
    have g1 : (cl_mk h κ)[a]? = _ := cl_old hl ⟨by have := z1.1; omega, h1⟩
    have hn2 : ¬ jx_big + 29 < jx_big := by omega
    have e2 : jx_big + 29 - jx_big = 29 + 0 := by omega
    refine ⟨js_cls g1 hb, Or.inl hb, jx_big + 29, fun i => .int ((jw_txL.getD 0 []).getD i 0), ?_, ?_, ?_, fun i hi => ?_⟩
    · unfold jx_get
      rw [if_pos hb, g1]
      rfl
    · unfold jx_get
      rw [if_pos hb, g1]
      rfl
    · unfold jx_arr
      rw [if_neg hn2, e2]
      show jw_oc (29 + 0) = _
      unfold jw_oc
      rw [if_pos (by omega)]
      unfold jw_oar
      rw [if_neg (by omega), if_pos (by omega), es]
      rfl
    · rw [es] at hi
      exact absurd hi (Nat.not_lt_zero _)
theorem jc_eqL {β : Bool} {d : Nat} {h : jx_H} {κ : mS} (hl : 50 ≤ h.length) {b1 b2 : Nat} {f1 f2 : Nat → Value} {s1 s2 : List Int} (h1 : jx_arr (jz β) (cl_mk h κ) b1 = some (3, s1.length, f1)) (h2 : jx_arr (jz β) (cl_mk h κ) b2 = some (3, s2.length, f2)) (g1 : ∀ i, i < s1.length → f1 i = .int (Int32.ofInt (s1.getD i 0))) (g2 : ∀ i, i < s2.length → f2 i = .int (Int32.ofInt (s2.getD i 0))) (r1 : ∀ c ∈ s1, 0 ≤ c ∧ c ≤ 127) (r2 : ∀ c ∈ s2, 0 ≤ c ∧ c ≤ 127) (hm : s1.length ≤ 100) (hlen : s1.length = s2.length) : ∀ (k i : Nat), i + k = s1.length → (∀ j, j < i → s1.getD j 0 = s2.getD j 0) → ((s1 = s2 → jx_r (jz β) jw_M (d) 102 (9, [some (.ref b1), some (.ref b2), some (.int (Int32.ofInt ((i : Int))))], [], (cl_mk h κ)) (cl_mk h (κ), .inl (some (.int (Int32.ofInt (1)))))) ∧ (¬ s1 = s2 → jx_r (jz β) jw_M (d) 102 (9, [some (.ref b1), some (.ref b2), some (.int (Int32.ofInt ((i : Int))))], [], (cl_mk h κ)) (cl_mk h (κ), .inl (some (.int (Int32.ofInt (0))))))) := by
  intro k
  induction k with
  | zero =>
    intro i hi hj
    have e : s1 = s2 := List.ext_getElem? (fun j => by
      by_cases hjl : j < s1.length
      · have q := hj j (by omega)
        rw [List.getD_eq_getElem?_getD, List.getD_eq_getElem?_getD, List.getElem?_eq_getElem hjl, List.getElem?_eq_getElem (show j < s2.length by omega)] at q
        rw [List.getElem?_eq_getElem hjl, List.getElem?_eq_getElem (show j < s2.length by omega)]
        exact congrArg some q
      · rw [List.getElem?_eq_none (by omega), List.getElem?_eq_none (by omega)])
    refine ⟨fun _ => ?_, fun n => absurd e n⟩
    refine jr_1 jm_102 (show jw_cd cd_102 9 = some (.iload_n 2) by decide +kernel) rfl ?_
    refine jr_1 jm_102 (show jw_cd cd_102 10 = some (.aload_n 0) by decide +kernel) rfl ?_
    refine jr_1 jm_102 (show jw_cd cd_102 11 = some (.arraylength) by decide +kernel) (cln h1 (by decide)) ?_
    refine jr_1 jm_102 (show jw_cd cd_102 12 = some (.if_icmp .ge 20) by decide +kernel) (mb_t (q := .ge) (a := (i : Int)) (b := ((s1.length : Nat) : Int)) (t := 32) (by show ((s1.length : Nat) : Int) ≤ (i : Int); omega) ⟨by omega, by omega⟩ ⟨by omega, by omega⟩ (by decide) (by decide)) ?_
    refine jr_1 jm_102 (show jw_cd cd_102 32 = some (.iconst 1) by decide +kernel) rfl ?_
    exact jr_v jm_102 (show jw_cd cd_102 33 = some (.ireturn) by decide +kernel) rfl
  | succ k ih =>
    intro i hi hj
    have c1 : 0 ≤ s1.getD i 0 ∧ s1.getD i 0 ≤ 127 := by
      rw [List.getD_eq_getElem?_getD, List.getElem?_eq_getElem (show i < s1.length by omega)]
      exact r1 _ (List.getElem_mem _)
    have c2 : 0 ≤ s2.getD i 0 ∧ s2.getD i 0 ≤ 127 := by
      rw [List.getD_eq_getElem?_getD, List.getElem?_eq_getElem (show i < s2.length by omega)]
      exact r2 _ (List.getElem_mem _)
    by_cases he : s1.getD i 0 = s2.getD i 0
    · obtain ⟨ia, ib⟩ := ih (i + 1) (by omega) (fun j hj2 => by
        by_cases e : j = i
        · rw [e]; exact he
        · exact hj j (by omega))
      have en : ∀ res, jx_r (jz β) jw_M (d) 102 (9, [some (.ref b1), some (.ref b2), some (.int (Int32.ofInt (((i + 1 : Nat) : Int))))], [], (cl_mk h κ)) res → jx_r (jz β) jw_M (d) 102 (9, [some (.ref b1), some (.ref b2), some (.int (Int32.ofInt ((i : Int))))], [], (cl_mk h κ)) res := by
        intro res hr
        refine jr_1 jm_102 (show jw_cd cd_102 9 = some (.iload_n 2) by decide +kernel) rfl ?_
        refine jr_1 jm_102 (show jw_cd cd_102 10 = some (.aload_n 0) by decide +kernel) rfl ?_
        refine jr_1 jm_102 (show jw_cd cd_102 11 = some (.arraylength) by decide +kernel) (cln h1 (by decide)) ?_
        refine jr_1 jm_102 (show jw_cd cd_102 12 = some (.if_icmp .ge 20) by decide +kernel) (mb_f (q := .ge) (a := (i : Int)) (b := ((s1.length : Nat) : Int)) (by show ¬ (((s1.length : Nat) : Int) ≤ (i : Int)); omega) ⟨by omega, by omega⟩ ⟨by omega, by omega⟩ (by decide)) ?_
        refine jr_1 jm_102 (show jw_cd cd_102 15 = some (.aload_n 0) by decide +kernel) rfl ?_
        refine jr_1 jm_102 (show jw_cd cd_102 16 = some (.iload_n 2) by decide +kernel) rfl ?_
        refine jr_1 jm_102 (F2 := (18, [some (.ref b1), some (.ref b2), some (.int (Int32.ofInt ((i : Int))))], [.int (Int32.ofInt (s1.getD i 0))], (cl_mk h κ))) (show jw_cd cd_102 17 = some (.baload) by decide +kernel) (cal_b h1 (by omega) (by omega) (by omega) (by rw [Int.toNat_natCast]; exact g1 i (by omega))) ?_
        refine jr_1 jm_102 (show jw_cd cd_102 18 = some (.aload_n 1) by decide +kernel) rfl ?_
        refine jr_1 jm_102 (show jw_cd cd_102 19 = some (.iload_n 2) by decide +kernel) rfl ?_
        refine jr_1 jm_102 (F2 := (21, [some (.ref b1), some (.ref b2), some (.int (Int32.ofInt ((i : Int))))], [.int (Int32.ofInt (s2.getD i 0)), .int (Int32.ofInt (s1.getD i 0))], (cl_mk h κ))) (show jw_cd cd_102 20 = some (.baload) by decide +kernel) (cal_b h2 (by omega) (by omega) (by omega) (by rw [Int.toNat_natCast]; exact g2 i (by omega))) ?_
        refine jr_1 jm_102 (show jw_cd cd_102 21 = some (.if_icmp .eq 5) by decide +kernel) (mb_t (q := .eq) (a := s1.getD i 0) (b := s2.getD i 0) (t := 26) (by show s1.getD i 0 = s2.getD i 0; omega) ⟨by omega, by omega⟩ ⟨by omega, by omega⟩ (by decide) (by decide)) ?_
        refine jr_1 jm_102 (F2 := (29, [some (.ref b1), some (.ref b2), some (.int (Int32.ofInt ((i : Int) + 1)))], [], (cl_mk h κ))) (show jw_cd cd_102 26 = some (.iinc 2 1) by decide +kernel) (mt_inc (a := (i : Int)) (c := (i : Int) + 1) rfl (by omega) rfl) ?_
        refine jr_1 jm_102 (show jw_cd cd_102 29 = some (.goto (-20)) by decide +kernel) (ju_go (t := 9) (by decide)) ?_
        exact hr
      exact ⟨fun e => en _ (ia e), fun e => en _ (ib e)⟩
    · refine ⟨fun e => absurd (by rw [e]) he, fun _ => ?_⟩
      refine jr_1 jm_102 (show jw_cd cd_102 9 = some (.iload_n 2) by decide +kernel) rfl ?_
      refine jr_1 jm_102 (show jw_cd cd_102 10 = some (.aload_n 0) by decide +kernel) rfl ?_
      refine jr_1 jm_102 (show jw_cd cd_102 11 = some (.arraylength) by decide +kernel) (cln h1 (by decide)) ?_
      refine jr_1 jm_102 (show jw_cd cd_102 12 = some (.if_icmp .ge 20) by decide +kernel) (mb_f (q := .ge) (a := (i : Int)) (b := ((s1.length : Nat) : Int)) (by show ¬ (((s1.length : Nat) : Int) ≤ (i : Int)); omega) ⟨by omega, by omega⟩ ⟨by omega, by omega⟩ (by decide)) ?_
      refine jr_1 jm_102 (show jw_cd cd_102 15 = some (.aload_n 0) by decide +kernel) rfl ?_
      refine jr_1 jm_102 (show jw_cd cd_102 16 = some (.iload_n 2) by decide +kernel) rfl ?_
      refine jr_1 jm_102 (F2 := (18, [some (.ref b1), some (.ref b2), some (.int (Int32.ofInt ((i : Int))))], [.int (Int32.ofInt (s1.getD i 0))], (cl_mk h κ))) (show jw_cd cd_102 17 = some (.baload) by decide +kernel) (cal_b h1 (by omega) (by omega) (by omega) (by rw [Int.toNat_natCast]; exact g1 i (by omega))) ?_
      refine jr_1 jm_102 (show jw_cd cd_102 18 = some (.aload_n 1) by decide +kernel) rfl ?_
      refine jr_1 jm_102 (show jw_cd cd_102 19 = some (.iload_n 2) by decide +kernel) rfl ?_
      refine jr_1 jm_102 (F2 := (21, [some (.ref b1), some (.ref b2), some (.int (Int32.ofInt ((i : Int))))], [.int (Int32.ofInt (s2.getD i 0)), .int (Int32.ofInt (s1.getD i 0))], (cl_mk h κ))) (show jw_cd cd_102 20 = some (.baload) by decide +kernel) (cal_b h2 (by omega) (by omega) (by omega) (by rw [Int.toNat_natCast]; exact g2 i (by omega))) ?_
      refine jr_1 jm_102 (show jw_cd cd_102 21 = some (.if_icmp .eq 5) by decide +kernel) (mb_f (q := .eq) (a := s1.getD i 0) (b := s2.getD i 0) (by show ¬ (s1.getD i 0 = s2.getD i 0); omega) ⟨by omega, by omega⟩ ⟨by omega, by omega⟩ (by decide)) ?_
      refine jr_1 jm_102 (show jw_cd cd_102 24 = some (.iconst 0) by decide +kernel) rfl ?_
      exact jr_v jm_102 (show jw_cd cd_102 25 = some (.ireturn) by decide +kernel) rfl
theorem jc_eqB {β : Bool} {d : Nat} {h : jx_H} {κ : mS} (hl : 50 ≤ h.length) {b1 b2 : Nat} {f1 f2 : Nat → Value} {s1 s2 : List Int} (h1 : jx_arr (jz β) (cl_mk h κ) b1 = some (3, s1.length, f1)) (h2 : jx_arr (jz β) (cl_mk h κ) b2 = some (3, s2.length, f2)) (g1 : ∀ i, i < s1.length → f1 i = .int (Int32.ofInt (s1.getD i 0))) (g2 : ∀ i, i < s2.length → f2 i = .int (Int32.ofInt (s2.getD i 0))) (r1 : ∀ c ∈ s1, 0 ≤ c ∧ c ≤ 127) (r2 : ∀ c ∈ s2, 0 ≤ c ∧ c ≤ 127) (hm : s1.length ≤ 100) (hm2 : s2.length ≤ 100) : (s1 = s2 → jx_r (jz β) jw_M (d) 102 (0, [some (.ref b1), some (.ref b2), none], [], (cl_mk h κ)) (cl_mk h (κ), .inl (some (.int (Int32.ofInt (1)))))) ∧ (¬ s1 = s2 → jx_r (jz β) jw_M (d) 102 (0, [some (.ref b1), some (.ref b2), none], [], (cl_mk h κ)) (cl_mk h (κ), .inl (some (.int (Int32.ofInt (0)))))) := by
  by_cases hlen : s1.length = s2.length
  · obtain ⟨ia, ib⟩ := jc_eqL (d := d) hl h1 h2 g1 g2 r1 r2 hm hlen s1.length 0 (by omega) (fun j hj => absurd hj (by omega))
    have en : ∀ res, jx_r (jz β) jw_M (d) 102 (9, [some (.ref b1), some (.ref b2), some (.int (Int32.ofInt (((0 : Nat) : Int))))], [], (cl_mk h κ)) res → jx_r (jz β) jw_M (d) 102 (0, [some (.ref b1), some (.ref b2), none], [], (cl_mk h κ)) res := by
      intro res hr
      refine jr_1 jm_102 (show jw_cd cd_102 0 = some (.aload_n 0) by decide +kernel) rfl ?_
      refine jr_1 jm_102 (show jw_cd cd_102 1 = some (.arraylength) by decide +kernel) (cln h1 (by decide)) ?_
      refine jr_1 jm_102 (show jw_cd cd_102 2 = some (.aload_n 1) by decide +kernel) rfl ?_
      refine jr_1 jm_102 (show jw_cd cd_102 3 = some (.arraylength) by decide +kernel) (cln h2 (by decide)) ?_
      refine jr_1 jm_102 (show jw_cd cd_102 4 = some (.if_icmp .ne 30) by decide +kernel) (mb_f (q := .ne) (a := ((s1.length : Nat) : Int)) (b := ((s2.length : Nat) : Int)) (by show ¬ (¬ (((s1.length : Nat) : Int) = ((s2.length : Nat) : Int))); omega) ⟨by omega, by omega⟩ ⟨by omega, by omega⟩ (by decide)) ?_
      refine jr_1 jm_102 (show jw_cd cd_102 7 = some (.iconst 0) by decide +kernel) rfl ?_
      refine jr_1 jm_102 (F2 := (9, [some (.ref b1), some (.ref b2), some (.int (Int32.ofInt (0)))], [], (cl_mk h κ))) (show jw_cd cd_102 8 = some (.istore_n 2) by decide +kernel) rfl ?_
      exact hr
    exact ⟨fun e => en _ (ia e), fun e => en _ (ib e)⟩
  · refine ⟨fun e => absurd (by rw [e]) hlen, fun _ => ?_⟩
    refine jr_1 jm_102 (show jw_cd cd_102 0 = some (.aload_n 0) by decide +kernel) rfl ?_
    refine jr_1 jm_102 (show jw_cd cd_102 1 = some (.arraylength) by decide +kernel) (cln h1 (by decide)) ?_
    refine jr_1 jm_102 (show jw_cd cd_102 2 = some (.aload_n 1) by decide +kernel) rfl ?_
    refine jr_1 jm_102 (show jw_cd cd_102 3 = some (.arraylength) by decide +kernel) (cln h2 (by decide)) ?_
    refine jr_1 jm_102 (show jw_cd cd_102 4 = some (.if_icmp .ne 30) by decide +kernel) (mb_t (q := .ne) (a := ((s1.length : Nat) : Int)) (b := ((s2.length : Nat) : Int)) (t := 34) (by show ¬ (((s1.length : Nat) : Int) = ((s2.length : Nat) : Int)); omega) ⟨by omega, by omega⟩ ⟨by omega, by omega⟩ (by decide) (by decide)) ?_
    refine jr_1 jm_102 (show jw_cd cd_102 34 = some (.iconst 0) by decide +kernel) rfl ?_
    exact jr_v jm_102 (show jw_cd cd_102 35 = some (.ireturn) by decide +kernel) rfl
theorem jc_eq {β : Bool} {d : Nat} {h : jx_H} {κ : mS} (hl : 50 ≤ h.length) {X X' : Nat → Prop} {a b : Nat} {s1 s2 : List Int} (ha : strR h X a s1) (hb : strR h X' b s2) (r1 : ∀ c ∈ s1, 0 ≤ c ∧ c ≤ 127) (r2 : ∀ c ∈ s2, 0 ≤ c ∧ c ≤ 127) (hm : s1.length ≤ 100) (hm2 : s2.length ≤ 100) : (s1 = s2 → jx_r (jz β) jw_M (d + 1) 101 (0, [some (.ref a), some (.ref b), none], [], (cl_mk h κ)) (cl_mk h (κ), .inl (some (.int (Int32.ofInt (1)))))) ∧ (¬ s1 = s2 → jx_r (jz β) jw_M (d + 1) 101 (0, [some (.ref a), some (.ref b), none], [], (cl_mk h κ)) (cl_mk h (κ), .inl (some (.int (Int32.ofInt (0)))))) := by
  obtain ⟨uc, ua, b1, f1, u0, u1, h1, g1⟩ := strR_q (β := β) (κ := κ) hl ha
  obtain ⟨vc, va, b2, f2, v0, v1, h2, g2⟩ := strR_q (β := β) (κ := κ) hl hb
  by_cases hab : a = b
  · subst hab
    have eb : b1 = b2 := by
      have := u0.symm.trans v0
      injection this with this
      injection this
    subst eb
    have e3 := h1.symm.trans h2
    injection e3 with e3
    have el : s1.length = s2.length := congrArg (fun x => x.2.1) e3
    have ef : f1 = f2 := congrArg (fun x => x.2.2) e3
    have es : s1 = s2 := List.ext_getElem? (fun j => by
      by_cases hjl : j < s1.length
      · have q := (g1 j hjl).symm.trans ((congrFun ef j).trans (g2 j (by omega)))
        injection q with q
        have q := (mr_inj (gd_r r1 j) (gd_r r2 j)).mp q
        rw [List.getD_eq_getElem?_getD, List.getD_eq_getElem?_getD, List.getElem?_eq_getElem hjl, List.getElem?_eq_getElem (show j < s2.length by omega)] at q
        rw [List.getElem?_eq_getElem hjl, List.getElem?_eq_getElem (show j < s2.length by omega)]
        exact congrArg some q
      · rw [List.getElem?_eq_none (by omega), List.getElem?_eq_none (by omega)])
    refine ⟨fun _ => ?_, fun n => absurd es n⟩
    refine jr_1 jm_101 (show jw_cd cd_101 0 = some (.aload_n 0) by decide +kernel) rfl ?_
    refine jr_1 jm_101 (show jw_cd cd_101 1 = some (.aload_n 1) by decide +kernel) rfl ?_
    refine jr_1 jm_101 (show jw_cd cd_101 2 = some (.if_acmp .ne 5) by decide +kernel) (cac_ne_f (by decide)) ?_
    refine jr_1 jm_101 (show jw_cd cd_101 5 = some (.iconst 1) by decide +kernel) rfl ?_
    exact jr_v jm_101 (show jw_cd cd_101 6 = some (.ireturn) by decide +kernel) rfl
  · refine ⟨fun he => ?_, fun he => ?_⟩
    · skip
      refine jr_1 jm_101 (show jw_cd cd_101 0 = some (.aload_n 0) by decide +kernel) rfl ?_
      refine jr_1 jm_101 (show jw_cd cd_101 1 = some (.aload_n 1) by decide +kernel) rfl ?_
      refine jr_1 jm_101 (show jw_cd cd_101 2 = some (.if_acmp .ne 5) by decide +kernel) (cac_ne_t hab (jx_neS ua va) (t := 7) (by decide) (by decide)) ?_
      refine jr_1 jm_101 (show jw_cd cd_101 7 = some (.aload_n 1) by decide +kernel) rfl ?_
      refine jr_1 jm_101 (show jw_cd cd_101 8 = some (.instanceof 10) by decide +kernel) (cio vc (by decide +kernel)) ?_
      refine jr_1 jm_101 (show jw_cd cd_101 11 = some (.ifCond .eq 43) by decide +kernel) (mz_f (q := .eq) (a := 1) (by show ¬ (1 = 0); omega) ⟨by omega, by omega⟩ (by decide)) ?_
      refine jr_1 jm_101 (show jw_cd cd_101 14 = some (.aload_n 1) by decide +kernel) rfl ?_
      refine jr_1 jm_101 (show jw_cd cd_101 15 = some (.checkcast 10) by decide +kernel) (cck vc (by decide +kernel)) ?_
      refine jr_1 jm_101 (F2 := (19, [some (.ref a), some (.ref b), some (.ref b)], [], (cl_mk h κ))) (show jw_cd cd_101 18 = some (.astore_n 2) by decide +kernel) rfl ?_
      refine jr_1 jm_101 (show jw_cd cd_101 19 = some (.getstatic 38) by decide +kernel) (cgs (v := .int (Int32.ofInt (1))) (by decide) rfl) ?_
      refine jr_1 jm_101 (show jw_cd cd_101 22 = some (.ifCond .eq 14) by decide +kernel) (mz_f (q := .eq) (a := 1) (by show ¬ (1 = 0); omega) ⟨by omega, by omega⟩ (by decide)) ?_
      refine jr_1 jm_101 (show jw_cd cd_101 25 = some (.aload_n 0) by decide +kernel) rfl ?_
      refine jr_1 jm_101 (show jw_cd cd_101 26 = some (.getfield 15) by decide +kernel) (cgf uc (show jw_fld 15 15 9 = some 1 by decide +kernel) u1) ?_
      refine jr_1 jm_101 (show jw_cd cd_101 29 = some (.aload_n 2) by decide +kernel) rfl ?_
      refine jr_1 jm_101 (show jw_cd cd_101 30 = some (.getfield 15) by decide +kernel) (cgf vc (show jw_fld 15 15 9 = some 1 by decide +kernel) v1) ?_
      refine jr_1 jm_101 (show jw_cd cd_101 33 = some (.if_icmp .ne 21) by decide +kernel) (mb_f (q := .ne) (a := 0) (b := 0) (by show ¬ (¬ (0 = 0)); omega) ⟨by omega, by omega⟩ ⟨by omega, by omega⟩ (by decide)) ?_
      refine jr_1 jm_101 (show jw_cd cd_101 36 = some (.aload_n 0) by decide +kernel) rfl ?_
      refine jr_1 jm_101 (show jw_cd cd_101 37 = some (.getfield 9) by decide +kernel) (cgf uc (show jw_fld 15 9 9 = some 0 by decide +kernel) u0) ?_
      refine jr_1 jm_101 (show jw_cd cd_101 40 = some (.aload_n 2) by decide +kernel) rfl ?_
      refine jr_1 jm_101 (show jw_cd cd_101 41 = some (.getfield 9) by decide +kernel) (cgf vc (show jw_fld 15 9 9 = some 0 by decide +kernel) v0) ?_
      refine jr_c jm_101 (show jw_cd cd_101 44 = some (.invokestatic 541) by decide +kernel) (mc_s (n := 2) (m2 := 102) (bs := [.ref b1, .ref b2]) (r := []) (by decide) (show jw_find jw_csT 15 541 = some (102, 2) by decide +kernel) rfl rfl rfl) jm_102 ⟨Nat.le_of_ble_eq_true rfl, by decide⟩ ((jc_eqB hl h1 h2 g1 g2 r1 r2 hm hm2).1 he) ?_
      refine jr_1 jm_101 (show jw_cd cd_101 47 = some (.ifCond .eq 7) by decide +kernel) (mz_f (q := .eq) (a := 1) (by show ¬ (1 = 0); omega) ⟨by omega, by omega⟩ (by decide)) ?_
      refine jr_1 jm_101 (show jw_cd cd_101 50 = some (.iconst 1) by decide +kernel) rfl ?_
      refine jr_1 jm_101 (show jw_cd cd_101 51 = some (.goto 4) by decide +kernel) (ju_go (t := 55) (by decide)) ?_
      exact jr_v jm_101 (show jw_cd cd_101 55 = some (.ireturn) by decide +kernel) rfl
    · skip
      refine jr_1 jm_101 (show jw_cd cd_101 0 = some (.aload_n 0) by decide +kernel) rfl ?_
      refine jr_1 jm_101 (show jw_cd cd_101 1 = some (.aload_n 1) by decide +kernel) rfl ?_
      refine jr_1 jm_101 (show jw_cd cd_101 2 = some (.if_acmp .ne 5) by decide +kernel) (cac_ne_t hab (jx_neS ua va) (t := 7) (by decide) (by decide)) ?_
      refine jr_1 jm_101 (show jw_cd cd_101 7 = some (.aload_n 1) by decide +kernel) rfl ?_
      refine jr_1 jm_101 (show jw_cd cd_101 8 = some (.instanceof 10) by decide +kernel) (cio vc (by decide +kernel)) ?_
      refine jr_1 jm_101 (show jw_cd cd_101 11 = some (.ifCond .eq 43) by decide +kernel) (mz_f (q := .eq) (a := 1) (by show ¬ (1 = 0); omega) ⟨by omega, by omega⟩ (by decide)) ?_
      refine jr_1 jm_101 (show jw_cd cd_101 14 = some (.aload_n 1) by decide +kernel) rfl ?_
      refine jr_1 jm_101 (show jw_cd cd_101 15 = some (.checkcast 10) by decide +kernel) (cck vc (by decide +kernel)) ?_
      refine jr_1 jm_101 (F2 := (19, [some (.ref a), some (.ref b), some (.ref b)], [], (cl_mk h κ))) (show jw_cd cd_101 18 = some (.astore_n 2) by decide +kernel) rfl ?_
      refine jr_1 jm_101 (show jw_cd cd_101 19 = some (.getstatic 38) by decide +kernel) (cgs (v := .int (Int32.ofInt (1))) (by decide) rfl) ?_
      refine jr_1 jm_101 (show jw_cd cd_101 22 = some (.ifCond .eq 14) by decide +kernel) (mz_f (q := .eq) (a := 1) (by show ¬ (1 = 0); omega) ⟨by omega, by omega⟩ (by decide)) ?_
      refine jr_1 jm_101 (show jw_cd cd_101 25 = some (.aload_n 0) by decide +kernel) rfl ?_
      refine jr_1 jm_101 (show jw_cd cd_101 26 = some (.getfield 15) by decide +kernel) (cgf uc (show jw_fld 15 15 9 = some 1 by decide +kernel) u1) ?_
      refine jr_1 jm_101 (show jw_cd cd_101 29 = some (.aload_n 2) by decide +kernel) rfl ?_
      refine jr_1 jm_101 (show jw_cd cd_101 30 = some (.getfield 15) by decide +kernel) (cgf vc (show jw_fld 15 15 9 = some 1 by decide +kernel) v1) ?_
      refine jr_1 jm_101 (show jw_cd cd_101 33 = some (.if_icmp .ne 21) by decide +kernel) (mb_f (q := .ne) (a := 0) (b := 0) (by show ¬ (¬ (0 = 0)); omega) ⟨by omega, by omega⟩ ⟨by omega, by omega⟩ (by decide)) ?_
      refine jr_1 jm_101 (show jw_cd cd_101 36 = some (.aload_n 0) by decide +kernel) rfl ?_
      refine jr_1 jm_101 (show jw_cd cd_101 37 = some (.getfield 9) by decide +kernel) (cgf uc (show jw_fld 15 9 9 = some 0 by decide +kernel) u0) ?_
      refine jr_1 jm_101 (show jw_cd cd_101 40 = some (.aload_n 2) by decide +kernel) rfl ?_
      refine jr_1 jm_101 (show jw_cd cd_101 41 = some (.getfield 9) by decide +kernel) (cgf vc (show jw_fld 15 9 9 = some 0 by decide +kernel) v0) ?_
      refine jr_c jm_101 (show jw_cd cd_101 44 = some (.invokestatic 541) by decide +kernel) (mc_s (n := 2) (m2 := 102) (bs := [.ref b1, .ref b2]) (r := []) (by decide) (show jw_find jw_csT 15 541 = some (102, 2) by decide +kernel) rfl rfl rfl) jm_102 ⟨Nat.le_of_ble_eq_true rfl, by decide⟩ ((jc_eqB hl h1 h2 g1 g2 r1 r2 hm hm2).2 he) ?_
      refine jr_1 jm_101 (show jw_cd cd_101 47 = some (.ifCond .eq 7) by decide +kernel) (mz_t (q := .eq) (a := 0) (t := 54) (by show 0 = 0; omega) ⟨by omega, by omega⟩ (by decide) (by decide)) ?_
      refine jr_1 jm_101 (show jw_cd cd_101 54 = some (.iconst 0) by decide +kernel) rfl ?_
      exact jr_v jm_101 (show jw_cd cd_101 55 = some (.ireturn) by decide +kernel) rfl
