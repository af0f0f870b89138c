/-! ===== the class reads its text (printed by program: gen74.py) ===== -/
theorem jm_58 : jw_M 58 = some (2, 1, ((Option.some Jvm.ClassFile.FieldType.char), false), jw_cd cd_58, fun _ _ => none) := rfl
theorem jm_62 : jw_M 62 = some (2, 2, (none, false), jw_cd cd_62, fun _ _ => none) := rfl
theorem jm_64 : jw_M 64 = some (2, 2, ((Option.some Jvm.ClassFile.FieldType.boolean), false), jw_cd cd_64, fun _ _ => none) := rfl
theorem jm_96 : jw_M 96 = some (2, 2, (none, false), jw_cd cd_96, fun _ _ => none) := rfl
theorem jm_59 : jw_M 59 = some (2, 1, ((Option.some Jvm.ClassFile.FieldType.boolean), false), jw_cd cd_59, fun _ _ => none) := rfl
theorem jm_61 : jw_M 61 = some (2, 1, ((Option.some Jvm.ClassFile.FieldType.boolean), false), jw_cd cd_61, fun _ _ => none) := rfl
theorem jm_99 : jw_M 99 = some (2, 1, ((Option.some Jvm.ClassFile.FieldType.boolean), false), jw_cd cd_99, fun _ _ => none) := rfl
theorem jm_118 : jw_M 118 = some (2, 1, ((Option.some Jvm.ClassFile.FieldType.boolean), false), jw_cd cd_118, fun _ _ => none) := rfl
theorem jm_120 : jw_M 120 = some (2, 2, (none, false), jw_cd cd_120, fun _ _ => none) := rfl
theorem jm_104 : jw_M 104 = some (2, 2, ((Option.some Jvm.ClassFile.FieldType.int), false), jw_cd cd_104, fun _ _ => none) := rfl
theorem jm_60 : jw_M 60 = some (2, 4, ((Option.some Jvm.ClassFile.FieldType.int), false), jw_cd cd_60, fun _ _ => none) := rfl
theorem jbg {n : Nat} (h : n < 4294967296) : n < jx_big := h
theorem updV_row {κ : mS} {f : Nat} {i x : Int} (h0 : 0 ≤ i) : updV (fun j : Nat => Value.int (Int32.ofInt (κ f j))) i.toNat (.int (Int32.ofInt x)) = fun j : Nat => Value.int (Int32.ofInt (su κ f i x f j)) := by
  funext j
  unfold updV
  by_cases hj : j = i.toNat
  · subst hj
    rw [show ((i.toNat : Nat) : Int) = i by omega, su_eq]
    simp
  · rw [su_ni (by omega)]
    simp [hj]
section CT
variable {β : Bool} {cd : Nat → Option Instr} {own pc k : Nat} {rt : Option FieldType × Bool} {lo : jx_L} {st : List Value} {h : jx_H} {κ : mS}
theorem ca_6 {i e : Int} (h0 : 0 ≤ i) (h1 : i < 160) (hv : κ 6 i = e) : jx_do (jz β) cd own pc rt .caload lo (.int (Int32.ofInt i) :: .ref 2 :: st) (cl_mk h κ) = some (.inl (pc + 1, lo, .int (Int32.ofInt e) :: st, cl_mk h κ)) := cal_c (jx_ar_h cl_c2 (by decide)) (by decide) h0 h1 (by show Value.int (Int32.ofInt (κ 6 ((i.toNat : Nat) : Int))) = _; rw [show ((i.toNat : Nat) : Int) = i by omega, hv])
theorem cs_6 {i x : Int} (h0 : 0 ≤ i) (h1 : i < 160) (hx : 0 ≤ x ∧ x ≤ 65535) : jx_do (jz β) cd own pc rt .castore lo (.int (Int32.ofInt x) :: .int (Int32.ofInt i) :: .ref 2 :: st) (cl_mk h κ) = some (.inl (pc + 1, lo, st, cl_mk h (su κ 6 i x))) := by
  obtain ⟨k1, k2⟩ := ci_nat (n := 160) (by decide) h0 h1
  have e := js_ast (T := jz β) (ok := fun ty => match ty with | .char => true | _ => false) (pc := pc) (lo := lo) (st := st) (v := .int (Int32.ofInt x)) (cl_c2 (h := h) (κ := κ)) (by decide) (ty := .char) rfl rfl rfl k1
  rw [narrow_of_fits (fitC hx), k2, updV_row h0] at e
  exact e
theorem cln_2 : jx_do (jz β) cd own pc rt .arraylength lo (.ref 2 :: st) (cl_mk h κ) = some (.inl (pc + 1, lo, .int (Int32.ofInt 160) :: st, cl_mk h κ)) := cln (jx_ar_h cl_c2 (by decide)) (by decide)
end CT
/-- the letter at p, as the class sees it -/
def tC (T : Int → Int) (n p : Int) : Int := if p < n then T p else 0
theorem tC_H {T : Int → Int} {n p : Int} (ht : tOK T n) (h0 : 0 ≤ p) : (tH T n p = -1 → tC T n p = 0) ∧ (¬ tH T n p = -1 → tC T n p = tH T n p ∧ p < n) ∧ 0 ≤ tC T n p ∧ tC T n p ≤ 126 := by
  by_cases hp : p < n
  · have e1 : tC T n p = T p := if_pos hp
    have e2 : tH T n p = T p := if_pos hp
    rw [e1, e2]
    have := ht.2.2 p h0 hp
    exact ⟨fun z => by omega, fun _ => ⟨rfl, hp⟩, by omega, by omega⟩
  · have e1 : tC T n p = 0 := if_neg hp
    have e2 : tH T n p = -1 := if_neg hp
    rw [e1, e2]
    exact ⟨fun _ => rfl, fun z => absurd rfl z, by omega, by omega⟩
/-- the text at hand: n letters -/
def cT (κ : mS) (T : Int → Int) (n : Int) : Prop := κ 3 0 = n ∧ (∀ i, 0 ≤ i → i < n → κ 6 i = T i) ∧ tOK T n
/-- the reader stands at p, and nothing is wrong; something is wrong at e -/
def cP (κ : mS) (T : Int → Int) (n p : Int) : Prop := cT κ T n ∧ κ 4 0 = p ∧ κ 5 0 = -1 ∧ 0 ≤ p ∧ p ≤ n
def cW (κ : mS) (e : Int) : Prop := κ 5 0 = e ∧ 0 ≤ e ∧ e ≤ 160
theorem jc_here {β : Bool} {d : Nat} {h : jx_H} {κ : mS} (hl : 50 ≤ h.length) {T : Int → Int} {n p : Int} (hP : cP κ T n p) : jx_r (jz β) jw_M (d) 58 (0, [some (.ref 1)], [], (cl_mk h κ)) (cl_mk h (κ), .inl (some (.int (Int32.ofInt (tC T n p))))) := by
  obtain ⟨h0, hpn0⟩ := hP.2.2.2
  have ht := hP.1.2.2
  have hn0 := ht.1
  have hn160 := ht.2.1
  by_cases hpn : p < n
  · have e : tC T n p = T p := if_pos hpn
    have hr := ht.2.2 p h0 hpn
    rw [e]
    refine jr_1 jm_58 (show jw_cd cd_58 0 = some (.aload_n 0) by decide +kernel) rfl ?_
    refine jr_1 jm_58 (show jw_cd cd_58 1 = some (.getfield 22) by decide +kernel) (cg_5 (e := -1) hP.2.2.1 (show jw_fld 2 22 1 = some 3 by decide +kernel)) ?_
    refine jr_1 jm_58 (show jw_cd cd_58 4 = some (.iconst (-1)) by decide +kernel) rfl ?_
    refine jr_1 jm_58 (show jw_cd cd_58 5 = some (.if_icmp .ne 26) by decide +kernel) (mb_f (q := .ne) (a := -1) (b := -1) (by show ¬ (¬ (-1 = -1)); omega) ⟨by omega, by omega⟩ ⟨by omega, by omega⟩ (by decide)) ?_
    refine jr_1 jm_58 (show jw_cd cd_58 8 = some (.aload_n 0) by decide +kernel) rfl ?_
    refine jr_1 jm_58 (show jw_cd cd_58 9 = some (.getfield 19) by decide +kernel) (cg_4 (e := p) hP.2.1 (show jw_fld 2 19 1 = some 2 by decide +kernel)) ?_
    refine jr_1 jm_58 (show jw_cd cd_58 12 = some (.aload_n 0) by decide +kernel) rfl ?_
    refine jr_1 jm_58 (show jw_cd cd_58 13 = some (.getfield 15) by decide +kernel) (cg_3 (e := n) hP.1.1 (show jw_fld 2 15 1 = some 1 by decide +kernel)) ?_
    refine jr_1 jm_58 (show jw_cd cd_58 16 = some (.if_icmp .ge 15) by decide +kernel) (mb_f (q := .ge) (a := p) (b := n) (by show ¬ (n ≤ p); omega) ⟨by omega, by omega⟩ ⟨by omega, by omega⟩ (by decide)) ?_
    refine jr_1 jm_58 (show jw_cd cd_58 19 = some (.aload_n 0) by decide +kernel) rfl ?_
    refine jr_1 jm_58 (show jw_cd cd_58 20 = some (.getfield 9) by decide +kernel) (cgr_1_0 (show jw_fld 2 9 1 = some 0 by decide +kernel)) ?_
    refine jr_1 jm_58 (show jw_cd cd_58 23 = some (.aload_n 0) by decide +kernel) rfl ?_
    refine jr_1 jm_58 (show jw_cd cd_58 24 = some (.getfield 19) by decide +kernel) (cg_4 (e := p) hP.2.1 (show jw_fld 2 19 1 = some 2 by decide +kernel)) ?_
    refine jr_1 jm_58 (show jw_cd cd_58 27 = some (.caload) by decide +kernel) (ca_6 (i := p) (e := T p) (by omega) (by omega) (hP.1.2.1 p h0 hpn)) ?_
    refine jr_1 jm_58 (show jw_cd cd_58 28 = some (.goto 4) by decide +kernel) (ju_go (t := 32) (by decide)) ?_
    exact jr_v jm_58 (show jw_cd cd_58 32 = some (.ireturn) by decide +kernel) (crC ⟨by omega, by omega⟩ rfl)
  · have e : tC T n p = 0 := if_neg hpn
    rw [e]
    refine jr_1 jm_58 (show jw_cd cd_58 0 = some (.aload_n 0) by decide +kernel) rfl ?_
    refine jr_1 jm_58 (show jw_cd cd_58 1 = some (.getfield 22) by decide +kernel) (cg_5 (e := -1) hP.2.2.1 (show jw_fld 2 22 1 = some 3 by decide +kernel)) ?_
    refine jr_1 jm_58 (show jw_cd cd_58 4 = some (.iconst (-1)) by decide +kernel) rfl ?_
    refine jr_1 jm_58 (show jw_cd cd_58 5 = some (.if_icmp .ne 26) by decide +kernel) (mb_f (q := .ne) (a := -1) (b := -1) (by show ¬ (¬ (-1 = -1)); omega) ⟨by omega, by omega⟩ ⟨by omega, by omega⟩ (by decide)) ?_
    refine jr_1 jm_58 (show jw_cd cd_58 8 = some (.aload_n 0) by decide +kernel) rfl ?_
    refine jr_1 jm_58 (show jw_cd cd_58 9 = some (.getfield 19) by decide +kernel) (cg_4 (e := p) hP.2.1 (show jw_fld 2 19 1 = some 2 by decide +kernel)) ?_
    refine jr_1 jm_58 (show jw_cd cd_58 12 = some (.aload_n 0) by decide +kernel) rfl ?_
    refine jr_1 jm_58 (show jw_cd cd_58 13 = some (.getfield 15) by decide +kernel) (cg_3 (e := n) hP.1.1 (show jw_fld 2 15 1 = some 1 by decide +kernel)) ?_
    refine jr_1 jm_58 (show jw_cd cd_58 16 = some (.if_icmp .ge 15) by decide +kernel) (mb_t (q := .ge) (a := p) (b := n) (t := 31) (by show n ≤ p; omega) ⟨by omega, by omega⟩ ⟨by omega, by omega⟩ (by decide) (by decide)) ?_
    refine jr_1 jm_58 (show jw_cd cd_58 31 = some (.iconst 0) by decide +kernel) rfl ?_
    exact jr_v jm_58 (show jw_cd cd_58 32 = some (.ireturn) by decide +kernel) (crC ⟨by omega, by omega⟩ rfl)
theorem jc_hereW {β : Bool} {d : Nat} {h : jx_H} {κ : mS} (hl : 50 ≤ h.length) {e : Int} (hW : cW κ e) : jx_r (jz β) jw_M (d) 58 (0, [some (.ref 1)], [], (cl_mk h κ)) (cl_mk h (κ), .inl (some (.int (Int32.ofInt (0))))) := by
  obtain ⟨w0, w1⟩ := hW.2
  refine jr_1 jm_58 (show jw_cd cd_58 0 = some (.aload_n 0) by decide +kernel) rfl ?_
  refine jr_1 jm_58 (show jw_cd cd_58 1 = some (.getfield 22) by decide +kernel) (cg_5 (e := e) hW.1 (show jw_fld 2 22 1 = some 3 by decide +kernel)) ?_
  refine jr_1 jm_58 (show jw_cd cd_58 4 = some (.iconst (-1)) by decide +kernel) rfl ?_
  refine jr_1 jm_58 (show jw_cd cd_58 5 = some (.if_icmp .ne 26) by decide +kernel) (mb_t (q := .ne) (a := e) (b := -1) (t := 31) (by show ¬ (e = -1); omega) ⟨by omega, by omega⟩ ⟨by omega, by omega⟩ (by decide) (by decide)) ?_
  refine jr_1 jm_58 (show jw_cd cd_58 31 = some (.iconst 0) by decide +kernel) rfl ?_
  exact jr_v jm_58 (show jw_cd cd_58 32 = some (.ireturn) by decide +kernel) (crC ⟨by omega, by omega⟩ rfl)
theorem jc_wrongAt {β : Bool} {d : Nat} {h : jx_H} {κ : mS} (hl : 50 ≤ h.length) {T : Int → Int} {n p q : Int} (hP : cP κ T n p) : jx_r (jz β) jw_M (d) 62 (0, [some (.ref 1), some (.int (Int32.ofInt (q)))], [], (cl_mk h κ)) (cl_mk h (su κ 5 0 q), .inl none) := by
  refine jr_1 jm_62 (show jw_cd cd_62 0 = some (.aload_n 0) by decide +kernel) rfl ?_
  refine jr_1 jm_62 (show jw_cd cd_62 1 = some (.getfield 22) by decide +kernel) (cg_5 (e := -1) hP.2.2.1 (show jw_fld 2 22 1 = some 3 by decide +kernel)) ?_
  refine jr_1 jm_62 (show jw_cd cd_62 4 = some (.iconst (-1)) by decide +kernel) rfl ?_
  refine jr_1 jm_62 (show jw_cd cd_62 5 = some (.if_icmp .ne 8) by decide +kernel) (mb_f (q := .ne) (a := -1) (b := -1) (by show ¬ (¬ (-1 = -1)); omega) ⟨by omega, by omega⟩ ⟨by omega, by omega⟩ (by decide)) ?_
  refine jr_1 jm_62 (show jw_cd cd_62 8 = some (.aload_n 0) by decide +kernel) rfl ?_
  refine jr_1 jm_62 (show jw_cd cd_62 9 = some (.iload_n 1) by decide +kernel) rfl ?_
  refine jr_1 jm_62 (show jw_cd cd_62 10 = some (.putfield 22) by decide +kernel) (cp_5 (x := q) (show jw_fld 2 22 1 = some 3 by decide +kernel) (show jw_fm 2 1 3 = some false by decide +kernel)) ?_
  exact jr_v jm_62 (show jw_cd cd_62 13 = some (.return_) by decide +kernel) rfl
theorem jc_wrongW {β : Bool} {d : Nat} {h : jx_H} {κ : mS} (hl : 50 ≤ h.length) {e : Int} (hW : cW κ e) {q : Int} : jx_r (jz β) jw_M (d) 62 (0, [some (.ref 1), some (.int (Int32.ofInt (q)))], [], (cl_mk h κ)) (cl_mk h (κ), .inl none) := by
  obtain ⟨w0, w1⟩ := hW.2
  refine jr_1 jm_62 (show jw_cd cd_62 0 = some (.aload_n 0) by decide +kernel) rfl ?_
  refine jr_1 jm_62 (show jw_cd cd_62 1 = some (.getfield 22) by decide +kernel) (cg_5 (e := e) hW.1 (show jw_fld 2 22 1 = some 3 by decide +kernel)) ?_
  refine jr_1 jm_62 (show jw_cd cd_62 4 = some (.iconst (-1)) by decide +kernel) rfl ?_
  refine jr_1 jm_62 (show jw_cd cd_62 5 = some (.if_icmp .ne 8) by decide +kernel) (mb_t (q := .ne) (a := e) (b := -1) (t := 13) (by show ¬ (e = -1); omega) ⟨by omega, by omega⟩ ⟨by omega, by omega⟩ (by decide) (by decide)) ?_
  exact jr_v jm_62 (show jw_cd cd_62 13 = some (.return_) by decide +kernel) rfl
theorem jc_takeT {β : Bool} {d : Nat} {h : jx_H} {κ : mS} (hl : 50 ≤ h.length) {T : Int → Int} {n p : Int} (hP : cP κ T n p) {c : Int} (hc : tC T n p = c) (hc0 : 1 ≤ c ∧ c ≤ 126) : jx_r (jz β) jw_M (d + 1) 64 (0, [some (.ref 1), some (.int (Int32.ofInt (c)))], [], (cl_mk h κ)) (cl_mk h (su κ 4 0 (p + 1)), .inl (some (.int (Int32.ofInt (1))))) := by
  obtain ⟨h0, hpn0⟩ := hP.2.2.2
  have ht := hP.1.2.2
  have hn0 := ht.1
  have hn160 := ht.2.1
  obtain ⟨-, -, t0, t1⟩ := tC_H (p := p) ht h0
  obtain ⟨c0, c1⟩ := hc0
  refine jr_1 jm_64 (show jw_cd cd_64 0 = some (.aload_n 0) by decide +kernel) rfl ?_
  refine jr_c jm_64 (show jw_cd cd_64 1 = some (.invokevirtual 36) by decide +kernel) (ccv (n := 0) (m2 := 58) (ci := 1) (a := 1) (bs := []) (r := []) (js_cls cl_c1 (by decide)) (show jw_find jw_cvT 2 36 = some (0, [(1, 58)]) by decide +kernel) (by decide) rfl rfl rfl) jm_58 ⟨Nat.le_of_ble_eq_true rfl, by decide⟩ (jc_here hl hP) ?_
  refine jr_1 jm_64 (show jw_cd cd_64 4 = some (.iload_n 1) by decide +kernel) rfl ?_
  refine jr_1 jm_64 (show jw_cd cd_64 5 = some (.if_icmp .eq 5) by decide +kernel) (mb_t (q := .eq) (a := tC T n p) (b := c) (t := 10) (by show tC T n p = c; omega) ⟨by omega, by omega⟩ ⟨by omega, by omega⟩ (by decide) (by decide)) ?_
  refine jr_1 jm_64 (show jw_cd cd_64 10 = some (.aload_n 0) by decide +kernel) rfl ?_
  refine jr_1 jm_64 (show jw_cd cd_64 11 = some (.dup) by decide +kernel) rfl ?_
  refine jr_1 jm_64 (show jw_cd cd_64 12 = some (.getfield 19) by decide +kernel) (cg_4 (e := p) hP.2.1 (show jw_fld 2 19 1 = some 2 by decide +kernel)) ?_
  refine jr_1 jm_64 (show jw_cd cd_64 15 = some (.iconst 1) by decide +kernel) rfl ?_
  refine jr_1 jm_64 (show jw_cd cd_64 16 = some (.iadd) by decide +kernel) (mt_add (c := p + 1) rfl) ?_
  refine jr_1 jm_64 (show jw_cd cd_64 17 = some (.putfield 19) by decide +kernel) (cp_4 (x := p + 1) (show jw_fld 2 19 1 = some 2 by decide +kernel) (show jw_fm 2 1 2 = some false by decide +kernel)) ?_
  refine jr_1 jm_64 (show jw_cd cd_64 20 = some (.iconst 1) by decide +kernel) rfl ?_
  exact jr_v jm_64 (show jw_cd cd_64 21 = some (.ireturn) by decide +kernel) rfl
theorem jc_takeF {β : Bool} {d : Nat} {h : jx_H} {κ : mS} (hl : 50 ≤ h.length) {T : Int → Int} {n p : Int} (hP : cP κ T n p) {c : Int} (hc : ¬ tC T n p = c) (hc0 : 1 ≤ c ∧ c ≤ 126) : jx_r (jz β) jw_M (d + 1) 64 (0, [some (.ref 1), some (.int (Int32.ofInt (c)))], [], (cl_mk h κ)) (cl_mk h (κ), .inl (some (.int (Int32.ofInt (0))))) := by
  obtain ⟨h0, hpn0⟩ := hP.2.2.2
  have ht := hP.1.2.2
  have hn0 := ht.1
  have hn160 := ht.2.1
  obtain ⟨-, -, t0, t1⟩ := tC_H (p := p) ht h0
  obtain ⟨c0, c1⟩ := hc0
  refine jr_1 jm_64 (show jw_cd cd_64 0 = some (.aload_n 0) by decide +kernel) rfl ?_
  refine jr_c jm_64 (show jw_cd cd_64 1 = some (.invokevirtual 36) by decide +kernel) (ccv (n := 0) (m2 := 58) (ci := 1) (a := 1) (bs := []) (r := []) (js_cls cl_c1 (by decide)) (show jw_find jw_cvT 2 36 = some (0, [(1, 58)]) by decide +kernel) (by decide) rfl rfl rfl) jm_58 ⟨Nat.le_of_ble_eq_true rfl, by decide⟩ (jc_here hl hP) ?_
  refine jr_1 jm_64 (show jw_cd cd_64 4 = some (.iload_n 1) by decide +kernel) rfl ?_
  refine jr_1 jm_64 (show jw_cd cd_64 5 = some (.if_icmp .eq 5) by decide +kernel) (mb_f (q := .eq) (a := tC T n p) (b := c) (by show ¬ (tC T n p = c); omega) ⟨by omega, by omega⟩ ⟨by omega, by omega⟩ (by decide)) ?_
  refine jr_1 jm_64 (show jw_cd cd_64 8 = some (.iconst 0) by decide +kernel) rfl ?_
  exact jr_v jm_64 (show jw_cd cd_64 9 = some (.ireturn) by decide +kernel) rfl
theorem jc_takeW {β : Bool} {d : Nat} {h : jx_H} {κ : mS} (hl : 50 ≤ h.length) {e : Int} (hW : cW κ e) {c : Int} (hc0 : 1 ≤ c ∧ c ≤ 126) : jx_r (jz β) jw_M (d + 1) 64 (0, [some (.ref 1), some (.int (Int32.ofInt (c)))], [], (cl_mk h κ)) (cl_mk h (κ), .inl (some (.int (Int32.ofInt (0))))) := by
  obtain ⟨c0, c1⟩ := hc0
  obtain ⟨w0, w1⟩ := hW.2
  refine jr_1 jm_64 (show jw_cd cd_64 0 = some (.aload_n 0) by decide +kernel) rfl ?_
  refine jr_c jm_64 (show jw_cd cd_64 1 = some (.invokevirtual 36) by decide +kernel) (ccv (n := 0) (m2 := 58) (ci := 1) (a := 1) (bs := []) (r := []) (js_cls cl_c1 (by decide)) (show jw_find jw_cvT 2 36 = some (0, [(1, 58)]) by decide +kernel) (by decide) rfl rfl rfl) jm_58 ⟨Nat.le_of_ble_eq_true rfl, by decide⟩ (jc_hereW hl hW) ?_
  refine jr_1 jm_64 (show jw_cd cd_64 4 = some (.iload_n 1) by decide +kernel) rfl ?_
  refine jr_1 jm_64 (show jw_cd cd_64 5 = some (.if_icmp .eq 5) by decide +kernel) (mb_f (q := .eq) (a := 0) (b := c) (by show ¬ (0 = c); omega) ⟨by omega, by omega⟩ ⟨by omega, by omega⟩ (by decide)) ?_
  refine jr_1 jm_64 (show jw_cd cd_64 8 = some (.iconst 0) by decide +kernel) rfl ?_
  exact jr_v jm_64 (show jw_cd cd_64 9 = some (.ireturn) by decide +kernel) rfl
theorem jc_mustT {β : Bool} {d : Nat} {h : jx_H} {κ : mS} (hl : 50 ≤ h.length) {T : Int → Int} {n p : Int} (hP : cP κ T n p) {c : Int} (hc : tC T n p = c) (hc0 : 1 ≤ c ∧ c ≤ 126) : jx_r (jz β) jw_M (d + 1) 96 (0, [some (.ref 1), some (.int (Int32.ofInt (c)))], [], (cl_mk h κ)) (cl_mk h (su κ 4 0 (p + 1)), .inl none) := by
  obtain ⟨h0, hpn0⟩ := hP.2.2.2
  have ht := hP.1.2.2
  have hn0 := ht.1
  have hn160 := ht.2.1
  obtain ⟨-, -, t0, t1⟩ := tC_H (p := p) ht h0
  obtain ⟨c0, c1⟩ := hc0
  refine jr_1 jm_96 (show jw_cd cd_96 0 = some (.aload_n 0) by decide +kernel) rfl ?_
  refine jr_c jm_96 (show jw_cd cd_96 1 = some (.invokevirtual 36) by decide +kernel) (ccv (n := 0) (m2 := 58) (ci := 1) (a := 1) (bs := []) (r := []) (js_cls cl_c1 (by decide)) (show jw_find jw_cvT 2 36 = some (0, [(1, 58)]) by decide +kernel) (by decide) rfl rfl rfl) jm_58 ⟨Nat.le_of_ble_eq_true rfl, by decide⟩ (jc_here hl hP) ?_
  refine jr_1 jm_96 (show jw_cd cd_96 4 = some (.iload_n 1) by decide +kernel) rfl ?_
  refine jr_1 jm_96 (show jw_cd cd_96 5 = some (.if_icmp .ne 16) by decide +kernel) (mb_f (q := .ne) (a := tC T n p) (b := c) (by show ¬ (¬ (tC T n p = c)); omega) ⟨by omega, by omega⟩ ⟨by omega, by omega⟩ (by decide)) ?_
  refine jr_1 jm_96 (show jw_cd cd_96 8 = some (.aload_n 0) by decide +kernel) rfl ?_
  refine jr_1 jm_96 (show jw_cd cd_96 9 = some (.dup) by decide +kernel) rfl ?_
  refine jr_1 jm_96 (show jw_cd cd_96 10 = some (.getfield 19) by decide +kernel) (cg_4 (e := p) hP.2.1 (show jw_fld 2 19 1 = some 2 by decide +kernel)) ?_
  refine jr_1 jm_96 (show jw_cd cd_96 13 = some (.iconst 1) by decide +kernel) rfl ?_
  refine jr_1 jm_96 (show jw_cd cd_96 14 = some (.iadd) by decide +kernel) (mt_add (c := p + 1) rfl) ?_
  refine jr_1 jm_96 (show jw_cd cd_96 15 = some (.putfield 19) by decide +kernel) (cp_4 (x := p + 1) (show jw_fld 2 19 1 = some 2 by decide +kernel) (show jw_fm 2 1 2 = some false by decide +kernel)) ?_
  refine jr_1 jm_96 (show jw_cd cd_96 18 = some (.goto 11) by decide +kernel) (ju_go (t := 29) (by decide)) ?_
  exact jr_v jm_96 (show jw_cd cd_96 29 = some (.return_) by decide +kernel) rfl
theorem jc_mustF {β : Bool} {d : Nat} {h : jx_H} {κ : mS} (hl : 50 ≤ h.length) {T : Int → Int} {n p : Int} (hP : cP κ T n p) {c : Int} (hc : ¬ tC T n p = c) (hc0 : 1 ≤ c ∧ c ≤ 126) : jx_r (jz β) jw_M (d + 1) 96 (0, [some (.ref 1), some (.int (Int32.ofInt (c)))], [], (cl_mk h κ)) (cl_mk h (su κ 5 0 p), .inl none) := by
  obtain ⟨h0, hpn0⟩ := hP.2.2.2
  have ht := hP.1.2.2
  have hn0 := ht.1
  have hn160 := ht.2.1
  obtain ⟨-, -, t0, t1⟩ := tC_H (p := p) ht h0
  obtain ⟨c0, c1⟩ := hc0
  refine jr_1 jm_96 (show jw_cd cd_96 0 = some (.aload_n 0) by decide +kernel) rfl ?_
  refine jr_c jm_96 (show jw_cd cd_96 1 = some (.invokevirtual 36) by decide +kernel) (ccv (n := 0) (m2 := 58) (ci := 1) (a := 1) (bs := []) (r := []) (js_cls cl_c1 (by decide)) (show jw_find jw_cvT 2 36 = some (0, [(1, 58)]) by decide +kernel) (by decide) rfl rfl rfl) jm_58 ⟨Nat.le_of_ble_eq_true rfl, by decide⟩ (jc_here hl hP) ?_
  refine jr_1 jm_96 (show jw_cd cd_96 4 = some (.iload_n 1) by decide +kernel) rfl ?_
  refine jr_1 jm_96 (show jw_cd cd_96 5 = some (.if_icmp .ne 16) by decide +kernel) (mb_t (q := .ne) (a := tC T n p) (b := c) (t := 21) (by show ¬ (tC T n p = c); omega) ⟨by omega, by omega⟩ ⟨by omega, by omega⟩ (by decide) (by decide)) ?_
  refine jr_1 jm_96 (show jw_cd cd_96 21 = some (.aload_n 0) by decide +kernel) rfl ?_
  refine jr_1 jm_96 (show jw_cd cd_96 22 = some (.aload_n 0) by decide +kernel) rfl ?_
  refine jr_1 jm_96 (show jw_cd cd_96 23 = some (.getfield 19) by decide +kernel) (cg_4 (e := p) hP.2.1 (show jw_fld 2 19 1 = some 2 by decide +kernel)) ?_
  refine jr_c jm_96 (show jw_cd cd_96 26 = some (.invokevirtual 32) by decide +kernel) (ccv (n := 1) (m2 := 62) (ci := 1) (a := 1) (bs := [.int (Int32.ofInt (p))]) (r := []) (js_cls cl_c1 (by decide)) (show jw_find jw_cvT 2 32 = some (1, [(1, 62)]) by decide +kernel) (by decide) rfl rfl rfl) jm_62 ⟨Nat.le_of_ble_eq_true rfl, by decide⟩ (jc_wrongAt hl hP) ?_
  exact jr_v jm_96 (show jw_cd cd_96 29 = some (.return_) by decide +kernel) rfl
theorem jc_mustW {β : Bool} {d : Nat} {h : jx_H} {κ : mS} (hl : 50 ≤ h.length) {e : Int} (hW : cW κ e) {c : Int} (hc0 : 1 ≤ c ∧ c ≤ 126) : jx_r (jz β) jw_M (d + 1) 96 (0, [some (.ref 1), some (.int (Int32.ofInt (c)))], [], (cl_mk h κ)) (cl_mk h (κ), .inl none) := by
  obtain ⟨c0, c1⟩ := hc0
  obtain ⟨w0, w1⟩ := hW.2
  refine jr_1 jm_96 (show jw_cd cd_96 0 = some (.aload_n 0) by decide +kernel) rfl ?_
  refine jr_c jm_96 (show jw_cd cd_96 1 = some (.invokevirtual 36) by decide +kernel) (ccv (n := 0) (m2 := 58) (ci := 1) (a := 1) (bs := []) (r := []) (js_cls cl_c1 (by decide)) (show jw_find jw_cvT 2 36 = some (0, [(1, 58)]) by decide +kernel) (by decide) rfl rfl rfl) jm_58 ⟨Nat.le_of_ble_eq_true rfl, by decide⟩ (jc_hereW hl hW) ?_
  refine jr_1 jm_96 (show jw_cd cd_96 4 = some (.iload_n 1) by decide +kernel) rfl ?_
  refine jr_1 jm_96 (show jw_cd cd_96 5 = some (.if_icmp .ne 16) by decide +kernel) (mb_t (q := .ne) (a := 0) (b := c) (t := 21) (by show ¬ (0 = c); omega) ⟨by omega, by omega⟩ ⟨by omega, by omega⟩ (by decide) (by decide)) ?_
  refine jr_1 jm_96 (show jw_cd cd_96 21 = some (.aload_n 0) by decide +kernel) rfl ?_
  refine jr_1 jm_96 (show jw_cd cd_96 22 = some (.aload_n 0) by decide +kernel) rfl ?_
  refine jr_1 jm_96 (show jw_cd cd_96 23 = some (.getfield 19) by decide +kernel) (cg_4 (e := κ 4 0) rfl (show jw_fld 2 19 1 = some 2 by decide +kernel)) ?_
  refine jr_c jm_96 (show jw_cd cd_96 26 = some (.invokevirtual 32) by decide +kernel) (ccv (n := 1) (m2 := 62) (ci := 1) (a := 1) (bs := [.int (Int32.ofInt (κ 4 0))]) (r := []) (js_cls cl_c1 (by decide)) (show jw_find jw_cvT 2 32 = some (1, [(1, 62)]) by decide +kernel) (by decide) rfl rfl rfl) jm_62 ⟨Nat.le_of_ble_eq_true rfl, by decide⟩ (jc_wrongW hl hW) ?_
  exact jr_v jm_96 (show jw_cd cd_96 29 = some (.return_) by decide +kernel) rfl
theorem jc_isD_t {β : Bool} {d : Nat} {h : jx_H} {κ : mS} (hl : 50 ≤ h.length) {c : Int} (hc : 48 ≤ c ∧ c ≤ 57) : jx_r (jz β) jw_M (d) 61 (0, [some (.int (Int32.ofInt (c)))], [], (cl_mk h κ)) (cl_mk h (κ), .inl (some (.int (Int32.ofInt (1))))) := by
  obtain ⟨c0, c1⟩ := hc
  refine jr_1 jm_61 (show jw_cd cd_61 0 = some (.iload_n 0) by decide +kernel) rfl ?_
  refine jr_1 jm_61 (show jw_cd cd_61 1 = some (.bipush 48) by decide +kernel) (mt_bi (by decide)) ?_
  refine jr_1 jm_61 (show jw_cd cd_61 3 = some (.if_icmp .lt 13) by decide +kernel) (mb_f (q := .lt) (a := c) (b := 48) (by show ¬ (c < 48); omega) ⟨by omega, by omega⟩ ⟨by omega, by omega⟩ (by decide)) ?_
  refine jr_1 jm_61 (show jw_cd cd_61 6 = some (.iload_n 0) by decide +kernel) rfl ?_
  refine jr_1 jm_61 (show jw_cd cd_61 7 = some (.bipush 57) by decide +kernel) (mt_bi (by decide)) ?_
  refine jr_1 jm_61 (show jw_cd cd_61 9 = some (.if_icmp .gt 7) by decide +kernel) (mb_f (q := .gt) (a := c) (b := 57) (by show ¬ (57 < c); omega) ⟨by omega, by omega⟩ ⟨by omega, by omega⟩ (by decide)) ?_
  refine jr_1 jm_61 (show jw_cd cd_61 12 = some (.iconst 1) by decide +kernel) rfl ?_
  refine jr_1 jm_61 (show jw_cd cd_61 13 = some (.goto 4) by decide +kernel) (ju_go (t := 17) (by decide)) ?_
  exact jr_v jm_61 (show jw_cd cd_61 17 = some (.ireturn) by decide +kernel) rfl
theorem jc_isD_f {β : Bool} {d : Nat} {h : jx_H} {κ : mS} (hl : 50 ≤ h.length) {c : Int} (hr : 0 ≤ c ∧ c ≤ 126) (hc : ¬ (48 ≤ c ∧ c ≤ 57)) : jx_r (jz β) jw_M (d) 61 (0, [some (.int (Int32.ofInt (c)))], [], (cl_mk h κ)) (cl_mk h (κ), .inl (some (.int (Int32.ofInt (0))))) := by
  obtain ⟨c0, c1⟩ := hr
  by_cases h1 : c < 48
  · skip
    refine jr_1 jm_61 (show jw_cd cd_61 0 = some (.iload_n 0) by decide +kernel) rfl ?_
    refine jr_1 jm_61 (show jw_cd cd_61 1 = some (.bipush 48) by decide +kernel) (mt_bi (by decide)) ?_
    refine jr_1 jm_61 (show jw_cd cd_61 3 = some (.if_icmp .lt 13) by decide +kernel) (mb_t (q := .lt) (a := c) (b := 48) (t := 16) (by show c < 48; omega) ⟨by omega, by omega⟩ ⟨by omega, by omega⟩ (by decide) (by decide)) ?_
    refine jr_1 jm_61 (show jw_cd cd_61 16 = some (.iconst 0) by decide +kernel) rfl ?_
    exact jr_v jm_61 (show jw_cd cd_61 17 = some (.ireturn) by decide +kernel) rfl
  · skip
    refine jr_1 jm_61 (show jw_cd cd_61 0 = some (.iload_n 0) by decide +kernel) rfl ?_
    refine jr_1 jm_61 (show jw_cd cd_61 1 = some (.bipush 48) by decide +kernel) (mt_bi (by decide)) ?_
    refine jr_1 jm_61 (show jw_cd cd_61 3 = some (.if_icmp .lt 13) by decide +kernel) (mb_f (q := .lt) (a := c) (b := 48) (by show ¬ (c < 48); omega) ⟨by omega, by omega⟩ ⟨by omega, by omega⟩ (by decide)) ?_
    refine jr_1 jm_61 (show jw_cd cd_61 6 = some (.iload_n 0) by decide +kernel) rfl ?_
    refine jr_1 jm_61 (show jw_cd cd_61 7 = some (.bipush 57) by decide +kernel) (mt_bi (by decide)) ?_
    refine jr_1 jm_61 (show jw_cd cd_61 9 = some (.if_icmp .gt 7) by decide +kernel) (mb_t (q := .gt) (a := c) (b := 57) (t := 16) (by show 57 < c; omega) ⟨by omega, by omega⟩ ⟨by omega, by omega⟩ (by decide) (by decide)) ?_
    refine jr_1 jm_61 (show jw_cd cd_61 16 = some (.iconst 0) by decide +kernel) rfl ?_
    exact jr_v jm_61 (show jw_cd cd_61 17 = some (.ireturn) by decide +kernel) rfl
theorem jc_isK_t {β : Bool} {d : Nat} {h : jx_H} {κ : mS} (hl : 50 ≤ h.length) {c : Int} (hc : 97 ≤ c ∧ c ≤ 122) : jx_r (jz β) jw_M (d) 99 (0, [some (.int (Int32.ofInt (c)))], [], (cl_mk h κ)) (cl_mk h (κ), .inl (some (.int (Int32.ofInt (1))))) := by
  obtain ⟨c0, c1⟩ := hc
  refine jr_1 jm_99 (show jw_cd cd_99 0 = some (.iload_n 0) by decide +kernel) rfl ?_
  refine jr_1 jm_99 (show jw_cd cd_99 1 = some (.bipush 97) by decide +kernel) (mt_bi (by decide)) ?_
  refine jr_1 jm_99 (show jw_cd cd_99 3 = some (.if_icmp .lt 13) by decide +kernel) (mb_f (q := .lt) (a := c) (b := 97) (by show ¬ (c < 97); omega) ⟨by omega, by omega⟩ ⟨by omega, by omega⟩ (by decide)) ?_
  refine jr_1 jm_99 (show jw_cd cd_99 6 = some (.iload_n 0) by decide +kernel) rfl ?_
  refine jr_1 jm_99 (show jw_cd cd_99 7 = some (.bipush 122) by decide +kernel) (mt_bi (by decide)) ?_
  refine jr_1 jm_99 (show jw_cd cd_99 9 = some (.if_icmp .gt 7) by decide +kernel) (mb_f (q := .gt) (a := c) (b := 122) (by show ¬ (122 < c); omega) ⟨by omega, by omega⟩ ⟨by omega, by omega⟩ (by decide)) ?_
  refine jr_1 jm_99 (show jw_cd cd_99 12 = some (.iconst 1) by decide +kernel) rfl ?_
  refine jr_1 jm_99 (show jw_cd cd_99 13 = some (.goto 4) by decide +kernel) (ju_go (t := 17) (by decide)) ?_
  exact jr_v jm_99 (show jw_cd cd_99 17 = some (.ireturn) by decide +kernel) rfl
theorem jc_isK_f {β : Bool} {d : Nat} {h : jx_H} {κ : mS} (hl : 50 ≤ h.length) {c : Int} (hr : 0 ≤ c ∧ c ≤ 126) (hc : ¬ (97 ≤ c ∧ c ≤ 122)) : jx_r (jz β) jw_M (d) 99 (0, [some (.int (Int32.ofInt (c)))], [], (cl_mk h κ)) (cl_mk h (κ), .inl (some (.int (Int32.ofInt (0))))) := by
  obtain ⟨c0, c1⟩ := hr
  by_cases h1 : c < 97
  · skip
    refine jr_1 jm_99 (show jw_cd cd_99 0 = some (.iload_n 0) by decide +kernel) rfl ?_
    refine jr_1 jm_99 (show jw_cd cd_99 1 = some (.bipush 97) by decide +kernel) (mt_bi (by decide)) ?_
    refine jr_1 jm_99 (show jw_cd cd_99 3 = some (.if_icmp .lt 13) by decide +kernel) (mb_t (q := .lt) (a := c) (b := 97) (t := 16) (by show c < 97; omega) ⟨by omega, by omega⟩ ⟨by omega, by omega⟩ (by decide) (by decide)) ?_
    refine jr_1 jm_99 (show jw_cd cd_99 16 = some (.iconst 0) by decide +kernel) rfl ?_
    exact jr_v jm_99 (show jw_cd cd_99 17 = some (.ireturn) by decide +kernel) rfl
  · skip
    refine jr_1 jm_99 (show jw_cd cd_99 0 = some (.iload_n 0) by decide +kernel) rfl ?_
    refine jr_1 jm_99 (show jw_cd cd_99 1 = some (.bipush 97) by decide +kernel) (mt_bi (by decide)) ?_
    refine jr_1 jm_99 (show jw_cd cd_99 3 = some (.if_icmp .lt 13) by decide +kernel) (mb_f (q := .lt) (a := c) (b := 97) (by show ¬ (c < 97); omega) ⟨by omega, by omega⟩ ⟨by omega, by omega⟩ (by decide)) ?_
    refine jr_1 jm_99 (show jw_cd cd_99 6 = some (.iload_n 0) by decide +kernel) rfl ?_
    refine jr_1 jm_99 (show jw_cd cd_99 7 = some (.bipush 122) by decide +kernel) (mt_bi (by decide)) ?_
    refine jr_1 jm_99 (show jw_cd cd_99 9 = some (.if_icmp .gt 7) by decide +kernel) (mb_t (q := .gt) (a := c) (b := 122) (t := 16) (by show 122 < c; omega) ⟨by omega, by omega⟩ ⟨by omega, by omega⟩ (by decide) (by decide)) ?_
    refine jr_1 jm_99 (show jw_cd cd_99 16 = some (.iconst 0) by decide +kernel) rfl ?_
    exact jr_v jm_99 (show jw_cd cd_99 17 = some (.ireturn) by decide +kernel) rfl
theorem jc_sN_t {β : Bool} {d : Nat} {h : jx_H} {κ : mS} (hl : 50 ≤ h.length) {c : Int} (hr : 0 ≤ c ∧ c ≤ 126) (hc : pN c = true) : jx_r (jz β) jw_M (d) 59 (0, [some (.int (Int32.ofInt (c)))], [], (cl_mk h κ)) (cl_mk h (κ), .inl (some (.int (Int32.ofInt (1))))) := by
  obtain ⟨c0, c1⟩ := hr
  have hc := of_decide_eq_true hc
  by_cases h1 : c = 45
  · skip
    refine jr_1 jm_59 (show jw_cd cd_59 0 = some (.iload_n 0) by decide +kernel) rfl ?_
    refine jr_1 jm_59 (show jw_cd cd_59 1 = some (.bipush 45) by decide +kernel) (mt_bi (by decide)) ?_
    refine jr_1 jm_59 (show jw_cd cd_59 3 = some (.if_icmp .eq 15) by decide +kernel) (mb_t (q := .eq) (a := c) (b := 45) (t := 18) (by show c = 45; omega) ⟨by omega, by omega⟩ ⟨by omega, by omega⟩ (by decide) (by decide)) ?_
    refine jr_1 jm_59 (show jw_cd cd_59 18 = some (.iconst 1) by decide +kernel) rfl ?_
    refine jr_1 jm_59 (show jw_cd cd_59 19 = some (.goto 4) by decide +kernel) (ju_go (t := 23) (by decide)) ?_
    exact jr_v jm_59 (show jw_cd cd_59 23 = some (.ireturn) by decide +kernel) rfl
  · skip
    refine jr_1 jm_59 (show jw_cd cd_59 0 = some (.iload_n 0) by decide +kernel) rfl ?_
    refine jr_1 jm_59 (show jw_cd cd_59 1 = some (.bipush 45) by decide +kernel) (mt_bi (by decide)) ?_
    refine jr_1 jm_59 (show jw_cd cd_59 3 = some (.if_icmp .eq 15) by decide +kernel) (mb_f (q := .eq) (a := c) (b := 45) (by show ¬ (c = 45); omega) ⟨by omega, by omega⟩ ⟨by omega, by omega⟩ (by decide)) ?_
    refine jr_1 jm_59 (show jw_cd cd_59 6 = some (.iload_n 0) by decide +kernel) rfl ?_
    refine jr_1 jm_59 (show jw_cd cd_59 7 = some (.bipush 48) by decide +kernel) (mt_bi (by decide)) ?_
    refine jr_1 jm_59 (show jw_cd cd_59 9 = some (.if_icmp .lt 13) by decide +kernel) (mb_f (q := .lt) (a := c) (b := 48) (by show ¬ (c < 48); omega) ⟨by omega, by omega⟩ ⟨by omega, by omega⟩ (by decide)) ?_
    refine jr_1 jm_59 (show jw_cd cd_59 12 = some (.iload_n 0) by decide +kernel) rfl ?_
    refine jr_1 jm_59 (show jw_cd cd_59 13 = some (.bipush 57) by decide +kernel) (mt_bi (by decide)) ?_
    refine jr_1 jm_59 (show jw_cd cd_59 15 = some (.if_icmp .gt 7) by decide +kernel) (mb_f (q := .gt) (a := c) (b := 57) (by show ¬ (57 < c); omega) ⟨by omega, by omega⟩ ⟨by omega, by omega⟩ (by decide)) ?_
    refine jr_1 jm_59 (show jw_cd cd_59 18 = some (.iconst 1) by decide +kernel) rfl ?_
    refine jr_1 jm_59 (show jw_cd cd_59 19 = some (.goto 4) by decide +kernel) (ju_go (t := 23) (by decide)) ?_
    exact jr_v jm_59 (show jw_cd cd_59 23 = some (.ireturn) by decide +kernel) rfl
theorem jc_sN_f {β : Bool} {d : Nat} {h : jx_H} {κ : mS} (hl : 50 ≤ h.length) {c : Int} (hr : 0 ≤ c ∧ c ≤ 126) (hc : ¬ pN c = true) : jx_r (jz β) jw_M (d) 59 (0, [some (.int (Int32.ofInt (c)))], [], (cl_mk h κ)) (cl_mk h (κ), .inl (some (.int (Int32.ofInt (0))))) := by
  obtain ⟨c0, c1⟩ := hr
  have hc : ¬ (c = 45 ∨ 48 ≤ c ∧ c ≤ 57) := fun z => hc (decide_eq_true z)
  by_cases h1 : c < 48
  · skip
    refine jr_1 jm_59 (show jw_cd cd_59 0 = some (.iload_n 0) by decide +kernel) rfl ?_
    refine jr_1 jm_59 (show jw_cd cd_59 1 = some (.bipush 45) by decide +kernel) (mt_bi (by decide)) ?_
    refine jr_1 jm_59 (show jw_cd cd_59 3 = some (.if_icmp .eq 15) by decide +kernel) (mb_f (q := .eq) (a := c) (b := 45) (by show ¬ (c = 45); omega) ⟨by omega, by omega⟩ ⟨by omega, by omega⟩ (by decide)) ?_
    refine jr_1 jm_59 (show jw_cd cd_59 6 = some (.iload_n 0) by decide +kernel) rfl ?_
    refine jr_1 jm_59 (show jw_cd cd_59 7 = some (.bipush 48) by decide +kernel) (mt_bi (by decide)) ?_
    refine jr_1 jm_59 (show jw_cd cd_59 9 = some (.if_icmp .lt 13) by decide +kernel) (mb_t (q := .lt) (a := c) (b := 48) (t := 22) (by show c < 48; omega) ⟨by omega, by omega⟩ ⟨by omega, by omega⟩ (by decide) (by decide)) ?_
    refine jr_1 jm_59 (show jw_cd cd_59 22 = some (.iconst 0) by decide +kernel) rfl ?_
    exact jr_v jm_59 (show jw_cd cd_59 23 = some (.ireturn) by decide +kernel) rfl
  · skip
    refine jr_1 jm_59 (show jw_cd cd_59 0 = some (.iload_n 0) by decide +kernel) rfl ?_
    refine jr_1 jm_59 (show jw_cd cd_59 1 = some (.bipush 45) by decide +kernel) (mt_bi (by decide)) ?_
    refine jr_1 jm_59 (show jw_cd cd_59 3 = some (.if_icmp .eq 15) by decide +kernel) (mb_f (q := .eq) (a := c) (b := 45) (by show ¬ (c = 45); omega) ⟨by omega, by omega⟩ ⟨by omega, by omega⟩ (by decide)) ?_
    refine jr_1 jm_59 (show jw_cd cd_59 6 = some (.iload_n 0) by decide +kernel) rfl ?_
    refine jr_1 jm_59 (show jw_cd cd_59 7 = some (.bipush 48) by decide +kernel) (mt_bi (by decide)) ?_
    refine jr_1 jm_59 (show jw_cd cd_59 9 = some (.if_icmp .lt 13) by decide +kernel) (mb_f (q := .lt) (a := c) (b := 48) (by show ¬ (c < 48); omega) ⟨by omega, by omega⟩ ⟨by omega, by omega⟩ (by decide)) ?_
    refine jr_1 jm_59 (show jw_cd cd_59 12 = some (.iload_n 0) by decide +kernel) rfl ?_
    refine jr_1 jm_59 (show jw_cd cd_59 13 = some (.bipush 57) by decide +kernel) (mt_bi (by decide)) ?_
    refine jr_1 jm_59 (show jw_cd cd_59 15 = some (.if_icmp .gt 7) by decide +kernel) (mb_t (q := .gt) (a := c) (b := 57) (t := 22) (by show 57 < c; omega) ⟨by omega, by omega⟩ ⟨by omega, by omega⟩ (by decide) (by decide)) ?_
    refine jr_1 jm_59 (show jw_cd cd_59 22 = some (.iconst 0) by decide +kernel) rfl ?_
    exact jr_v jm_59 (show jw_cd cd_59 23 = some (.ireturn) by decide +kernel) rfl
theorem jc_full_t {β : Bool} {d : Nat} {h : jx_H} {κ : mS} (hl : 50 ≤ h.length) {n : Int} (e3 : κ 3 0 = n) (hn : n = 160) : jx_r (jz β) jw_M (d) 118 (0, [some (.ref 1)], [], (cl_mk h κ)) (cl_mk h (κ), .inl (some (.int (Int32.ofInt (1))))) := by
  refine jr_1 jm_118 (show jw_cd cd_118 0 = some (.aload_n 0) by decide +kernel) rfl ?_
  refine jr_1 jm_118 (show jw_cd cd_118 1 = some (.getfield 15) by decide +kernel) (cg_3 (e := n) e3 (show jw_fld 2 15 1 = some 1 by decide +kernel)) ?_
  refine jr_1 jm_118 (show jw_cd cd_118 4 = some (.aload_n 0) by decide +kernel) rfl ?_
  refine jr_1 jm_118 (show jw_cd cd_118 5 = some (.getfield 9) by decide +kernel) (cgr_1_0 (show jw_fld 2 9 1 = some 0 by decide +kernel)) ?_
  refine jr_1 jm_118 (show jw_cd cd_118 8 = some (.arraylength) by decide +kernel) cln_2 ?_
  refine jr_1 jm_118 (show jw_cd cd_118 9 = some (.if_icmp .lt 7) by decide +kernel) (mb_f (q := .lt) (a := n) (b := 160) (by show ¬ (n < 160); omega) ⟨by omega, by omega⟩ ⟨by omega, by omega⟩ (by decide)) ?_
  refine jr_1 jm_118 (show jw_cd cd_118 12 = some (.iconst 1) by decide +kernel) rfl ?_
  refine jr_1 jm_118 (show jw_cd cd_118 13 = some (.goto 4) by decide +kernel) (ju_go (t := 17) (by decide)) ?_
  exact jr_v jm_118 (show jw_cd cd_118 17 = some (.ireturn) by decide +kernel) rfl
theorem jc_full_f {β : Bool} {d : Nat} {h : jx_H} {κ : mS} (hl : 50 ≤ h.length) {n : Int} (e3 : κ 3 0 = n) (hn : 0 ≤ n ∧ n < 160) : jx_r (jz β) jw_M (d) 118 (0, [some (.ref 1)], [], (cl_mk h κ)) (cl_mk h (κ), .inl (some (.int (Int32.ofInt (0))))) := by
  obtain ⟨n0, n1⟩ := hn
  refine jr_1 jm_118 (show jw_cd cd_118 0 = some (.aload_n 0) by decide +kernel) rfl ?_
  refine jr_1 jm_118 (show jw_cd cd_118 1 = some (.getfield 15) by decide +kernel) (cg_3 (e := n) e3 (show jw_fld 2 15 1 = some 1 by decide +kernel)) ?_
  refine jr_1 jm_118 (show jw_cd cd_118 4 = some (.aload_n 0) by decide +kernel) rfl ?_
  refine jr_1 jm_118 (show jw_cd cd_118 5 = some (.getfield 9) by decide +kernel) (cgr_1_0 (show jw_fld 2 9 1 = some 0 by decide +kernel)) ?_
  refine jr_1 jm_118 (show jw_cd cd_118 8 = some (.arraylength) by decide +kernel) cln_2 ?_
  refine jr_1 jm_118 (show jw_cd cd_118 9 = some (.if_icmp .lt 7) by decide +kernel) (mb_t (q := .lt) (a := n) (b := 160) (t := 16) (by show n < 160; omega) ⟨by omega, by omega⟩ ⟨by omega, by omega⟩ (by decide) (by decide)) ?_
  refine jr_1 jm_118 (show jw_cd cd_118 16 = some (.iconst 0) by decide +kernel) rfl ?_
  exact jr_v jm_118 (show jw_cd cd_118 17 = some (.ireturn) by decide +kernel) rfl
theorem jc_addC {β : Bool} {d : Nat} {h : jx_H} {κ : mS} (hl : 50 ≤ h.length) {n c : Int} (e3 : κ 3 0 = n) (hn : 0 ≤ n ∧ n < 160) (hc : 0 ≤ c ∧ c ≤ 65535) : jx_r (jz β) jw_M (d) 120 (0, [some (.ref 1), some (.int (Int32.ofInt (c)))], [], (cl_mk h κ)) (cl_mk h ((su (su κ 6 (n) (c)) 3 (0) (n + 1))), .inl none) := by
  obtain ⟨n0, n1⟩ := hn
  refine jr_1 jm_120 (show jw_cd cd_120 0 = some (.aload_n 0) by decide +kernel) rfl ?_
  refine jr_1 jm_120 (show jw_cd cd_120 1 = some (.getfield 15) by decide +kernel) (cg_3 (e := n) e3 (show jw_fld 2 15 1 = some 1 by decide +kernel)) ?_
  refine jr_1 jm_120 (show jw_cd cd_120 4 = some (.aload_n 0) by decide +kernel) rfl ?_
  refine jr_1 jm_120 (show jw_cd cd_120 5 = some (.getfield 9) by decide +kernel) (cgr_1_0 (show jw_fld 2 9 1 = some 0 by decide +kernel)) ?_
  refine jr_1 jm_120 (show jw_cd cd_120 8 = some (.arraylength) by decide +kernel) cln_2 ?_
  refine jr_1 jm_120 (show jw_cd cd_120 9 = some (.if_icmp .ge 23) by decide +kernel) (mb_f (q := .ge) (a := n) (b := 160) (by show ¬ (160 ≤ n); omega) ⟨by omega, by omega⟩ ⟨by omega, by omega⟩ (by decide)) ?_
  refine jr_1 jm_120 (show jw_cd cd_120 12 = some (.aload_n 0) by decide +kernel) rfl ?_
  refine jr_1 jm_120 (show jw_cd cd_120 13 = some (.getfield 9) by decide +kernel) (cgr_1_0 (show jw_fld 2 9 1 = some 0 by decide +kernel)) ?_
  refine jr_1 jm_120 (show jw_cd cd_120 16 = some (.aload_n 0) by decide +kernel) rfl ?_
  refine jr_1 jm_120 (show jw_cd cd_120 17 = some (.getfield 15) by decide +kernel) (cg_3 (e := n) e3 (show jw_fld 2 15 1 = some 1 by decide +kernel)) ?_
  refine jr_1 jm_120 (show jw_cd cd_120 20 = some (.iload_n 1) by decide +kernel) rfl ?_
  refine jr_1 jm_120 (show jw_cd cd_120 21 = some (.castore) by decide +kernel) (cs_6 (i := n) (x := c) (by omega) (by omega) ⟨by omega, by omega⟩) ?_
  refine jr_1 jm_120 (show jw_cd cd_120 22 = some (.aload_n 0) by decide +kernel) rfl ?_
  refine jr_1 jm_120 (show jw_cd cd_120 23 = some (.dup) by decide +kernel) rfl ?_
  refine jr_1 jm_120 (show jw_cd cd_120 24 = some (.getfield 15) by decide +kernel) (cg_3 (e := n) ((su_nf (by decide)).trans e3) (show jw_fld 2 15 1 = some 1 by decide +kernel)) ?_
  refine jr_1 jm_120 (show jw_cd cd_120 27 = some (.iconst 1) by decide +kernel) rfl ?_
  refine jr_1 jm_120 (show jw_cd cd_120 28 = some (.iadd) by decide +kernel) (mt_add (c := n + 1) rfl) ?_
  refine jr_1 jm_120 (show jw_cd cd_120 29 = some (.putfield 15) by decide +kernel) (cp_3 (x := n + 1) (show jw_fld 2 15 1 = some 1 by decide +kernel) (show jw_fm 2 1 1 = some false by decide +kernel)) ?_
  exact jr_v jm_120 (show jw_cd cd_120 32 = some (.return_) by decide +kernel) rfl
theorem jc_end {β : Bool} {d : Nat} {h : jx_H} {κ : mS} (hl : 50 ≤ h.length) {T : Int → Int} {n p : Int} (hP : cP κ T n p) : (p < n → jx_r (jz β) jw_M (d + 1) 104 (0, [some (.ref 1), none], [], (cl_mk h κ)) (cl_mk h ((su (su (su (su κ 5 (0) (p)) 3 (0) (0)) 4 (0) (0)) 5 (0) (-1))), .inl (some (.int (Int32.ofInt (p)))))) ∧ (¬ p < n → jx_r (jz β) jw_M (d + 1) 104 (0, [some (.ref 1), none], [], (cl_mk h κ)) (cl_mk h ((su (su (su κ 3 (0) (0)) 4 (0) (0)) 5 (0) (-1))), .inl (some (.int (Int32.ofInt (-1)))))) := by
  obtain ⟨h0, hpn0⟩ := hP.2.2.2
  have ht := hP.1.2.2
  have hn0 := ht.1
  have hn160 := ht.2.1
  refine ⟨fun hpn => ?_, fun hpn => ?_⟩
  · skip
    refine jr_1 jm_104 (show jw_cd cd_104 0 = some (.aload_n 0) by decide +kernel) rfl ?_
    refine jr_1 jm_104 (show jw_cd cd_104 1 = some (.getfield 19) by decide +kernel) (cg_4 (e := p) hP.2.1 (show jw_fld 2 19 1 = some 2 by decide +kernel)) ?_
    refine jr_1 jm_104 (show jw_cd cd_104 4 = some (.aload_n 0) by decide +kernel) rfl ?_
    refine jr_1 jm_104 (show jw_cd cd_104 5 = some (.getfield 15) by decide +kernel) (cg_3 (e := n) hP.1.1 (show jw_fld 2 15 1 = some 1 by decide +kernel)) ?_
    refine jr_1 jm_104 (show jw_cd cd_104 8 = some (.if_icmp .ge 11) by decide +kernel) (mb_f (q := .ge) (a := p) (b := n) (by show ¬ (n ≤ p); omega) ⟨by omega, by omega⟩ ⟨by omega, by omega⟩ (by decide)) ?_
    refine jr_1 jm_104 (show jw_cd cd_104 11 = some (.aload_n 0) by decide +kernel) rfl ?_
    refine jr_1 jm_104 (show jw_cd cd_104 12 = some (.aload_n 0) by decide +kernel) rfl ?_
    refine jr_1 jm_104 (show jw_cd cd_104 13 = some (.getfield 19) by decide +kernel) (cg_4 (e := p) hP.2.1 (show jw_fld 2 19 1 = some 2 by decide +kernel)) ?_
    refine jr_c jm_104 (show jw_cd cd_104 16 = some (.invokevirtual 32) by decide +kernel) (ccv (n := 1) (m2 := 62) (ci := 1) (a := 1) (bs := [.int (Int32.ofInt (p))]) (r := []) (js_cls cl_c1 (by decide)) (show jw_find jw_cvT 2 32 = some (1, [(1, 62)]) by decide +kernel) (by decide) rfl rfl rfl) jm_62 ⟨Nat.le_of_ble_eq_true rfl, by decide⟩ (jc_wrongAt hl hP) ?_
    refine jr_1 jm_104 (show jw_cd cd_104 19 = some (.aload_n 0) by decide +kernel) rfl ?_
    refine jr_1 jm_104 (show jw_cd cd_104 20 = some (.getfield 22) by decide +kernel) (cg_5 (e := p) (su_eq _ _ _ _) (show jw_fld 2 22 1 = some 3 by decide +kernel)) ?_
    refine jr_1 jm_104 (F2 := (24, [some (.ref 1), some (.int (Int32.ofInt (p)))], [], (cl_mk h (su κ 5 (0) (p))))) (show jw_cd cd_104 23 = some (.istore_n 1) by decide +kernel) rfl ?_
    refine jr_1 jm_104 (show jw_cd cd_104 24 = some (.aload_n 0) by decide +kernel) rfl ?_
    refine jr_1 jm_104 (show jw_cd cd_104 25 = some (.iconst 0) by decide +kernel) rfl ?_
    refine jr_1 jm_104 (show jw_cd cd_104 26 = some (.putfield 15) by decide +kernel) (cp_3 (x := 0) (show jw_fld 2 15 1 = some 1 by decide +kernel) (show jw_fm 2 1 1 = some false by decide +kernel)) ?_
    refine jr_1 jm_104 (show jw_cd cd_104 29 = some (.aload_n 0) by decide +kernel) rfl ?_
    refine jr_1 jm_104 (show jw_cd cd_104 30 = some (.iconst 0) by decide +kernel) rfl ?_
    refine jr_1 jm_104 (show jw_cd cd_104 31 = some (.putfield 19) by decide +kernel) (cp_4 (x := 0) (show jw_fld 2 19 1 = some 2 by decide +kernel) (show jw_fm 2 1 2 = some false by decide +kernel)) ?_
    refine jr_1 jm_104 (show jw_cd cd_104 34 = some (.aload_n 0) by decide +kernel) rfl ?_
    refine jr_1 jm_104 (show jw_cd cd_104 35 = some (.iconst (-1)) by decide +kernel) rfl ?_
    refine jr_1 jm_104 (show jw_cd cd_104 36 = some (.putfield 22) by decide +kernel) (cp_5 (x := -1) (show jw_fld 2 22 1 = some 3 by decide +kernel) (show jw_fm 2 1 3 = some false by decide +kernel)) ?_
    refine jr_1 jm_104 (show jw_cd cd_104 39 = some (.iload_n 1) by decide +kernel) rfl ?_
    exact jr_v jm_104 (show jw_cd cd_104 40 = some (.ireturn) by decide +kernel) rfl
  · skip
    refine jr_1 jm_104 (show jw_cd cd_104 0 = some (.aload_n 0) by decide +kernel) rfl ?_
    refine jr_1 jm_104 (show jw_cd cd_104 1 = some (.getfield 19) by decide +kernel) (cg_4 (e := p) hP.2.1 (show jw_fld 2 19 1 = some 2 by decide +kernel)) ?_
    refine jr_1 jm_104 (show jw_cd cd_104 4 = some (.aload_n 0) by decide +kernel) rfl ?_
    refine jr_1 jm_104 (show jw_cd cd_104 5 = some (.getfield 15) by decide +kernel) (cg_3 (e := n) hP.1.1 (show jw_fld 2 15 1 = some 1 by decide +kernel)) ?_
    refine jr_1 jm_104 (show jw_cd cd_104 8 = some (.if_icmp .ge 11) by decide +kernel) (mb_t (q := .ge) (a := p) (b := n) (t := 19) (by show n ≤ p; omega) ⟨by omega, by omega⟩ ⟨by omega, by omega⟩ (by decide) (by decide)) ?_
    refine jr_1 jm_104 (show jw_cd cd_104 19 = some (.aload_n 0) by decide +kernel) rfl ?_
    refine jr_1 jm_104 (show jw_cd cd_104 20 = some (.getfield 22) by decide +kernel) (cg_5 (e := -1) hP.2.2.1 (show jw_fld 2 22 1 = some 3 by decide +kernel)) ?_
    refine jr_1 jm_104 (F2 := (24, [some (.ref 1), some (.int (Int32.ofInt (-1)))], [], (cl_mk h κ))) (show jw_cd cd_104 23 = some (.istore_n 1) by decide +kernel) rfl ?_
    refine jr_1 jm_104 (show jw_cd cd_104 24 = some (.aload_n 0) by decide +kernel) rfl ?_
    refine jr_1 jm_104 (show jw_cd cd_104 25 = some (.iconst 0) by decide +kernel) rfl ?_
    refine jr_1 jm_104 (show jw_cd cd_104 26 = some (.putfield 15) by decide +kernel) (cp_3 (x := 0) (show jw_fld 2 15 1 = some 1 by decide +kernel) (show jw_fm 2 1 1 = some false by decide +kernel)) ?_
    refine jr_1 jm_104 (show jw_cd cd_104 29 = some (.aload_n 0) by decide +kernel) rfl ?_
    refine jr_1 jm_104 (show jw_cd cd_104 30 = some (.iconst 0) by decide +kernel) rfl ?_
    refine jr_1 jm_104 (show jw_cd cd_104 31 = some (.putfield 19) by decide +kernel) (cp_4 (x := 0) (show jw_fld 2 19 1 = some 2 by decide +kernel) (show jw_fm 2 1 2 = some false by decide +kernel)) ?_
    refine jr_1 jm_104 (show jw_cd cd_104 34 = some (.aload_n 0) by decide +kernel) rfl ?_
    refine jr_1 jm_104 (show jw_cd cd_104 35 = some (.iconst (-1)) by decide +kernel) rfl ?_
    refine jr_1 jm_104 (show jw_cd cd_104 36 = some (.putfield 22) by decide +kernel) (cp_5 (x := -1) (show jw_fld 2 22 1 = some 3 by decide +kernel) (show jw_fm 2 1 3 = some false by decide +kernel)) ?_
    refine jr_1 jm_104 (show jw_cd cd_104 39 = some (.iload_n 1) by decide +kernel) rfl ?_
    exact jr_v jm_104 (show jw_cd cd_104 40 = some (.ireturn) by decide +kernel) rfl
theorem jc_endW {β : Bool} {d : Nat} {h : jx_H} {κ : mS} (hl : 50 ≤ h.length) {e : Int} (hW : cW κ e) {n p : Int} (e3 : κ 3 0 = n) (e4 : κ 4 0 = p) (hn : 0 ≤ n ∧ n ≤ 160) (hp : 0 ≤ p ∧ p ≤ 160) : jx_r (jz β) jw_M (d + 1) 104 (0, [some (.ref 1), none], [], (cl_mk h κ)) (cl_mk h ((su (su (su κ 3 (0) (0)) 4 (0) (0)) 5 (0) (-1))), .inl (some (.int (Int32.ofInt (e))))) := by
  obtain ⟨n0, n1⟩ := hn
  obtain ⟨p0, p1⟩ := hp
  obtain ⟨w0, w1⟩ := hW.2
  by_cases hpn : p < n
  · skip
    refine jr_1 jm_104 (show jw_cd cd_104 0 = some (.aload_n 0) by decide +kernel) rfl ?_
    refine jr_1 jm_104 (show jw_cd cd_104 1 = some (.getfield 19) by decide +kernel) (cg_4 (e := p) e4 (show jw_fld 2 19 1 = some 2 by decide +kernel)) ?_
    refine jr_1 jm_104 (show jw_cd cd_104 4 = some (.aload_n 0) by decide +kernel) rfl ?_
    refine jr_1 jm_104 (show jw_cd cd_104 5 = some (.getfield 15) by decide +kernel) (cg_3 (e := n) e3 (show jw_fld 2 15 1 = some 1 by decide +kernel)) ?_
    refine jr_1 jm_104 (show jw_cd cd_104 8 = some (.if_icmp .ge 11) by decide +kernel) (mb_f (q := .ge) (a := p) (b := n) (by show ¬ (n ≤ p); omega) ⟨by omega, by omega⟩ ⟨by omega, by omega⟩ (by decide)) ?_
    refine jr_1 jm_104 (show jw_cd cd_104 11 = some (.aload_n 0) by decide +kernel) rfl ?_
    refine jr_1 jm_104 (show jw_cd cd_104 12 = some (.aload_n 0) by decide +kernel) rfl ?_
    refine jr_1 jm_104 (show jw_cd cd_104 13 = some (.getfield 19) by decide +kernel) (cg_4 (e := p) e4 (show jw_fld 2 19 1 = some 2 by decide +kernel)) ?_
    refine jr_c jm_104 (show jw_cd cd_104 16 = some (.invokevirtual 32) by decide +kernel) (ccv (n := 1) (m2 := 62) (ci := 1) (a := 1) (bs := [.int (Int32.ofInt (p))]) (r := []) (js_cls cl_c1 (by decide)) (show jw_find jw_cvT 2 32 = some (1, [(1, 62)]) by decide +kernel) (by decide) rfl rfl rfl) jm_62 ⟨Nat.le_of_ble_eq_true rfl, by decide⟩ (jc_wrongW hl hW) ?_
    refine jr_1 jm_104 (show jw_cd cd_104 19 = some (.aload_n 0) by decide +kernel) rfl ?_
    refine jr_1 jm_104 (show jw_cd cd_104 20 = some (.getfield 22) by decide +kernel) (cg_5 (e := e) hW.1 (show jw_fld 2 22 1 = some 3 by decide +kernel)) ?_
    refine jr_1 jm_104 (F2 := (24, [some (.ref 1), some (.int (Int32.ofInt (e)))], [], (cl_mk h κ))) (show jw_cd cd_104 23 = some (.istore_n 1) by decide +kernel) rfl ?_
    refine jr_1 jm_104 (show jw_cd cd_104 24 = some (.aload_n 0) by decide +kernel) rfl ?_
    refine jr_1 jm_104 (show jw_cd cd_104 25 = some (.iconst 0) by decide +kernel) rfl ?_
    refine jr_1 jm_104 (show jw_cd cd_104 26 = some (.putfield 15) by decide +kernel) (cp_3 (x := 0) (show jw_fld 2 15 1 = some 1 by decide +kernel) (show jw_fm 2 1 1 = some false by decide +kernel)) ?_
    refine jr_1 jm_104 (show jw_cd cd_104 29 = some (.aload_n 0) by decide +kernel) rfl ?_
    refine jr_1 jm_104 (show jw_cd cd_104 30 = some (.iconst 0) by decide +kernel) rfl ?_
    refine jr_1 jm_104 (show jw_cd cd_104 31 = some (.putfield 19) by decide +kernel) (cp_4 (x := 0) (show jw_fld 2 19 1 = some 2 by decide +kernel) (show jw_fm 2 1 2 = some false by decide +kernel)) ?_
    refine jr_1 jm_104 (show jw_cd cd_104 34 = some (.aload_n 0) by decide +kernel) rfl ?_
    refine jr_1 jm_104 (show jw_cd cd_104 35 = some (.iconst (-1)) by decide +kernel) rfl ?_
    refine jr_1 jm_104 (show jw_cd cd_104 36 = some (.putfield 22) by decide +kernel) (cp_5 (x := -1) (show jw_fld 2 22 1 = some 3 by decide +kernel) (show jw_fm 2 1 3 = some false by decide +kernel)) ?_
    refine jr_1 jm_104 (show jw_cd cd_104 39 = some (.iload_n 1) by decide +kernel) rfl ?_
    exact jr_v jm_104 (show jw_cd cd_104 40 = some (.ireturn) by decide +kernel) rfl
  · skip
    refine jr_1 jm_104 (show jw_cd cd_104 0 = some (.aload_n 0) by decide +kernel) rfl ?_
    refine jr_1 jm_104 (show jw_cd cd_104 1 = some (.getfield 19) by decide +kernel) (cg_4 (e := p) e4 (show jw_fld 2 19 1 = some 2 by decide +kernel)) ?_
    refine jr_1 jm_104 (show jw_cd cd_104 4 = some (.aload_n 0) by decide +kernel) rfl ?_
    refine jr_1 jm_104 (show jw_cd cd_104 5 = some (.getfield 15) by decide +kernel) (cg_3 (e := n) e3 (show jw_fld 2 15 1 = some 1 by decide +kernel)) ?_
    refine jr_1 jm_104 (show jw_cd cd_104 8 = some (.if_icmp .ge 11) by decide +kernel) (mb_t (q := .ge) (a := p) (b := n) (t := 19) (by show n ≤ p; omega) ⟨by omega, by omega⟩ ⟨by omega, by omega⟩ (by decide) (by decide)) ?_
    refine jr_1 jm_104 (show jw_cd cd_104 19 = some (.aload_n 0) by decide +kernel) rfl ?_
    refine jr_1 jm_104 (show jw_cd cd_104 20 = some (.getfield 22) by decide +kernel) (cg_5 (e := e) hW.1 (show jw_fld 2 22 1 = some 3 by decide +kernel)) ?_
    refine jr_1 jm_104 (F2 := (24, [some (.ref 1), some (.int (Int32.ofInt (e)))], [], (cl_mk h κ))) (show jw_cd cd_104 23 = some (.istore_n 1) by decide +kernel) rfl ?_
    refine jr_1 jm_104 (show jw_cd cd_104 24 = some (.aload_n 0) by decide +kernel) rfl ?_
    refine jr_1 jm_104 (show jw_cd cd_104 25 = some (.iconst 0) by decide +kernel) rfl ?_
    refine jr_1 jm_104 (show jw_cd cd_104 26 = some (.putfield 15) by decide +kernel) (cp_3 (x := 0) (show jw_fld 2 15 1 = some 1 by decide +kernel) (show jw_fm 2 1 1 = some false by decide +kernel)) ?_
    refine jr_1 jm_104 (show jw_cd cd_104 29 = some (.aload_n 0) by decide +kernel) rfl ?_
    refine jr_1 jm_104 (show jw_cd cd_104 30 = some (.iconst 0) by decide +kernel) rfl ?_
    refine jr_1 jm_104 (show jw_cd cd_104 31 = some (.putfield 19) by decide +kernel) (cp_4 (x := 0) (show jw_fld 2 19 1 = some 2 by decide +kernel) (show jw_fm 2 1 2 = some false by decide +kernel)) ?_
    refine jr_1 jm_104 (show jw_cd cd_104 34 = some (.aload_n 0) by decide +kernel) rfl ?_
    refine jr_1 jm_104 (show jw_cd cd_104 35 = some (.iconst (-1)) by decide +kernel) rfl ?_
    refine jr_1 jm_104 (show jw_cd cd_104 36 = some (.putfield 22) by decide +kernel) (cp_5 (x := -1) (show jw_fld 2 22 1 = some 3 by decide +kernel) (show jw_fm 2 1 3 = some false by decide +kernel)) ?_
    refine jr_1 jm_104 (show jw_cd cd_104 39 = some (.iload_n 1) by decide +kernel) rfl ?_
    exact jr_v jm_104 (show jw_cd cd_104 40 = some (.ireturn) by decide +kernel) rfl
