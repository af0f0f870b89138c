/-! ===== the class: follow, what it costs and its loop (printed by program: gen124.py) ===== -/
theorem jm_164 : jw_M 164 = some (9, 12, ((Option.some (Jvm.ClassFile.FieldType.object "PickDesk$Value")), false), jw_cd cd_164, fun _ _ => none) := rfl
theorem wS_mem : ∀ (l : List vT) (v : vT), v ∈ l → 1 + fct v.2 ≤ wS l
  | [], v, h => absurd h List.not_mem_nil
  | w :: l, v, h => by
    rw [wS_cons]
    rcases List.mem_cons.mp h with rfl | h
    · omega
    · have := wS_mem l v h
      omega
/-- how many lists steps make; how much room in their rows -/
def clN : List sE → vT → Nat
  | [], _ => 0
  | e :: l, v => if e.1 ≤ 1 then (match pckS e v with | none => 0 | some w => clN l w) else if fitP e v.1 = true then (if e.1 = 6 then 5 else 1) + ((selS e v.2).map (clN l)).sum else 0
def rsN : List sE → vT → Nat
  | [], _ => 0
  | e :: l, v => if e.1 ≤ 1 then (match pckS e v with | none => 0 | some w => rsN l w) else if fitP e v.1 = true then (if e.1 = 6 then 6 + 5 * fct v.2 else fsz v.2) + ((selS e v.2).map (rsN l)).sum else 0
def clO (l : List sE) : Option vT → Nat
  | none => 0
  | some v => clN l v
def rsO (l : List sE) : Option vT → Nat
  | none => 0
  | some v => rsN l v
theorem slI_fu {c b : Int} (hc : ¬ c = 0) : ∀ (f : Nat) (k : Int), (0 < c → b - k ≤ f) → (c < 0 → k - b ≤ f) → slI c b (f + 1) k = slI c b f k
  | 0, k, h1, h2 => by
    show (if (0 < c ∧ k < b) ∨ (c ≤ 0 ∧ b < k) then k :: slI c b 0 (k + c) else []) = []
    rw [if_neg (by
      rintro (z | z)
      · have := h1 z.1
        omega
      · have := h2 (by omega)
        omega)]
  | f + 1, k, h1, h2 => by
    show (if (0 < c ∧ k < b) ∨ (c ≤ 0 ∧ b < k) then k :: slI c b (f + 1) (k + c) else []) = (if (0 < c ∧ k < b) ∨ (c ≤ 0 ∧ b < k) then k :: slI c b f (k + c) else [])
    rw [slI_fu hc f (k + c) (fun z => by have := h1 z; omega) (fun z => by have := h2 z; omega)]
theorem slI_all (L : List vT) : ∀ (f k : Nat), k + f = L.length → (slI 1 (L.length : Int) f (k : Int)).filterMap (fun j => L[j.toNat]?) = L.drop k
  | 0, k, h => by
    rw [List.drop_eq_nil_iff.mpr (by omega)]
    rfl
  | f + 1, k, h => by
    have hk : k < L.length := by omega
    have e1 : slI 1 (L.length : Int) (f + 1) (k : Int) = (k : Int) :: slI 1 (L.length : Int) f ((k + 1 : Nat) : Int) := if_pos (Or.inl ⟨by decide, by omega⟩)
    rw [e1, List.filterMap_cons, show L[((k : Int)).toNat]? = some L[k] by rw [Int.toNat_natCast]; exact List.getElem?_eq_getElem hk]
    show L[k] :: _ = _
    rw [slI_all L f (k + 1) (by omega)]
    exact (List.drop_eq_getElem_cons hk).symm
/-- what the class goes over -/
def rwL (e : sE) (F : FT) : List vT := if e.1 = 6 then flatS F else sib F
def bdS (z x : Int) (n : Nat) : Int := clp (slLo z) (slHi z (n : Int)) (if x < 0 then x + (n : Int) else x)
def itf (e : sE) (w : vT) : Bool := if e.1 = 4 then holS e.2.2.2.1 e.2.2.2.2.1 e.2.2.2.2.2 w else true
def itS (e : sE) (L : List vT) : List vT := (slI (cby e) (bdS (cby e) (cen e) L.length) L.length (bdS (cby e) (cfr e) L.length)).filterMap fun k => L[k.toNat]?
theorem itS_sel {e : sE} {F : FT} (he : stO e) (h1 : ¬ e.1 ≤ 1) (hsz : (rwL e F).length ≤ 1000) : selS e F = (itS e (rwL e F)).filter (itf e) := by
  obtain ⟨e0, e6⟩ := he.1
  by_cases h5 : e.1 = 5
  · obtain ⟨hnu, hc⟩ := he.2.2.2.2 h5
    have eR : rwL e F = sib F := if_neg (by omega)
    have eI : ∀ w, itf e w = true := fun w => if_neg (by omega)
    rw [eR] at hsz
    rw [eR, List.filter_eq_self.mpr (fun a _ => eI a)]
    have es : selS e F = slS e.2.2.1 F := by
      unfold selS
      rw [if_neg (by omega), if_pos h5]
    rw [es]
    unfold slS itS
    have ez : cby e = slC e.2.2.1 := if_pos h5
    rw [sib_sz] at hsz ⊢
    obtain ⟨p, ep⟩ : ∃ p, p = e.2.2.1 := ⟨_, rfl⟩
    rw [← ep] at hnu hc ez ⊢
    have efr : cfr e = (if p.1 % 2 = 1 then p.2.1 else if 0 < slC p then 0 else 1000000) := by
      unfold cfr
      rw [if_neg (by omega), if_pos h5, ← ep]
    have een : cen e = (if p.1 / 2 % 2 = 1 then p.2.2.1 else if 0 < slC p then 1000000 else -1000000) := by
      unfold cen
      rw [if_pos h5, ← ep]
    have eA : bdS (cby e) (cfr e) (fsz F) = slA p (fsz F) := by
      unfold bdS slA
      rw [ez, efr]
      by_cases hb : p.1 % 2 = 1
      · rw [if_pos hb, if_pos hb]
      · rw [if_neg hb, if_neg hb]
        by_cases hz : 0 < slC p
        · rw [if_pos hz, if_neg (by decide), if_pos hz]
          unfold slLo
          rw [if_pos hz]
        · rw [if_neg hz, if_neg (by decide), if_neg hz]
          unfold clp slLo slHi
          rw [if_neg hz, if_neg hz]
          split <;> split <;> (try split) <;> omega
    have eB : bdS (cby e) (cen e) (fsz F) = slB p (fsz F) := by
      unfold bdS slB
      rw [ez, een]
      by_cases hb : p.1 / 2 % 2 = 1
      · rw [if_pos hb, if_pos hb]
      · rw [if_neg hb, if_neg hb]
        by_cases hz : 0 < slC p
        · rw [if_pos hz, if_neg (by decide), if_pos hz]
          unfold clp slLo slHi
          rw [if_pos hz, if_pos hz]
          split <;> split <;> (try split) <;> omega
        · rw [if_neg hz, if_pos (by decide), if_neg hz]
          unfold clp slLo slHi
          rw [if_neg hz, if_neg hz]
          split <;> split <;> (try split) <;> omega
    rw [eA, eB, ez]
    have hA := slA_r p (n := (fsz F : Int)) (by omega)
    have hB := slB_r p (n := (fsz F : Int)) (by omega)
    rw [slI_fu hc (fsz F) _ (fun z => by
      have a1 : slLo (slC p) = 0 := if_pos z
      have a2 : slHi (slC p) (fsz F : Int) = (fsz F : Int) := if_pos z
      omega) (fun z => by
      have a1 : slLo (slC p) = -1 := if_neg (by omega)
      have a2 : slHi (slC p) (fsz F : Int) = (fsz F : Int) - 1 := if_neg (by omega)
      omega)]
  · have ez : cby e = 1 := if_neg h5
    have efr : cfr e = 0 := by unfold cfr; rw [if_neg (by omega), if_neg h5]
    have een : cen e = 1000000 := if_neg h5
    obtain ⟨L, eL⟩ : ∃ L, L = rwL e F := ⟨_, rfl⟩
    rw [← eL] at hsz ⊢
    have eA : bdS 1 0 L.length = ((0 : Nat) : Int) := by
      have a1 : slLo 1 = 0 := by decide
      have a2 : slHi 1 (L.length : Int) = (L.length : Int) := if_pos (by decide)
      unfold bdS
      rw [a1, a2, if_neg (show ¬ (0 : Int) < 0 by decide)]
      unfold clp
      split <;> (try split) <;> omega
    have eB : bdS 1 1000000 L.length = (L.length : Int) := by
      have a1 : slLo 1 = 0 := by decide
      have a2 : slHi 1 (L.length : Int) = (L.length : Int) := if_pos (by decide)
      unfold bdS
      rw [a1, a2, if_neg (show ¬ (1000000 : Int) < 0 by decide)]
      unfold clp
      split <;> (try split) <;> omega
    have eI : itS e L = L := by
      unfold itS
      rw [ez, efr, een, eA, eB, slI_all L L.length 0 (by omega)]
      rfl
    rw [eI, eL]
    unfold selS rwL
    by_cases h4 : e.1 = 4
    · rw [if_pos h4, if_neg (by omega)]
      have ef : itf e = fun v : vT => holS e.2.2.2.1 e.2.2.2.2.1 e.2.2.2.2.2 v := funext (fun w => if_pos h4)
      rw [ef]
    · have ef : ∀ a : vT, itf e a = true := fun a => if_neg h4
      rw [if_neg h4, if_neg h5, List.filter_eq_self.mpr (fun a _ => ef a)]
theorem jc_foX {β : Bool} {d : Nat} {h : jx_H} {κ : mS} (hl : 50 ≤ h.length) {sg i en v0 sp rw a q n rt rka ria kt : Nat} {e : sE} {pl b r1 r2 : Int} {le ri : Value} {t11 : Option Value} (hsp : 50 ≤ sp ∧ sp < 4000000000) (hrw : 50 ≤ rw ∧ rw < 4000000000) (oS : h[sp]? = some (.inr (14, [.int (Int32.ofInt (ckd e.1)), .ref kt, .int (Int32.ofInt (cfr e)), .int (Int32.ofInt (cen e)), .int (Int32.ofInt (cby e)), le, .int (Int32.ofInt (cgg e)), ri]))) (oR : h[rw]? = some (.inr (5, [.int (Int32.ofInt (r1)), .int (Int32.ofInt (r2)), .ref rt, .ref rka, .ref ria, .int (Int32.ofInt (((n : Nat) : Int)))]))) (hq : q ≤ n ∧ n ≤ 1000000) (hz1 : mr (cby e)) (hb : -2000000 ≤ b ∧ b ≤ 2000000) (hpl : -2000000000 ≤ pl ∧ pl ≤ 2000000000) (hx : q = n ∨ ¬ ((0 < cby e ∧ pl < b) ∨ (cby e ≤ 0 ∧ b < pl))) : jx_r (jz β) jw_M (d) 164 (188, [some (.ref 10), some (.ref sg), some (.int (Int32.ofInt (((i : Nat) : Int)))), some (.int (Int32.ofInt (((en : Nat) : Int)))), some (.ref v0), some (.ref sp), some (.ref rw), some (.ref a), some (.int (Int32.ofInt (pl))), some (.int (Int32.ofInt (b))), some (.int (Int32.ofInt (((q : Nat) : Int)))), t11], [], (cl_mk h κ)) (cl_mk h (κ), .inl (some (.ref (a)))) := by
  by_cases hqn : q = n
  · refine jr_1 jm_164 (show jw_cd cd_164 188 = some (.iload 10) by decide +kernel) rfl ?_
    refine jr_1 jm_164 (show jw_cd cd_164 190 = some (.aload 6) by decide +kernel) rfl ?_
    refine jr_1 jm_164 (show jw_cd cd_164 192 = some (.getfield 99) by decide +kernel) (js_getf (cl_old hl ⟨by omega, oR⟩) (jbg (by omega)) (show jw_fld 9 99 5 = some 5 by decide +kernel) rfl) ?_
    refine jr_1 jm_164 (show jw_cd cd_164 195 = some (.if_icmp .ge 90) by decide +kernel) (mb_t (q := .ge) (a := ((q : Nat) : Int)) (b := ((n : Nat) : Int)) (t := 285) (by show ((n : Nat) : Int) ≤ ((q : Nat) : Int); omega) ⟨by omega, by omega⟩ ⟨by omega, by omega⟩ (by decide) (by decide)) ?_
    refine jr_1 jm_164 (show jw_cd cd_164 285 = some (.aload 7) by decide +kernel) rfl ?_
    exact jr_v jm_164 (show jw_cd cd_164 287 = some (.areturn) by decide +kernel) rfl
  have hx : ¬ ((0 < cby e ∧ pl < b) ∨ (cby e ≤ 0 ∧ b < pl)) := by
    rcases hx with z | z
    · exact absurd z hqn
    · exact z
  by_cases hz : 0 < cby e
  · refine jr_1 jm_164 (show jw_cd cd_164 188 = some (.iload 10) by decide +kernel) rfl ?_
    refine jr_1 jm_164 (show jw_cd cd_164 190 = some (.aload 6) by decide +kernel) rfl ?_
    refine jr_1 jm_164 (show jw_cd cd_164 192 = some (.getfield 99) by decide +kernel) (js_getf (cl_old hl ⟨by omega, oR⟩) (jbg (by omega)) (show jw_fld 9 99 5 = some 5 by decide +kernel) rfl) ?_
    refine jr_1 jm_164 (show jw_cd cd_164 195 = some (.if_icmp .ge 90) by decide +kernel) (mb_f (q := .ge) (a := ((q : Nat) : Int)) (b := ((n : Nat) : Int)) (by show ¬ (((n : Nat) : Int) ≤ ((q : Nat) : Int)); omega) ⟨by omega, by omega⟩ ⟨by omega, by omega⟩ (by decide)) ?_
    refine jr_1 jm_164 (show jw_cd cd_164 198 = some (.aload 5) by decide +kernel) rfl ?_
    refine jr_1 jm_164 (show jw_cd cd_164 200 = some (.getfield 112) by decide +kernel) (js_getf (cl_old hl ⟨by omega, oS⟩) (jbg (by omega)) (show jw_fld 9 112 14 = some 4 by decide +kernel) rfl) ?_
    refine jr_1 jm_164 (show jw_cd cd_164 203 = some (.ifCond .le 13) by decide +kernel) (mz_f (q := .le) (a := cby e) (by show ¬ (cby e ≤ 0); omega) hz1 (by decide)) ?_
    refine jr_1 jm_164 (show jw_cd cd_164 206 = some (.iload 8) by decide +kernel) rfl ?_
    refine jr_1 jm_164 (show jw_cd cd_164 208 = some (.iload 9) by decide +kernel) rfl ?_
    refine jr_1 jm_164 (show jw_cd cd_164 210 = some (.if_icmp .ge 75) by decide +kernel) (mb_t (q := .ge) (a := pl) (b := b) (t := 285) (by show b ≤ pl; omega) ⟨by omega, by omega⟩ ⟨by omega, by omega⟩ (by decide) (by decide)) ?_
    refine jr_1 jm_164 (show jw_cd cd_164 285 = some (.aload 7) by decide +kernel) rfl ?_
    exact jr_v jm_164 (show jw_cd cd_164 287 = some (.areturn) by decide +kernel) rfl
  · refine jr_1 jm_164 (show jw_cd cd_164 188 = some (.iload 10) by decide +kernel) rfl ?_
    refine jr_1 jm_164 (show jw_cd cd_164 190 = some (.aload 6) by decide +kernel) rfl ?_
    refine jr_1 jm_164 (show jw_cd cd_164 192 = some (.getfield 99) by decide +kernel) (js_getf (cl_old hl ⟨by omega, oR⟩) (jbg (by omega)) (show jw_fld 9 99 5 = some 5 by decide +kernel) rfl) ?_
    refine jr_1 jm_164 (show jw_cd cd_164 195 = some (.if_icmp .ge 90) by decide +kernel) (mb_f (q := .ge) (a := ((q : Nat) : Int)) (b := ((n : Nat) : Int)) (by show ¬ (((n : Nat) : Int) ≤ ((q : Nat) : Int)); omega) ⟨by omega, by omega⟩ ⟨by omega, by omega⟩ (by decide)) ?_
    refine jr_1 jm_164 (show jw_cd cd_164 198 = some (.aload 5) by decide +kernel) rfl ?_
    refine jr_1 jm_164 (show jw_cd cd_164 200 = some (.getfield 112) by decide +kernel) (js_getf (cl_old hl ⟨by omega, oS⟩) (jbg (by omega)) (show jw_fld 9 112 14 = some 4 by decide +kernel) rfl) ?_
    refine jr_1 jm_164 (show jw_cd cd_164 203 = some (.ifCond .le 13) by decide +kernel) (mz_t (q := .le) (a := cby e) (t := 216) (by show cby e ≤ 0; omega) hz1 (by decide) (by decide)) ?_
    refine jr_1 jm_164 (show jw_cd cd_164 216 = some (.iload 8) by decide +kernel) rfl ?_
    refine jr_1 jm_164 (show jw_cd cd_164 218 = some (.iload 9) by decide +kernel) rfl ?_
    refine jr_1 jm_164 (show jw_cd cd_164 220 = some (.if_icmp .le 65) by decide +kernel) (mb_t (q := .le) (a := pl) (b := b) (t := 285) (by show pl ≤ b; omega) ⟨by omega, by omega⟩ ⟨by omega, by omega⟩ (by decide) (by decide)) ?_
    refine jr_1 jm_164 (show jw_cd cd_164 285 = some (.aload 7) by decide +kernel) rfl ?_
    exact jr_v jm_164 (show jw_cd cd_164 287 = some (.areturn) by decide +kernel) rfl
theorem jc_foI {β : Bool} {d : Nat} {h : jx_H} {κ : mS} (hl : 50 ≤ h.length) {sg i en v0 sp rw a q n rt rka ria ric it kt : Nat} {e : sE} {pl b r1 r2 : Int} {le ri : Value} {rf : Nat → Value} {t11 : Option Value} (hsp : 50 ≤ sp ∧ sp < 4000000000) (hrw : 50 ≤ rw ∧ rw < 4000000000) (hria : 50 ≤ ria ∧ ria < 4000000000) (oS : h[sp]? = some (.inr (14, [.int (Int32.ofInt (ckd e.1)), .ref kt, .int (Int32.ofInt (cfr e)), .int (Int32.ofInt (cen e)), .int (Int32.ofInt (cby e)), le, .int (Int32.ofInt (cgg e)), ri]))) (oR : h[rw]? = some (.inr (5, [.int (Int32.ofInt (r1)), .int (Int32.ofInt (r2)), .ref rt, .ref rka, .ref ria, .int (Int32.ofInt (((n : Nat) : Int)))]))) (oI : h[ria]? = some (.inl (4, ric, rf))) (hric : n ≤ ric ∧ ric ≤ 1000000) (hq : q < n) (hz1 : mr (cby e)) (hb : -2000000 ≤ b ∧ b ≤ 2000000) (hpl : 0 ≤ pl ∧ pl < n) (hx : (0 < cby e ∧ pl < b) ∨ (cby e ≤ 0 ∧ b < pl)) (hit : rf pl.toNat = .ref it) {res : jx_H × (Option Value ⊕ Nat)} (kk : jx_r (jz β) jw_M (d) 164 (239, [some (.ref 10), some (.ref sg), some (.int (Int32.ofInt (((i : Nat) : Int)))), some (.int (Int32.ofInt (((en : Nat) : Int)))), some (.ref v0), some (.ref sp), some (.ref rw), some (.ref a), some (.int (Int32.ofInt (pl))), some (.int (Int32.ofInt (b))), some (.int (Int32.ofInt (((q : Nat) : Int)))), (some (.ref it))], [.int (Int32.ofInt (4)), .int (Int32.ofInt (ckd e.1))], (cl_mk h κ)) res) : jx_r (jz β) jw_M (d) 164 (188, [some (.ref 10), some (.ref sg), some (.int (Int32.ofInt (((i : Nat) : Int)))), some (.int (Int32.ofInt (((en : Nat) : Int)))), some (.ref v0), some (.ref sp), some (.ref rw), some (.ref a), some (.int (Int32.ofInt (pl))), some (.int (Int32.ofInt (b))), some (.int (Int32.ofInt (((q : Nat) : Int)))), t11], [], (cl_mk h κ)) res := by
  by_cases hz : 0 < cby e
  · refine jr_1 jm_164 (show jw_cd cd_164 188 = some (.iload 10) by decide +kernel) rfl ?_
    refine jr_1 jm_164 (show jw_cd cd_164 190 = some (.aload 6) by decide +kernel) rfl ?_
    refine jr_1 jm_164 (show jw_cd cd_164 192 = some (.getfield 99) by decide +kernel) (js_getf (cl_old hl ⟨by omega, oR⟩) (jbg (by omega)) (show jw_fld 9 99 5 = some 5 by decide +kernel) rfl) ?_
    refine jr_1 jm_164 (show jw_cd cd_164 195 = some (.if_icmp .ge 90) by decide +kernel) (mb_f (q := .ge) (a := ((q : Nat) : Int)) (b := ((n : Nat) : Int)) (by show ¬ (((n : Nat) : Int) ≤ ((q : Nat) : Int)); omega) ⟨by omega, by omega⟩ ⟨by omega, by omega⟩ (by decide)) ?_
    refine jr_1 jm_164 (show jw_cd cd_164 198 = some (.aload 5) by decide +kernel) rfl ?_
    refine jr_1 jm_164 (show jw_cd cd_164 200 = some (.getfield 112) by decide +kernel) (js_getf (cl_old hl ⟨by omega, oS⟩) (jbg (by omega)) (show jw_fld 9 112 14 = some 4 by decide +kernel) rfl) ?_
    refine jr_1 jm_164 (show jw_cd cd_164 203 = some (.ifCond .le 13) by decide +kernel) (mz_f (q := .le) (a := cby e) (by show ¬ (cby e ≤ 0); omega) hz1 (by decide)) ?_
    refine jr_1 jm_164 (show jw_cd cd_164 206 = some (.iload 8) by decide +kernel) rfl ?_
    refine jr_1 jm_164 (show jw_cd cd_164 208 = some (.iload 9) by decide +kernel) rfl ?_
    refine jr_1 jm_164 (show jw_cd cd_164 210 = some (.if_icmp .ge 75) by decide +kernel) (mb_f (q := .ge) (a := pl) (b := b) (by show ¬ (b ≤ pl); omega) ⟨by omega, by omega⟩ ⟨by omega, by omega⟩ (by decide)) ?_
    refine jr_1 jm_164 (show jw_cd cd_164 213 = some (.goto 10) by decide +kernel) (ju_go (t := 223) (by decide)) ?_
    refine jr_1 jm_164 (show jw_cd cd_164 223 = some (.aload 6) by decide +kernel) rfl ?_
    refine jr_1 jm_164 (show jw_cd cd_164 225 = some (.getfield 115) by decide +kernel) (js_getf (cl_old hl ⟨by omega, oR⟩) (jbg (by omega)) (show jw_fld 9 115 5 = some 4 by decide +kernel) rfl) ?_
    refine jr_1 jm_164 (show jw_cd cd_164 228 = some (.iload 8) by decide +kernel) rfl ?_
    refine jr_1 jm_164 (show jw_cd cd_164 230 = some (.aaload) by decide +kernel) (cal_a (e := .ref it) (jx_ar_h (cl_old hl ⟨by omega, oI⟩) (jbg (by omega))) (Or.inl rfl) (by omega) (by omega) (by omega) hit) ?_
    refine jr_1 jm_164 (F2 := (233, [some (.ref 10), some (.ref sg), some (.int (Int32.ofInt (((i : Nat) : Int)))), some (.int (Int32.ofInt (((en : Nat) : Int)))), some (.ref v0), some (.ref sp), some (.ref rw), some (.ref a), some (.int (Int32.ofInt (pl))), some (.int (Int32.ofInt (b))), some (.int (Int32.ofInt (((q : Nat) : Int)))), some (.ref it)], [], (cl_mk h κ))) (show jw_cd cd_164 231 = some (.astore 11) by decide +kernel) rfl ?_
    refine jr_1 jm_164 (show jw_cd cd_164 233 = some (.aload 5) by decide +kernel) rfl ?_
    refine jr_1 jm_164 (show jw_cd cd_164 235 = some (.getfield 70) by decide +kernel) (js_getf (cl_old hl ⟨by omega, oS⟩) (jbg (by omega)) (show jw_fld 9 70 14 = some 0 by decide +kernel) rfl) ?_
    refine jr_1 jm_164 (show jw_cd cd_164 238 = some (.iconst 4) by decide +kernel) rfl ?_
    exact kk
  · refine jr_1 jm_164 (show jw_cd cd_164 188 = some (.iload 10) by decide +kernel) rfl ?_
    refine jr_1 jm_164 (show jw_cd cd_164 190 = some (.aload 6) by decide +kernel) rfl ?_
    refine jr_1 jm_164 (show jw_cd cd_164 192 = some (.getfield 99) by decide +kernel) (js_getf (cl_old hl ⟨by omega, oR⟩) (jbg (by omega)) (show jw_fld 9 99 5 = some 5 by decide +kernel) rfl) ?_
    refine jr_1 jm_164 (show jw_cd cd_164 195 = some (.if_icmp .ge 90) by decide +kernel) (mb_f (q := .ge) (a := ((q : Nat) : Int)) (b := ((n : Nat) : Int)) (by show ¬ (((n : Nat) : Int) ≤ ((q : Nat) : Int)); omega) ⟨by omega, by omega⟩ ⟨by omega, by omega⟩ (by decide)) ?_
    refine jr_1 jm_164 (show jw_cd cd_164 198 = some (.aload 5) by decide +kernel) rfl ?_
    refine jr_1 jm_164 (show jw_cd cd_164 200 = some (.getfield 112) by decide +kernel) (js_getf (cl_old hl ⟨by omega, oS⟩) (jbg (by omega)) (show jw_fld 9 112 14 = some 4 by decide +kernel) rfl) ?_
    refine jr_1 jm_164 (show jw_cd cd_164 203 = some (.ifCond .le 13) by decide +kernel) (mz_t (q := .le) (a := cby e) (t := 216) (by show cby e ≤ 0; omega) hz1 (by decide) (by decide)) ?_
    refine jr_1 jm_164 (show jw_cd cd_164 216 = some (.iload 8) by decide +kernel) rfl ?_
    refine jr_1 jm_164 (show jw_cd cd_164 218 = some (.iload 9) by decide +kernel) rfl ?_
    refine jr_1 jm_164 (show jw_cd cd_164 220 = some (.if_icmp .le 65) by decide +kernel) (mb_f (q := .le) (a := pl) (b := b) (by show ¬ (pl ≤ b); omega) ⟨by omega, by omega⟩ ⟨by omega, by omega⟩ (by decide)) ?_
    refine jr_1 jm_164 (show jw_cd cd_164 223 = some (.aload 6) by decide +kernel) rfl ?_
    refine jr_1 jm_164 (show jw_cd cd_164 225 = some (.getfield 115) by decide +kernel) (js_getf (cl_old hl ⟨by omega, oR⟩) (jbg (by omega)) (show jw_fld 9 115 5 = some 4 by decide +kernel) rfl) ?_
    refine jr_1 jm_164 (show jw_cd cd_164 228 = some (.iload 8) by decide +kernel) rfl ?_
    refine jr_1 jm_164 (show jw_cd cd_164 230 = some (.aaload) by decide +kernel) (cal_a (e := .ref it) (jx_ar_h (cl_old hl ⟨by omega, oI⟩) (jbg (by omega))) (Or.inl rfl) (by omega) (by omega) (by omega) hit) ?_
    refine jr_1 jm_164 (F2 := (233, [some (.ref 10), some (.ref sg), some (.int (Int32.ofInt (((i : Nat) : Int)))), some (.int (Int32.ofInt (((en : Nat) : Int)))), some (.ref v0), some (.ref sp), some (.ref rw), some (.ref a), some (.int (Int32.ofInt (pl))), some (.int (Int32.ofInt (b))), some (.int (Int32.ofInt (((q : Nat) : Int)))), some (.ref it)], [], (cl_mk h κ))) (show jw_cd cd_164 231 = some (.astore 11) by decide +kernel) rfl ?_
    refine jr_1 jm_164 (show jw_cd cd_164 233 = some (.aload 5) by decide +kernel) rfl ?_
    refine jr_1 jm_164 (show jw_cd cd_164 235 = some (.getfield 70) by decide +kernel) (js_getf (cl_old hl ⟨by omega, oS⟩) (jbg (by omega)) (show jw_fld 9 70 14 = some 0 by decide +kernel) rfl) ?_
    refine jr_1 jm_164 (show jw_cd cd_164 238 = some (.iconst 4) by decide +kernel) rfl ?_
    exact kk
theorem jc_foN {β : Bool} {d : Nat} {h : jx_H} {κ : mS} (hl : 50 ≤ h.length) {sg i en v0 sp rw a q it kt : Nat} {e : sE} {pl b : Int} {le ri : Value} (hsp : 50 ≤ sp ∧ sp < 4000000000) (oS : h[sp]? = some (.inr (14, [.int (Int32.ofInt (ckd e.1)), .ref kt, .int (Int32.ofInt (cfr e)), .int (Int32.ofInt (cen e)), .int (Int32.ofInt (cby e)), le, .int (Int32.ofInt (cgg e)), ri]))) {res : jx_H × (Option Value ⊕ Nat)} (kk : jx_r (jz β) jw_M (d) 164 (188, [some (.ref 10), some (.ref sg), some (.int (Int32.ofInt (((i : Nat) : Int)))), some (.int (Int32.ofInt (((en : Nat) : Int)))), some (.ref v0), some (.ref sp), some (.ref rw), some (.ref a), some (.int (Int32.ofInt (pl + cby e))), some (.int (Int32.ofInt (b))), some (.int (Int32.ofInt (((q + 1 : Nat) : Int)))), some (.ref it)], [], (cl_mk h κ)) res) : jx_r (jz β) jw_M (d) 164 (269, [some (.ref 10), some (.ref sg), some (.int (Int32.ofInt (((i : Nat) : Int)))), some (.int (Int32.ofInt (((en : Nat) : Int)))), some (.ref v0), some (.ref sp), some (.ref rw), some (.ref a), some (.int (Int32.ofInt (pl))), some (.int (Int32.ofInt (b))), some (.int (Int32.ofInt (((q : Nat) : Int)))), some (.ref it)], [], (cl_mk h κ)) res := by
  refine jr_1 jm_164 (show jw_cd cd_164 269 = some (.iload 8) by decide +kernel) rfl ?_
  refine jr_1 jm_164 (show jw_cd cd_164 271 = some (.aload 5) by decide +kernel) rfl ?_
  refine jr_1 jm_164 (show jw_cd cd_164 273 = some (.getfield 112) by decide +kernel) (js_getf (cl_old hl ⟨by omega, oS⟩) (jbg (by omega)) (show jw_fld 9 112 14 = some 4 by decide +kernel) rfl) ?_
  refine jr_1 jm_164 (show jw_cd cd_164 276 = some (.iadd) by decide +kernel) (mt_add (c := pl + cby e) rfl) ?_
  refine jr_1 jm_164 (F2 := (279, [some (.ref 10), some (.ref sg), some (.int (Int32.ofInt (((i : Nat) : Int)))), some (.int (Int32.ofInt (((en : Nat) : Int)))), some (.ref v0), some (.ref sp), some (.ref rw), some (.ref a), some (.int (Int32.ofInt (pl + cby e))), some (.int (Int32.ofInt (b))), some (.int (Int32.ofInt (((q : Nat) : Int)))), some (.ref it)], [], (cl_mk h κ))) (show jw_cd cd_164 277 = some (.istore 8) by decide +kernel) rfl ?_
  refine jr_1 jm_164 (F2 := (282, [some (.ref 10), some (.ref sg), some (.int (Int32.ofInt (((i : Nat) : Int)))), some (.int (Int32.ofInt (((en : Nat) : Int)))), some (.ref v0), some (.ref sp), some (.ref rw), some (.ref a), some (.int (Int32.ofInt (pl + cby e))), some (.int (Int32.ofInt (b))), some (.int (Int32.ofInt (((q : Nat) : Int) + 1))), some (.ref it)], [], (cl_mk h κ))) (show jw_cd cd_164 279 = some (.iinc 10 1) by decide +kernel) (mt_inc (a := ((q : Nat) : Int)) (c := ((q : Nat) : Int) + 1) rfl (by omega) rfl) ?_
  refine jr_1 jm_164 (show jw_cd cd_164 282 = some (.goto (-94)) by decide +kernel) (ju_go (t := 188) (by decide)) ?_
  exact kk
theorem jc_foA {β : Bool} {d : Nat} {h h1 h2 : jx_H} {κ : mS} (hl1 : 50 ≤ h1.length) {sg i en v0 sp rw a q it c ka ia : Nat} {pl b x : Int} (ha : 50 ≤ a ∧ a < 4000000000) (oA1 : h1[a]? = some (.inr (5, [.int (Int32.ofInt (5)), .int (Int32.ofInt (0)), .ref (jx_big + 9), .ref ka, .ref ia, .int (Int32.ofInt (x))]))) (c1 : jx_r (jz β) jw_M (d) 164 (0, [some (.ref 10), some (.ref sg), some (.int (Int32.ofInt (((i + 1 : Nat) : Int)))), some (.int (Int32.ofInt (((en : Nat) : Int)))), some (.ref it), none, none, none, none, none, none, none], [], (cl_mk h κ)) (cl_mk h1 (κ), .inl (some (.ref (c))))) (c2 : jx_r (jz β) jw_M (d) 174 (0, [some (.ref a), some (.ref c)], [], (cl_mk h1 κ)) (cl_mk h2 (κ), .inl none)) {res : jx_H × (Option Value ⊕ Nat)} (kk : jx_r (jz β) jw_M (d + 1) 164 (269, [some (.ref 10), some (.ref sg), some (.int (Int32.ofInt (((i : Nat) : Int)))), some (.int (Int32.ofInt (((en : Nat) : Int)))), some (.ref v0), some (.ref sp), some (.ref rw), some (.ref a), some (.int (Int32.ofInt (pl))), some (.int (Int32.ofInt (b))), some (.int (Int32.ofInt (((q : Nat) : Int)))), some (.ref it)], [], (cl_mk h2 κ)) res) : jx_r (jz β) jw_M (d + 1) 164 (253, [some (.ref 10), some (.ref sg), some (.int (Int32.ofInt (((i : Nat) : Int)))), some (.int (Int32.ofInt (((en : Nat) : Int)))), some (.ref v0), some (.ref sp), some (.ref rw), some (.ref a), some (.int (Int32.ofInt (pl))), some (.int (Int32.ofInt (b))), some (.int (Int32.ofInt (((q : Nat) : Int)))), some (.ref it)], [], (cl_mk h κ)) res := by
  refine jr_1 jm_164 (show jw_cd cd_164 253 = some (.aload 7) by decide +kernel) rfl ?_
  refine jr_1 jm_164 (show jw_cd cd_164 255 = some (.aload_n 0) by decide +kernel) rfl ?_
  refine jr_1 jm_164 (show jw_cd cd_164 256 = some (.aload_n 1) by decide +kernel) rfl ?_
  refine jr_1 jm_164 (show jw_cd cd_164 257 = some (.iload_n 2) by decide +kernel) rfl ?_
  refine jr_1 jm_164 (show jw_cd cd_164 258 = some (.iconst 1) by decide +kernel) rfl ?_
  refine jr_1 jm_164 (show jw_cd cd_164 259 = some (.iadd) by decide +kernel) (mt_add (c := ((i : Nat) : Int) + 1) rfl) ?_
  refine jr_1 jm_164 (show jw_cd cd_164 260 = some (.iload_n 3) by decide +kernel) rfl ?_
  refine jr_1 jm_164 (show jw_cd cd_164 261 = some (.aload 11) by decide +kernel) rfl ?_
  refine jr_c jm_164 (show jw_cd cd_164 263 = some (.invokevirtual 73) by decide +kernel) (ccv (n := 4) (m2 := 164) (ci := 6) (a := 10) (bs := [.ref sg, .int (Int32.ofInt (((i : Nat) : Int) + 1)), .int (Int32.ofInt (((en : Nat) : Int))), .ref it]) (r := [.ref a]) (js_cls cl_c10 (by decide)) (show jw_find jw_cvT 9 73 = some (4, [(6, 164)]) by decide +kernel) (by decide) rfl rfl rfl) jm_164 ⟨Nat.le_of_ble_eq_true rfl, by decide⟩ c1 ?_
  refine jr_c jm_164 (show jw_cd cd_164 266 = some (.invokevirtual 123) by decide +kernel) (ccv (n := 1) (m2 := 174) (ci := 5) (a := a) (bs := [.ref c]) (r := []) (js_cls (cl_old hl1 ⟨by omega, oA1⟩) (jbg (by omega))) (show jw_find jw_cvT 9 123 = some (1, [(5, 174)]) by decide +kernel) (by decide) rfl rfl rfl) jm_174 ⟨Nat.le_of_ble_eq_true rfl, by decide⟩ c2 ?_
  exact kk
