/-! ===== the class: the loop of follow (printed by program: gen125.py) ===== -/
/-- a stage's steps in the heap -/
def stgR (h : jx_H) (X : Nat → Prop) (sg tt la ea cap : Nat) (fs : Nat → Value) (ls : List sE) : Prop := (zc X sg ∧ h[sg]? = some (.inr (13, [.null, .ref tt, .ref la]))) ∧ alC h X la ea cap ls.length fs ∧ spL h X fs ls ∧ (∀ e ∈ ls, stO e) ∧ ls.length ≤ 100
theorem stgR_fr {h h' : jx_H} {X X' : Nat → Prop} (hq : hQ h h' X X') {sg tt la ea cap : Nat} {fs : Nat → Value} {ls : List sE} (hs : stgR h X sg tt la ea cap fs ls) : stgR h' X' sg tt la ea cap fs ls := by
  obtain ⟨⟨z, hA⟩, h2, h3, h4⟩ := hs
  have q1 := hq sg _ z hA
  exact ⟨⟨q1.1, q1.2⟩, alC_fr hq h2, spL_fr hq h3, h4⟩
/-- a row of values to go over -/
def rowR (h : jx_H) (X : Nat → Prop) (rw : Nat) (L : List vT) : Prop := zc X rw ∧ ∃ (r1 r2 : Int) (rt rka ria ric : Nat) (rf : Nat → Value), zc X ria ∧ h[rw]? = some (.inr (5, [.int (Int32.ofInt (r1)), .int (Int32.ofInt (r2)), .ref rt, .ref rka, .ref ria, .int (Int32.ofInt (((L.length : Nat) : Int)))])) ∧ h[ria]? = some (.inl (4, ric, rf)) ∧ (L.length ≤ ric ∧ ric ≤ 1000000) ∧ ∀ (q : Nat) (y : vT), L[q]? = some y → ∃ it, rf q = .ref it ∧ vN h X it y.1 y.2
theorem rowR_fr {h h' : jx_H} {X X' : Nat → Prop} (hq : hQ h h' X X') {rw : Nat} {L : List vT} (hs : rowR h X rw L) : rowR h' X' rw L := by
  obtain ⟨z, r1, r2, rt, rka, ria, ric, rf, zi, oR, oI, hric, hel⟩ := hs
  have q1 := hq rw _ z oR
  have q2 := hq ria _ zi oI
  refine ⟨q1.1, r1, r2, rt, rka, ria, ric, rf, q2.1, q1.2, q2.2, hric, fun q y hy => ?_⟩
  obtain ⟨it, a1, a2⟩ := hel q y hy
  exact ⟨it, a1, vN_fr hq a2⟩
def flP (β : Bool) (l : List sE) : Prop := ∀ (D i en : Nat) (h : jx_H) (κ : mS) (X : Nat → Prop) (sg tt la ea cap : Nat) (fs : Nat → Value) (ls : List sE) (v0 : Nat) (x : Option vT), l = (ls.take en).drop i → i + l.length = en → en ≤ ls.length → l.length + 13 ≤ D → 50 ≤ h.length → (∀ c, h.length ≤ c → ¬ X c) → h.length + 3 * clO l x + 20 < 2700000000 → stgR h X sg tt la ea cap fs ls → vQ h X v0 x → (vok (dv x) ∧ cnV (dv x) ∧ fdp (dv x).2 ≤ 8 ∧ fct (dv x).2 ≤ 390) → ∃ (h' : jx_H) (c : Nat), jx_r (jz β) jw_M (D) 164 (0, [some (.ref 10), some (.ref sg), some (.int (Int32.ofInt (((i : Nat) : Int)))), some (.int (Int32.ofInt (((en : Nat) : Int)))), some (.ref v0), none, none, none, none, none, none, none], [], (cl_mk h κ)) (cl_mk h' (κ), .inl (some (.ref (c)))) ∧ vQ h' X c (x.bind (evS l)) ∧ (∀ (c : Nat) (y : jx_C), h[c]? = some y → h'[c]? = some y) ∧ (h.length ≤ h'.length ∧ h'.length ≤ h.length + 3 * clO l x) ∧ cvol h' ≤ cvol h + 6 * clO l x + rsO l x
theorem bL_x {h : jx_H} {X : Nat → Prop} {N0 a ka ia kc ic : Nat} {f g : Nat → Value} {kd : Int} {E : FT} (hb : bL h X N0 a ka ia kc ic f g kd E) : ∀ c, h.length ≤ c → ¬ bX X a ka ia c := fun c hc z => by
  obtain ⟨l1, l2, l3, n1, n2, n3, n0⟩ := bL_b hb
  rcases z with z | z | z | z
  · exact hb.2.1 c (by omega) z
  · omega
  · omega
  · omega
theorem ckd4 {e : sE} (he : 0 ≤ e.1 ∧ e.1 ≤ 6) : (ckd e.1 = 4 ↔ e.1 = 4) ∧ 0 ≤ ckd e.1 ∧ ckd e.1 ≤ 6 := by
  unfold ckd
  split
  · omega
  · split <;> omega
theorem jc_foL {β : Bool} {l : List sE} (hP : flP β l) {D i en : Nat} {κ : mS} {X : Nat → Prop} {N0 a ka ia sg tt la ea cap v0 sp rw : Nat} {fs g : Nat → Value} {ls : List sE} {e : sE} {L : List vT} {b : Int} (hle : l = (ls.take en).drop (i + 1)) (hil : i + 1 + l.length = en) (hen : en ≤ ls.length) (hD : l.length + 13 ≤ D) (he : stO e) (h1 : ¬ e.1 ≤ 1) (hL : L.length ≤ 1000) (hLp : ∀ y ∈ L, vok y ∧ cnV y ∧ fdp y.2 ≤ 8 ∧ fct y.2 ≤ 390) (hb : (0 < cby e → b ≤ L.length) ∧ (cby e ≤ 0 → -1 ≤ b) ∧ -2000000 ≤ b ∧ b ≤ 2000000) (hz : -1000000 < cby e ∧ cby e < 1000000 ∧ ¬ cby e = 0) : ∀ (f q : Nat) (pl : Int) (acc : List vT) (h : jx_H) (fr : Nat → Value) (t11 : Option Value), q + f = L.length → acc.length ≤ q → (0 < cby e → 0 ≤ pl) → (cby e ≤ 0 → pl ≤ L.length - 1) → -1001001 ≤ pl ∧ pl ≤ 1001001 → 50 ≤ h.length → bL h X N0 a ka ia 0 L.length fr g 5 (fl acc) → stgR h (bX X a ka ia) sg tt la ea cap fs ls → spR h (bX X a ka ia) sp e → rowR h (bX X a ka ia) rw L → h.length + 3 * ((((slI (cby e) b f pl).filterMap fun k => L[k.toNat]?).filter (itf e)).map (clN l)).sum + 20 < 2700000000 → ∃ (h' : jx_H) (fr' : Nat → Value), jx_r (jz β) jw_M (D + 1) 164 (188, [some (.ref 10), some (.ref sg), some (.int (Int32.ofInt (((i : Nat) : Int)))), some (.int (Int32.ofInt (((en : Nat) : Int)))), some (.ref v0), some (.ref sp), some (.ref rw), some (.ref a), some (.int (Int32.ofInt (pl))), some (.int (Int32.ofInt (b))), some (.int (Int32.ofInt (((q : Nat) : Int)))), t11], [], (cl_mk h κ)) (cl_mk h' (κ), .inl (some (.ref (a)))) ∧ bL h' X N0 a ka ia 0 L.length fr' g 5 (fl (acc ++ (((slI (cby e) b f pl).filterMap fun k => L[k.toNat]?).filter (itf e)).filterMap fun w => nnO (evS l w))) ∧ (∀ (c : Nat) (y : jx_C), c < N0 → h[c]? = some y → h'[c]? = some y) ∧ (h.length ≤ h'.length ∧ h'.length ≤ h.length + 3 * ((((slI (cby e) b f pl).filterMap fun k => L[k.toNat]?).filter (itf e)).map (clN l)).sum) ∧ cvol h' ≤ cvol h + 6 * ((((slI (cby e) b f pl).filterMap fun k => L[k.toNat]?).filter (itf e)).map (clN l)).sum + ((((slI (cby e) b f pl).filterMap fun k => L[k.toNat]?).filter (itf e)).map (rsN l)).sum := by
  intro f
  have he06 := he.1
  have hck := ckd4 he06
  have hzr : mr (cby e) := ⟨by omega, by omega⟩
  have stop : ∀ (f' q : Nat) (pl : Int) (acc : List vT) (h : jx_H) (fr : Nat → Value) (t11 : Option Value), q ≤ L.length → -1001001 ≤ pl ∧ pl ≤ 1001001 → 50 ≤ h.length → bL h X N0 a ka ia 0 L.length fr g 5 (fl acc) → spR h (bX X a ka ia) sp e → rowR h (bX X a ka ia) rw L → (q = L.length ∨ ¬ ((0 < cby e ∧ pl < b) ∨ (cby e ≤ 0 ∧ b < pl))) → jx_r (jz β) jw_M (D + 1) 164 (188, [some (.ref 10), some (.ref sg), some (.int (Int32.ofInt (((i : Nat) : Int)))), some (.int (Int32.ofInt (((en : Nat) : Int)))), some (.ref v0), some (.ref sp), some (.ref rw), some (.ref a), some (.int (Int32.ofInt (pl))), some (.int (Int32.ofInt (b))), some (.int (Int32.ofInt (((q : Nat) : Int)))), t11], [], (cl_mk h κ)) (cl_mk h (κ), .inl (some (.ref (a)))) := by
    intro f' q pl acc h fr t11 hq hpl hl hbl hsp hrow hx
    obtain ⟨zs, kt, le, ri, oS, -⟩ := hsp
    obtain ⟨zr, r1, r2, rt, rka, ria, ric, rf, zi, oR, oI, hric, hel⟩ := hrow
    exact jc_foX hl ⟨zs.1, zs.2.1⟩ ⟨zr.1, zr.2.1⟩ oS oR ⟨hq, by omega⟩ hzr ⟨hb.2.2.1, hb.2.2.2⟩ ⟨by omega, by omega⟩ hx
  induction f with
  | zero =>
    intro q pl acc h fr t11 hq hacc hp1 hp2 hpl hl hbl hst hsp hrow hlen
    refine ⟨h, fr, stop 0 q pl acc h fr t11 (by omega) hpl hl hbl hsp hrow (Or.inl (by omega)), by show bL h X N0 a ka ia 0 L.length fr g 5 (fl (acc ++ [])); rw [List.append_nil]; exact hbl, fun c y _ hy => hy, ⟨Nat.le_refl _, Nat.le_add_right _ _⟩, by omega⟩
  | succ f ih =>
    intro q pl acc h fr t11 hq hacc hp1 hp2 hpl hl hbl hst hsp hrow hlen
    obtain ⟨l1, l2, l3, n1, n2, n3, n0⟩ := bL_b hbl
    by_cases hc : ¬ ((0 < cby e ∧ pl < b) ∨ (cby e ≤ 0 ∧ b < pl))
    · have e0 : slI (cby e) b (f + 1) pl = [] := if_neg hc
      rw [e0] at hlen ⊢
      refine ⟨h, fr, stop 0 q pl acc h fr t11 (by omega) hpl hl hbl hsp hrow (Or.inr hc), by show bL h X N0 a ka ia 0 L.length fr g 5 (fl (acc ++ [])); rw [List.append_nil]; exact hbl, fun c y _ hy => hy, ⟨Nat.le_refl _, Nat.le_add_right _ _⟩, by omega⟩
    have hc : (0 < cby e ∧ pl < b) ∨ (cby e ≤ 0 ∧ b < pl) := Classical.byContradiction hc
    have hr : 0 ≤ pl ∧ pl < L.length := by
      rcases hc with z | z
      · have := hp1 z.1
        have := hb.1 z.1
        omega
      · have := hp2 z.1
        have := hb.2.1 z.1
        omega
    have e0 : slI (cby e) b (f + 1) pl = pl :: slI (cby e) b f (pl + cby e) := if_pos hc
    obtain ⟨w, hw⟩ := gE_lt (l := L) (i := pl.toNat) (by omega)
    have hwm := List.mem_of_getElem? hw
    obtain ⟨wok, wcn, wdp, wct⟩ := hLp w hwm
    have e1 : ((pl :: slI (cby e) b f (pl + cby e)).filterMap fun k => L[k.toNat]?) = w :: ((slI (cby e) b f (pl + cby e)).filterMap fun k => L[k.toNat]?) := by
      rw [List.filterMap_cons, hw]
    rw [e0, e1] at hlen ⊢
    obtain ⟨rest, erest⟩ : ∃ rest, rest = ((slI (cby e) b f (pl + cby e)).filterMap fun k => L[k.toNat]?) := ⟨_, rfl⟩
    obtain ⟨zs, kt, le, ri, oS, -⟩ := id hsp
    obtain ⟨zr, r1, r2, rt, rka, ria, ric, rf, zi, oR, oI, hric, hel⟩ := id hrow
    obtain ⟨it, hit, hitv⟩ := hel pl.toNat w hw
    have pre : ∀ res, jx_r (jz β) jw_M (D + 1) 164 (239, [some (.ref 10), some (.ref sg), some (.int (Int32.ofInt (((i : Nat) : Int)))), some (.int (Int32.ofInt (((en : Nat) : Int)))), some (.ref v0), some (.ref sp), some (.ref rw), some (.ref a), some (.int (Int32.ofInt (pl))), some (.int (Int32.ofInt (b))), some (.int (Int32.ofInt (((q : Nat) : Int)))), (some (.ref it))], [.int (Int32.ofInt (4)), .int (Int32.ofInt (ckd e.1))], (cl_mk h κ)) res → jx_r (jz β) jw_M (D + 1) 164 (188, [some (.ref 10), some (.ref sg), some (.int (Int32.ofInt (((i : Nat) : Int)))), some (.int (Int32.ofInt (((en : Nat) : Int)))), some (.ref v0), some (.ref sp), some (.ref rw), some (.ref a), some (.int (Int32.ofInt (pl))), some (.int (Int32.ofInt (b))), some (.int (Int32.ofInt (((q : Nat) : Int)))), t11], [], (cl_mk h κ)) res := fun res kk => jc_foI hl ⟨zs.1, zs.2.1⟩ ⟨zr.1, zr.2.1⟩ ⟨zi.1, zi.2.1⟩ oS oR oI hric (by omega) hzr ⟨hb.2.2.1, hb.2.2.2⟩ hr hc hit kk
    obtain ⟨D', rfl⟩ : ∃ D', D = D' + 12 := ⟨D - 12, by omega⟩
    by_cases hf : itf e w = true
    · rw [List.filter_cons_of_pos hf] at hlen ⊢
      rw [List.map_cons, List.sum_cons] at hlen
      rw [List.map_cons, List.sum_cons, List.map_cons, List.sum_cons]
      obtain ⟨h1, c, c1, q1, q2, q3, q4⟩ := hP (D' + 12) (i + 1) en h κ (bX X a ka ia) sg tt la ea cap fs ls it (some w) hle (by omega) hen (by omega) hl (bL_x hbl) (by show h.length + 3 * clN l w + 20 < _; omega) hst (Or.inr hitv) ⟨wok, wcn, wdp, wct⟩
      have q3 : h.length ≤ h1.length ∧ h1.length ≤ h.length + 3 * clN l w := q3
      have q4 : cvol h1 ≤ cvol h + 6 * clN l w + rsN l w := q4
      have q1 : vQ h1 (bX X a ka ia) c (evS l w) := q1
      have hl1 : 50 ≤ h1.length := by omega
      have hbl1 := bL_fr q2 hbl
      have fr1 : hQ h h1 (bX X a ka ia) (bX X a ka ia) := fun c y z hy => ⟨z, q2 c y hy⟩
      have hkv : 0 ≤ (dv (evS l w)).1.1 ∧ (dv (evS l w)).1.1 ≤ 6 := by
        cases hev : evS l w with
        | none => decide
        | some u =>
          have := (evS_ok l w u (fun e' he' => stO_ok (hst.2.2.2.1 e' (by rw [hle] at he'; exact List.mem_of_mem_take (List.mem_of_mem_drop he')))) wok hev).1.1
          exact ⟨this.1, this.2.1⟩
      obtain ⟨h2, fr2, c2, p1, p2, p3, p4, p5⟩ := jc_aun (β := β) (d := D' + 10) (κ := κ) hl1 (by omega) hbl1 (by omega) (by omega) q1 hkv
      have fr2' : hQ h h2 (bX X a ka ia) (bX X a ka ia) := fun c y z hy => p2 c y z (q2 c y hy)
      have ap : acc ++ (nnO (evS l w)).toList ++ ((rest.filter (itf e)).filterMap fun w => nnO (evS l w)) = acc ++ ((w :: rest.filter (itf e)).filterMap fun w => nnO (evS l w)) := by
        rw [List.append_assoc, List.filterMap_cons]
        cases nnO (evS l w) <;> rfl
      have lac : (acc ++ (nnO (evS l w)).toList).length ≤ acc.length + 1 := by
        rw [List.length_append]
        cases nnO (evS l w) with
        | none => show acc.length + 0 ≤ _; omega
        | some _ => exact Nat.le_refl _
      rw [← erest] at hlen ⊢
      obtain ⟨h3, fr3, r3, s1, s2, s3, s4⟩ := ih (q + 1) (pl + cby e) (acc ++ (nnO (evS l w)).toList) h2 fr2 (some (.ref it)) (by omega) (by omega) (fun z => by omega) (fun z => by omega) ⟨by omega, by omega⟩ (by omega) p1 (stgR_fr fr2' hst) (spR_fr fr2' hsp) (rowR_fr fr2' hrow) (by rw [← erest]; omega)
      rw [← erest] at s1 s3 s4
      rw [ap] at s1
      refine ⟨h3, fr3, pre _ ?_, s1, fun c y hc hy => s2 c y hc (p3 c y hc (q2 c y hy)), ⟨by omega, by omega⟩, by omega⟩
      have hsp2 := spR_fr fr2' hsp
      obtain ⟨zs2, kt2, le2, ri2, oS2, -⟩ := hsp2
      have k3 := jc_foA (β := β) (d := D' + 12) (h := h) (κ := κ) (sg := sg) (i := i) (en := en) (v0 := v0) (sp := sp) (rw := rw) (q := q) (pl := pl) (b := b) hl1 ⟨by omega, by omega⟩ hbl1.2.2.1 c1 c2 (jc_foN (β := β) (by omega) ⟨zs2.1, zs2.2.1⟩ oS2 r3)
      by_cases h4 : e.1 = 4
      · have ef : itf e w = holS e.2.2.2.1 e.2.2.2.2.1 e.2.2.2.2.2 w := if_pos h4
        have c0 := jc_holds (β := β) (d := D') (κ := κ) hl hsp he h4 (Or.inr hitv) wok wcn wdp
        rw [if_pos (ef ▸ hf)] at c0
        refine jr_1 jm_164 (show jw_cd cd_164 239 = some (.if_icmp .ne 14) by decide +kernel) (mb_f (q := .ne) (a := ckd e.1) (b := 4) (by show ¬ (¬ (ckd e.1 = 4)); omega) ⟨by omega, by omega⟩ ⟨by omega, by omega⟩ (by decide)) ?_
        refine jr_1 jm_164 (show jw_cd cd_164 242 = some (.aload_n 0) by decide +kernel) rfl ?_
        refine jr_1 jm_164 (show jw_cd cd_164 243 = some (.aload 5) by decide +kernel) rfl ?_
        refine jr_1 jm_164 (show jw_cd cd_164 245 = some (.aload 11) by decide +kernel) rfl ?_
        refine jr_c jm_164 (show jw_cd cd_164 247 = some (.invokevirtual 119) by decide +kernel) (ccv (n := 2) (m2 := 170) (ci := 6) (a := 10) (bs := [.ref sp, .ref it]) (r := []) (js_cls cl_c10 (by decide)) (show jw_find jw_cvT 9 119 = some (2, [(6, 170)]) by decide +kernel) (by decide) rfl rfl rfl) jm_170 ⟨Nat.le_of_ble_eq_true rfl, by decide⟩ c0 ?_
        refine jr_1 jm_164 (show jw_cd cd_164 250 = some (.ifCond .eq 19) by decide +kernel) (mz_f (q := .eq) (a := 1) (by show ¬ (1 = 0); omega) ⟨by omega, by omega⟩ (by decide)) ?_
        exact k3
      · refine jr_1 jm_164 (show jw_cd cd_164 239 = some (.if_icmp .ne 14) by decide +kernel) (mb_t (q := .ne) (a := ckd e.1) (b := 4) (t := 253) (by show ¬ (ckd e.1 = 4); omega) ⟨by omega, by omega⟩ ⟨by omega, by omega⟩ (by decide) (by decide)) ?_
        exact k3
    · rw [List.filter_cons_of_neg hf] at hlen ⊢
      have h4 : e.1 = 4 := by
        by_cases z : e.1 = 4
        · exact z
        · exact absurd (if_neg z) hf
      have ef : itf e w = holS e.2.2.2.1 e.2.2.2.2.1 e.2.2.2.2.2 w := if_pos h4
      have c0 := jc_holds (β := β) (d := D') (κ := κ) hl hsp he h4 (Or.inr hitv) wok wcn wdp
      rw [if_neg (ef ▸ hf)] at c0
      obtain ⟨h3, fr3, r3, s1, s2, s3, s4⟩ := ih (q + 1) (pl + cby e) acc h fr (some (.ref it)) (by omega) (by omega) (fun z => by omega) (fun z => by omega) ⟨by omega, by omega⟩ hl hbl hst hsp hrow hlen
      refine ⟨h3, fr3, pre _ ?_, s1, s2, s3, s4⟩
      have k3 := jc_foN (β := β) (sg := sg) (i := i) (en := en) (v0 := v0) (rw := rw) (a := a) (q := q) (it := it) (pl := pl) (b := b) hl ⟨zs.1, zs.2.1⟩ oS r3
      refine jr_1 jm_164 (show jw_cd cd_164 239 = some (.if_icmp .ne 14) by decide +kernel) (mb_f (q := .ne) (a := ckd e.1) (b := 4) (by show ¬ (¬ (ckd e.1 = 4)); omega) ⟨by omega, by omega⟩ ⟨by omega, by omega⟩ (by decide)) ?_
      refine jr_1 jm_164 (show jw_cd cd_164 242 = some (.aload_n 0) by decide +kernel) rfl ?_
      refine jr_1 jm_164 (show jw_cd cd_164 243 = some (.aload 5) by decide +kernel) rfl ?_
      refine jr_1 jm_164 (show jw_cd cd_164 245 = some (.aload 11) by decide +kernel) rfl ?_
      refine jr_c jm_164 (show jw_cd cd_164 247 = some (.invokevirtual 119) by decide +kernel) (ccv (n := 2) (m2 := 170) (ci := 6) (a := 10) (bs := [.ref sp, .ref it]) (r := []) (js_cls cl_c10 (by decide)) (show jw_find jw_cvT 9 119 = some (2, [(6, 170)]) by decide +kernel) (by decide) rfl rfl rfl) jm_170 ⟨Nat.le_of_ble_eq_true rfl, by decide⟩ c0 ?_
      refine jr_1 jm_164 (show jw_cd cd_164 250 = some (.ifCond .eq 19) by decide +kernel) (mz_t (q := .eq) (a := 0) (t := 269) (by show 0 = 0; omega) ⟨by omega, by omega⟩ (by decide) (by decide)) ?_
      exact k3
