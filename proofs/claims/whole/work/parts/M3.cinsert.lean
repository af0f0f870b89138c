/-! ===== the class: insert, placeIn (printed by program: gen131.py) ===== -/
theorem jm_184 : jw_M 184 = some (10, 8, ((Option.some Jvm.ClassFile.FieldType.int), false), jw_cd cd_184, fun _ _ => none) := rfl
theorem jm_191 : jw_M 191 = some (8, 4, (none, false), jw_cd cd_191, fun _ _ => none) := rfl
theorem vF_rows {h : jx_H} {Y : Nat → Prop} : ∀ (L : List vT) (f g : Nat → Value) (j : Nat), (∀ (q : Nat) (y : vT), L[q]? = some y → ∃ it, f (j + q) = .ref it ∧ vN h Y it y.1 y.2) → vF h Y (fl L) false f g j
  | [], _, _, _, _ => trivial
  | (i, c) :: L, f, g, j, h1 => by
    refine ⟨?_, fun z => (by cases z), vF_rows L f g (j + 1) (fun q y hy => ?_)⟩
    · obtain ⟨it, a1, a2⟩ := h1 0 (i, c) rfl
      exact ⟨it, a1, a2⟩
    · obtain ⟨it, a1, a2⟩ := h1 (q + 1) y hy
      exact ⟨it, by rw [show j + 1 + q = j + (q + 1) by omega]; exact a1, a2⟩
theorem bL_row {h : jx_H} {X : Nat → Prop} {N0 a ka ia ic : Nat} {f g : Nat → Value} {L : List vT} (hb : bL h X N0 a ka ia 0 ic f g 5 (fl L)) : ∀ (q : Nat) (y : vT), L[q]? = some y → ∃ it, f q = .ref it ∧ vN h (bX X a ka ia) it y.1 y.2 := fun q y hy => by
  obtain ⟨it, a1, a2⟩ := vF_nth _ _ f g 0 q _ hb.2.2.2.2.2.2.2 (sib_flk L q y hy)
  rw [Nat.zero_add] at a1
  exact ⟨it, a1, a2⟩
theorem bL_mk {h : jx_H} {X : Nat → Prop} {N0 a ka ia ic : Nat} {f f' g : Nat → Value} {L L' : List vT} (hb : bL h X N0 a ka ia 0 ic f g 5 (fl L)) (hl : L'.length = L.length) (he : ∀ (q : Nat) (y : vT), L'[q]? = some y → ∃ it, f' q = .ref it ∧ vN h (bX X a ka ia) it y.1 y.2) : bL (List.set h ia (.inl (4, ic, f'))) X N0 a ka ia 0 ic f' g 5 (fl L') ∧ hQ h (List.set h ia (.inl (4, ic, f'))) (bX X a ka ia) (bX X a ka ia) ∧ (∀ (c : Nat) (y : jx_C), c < N0 → h[c]? = some y → (List.set h ia (.inl (4, ic, f')))[c]? = some y) ∧ (List.set h ia (.inl (4, ic, f'))).length = h.length ∧ cvol (List.set h ia (.inl (4, ic, f'))) = cvol h := by
  obtain ⟨b1, b2, b3, b4, b5, b6, b7, b8⟩ := hb
  have fr : hQ h (List.set h ia (.inl (4, ic, f'))) (bX X a ka ia) (bX X a ka ia) := fun c y z hy => ⟨z, (js_set_ne (fun e => (bX_o z.2.2).2.2.2 e.symm)).trans hy⟩
  refine ⟨⟨b1, b2, ?_, (js_set_ne (fun e => b1.2.2.2.2.2.2 e.symm)).trans b4, js_set_eq b5, by rw [fl_sz, hl, ← fl_sz]; exact b6, by rw [fl_sz, hl, ← fl_sz]; exact b7, vF_rows L' f' g 0 (fun q y hy => ?_)⟩, fr, fun c y hc hy => (js_set_ne (by omega)).trans hy, List.length_set, cvol_sA b5⟩
  · rw [js_set_ne (fun e => b1.2.2.2.2.2.1 e.symm), fl_sz, hl, ← fl_sz]
    exact b3
  · obtain ⟨it, a1, a2⟩ := he q y hy
    rw [Nat.zero_add]
    exact ⟨it, a1, vN_fr fr a2⟩
theorem jc_inX {β : Bool} {d : Nat} {h : jx_H} {κ : mS} (hl : 50 ≤ h.length) {a b p i : Nat} (hi : i ≤ p ∧ p ≤ 2000) : jx_r (jz β) jw_M (d) 191 (12, [some (.ref a), some (.int (Int32.ofInt (((p : Nat) : Int)))), some (.ref b), some (.int (Int32.ofInt (((i : Nat) : Int))))], [], (cl_mk h κ)) (cl_mk h (κ), .inl none) := by
  refine jr_1 jm_191 (show jw_cd cd_191 12 = some (.iload_n 3) by decide +kernel) rfl ?_
  refine jr_1 jm_191 (show jw_cd cd_191 13 = some (.iload_n 1) by decide +kernel) rfl ?_
  refine jr_1 jm_191 (show jw_cd cd_191 14 = some (.if_icmp .le 36) by decide +kernel) (mb_t (q := .le) (a := ((i : Nat) : Int)) (b := ((p : Nat) : Int)) (t := 50) (by show ((i : Nat) : Int) ≤ ((p : Nat) : Int); omega) ⟨by omega, by omega⟩ ⟨by omega, by omega⟩ (by decide) (by decide)) ?_
  exact jr_v jm_191 (show jw_cd cd_191 50 = some (.return_) by decide +kernel) rfl
theorem jc_inB {β : Bool} {d : Nat} {h : jx_H} {κ : mS} (hl : 50 ≤ h.length) {a b p i ka ia ic c0 : Nat} {f : Nat → Value} {x : Int} (ha : 50 ≤ a ∧ a < 4000000000) (hia : 50 ≤ ia ∧ ia < 4000000000) (hne : ¬ ia = a) (oA : h[a]? = some (.inr (5, [.int (Int32.ofInt (5)), .int (Int32.ofInt (0)), .ref (jx_big + 9), .ref ka, .ref ia, .int (Int32.ofInt (x))]))) (oI : h[ia]? = some (.inl (4, ic, f))) (hi : p ≤ i ∧ i + 1 < ic ∧ ic ≤ 5000) (hc0 : f i = .ref c0) (hcc : jx_cls (jz β) (cl_mk h κ) c0 = some 5) (hcb : jx_cls (jz β) (cl_mk (List.set h ia (.inl (4, ic, updV f (((i + 1 : Nat) : Int)).toNat (.ref c0)))) κ) b = some 5) {res : jx_H × (Option Value ⊕ Nat)} (kk : jx_r (jz β) jw_M (d) 191 (12, [some (.ref a), some (.int (Int32.ofInt (((p : Nat) : Int)))), some (.ref b), some (.int (Int32.ofInt (((i : Nat) : Int))))], [], (cl_mk (List.set (List.set h ia (.inl (4, ic, updV f (((i + 1 : Nat) : Int)).toNat (.ref c0)))) ia (.inl (4, ic, updV (updV f (((i + 1 : Nat) : Int)).toNat (.ref c0)) (((i : Nat) : Int)).toNat (.ref b)))) κ)) res) : jx_r (jz β) jw_M (d) 191 (12, [some (.ref a), some (.int (Int32.ofInt (((p : Nat) : Int)))), some (.ref b), some (.int (Int32.ofInt (((i + 1 : Nat) : Int))))], [], (cl_mk h κ)) res := by
  refine jr_1 jm_191 (show jw_cd cd_191 12 = some (.iload_n 3) by decide +kernel) rfl ?_
  refine jr_1 jm_191 (show jw_cd cd_191 13 = some (.iload_n 1) by decide +kernel) rfl ?_
  refine jr_1 jm_191 (show jw_cd cd_191 14 = some (.if_icmp .le 36) by decide +kernel) (mb_f (q := .le) (a := ((i + 1 : Nat) : Int)) (b := ((p : Nat) : Int)) (by show ¬ (((i + 1 : Nat) : Int) ≤ ((p : Nat) : Int)); omega) ⟨by omega, by omega⟩ ⟨by omega, by omega⟩ (by decide)) ?_
  refine jr_1 jm_191 (show jw_cd cd_191 17 = some (.iload_n 3) by decide +kernel) rfl ?_
  refine jr_1 jm_191 (show jw_cd cd_191 18 = some (.ifCond .le 32) by decide +kernel) (mz_f (q := .le) (a := ((i + 1 : Nat) : Int)) (by show ¬ (((i + 1 : Nat) : Int) ≤ 0); omega) ⟨by omega, by omega⟩ (by decide)) ?_
  refine jr_1 jm_191 (show jw_cd cd_191 21 = some (.aload_n 0) by decide +kernel) rfl ?_
  refine jr_1 jm_191 (show jw_cd cd_191 22 = some (.getfield 26) by decide +kernel) (js_getf (cl_old hl ⟨by omega, oA⟩) (jbg (by omega)) (show jw_fld 8 26 5 = some 4 by decide +kernel) rfl) ?_
  refine jr_1 jm_191 (show jw_cd cd_191 25 = some (.iload_n 3) by decide +kernel) rfl ?_
  refine jr_1 jm_191 (show jw_cd cd_191 26 = some (.aload_n 0) by decide +kernel) rfl ?_
  refine jr_1 jm_191 (show jw_cd cd_191 27 = some (.getfield 26) by decide +kernel) (js_getf (cl_old hl ⟨by omega, oA⟩) (jbg (by omega)) (show jw_fld 8 26 5 = some 4 by decide +kernel) rfl) ?_
  refine jr_1 jm_191 (show jw_cd cd_191 30 = some (.iload_n 3) by decide +kernel) rfl ?_
  refine jr_1 jm_191 (show jw_cd cd_191 31 = some (.iconst 1) by decide +kernel) rfl ?_
  refine jr_1 jm_191 (show jw_cd cd_191 32 = some (.isub) by decide +kernel) (mt_sub (c := ((i : Nat) : Int)) (by omega)) ?_
  refine jr_1 jm_191 (show jw_cd cd_191 33 = some (.aaload) by decide +kernel) (cal_a (e := .ref c0) (jx_ar_h (cl_old hl ⟨by omega, oI⟩) (jbg (by omega))) (Or.inl rfl) (by omega) (by omega) (by omega) (by rw [Int.toNat_natCast]; exact hc0)) ?_
  refine jr_1 jm_191 (F2 := (35, [some (.ref a), some (.int (Int32.ofInt (((p : Nat) : Int)))), some (.ref b), some (.int (Int32.ofInt (((i + 1 : Nat) : Int))))], [], (cl_mk (List.set h ia (.inl (4, ic, updV f (((i + 1 : Nat) : Int)).toNat (.ref c0)))) κ))) (show jw_cd cd_191 34 = some (.aastore) by decide +kernel) (csa (cl_old hl ⟨by omega, oI⟩) (jbg (by omega)) hcc (by omega) (by omega) (by omega) (cl_set (by omega) (by omega))) ?_
  refine jr_1 jm_191 (show jw_cd cd_191 35 = some (.aload_n 0) by decide +kernel) rfl ?_
  refine jr_1 jm_191 (show jw_cd cd_191 36 = some (.getfield 26) by decide +kernel) (js_getf (cl_old (by rw [List.length_set]; exact hl) ⟨by omega, (js_set_ne hne).trans oA⟩) (jbg (by omega)) (show jw_fld 8 26 5 = some 4 by decide +kernel) rfl) ?_
  refine jr_1 jm_191 (show jw_cd cd_191 39 = some (.iload_n 3) by decide +kernel) rfl ?_
  refine jr_1 jm_191 (show jw_cd cd_191 40 = some (.iconst 1) by decide +kernel) rfl ?_
  refine jr_1 jm_191 (show jw_cd cd_191 41 = some (.isub) by decide +kernel) (mt_sub (c := ((i : Nat) : Int)) (by omega)) ?_
  refine jr_1 jm_191 (show jw_cd cd_191 42 = some (.aload_n 2) by decide +kernel) rfl ?_
  refine jr_1 jm_191 (F2 := (44, [some (.ref a), some (.int (Int32.ofInt (((p : Nat) : Int)))), some (.ref b), some (.int (Int32.ofInt (((i + 1 : Nat) : Int))))], [], (cl_mk (List.set (List.set h ia (.inl (4, ic, updV f (((i + 1 : Nat) : Int)).toNat (.ref c0)))) ia (.inl (4, ic, updV (updV f (((i + 1 : Nat) : Int)).toNat (.ref c0)) (((i : Nat) : Int)).toNat (.ref b)))) κ))) (show jw_cd cd_191 43 = some (.aastore) by decide +kernel) (csa (cl_old (by rw [List.length_set]; exact hl) ⟨by omega, js_set_eq oI⟩) (jbg (by omega)) hcb (by omega) (by omega) (by omega) (cl_set (by rw [List.length_set]; omega) (by omega))) ?_
  refine jr_1 jm_191 (F2 := (47, [some (.ref a), some (.int (Int32.ofInt (((p : Nat) : Int)))), some (.ref b), some (.int (Int32.ofInt (((i : Nat) : Int))))], [], (cl_mk (List.set (List.set h ia (.inl (4, ic, updV f (((i + 1 : Nat) : Int)).toNat (.ref c0)))) ia (.inl (4, ic, updV (updV f (((i + 1 : Nat) : Int)).toNat (.ref c0)) (((i : Nat) : Int)).toNat (.ref b)))) κ))) (show jw_cd cd_191 44 = some (.iinc 3 (-1)) by decide +kernel) (mt_inc (a := ((i + 1 : Nat) : Int)) (c := ((i : Nat) : Int)) rfl (by omega) rfl) ?_
  refine jr_1 jm_191 (show jw_cd cd_191 47 = some (.goto (-35)) by decide +kernel) (ju_go (t := 12) (by decide)) ?_
  exact kk
def insP (p : Nat) (v : vT) (acc : List vT) : List vT := acc.take p ++ v :: acc.drop p
theorem insP_len {p : Nat} {v : vT} {acc : List vT} (hp : p ≤ acc.length) : (insP p v acc).length = acc.length + 1 := by
  unfold insP
  rw [List.length_append, List.length_cons, List.length_take, List.length_drop]
  omega
theorem insP_g {p : Nat} {v : vT} {acc : List vT} (hp : p ≤ acc.length) (q : Nat) : (insP p v acc)[q]? = if q < p then acc[q]? else if q = p then some v else acc[q - 1]? := by
  unfold insP
  rw [List.getElem?_append, List.length_take, show min p acc.length = p by omega]
  by_cases h1 : q < p
  · rw [if_pos h1, if_pos h1, List.getElem?_take, if_pos h1]
  · rw [if_neg h1, if_neg h1]
    by_cases h2 : q = p
    · rw [if_pos h2, h2, Nat.sub_self]
      rfl
    · rw [if_neg h2, show q - p = (q - p - 1) + 1 by omega]
      show (acc.drop p)[q - p - 1]? = _
      rw [List.getElem?_drop, show p + (q - p - 1) = q - 1 by omega]
theorem jc_inL {β : Bool} {d : Nat} {κ : mS} {X : Nat → Prop} {N0 a ka ia ic b p : Nat} {g : Nat → Value} {acc : List vT} {v : vT} (hp : p ≤ acc.length) (hic : acc.length + 1 ≤ ic ∧ ic ≤ 2000) : ∀ (i : Nat) (h : jx_H) (f : Nat → Value), p ≤ i → i ≤ acc.length → 50 ≤ h.length → h.length < 2900000000 → bL h X N0 a ka ia 0 ic f g 5 (fl (insP i v acc)) → vN h (bX X a ka ia) b v.1 v.2 → ∃ (h' : jx_H) (f' : Nat → Value), jx_r (jz β) jw_M (d) 191 (12, [some (.ref a), some (.int (Int32.ofInt (((p : Nat) : Int)))), some (.ref b), some (.int (Int32.ofInt (((i : Nat) : Int))))], [], (cl_mk h κ)) (cl_mk h' (κ), .inl none) ∧ bL h' X N0 a ka ia 0 ic f' g 5 (fl (insP p v acc)) ∧ hQ h h' (bX X a ka ia) (bX X a ka ia) ∧ (∀ (c : Nat) (y : jx_C), c < N0 → h[c]? = some y → h'[c]? = some y) ∧ h'.length = h.length ∧ cvol h' = cvol h
  | 0, h, f, hpi, hia, hl, hb32, hb, hv => by
    obtain rfl : p = 0 := by omega
    exact ⟨h, f, jc_inX hl ⟨Nat.le_refl _, by omega⟩, hb, fun c y z hy => ⟨z, hy⟩, fun c y _ hy => hy, rfl, rfl⟩
  | i + 1, h, f, hpi, hia, hl, hb32, hb, hv => by
    by_cases hpe : p = i + 1
    · rw [hpe]
      exact ⟨h, f, jc_inX hl ⟨Nat.le_refl _, by omega⟩, hb, fun c y z hy => ⟨z, hy⟩, fun c y _ hy => hy, rfl, rfl⟩
    obtain ⟨l1, l2, l3, n1, n2, n3, n0⟩ := bL_b hb
    obtain ⟨b1, b2, b3, b4, b5, b6, b7, b8⟩ := id hb
    obtain ⟨y0, hy0⟩ := gE_lt (l := acc) (i := i) (by omega)
    have hgi : (insP (i + 1) v acc)[i]? = some y0 := by rw [insP_g (by omega), if_pos (by omega)]; exact hy0
    obtain ⟨c0, hc0, hcv⟩ := bL_row hb i y0 hgi
    have hlen : (insP i v acc).length = (insP (i + 1) v acc).length := by rw [insP_len (by omega), insP_len (by omega)]
    obtain ⟨f2, ef2⟩ : ∃ f2, f2 = updV (updV f (((i + 1 : Nat) : Int)).toNat (.ref c0)) (((i : Nat) : Int)).toNat (.ref b) := ⟨_, rfl⟩
    have hf2 : ∀ q, f2 q = if q = i then .ref b else if q = i + 1 then .ref c0 else f q := fun q => by
      rw [ef2, Int.toNat_natCast, Int.toNat_natCast]
      by_cases q1 : q = i
      · rw [if_pos q1, q1, updV_at]
      · rw [if_neg q1, updV_ne _ _ q1]
        by_cases q2 : q = i + 1
        · rw [if_pos q2, q2, updV_at]
        · rw [if_neg q2, updV_ne _ _ q2]
    obtain ⟨m1, m2, m3, m4, m5⟩ := bL_mk (f' := f2) (L' := insP i v acc) hb hlen (fun q y hy => by
      rw [insP_g (by omega)] at hy
      rw [hf2 q]
      by_cases q1 : q = i
      · rw [if_pos q1]
        rw [if_neg (by omega), if_pos q1] at hy
        injection hy with hy
        rw [← hy]
        exact ⟨b, rfl, hv⟩
      · rw [if_neg q1]
        rw [show (if q < i then acc[q]? else if q = i then some v else acc[q - 1]?) = (if q < i then acc[q]? else acc[q - 1]?) by rw [if_neg q1]] at hy
        by_cases q2 : q = i + 1
        · rw [if_pos q2]
          rw [if_neg (by omega), q2, Nat.add_sub_cancel, hy0] at hy
          injection hy with hy
          rw [← hy]
          exact ⟨c0, rfl, hcv⟩
        · rw [if_neg q2]
          refine bL_row hb q y ?_
          rw [insP_g (by omega)]
          by_cases q3 : q < i
          · rw [if_pos (by omega)]
            rw [if_pos q3] at hy
            exact hy
          · rw [if_neg (by omega), if_neg (by omega)]
            rw [if_neg q3] at hy
            exact hy)
    have es : (List.set (List.set h ia (.inl (4, ic, updV f (((i + 1 : Nat) : Int)).toNat (.ref c0)))) ia (.inl (4, ic, updV (updV f (((i + 1 : Nat) : Int)).toNat (.ref c0)) (((i : Nat) : Int)).toNat (.ref b)))) = List.set h ia (.inl (4, ic, f2)) := by rw [List.set_set, ← ef2]
    obtain ⟨h3, f3, r1, r2, r3, r4, r5, r6⟩ := jc_inL (β := β) (d := d) (κ := κ) hp hic i _ f2 (by omega) (by omega) (by omega) (by omega) m1 (vN_fr m2 hv)
    refine ⟨h3, f3, jc_inB hl ⟨by omega, by omega⟩ ⟨by omega, by omega⟩ (fun e => b1.2.2.2.2.2.1 e.symm) b3 b5 ⟨by omega, by omega, by omega⟩ hc0 (vN_cls hl hcv) ?_ (by rw [es]; exact r1), r2, fun c y z hy => r3 c y (m2 c y z hy).1 (m2 c y z hy).2, fun c y hc hy => r4 c y hc (m3 c y hc hy), by omega, by omega⟩
    refine vN_cls (X := bX X a ka ia) (i := v.1) (sz := fsz v.2) (P := fun f' g' => vF _ (bX X a ka ia) v.2 (decide (v.1.1 = 6)) f' g' 0) (by rw [List.length_set]; exact hl) (vN_fr (X := bX X a ka ia) (fun c y z hy => ⟨z, (js_set_ne (fun e => (bX_o z.2.2).2.2.2 e.symm)).trans hy⟩) hv)
theorem jc_insert {β : Bool} {d : Nat} {h : jx_H} {κ : mS} (hl : 50 ≤ h.length) (hb32 : h.length < 2900000000) {X : Nat → Prop} {N0 a ka ia ic b p : Nat} {f g : Nat → Value} {acc : List vT} {v : vT} (hb : bL h X N0 a ka ia 0 ic f g 5 (fl acc)) (hsz : acc.length < ic) (hic : ic ≤ 2000) (hp : p ≤ acc.length) (hv : vN h (bX X a ka ia) b v.1 v.2) : ∃ (h' : jx_H) (f' : Nat → Value), jx_r (jz β) jw_M (d + 2) 191 (0, [some (.ref a), some (.int (Int32.ofInt (((p : Nat) : Int)))), some (.ref b), none], [], (cl_mk h κ)) (cl_mk h' (κ), .inl none) ∧ bL h' X N0 a ka ia 0 ic f' g 5 (fl (insP p v acc)) ∧ hQ h h' (bX X a ka ia) (bX X a ka ia) ∧ (∀ (c : Nat) (y : jx_C), c < N0 → h[c]? = some y → h'[c]? = some y) ∧ h'.length = h.length ∧ cvol h' = cvol h := by
  obtain ⟨l1, l2, l3, n1, n2, n3, n0⟩ := bL_b hb
  obtain ⟨h1, f1, hr, q1, q2, q3, q4, q5, -⟩ := jc_addN' (β := β) (d := d) (κ := κ) hl (by omega) hb hsz hic hv
  have e1 : acc ++ [v] = insP acc.length v acc := by unfold insP; rw [List.take_length, List.drop_length]
  have la : (acc ++ [v]).length = acc.length + 1 := by rw [List.length_append]; rfl
  have oA1 := q1.2.2.1
  rw [fl_sz, la] at oA1
  rw [e1] at q1
  have hgv : (insP acc.length v acc)[acc.length]? = some v := by rw [insP_g (Nat.le_refl _), if_neg (by omega), if_pos rfl]
  have hv1 := vN_fr q2 hv
  obtain ⟨h2, f2, r1, r2, r3, r4, r5, r6⟩ := jc_inL (β := β) (d := d + 2) (κ := κ) (b := b) hp ⟨by omega, hic⟩ acc.length h1 f1 hp (Nat.le_refl _) (by omega) (by omega) q1 hv1
  refine ⟨h2, f2, ?_, r2, fun c y z hy => r3 c y (q2 c y z hy).1 (q2 c y z hy).2, fun c y hc hy => r4 c y hc (q3 c y hc hy), by omega, by omega⟩
  refine jr_1 jm_191 (show jw_cd cd_191 0 = some (.aload_n 0) by decide +kernel) rfl ?_
  refine jr_1 jm_191 (show jw_cd cd_191 1 = some (.aload_n 2) by decide +kernel) rfl ?_
  refine jr_c jm_191 (show jw_cd cd_191 2 = some (.invokevirtual 41) by decide +kernel) (ccv (n := 1) (m2 := 94) (ci := 5) (a := a) (bs := [.ref b]) (r := []) (js_cls (cl_old hl ⟨by omega, hb.2.2.1⟩) (jbg (by omega))) (show jw_find jw_cvT 8 41 = some (1, [(5, 94)]) by decide +kernel) (by decide) rfl rfl rfl) jm_94 ⟨Nat.le_of_ble_eq_true rfl, by decide⟩ hr ?_
  refine jr_1 jm_191 (show jw_cd cd_191 5 = some (.aload_n 0) by decide +kernel) rfl ?_
  refine jr_1 jm_191 (show jw_cd cd_191 6 = some (.getfield 29) by decide +kernel) (js_getf (cl_old (by omega : 50 ≤ h1.length) ⟨by omega, oA1⟩) (jbg (by omega)) (show jw_fld 8 29 5 = some 5 by decide +kernel) rfl) ?_
  refine jr_1 jm_191 (show jw_cd cd_191 9 = some (.iconst 1) by decide +kernel) rfl ?_
  refine jr_1 jm_191 (show jw_cd cd_191 10 = some (.isub) by decide +kernel) (mt_sub (c := ((acc.length : Nat) : Int)) (by omega)) ?_
  refine jr_1 jm_191 (F2 := (12, [some (.ref a), some (.int (Int32.ofInt (((p : Nat) : Int)))), some (.ref b), some (.int (Int32.ofInt (((acc.length : Nat) : Int))))], [], (cl_mk h1 κ))) (show jw_cd cd_191 11 = some (.istore_n 3) by decide +kernel) rfl ?_
  exact r1
