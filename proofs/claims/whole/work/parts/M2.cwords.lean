/-! ===== the class: listOf, reversedList, sum, outermost, typeOf (printed by program: gen130.py) ===== -/
theorem jm_181 : jw_M 181 = some (33, 1, ((Option.some Jvm.ClassFile.FieldType.int), false), jw_cd cd_181, fun _ _ => none) := rfl
theorem jm_182 : jw_M 182 = some (10, 5, ((Option.some (Jvm.ClassFile.FieldType.object "PickDesk$Value")), false), jw_cd cd_182, fun _ _ => none) := rfl
theorem jm_203 : jw_M 203 = some (10, 4, ((Option.some (Jvm.ClassFile.FieldType.object "PickDesk$Value")), false), jw_cd cd_203, fun _ _ => none) := rfl
theorem jm_204 : jw_M 204 = some (10, 4, ((Option.some Jvm.ClassFile.FieldType.int), false), jw_cd cd_204, fun _ _ => none) := rfl
theorem jm_205 : jw_M 205 = some (10, 5, ((Option.some (Jvm.ClassFile.FieldType.object "PickDesk$Value")), false), jw_cd cd_205, fun _ _ => none) := rfl
theorem jm_206 : jw_M 206 = some (10, 2, ((Option.some (Jvm.ClassFile.FieldType.object "java/lang/String")), false), jw_cd cd_206, fun _ _ => none) := rfl
theorem jc_addN' {β : Bool} {d : Nat} {h : jx_H} {κ : mS} (hl : 50 ≤ h.length) (hb32 : h.length < 3000000000) {X : Nat → Prop} {N0 a ka ia ic b : Nat} {f g : Nat → Value} {acc : List vT} {v : vT} (hb : bL h X N0 a ka ia 0 ic f g 5 (fl acc)) (hsz : acc.length < ic) (hic : ic ≤ 2000) (hv : vN h (bX X a ka ia) b v.1 v.2) : ∃ (h' : jx_H) (f' : Nat → Value), jx_r (jz β) jw_M (d + 1) 94 (0, [some (.ref a), some (.ref b)], [], (cl_mk h κ)) (cl_mk h' (κ), .inl none) ∧ bL h' X N0 a ka ia 0 ic f' g 5 (fl (acc ++ [v])) ∧ hQ h h' (bX X a ka ia) (bX X a ka ia) ∧ (∀ (c : Nat) (y : jx_C), c < N0 → h[c]? = some y → h'[c]? = some y) ∧ h'.length = h.length ∧ cvol h' = cvol h ∧ (∀ (c : Nat) (y : jx_C), ¬ c = a → ¬ c = ia → h[c]? = some y → h'[c]? = some y) := by
  obtain ⟨l1, l2, l3, n1, n2, n3, n0⟩ := bL_b hb
  obtain ⟨h', ia', ic', f', hr, hb', fr, hor⟩ := jc_add (β := β) (d := d) (κ := κ) hl rfl hb32 (i := wk v.1 []) (c := v.2) hb (by rw [fl_sz]; omega) hv (fun z => absurd z (by decide))
  rw [← fl_snoc] at hb'
  rw [fl_sz] at hor
  rcases hor with ⟨e1', e2, e3, e4⟩ | ⟨-, -, e5, -⟩
  · subst e2
    subst e3
    exact ⟨h', f', hr, hb', fun c y z hy => ⟨z, fr c y (bX_o z.2.2).2.1 (bX_o z.2.2).2.2.2 hy⟩, fun c y hc hy => fr c y (by omega) (by omega) hy, e1', e4, fr⟩
  · omega
/-- a row of references to values -/
def arR (h : jx_H) (X : Nat → Prop) (ra rn : Nat) (L : List vT) : Prop := zc X ra ∧ ∃ rf : Nat → Value, h[ra]? = some (.inl (4, rn, rf)) ∧ (L.length ≤ rn ∧ rn ≤ 1000000) ∧ ∀ (q : Nat) (y : vT), L[q]? = some y → ∃ it, rf q = .ref it ∧ vN h X it y.1 y.2
theorem arR_fr {h h' : jx_H} {X X' : Nat → Prop} (hq : hQ h h' X X') {ra rn : Nat} {L : List vT} (hs : arR h X ra rn L) : arR h' X' ra rn L := by
  obtain ⟨z, rf, oI, hric, hel⟩ := hs
  have q1 := hq ra _ z oI
  refine ⟨q1.1, rf, q1.2, hric, fun q y hy => ?_⟩
  obtain ⟨it, a1, a2⟩ := hel q y hy
  exact ⟨it, a1, vN_fr hq a2⟩
theorem mkL {h : jx_H} {N n : Nat} {X : Nat → Prop} (hl : 50 ≤ h.length) (hN : h.length = N) (hx : ∀ c, N ≤ c → ¬ X c) (hn : n ≤ 1000) : ∃ h1 : jx_H, h1 = h ++ [.inr (5, [.int (Int32.ofInt (5)), .int (Int32.ofInt (0)), .ref (jx_big + 9), .ref (N + 1), .ref (N + 2), .int (Int32.ofInt (0))]), .inl (4, 0, fun _ => .null), .inl (4, n, fun _ => .null)] ∧ bL h1 X N N (N + 1) (N + 2) 0 n (fun _ => .null) (fun _ => .null) 5 (fl []) ∧ h1.length = N + 3 ∧ cvol h1 = cvol h + (6 + n) ∧ (∀ (c : Nat) (y : jx_C), h[c]? = some y → h1[c]? = some y) ∧ hQ h h1 X (bX X N (N + 1) (N + 2)) := by
  refine ⟨_, rfl, bL_new hl hN hx (by decide) (by omega), by rw [List.length_append, hN]; rfl, ?_, fun c y hy => by rw [List.getElem?_append_left (List.getElem?_eq_some_iff.mp hy).1]; exact hy, fun c y z hy => ⟨⟨z.1, z.2.1, by have := (List.getElem?_eq_some_iff.mp hy).1; exact bX_i z.2.2 (by omega) (by omega) (by omega)⟩, by rw [List.getElem?_append_left (List.getElem?_eq_some_iff.mp hy).1]; exact hy⟩⟩
  rw [cvol_app]
  show cvol h + (6 + (0 + (n + 0))) = _
  omega
theorem jc_mkL {β : Bool} {d : Nat} {h : jx_H} {κ : mS} (hl : 50 ≤ h.length) {N n : Nat} (hN : h.length = N) (hb32 : N < 2800000000) (hn : n ≤ 1000) {h1 : jx_H} (e1 : h1 = h ++ [.inr (5, [.int (Int32.ofInt (5)), .int (Int32.ofInt (0)), .ref (jx_big + 9), .ref (N + 1), .ref (N + 2), .int (Int32.ofInt (0))]), .inl (4, 0, fun _ => .null), .inl (4, n, fun _ => .null)]) : jx_r (jz β) jw_M (d + 1) 93 (0, [some (.int (Int32.ofInt (((n : Nat) : Int))))], [], (cl_mk h κ)) (cl_mk h1 (κ), .inl (some (.ref (N)))) := by
  have c1 := jc_ofL (β := β) (d := d) (κ := κ) (rm := ((n : Nat) : Int)) hl hN (by omega) ⟨by omega, by omega⟩
  rw [Int.toNat_natCast, ← e1] at c1
  exact c1
theorem jc_lsL {β : Bool} {d : Nat} {κ : mS} {X : Nat → Prop} {N0 a ka ia ic ra rn : Nat} {g : Nat → Value} {L : List vT} (hL : L.length ≤ 1000) (hic : ic ≤ 2000) (hLi : L.length ≤ ic) : ∀ (r : List vT) (j : Nat) (acc : List vT) (h : jx_H) (f : Nat → Value), r = L.drop j → j + r.length = L.length → acc.length = j → 50 ≤ h.length → h.length < 2900000000 → bL h X N0 a ka ia 0 ic f g 5 (fl acc) → arR h (bX X a ka ia) ra rn L → ∃ (h' : jx_H) (f' : Nat → Value), jx_r (jz β) jw_M (d + 2) 182 (8, [some (.ref 11), some (.ref ra), some (.int (Int32.ofInt (((L.length : Nat) : Int)))), some (.ref a), some (.int (Int32.ofInt (((j : Nat) : Int))))], [], (cl_mk h κ)) (cl_mk h' (κ), .inl (some (.ref (a)))) ∧ bL h' X N0 a ka ia 0 ic f' g 5 (fl (acc ++ r)) ∧ (∀ (c : Nat) (y : jx_C), c < N0 → h[c]? = some y → h'[c]? = some y) ∧ h'.length = h.length ∧ cvol h' = cvol h
  | [], j, acc, h, f, hr0, hj, hac, hl, hb32, hb, har => by
    have hj : j + 0 = L.length := hj
    obtain ⟨l1, l2, l3, n1, n2, n3, n0⟩ := bL_b hb
    obtain ⟨z, rf, oI, hrn, hel⟩ := har
    have z1 := z.1
    have z2 := z.2.1
    refine ⟨h, f, ?_, by rw [List.append_nil]; exact hb, fun c y _ hy => hy, rfl, rfl⟩
    refine jr_1 jm_182 (show jw_cd cd_182 8 = some (.iload 4) by decide +kernel) rfl ?_
    refine jr_1 jm_182 (show jw_cd cd_182 10 = some (.iload_n 2) by decide +kernel) rfl ?_
    refine jr_1 jm_182 (show jw_cd cd_182 11 = some (.if_icmp .ge 24) by decide +kernel) (mb_t (q := .ge) (a := ((j : Nat) : Int)) (b := ((L.length : Nat) : Int)) (t := 35) (by show ((L.length : Nat) : Int) ≤ ((j : Nat) : Int); omega) ⟨by omega, by omega⟩ ⟨by omega, by omega⟩ (by decide) (by decide)) ?_
    refine jr_1 jm_182 (show jw_cd cd_182 35 = some (.aload_n 3) by decide +kernel) rfl ?_
    exact jr_v jm_182 (show jw_cd cd_182 36 = some (.areturn) by decide +kernel) rfl
  | y :: r, j, acc, h, f, hr0, hj, hac, hl, hb32, hb, har => by
    have hj : j + (r.length + 1) = L.length := hj
    obtain ⟨l1, l2, l3, n1, n2, n3, n0⟩ := bL_b hb
    obtain ⟨z, rf, oI, hrn, hel⟩ := id har
    have z1 := z.1
    have z2 := z.2.1
    have hget : L[j]? = some y := by rw [← List.head?_drop, ← hr0]; rfl
    obtain ⟨it, hit, hitv⟩ := hel j y hget
    obtain ⟨h1, f1, hr, q1, q2, q3, q4, q5, -⟩ := jc_addN' (β := β) (d := d) (κ := κ) (v := y) hl (by omega) hb (by omega) hic hitv
    obtain ⟨h2, f2, p1, p2, p3, p4, p5⟩ := jc_lsL (β := β) (d := d) (κ := κ) hL hic hLi r (j + 1) (acc ++ [y]) h1 f1 (by rw [← List.tail_drop, ← hr0]; rfl) (by omega) (by rw [List.length_append, hac]; rfl) (by omega) (by omega) q1 (arR_fr q2 har)
    rw [List.append_assoc] at p2
    refine ⟨h2, f2, ?_, p2, fun c y hc hy => p3 c y hc (q3 c y hc hy), by omega, by omega⟩
    refine jr_1 jm_182 (show jw_cd cd_182 8 = some (.iload 4) by decide +kernel) rfl ?_
    refine jr_1 jm_182 (show jw_cd cd_182 10 = some (.iload_n 2) by decide +kernel) rfl ?_
    refine jr_1 jm_182 (show jw_cd cd_182 11 = some (.if_icmp .ge 24) by decide +kernel) (mb_f (q := .ge) (a := ((j : Nat) : Int)) (b := ((L.length : Nat) : Int)) (by show ¬ (((L.length : Nat) : Int) ≤ ((j : Nat) : Int)); omega) ⟨by omega, by omega⟩ ⟨by omega, by omega⟩ (by decide)) ?_
    refine jr_1 jm_182 (show jw_cd cd_182 14 = some (.iload 4) by decide +kernel) rfl ?_
    refine jr_1 jm_182 (show jw_cd cd_182 16 = some (.aload_n 1) by decide +kernel) rfl ?_
    refine jr_1 jm_182 (show jw_cd cd_182 17 = some (.arraylength) by decide +kernel) (cln (jx_ar_h (cl_old hl ⟨by omega, oI⟩) (jbg (by omega))) (by decide)) ?_
    refine jr_1 jm_182 (show jw_cd cd_182 18 = some (.if_icmp .ge 17) by decide +kernel) (mb_f (q := .ge) (a := ((j : Nat) : Int)) (b := ((rn : Nat) : Int)) (by show ¬ (((rn : Nat) : Int) ≤ ((j : Nat) : Int)); omega) ⟨by omega, by omega⟩ ⟨by omega, by omega⟩ (by decide)) ?_
    refine jr_1 jm_182 (show jw_cd cd_182 21 = some (.aload_n 3) by decide +kernel) rfl ?_
    refine jr_1 jm_182 (show jw_cd cd_182 22 = some (.aload_n 1) by decide +kernel) rfl ?_
    refine jr_1 jm_182 (show jw_cd cd_182 23 = some (.iload 4) by decide +kernel) rfl ?_
    refine jr_1 jm_182 (show jw_cd cd_182 25 = some (.aaload) by decide +kernel) (cal_a (e := .ref it) (jx_ar_h (cl_old hl ⟨by omega, oI⟩) (jbg (by omega))) (Or.inl rfl) (by omega) (by omega) (by omega) (by rw [Int.toNat_natCast]; exact hit)) ?_
    refine jr_c jm_182 (show jw_cd cd_182 26 = some (.invokevirtual 123) by decide +kernel) (ccv (n := 1) (m2 := 94) (ci := 5) (a := a) (bs := [.ref it]) (r := []) (js_cls (cl_old hl ⟨by omega, hb.2.2.1⟩) (jbg (by omega))) (show jw_find jw_cvT 10 123 = some (1, [(5, 94)]) by decide +kernel) (by decide) rfl rfl rfl) jm_94 ⟨Nat.le_of_ble_eq_true rfl, by decide⟩ hr ?_
    refine jr_1 jm_182 (F2 := (32, [some (.ref 11), some (.ref ra), some (.int (Int32.ofInt (((L.length : Nat) : Int)))), some (.ref a), some (.int (Int32.ofInt (((j : Nat) : Int) + 1)))], [], (cl_mk h1 κ))) (show jw_cd cd_182 29 = some (.iinc 4 1) by decide +kernel) (mt_inc (a := ((j : Nat) : Int)) (c := ((j : Nat) : Int) + 1) rfl (by omega) rfl) ?_
    refine jr_1 jm_182 (show jw_cd cd_182 32 = some (.goto (-24)) by decide +kernel) (ju_go (t := 8) (by decide)) ?_
    exact p1
theorem jc_listOf {β : Bool} {d : Nat} {h : jx_H} {κ : mS} (hl : 50 ≤ h.length) {N : Nat} (hN : h.length = N) (hb32 : N < 2800000000) {X : Nat → Prop} (hx : ∀ c, N ≤ c → ¬ X c) {ra rn : Nat} {L : List vT} (hL : L.length ≤ 1000) (har : arR h X ra rn L) : ∃ h' : jx_H, jx_r (jz β) jw_M (d + 2) 182 (0, [some (.ref 11), some (.ref ra), some (.int (Int32.ofInt (((L.length : Nat) : Int)))), none, none], [], (cl_mk h κ)) (cl_mk h' (κ), .inl (some (.ref (N)))) ∧ vN h' X N (5, 0, [], []) (fl L) ∧ (∀ (c : Nat) (y : jx_C), h[c]? = some y → h'[c]? = some y) ∧ h'.length = N + 3 ∧ cvol h' = cvol h + (6 + L.length) := by
  obtain ⟨h1, e1, hb1, n1, v1, q1, fr1⟩ := mkL hl hN hx hL
  have c1 := jc_mkL (β := β) (d := d) (κ := κ) hl hN hb32 hL e1
  obtain ⟨h2, f2, p1, p2, p3, p4, p5⟩ := jc_lsL (β := β) (d := d) (κ := κ) hL (by omega) (Nat.le_refl _) L 0 [] h1 _ rfl (by omega) rfl (by omega) (by omega) hb1 (arR_fr fr1 har)
  rw [List.nil_append] at p2
  refine ⟨h2, ?_, bL_done (by omega) p2, fun c y hy => p3 c y (by have := (List.getElem?_eq_some_iff.mp hy).1; omega) (q1 c y hy), by omega, by omega⟩
  refine jr_1 jm_182 (show jw_cd cd_182 0 = some (.iload_n 2) by decide +kernel) rfl ?_
  refine jr_c jm_182 (show jw_cd cd_182 1 = some (.invokestatic 120) by decide +kernel) (mc_s (n := 1) (m2 := 93) (bs := [.int (Int32.ofInt (((L.length : Nat) : Int)))]) (r := []) (by decide) (show jw_find jw_csT 10 120 = some (93, 1) by decide +kernel) rfl rfl rfl) jm_93 ⟨Nat.le_of_ble_eq_true rfl, by decide⟩ c1 ?_
  refine jr_1 jm_182 (F2 := (5, [some (.ref 11), some (.ref ra), some (.int (Int32.ofInt (((L.length : Nat) : Int)))), some (.ref N), none], [], (cl_mk h1 κ))) (show jw_cd cd_182 4 = some (.astore_n 3) by decide +kernel) rfl ?_
  refine jr_1 jm_182 (show jw_cd cd_182 5 = some (.iconst 0) by decide +kernel) rfl ?_
  refine jr_1 jm_182 (F2 := (8, [some (.ref 11), some (.ref ra), some (.int (Int32.ofInt (((L.length : Nat) : Int)))), some (.ref N), some (.int (Int32.ofInt (0)))], [], (cl_mk h1 κ))) (show jw_cd cd_182 6 = some (.istore 4) by decide +kernel) rfl ?_
  exact p1
theorem jc_rvL {β : Bool} {d : Nat} {κ : mS} {X : Nat → Prop} {N0 a ka ia ic rw : Nat} {g : Nat → Value} {L : List vT} (hL : L.length ≤ 1000) (hic : ic ≤ 2000) (hLi : L.length ≤ ic) : ∀ (j : Nat) (acc : List vT) (h : jx_H) (f : Nat → Value), j ≤ L.length → acc.length + j = L.length → 50 ≤ h.length → h.length < 2900000000 → bL h X N0 a ka ia 0 ic f g 5 (fl acc) → rowR h (bX X a ka ia) rw L → ∃ (h' : jx_H) (f' : Nat → Value), jx_r (jz β) jw_M (d + 2) 203 (15, [some (.ref 11), some (.ref rw), some (.ref a), some (.int (Int32.ofInt (((j : Nat) : Int) - 1)))], [], (cl_mk h κ)) (cl_mk h' (κ), .inl (some (.ref (a)))) ∧ bL h' X N0 a ka ia 0 ic f' g 5 (fl (acc ++ (L.take j).reverse)) ∧ (∀ (c : Nat) (y : jx_C), c < N0 → h[c]? = some y → h'[c]? = some y) ∧ h'.length = h.length ∧ cvol h' = cvol h
  | 0, acc, h, f, hj, hac, hl, hb32, hb, har => by
    obtain ⟨l1, l2, l3, n1, n2, n3, n0⟩ := bL_b hb
    refine ⟨h, f, ?_, by rw [List.take_zero, List.reverse_nil, List.append_nil]; exact hb, fun c y _ hy => hy, rfl, rfl⟩
    refine jr_1 jm_203 (show jw_cd cd_203 15 = some (.iload_n 3) by decide +kernel) rfl ?_
    refine jr_1 jm_203 (show jw_cd cd_203 16 = some (.ifCond .lt 19) by decide +kernel) (mz_t (q := .lt) (a := ((0 : Nat) : Int) - 1) (t := 35) (by show ((0 : Nat) : Int) - 1 < 0; omega) ⟨by omega, by omega⟩ (by decide) (by decide)) ?_
    refine jr_1 jm_203 (show jw_cd cd_203 35 = some (.aload_n 2) by decide +kernel) rfl ?_
    exact jr_v jm_203 (show jw_cd cd_203 36 = some (.areturn) by decide +kernel) rfl
  | j + 1, acc, h, f, hj, hac, hl, hb32, hb, har => by
    obtain ⟨l1, l2, l3, n1, n2, n3, n0⟩ := bL_b hb
    obtain ⟨z, r1, r2, rt, rka, ria, ric, rf, zi, oR, oI, hric, hel⟩ := id har
    have z1 := z.1
    have z2 := z.2.1
    have zi1 := zi.1
    have zi2 := zi.2.1
    obtain ⟨y, hget⟩ := gE_lt (l := L) (i := j) (by omega)
    obtain ⟨it, hit, hitv⟩ := hel j y hget
    obtain ⟨h1, f1, hr, q1, q2, q3, q4, q5, -⟩ := jc_addN' (β := β) (d := d) (κ := κ) (v := y) hl (by omega) hb (by omega) hic hitv
    obtain ⟨h2, f2, p1, p2, p3, p4, p5⟩ := jc_rvL (β := β) (d := d) (κ := κ) hL hic hLi j (acc ++ [y]) h1 f1 (by omega) (by rw [List.length_append]; show acc.length + 1 + j = _; omega) (by omega) (by omega) q1 (rowR_fr q2 har)
    have et : (L.take (j + 1)).reverse = y :: (L.take j).reverse := by rw [List.take_add_one, hget]; simp
    rw [et]
    rw [List.append_assoc] at p2
    refine ⟨h2, f2, ?_, p2, fun c y hc hy => p3 c y hc (q3 c y hc hy), by omega, by omega⟩
    refine jr_1 jm_203 (show jw_cd cd_203 15 = some (.iload_n 3) by decide +kernel) rfl ?_
    refine jr_1 jm_203 (show jw_cd cd_203 16 = some (.ifCond .lt 19) by decide +kernel) (mz_f (q := .lt) (a := ((j + 1 : Nat) : Int) - 1) (by show ¬ (((j + 1 : Nat) : Int) - 1 < 0); omega) ⟨by omega, by omega⟩ (by decide)) ?_
    refine jr_1 jm_203 (show jw_cd cd_203 19 = some (.aload_n 2) by decide +kernel) rfl ?_
    refine jr_1 jm_203 (show jw_cd cd_203 20 = some (.aload_n 1) by decide +kernel) rfl ?_
    refine jr_1 jm_203 (show jw_cd cd_203 21 = some (.getfield 47) by decide +kernel) (js_getf (cl_old hl ⟨by omega, oR⟩) (jbg (by omega)) (show jw_fld 10 47 5 = some 4 by decide +kernel) rfl) ?_
    refine jr_1 jm_203 (show jw_cd cd_203 24 = some (.iload_n 3) by decide +kernel) rfl ?_
    refine jr_1 jm_203 (show jw_cd cd_203 25 = some (.aaload) by decide +kernel) (cal_a (e := .ref it) (jx_ar_h (cl_old hl ⟨by omega, oI⟩) (jbg (by omega))) (Or.inl rfl) (by omega) (by omega) (by omega) (by rw [show (((j + 1 : Nat) : Int) - 1).toNat = j by omega]; exact hit)) ?_
    refine jr_c jm_203 (show jw_cd cd_203 26 = some (.invokevirtual 123) by decide +kernel) (ccv (n := 1) (m2 := 94) (ci := 5) (a := a) (bs := [.ref it]) (r := []) (js_cls (cl_old hl ⟨by omega, hb.2.2.1⟩) (jbg (by omega))) (show jw_find jw_cvT 10 123 = some (1, [(5, 94)]) by decide +kernel) (by decide) rfl rfl rfl) jm_94 ⟨Nat.le_of_ble_eq_true rfl, by decide⟩ hr ?_
    refine jr_1 jm_203 (F2 := (32, [some (.ref 11), some (.ref rw), some (.ref a), some (.int (Int32.ofInt (((j : Nat) : Int) - 1)))], [], (cl_mk h1 κ))) (show jw_cd cd_203 29 = some (.iinc 3 (-1)) by decide +kernel) (mt_inc (a := ((j + 1 : Nat) : Int) - 1) (c := ((j : Nat) : Int) - 1) rfl (by omega) rfl) ?_
    refine jr_1 jm_203 (show jw_cd cd_203 32 = some (.goto (-17)) by decide +kernel) (ju_go (t := 15) (by decide)) ?_
    exact p1
theorem jc_revL {β : Bool} {d : Nat} {h : jx_H} {κ : mS} (hl : 50 ≤ h.length) {N : Nat} (hN : h.length = N) (hb32 : N < 2800000000) {X : Nat → Prop} (hx : ∀ c, N ≤ c → ¬ X c) {rw : Nat} {L : List vT} (hL : L.length ≤ 1000) (har : rowR h X rw L) : ∃ h' : jx_H, jx_r (jz β) jw_M (d + 2) 203 (0, [some (.ref 11), some (.ref rw), none, none], [], (cl_mk h κ)) (cl_mk h' (κ), .inl (some (.ref (N)))) ∧ vN h' X N (5, 0, [], []) (fl L.reverse) ∧ (∀ (c : Nat) (y : jx_C), h[c]? = some y → h'[c]? = some y) ∧ h'.length = N + 3 ∧ cvol h' = cvol h + (6 + L.length) := by
  obtain ⟨h1, e1, hb1, n1, v1, q1, fr1⟩ := mkL hl hN hx hL
  have c1 := jc_mkL (β := β) (d := d) (κ := κ) hl hN hb32 hL e1
  obtain ⟨z, r1, r2, rt, rka, ria, ric, rf, zi, oR, oI, hric, hel⟩ := id har
  have z1 := z.1
  have z2 := z.2.1
  have oR1 := q1 _ _ oR
  obtain ⟨h2, f2, p1, p2, p3, p4, p5⟩ := jc_rvL (β := β) (d := d) (κ := κ) hL (by omega) (Nat.le_refl _) L.length [] h1 _ (Nat.le_refl _) (by show 0 + L.length = _; omega) (by omega) (by omega) hb1 (rowR_fr fr1 har)
  rw [List.nil_append, List.take_length] at p2
  refine ⟨h2, ?_, bL_done (by omega) p2, fun c y hy => p3 c y (by have := (List.getElem?_eq_some_iff.mp hy).1; omega) (q1 c y hy), by omega, by omega⟩
  refine jr_1 jm_203 (show jw_cd cd_203 0 = some (.aload_n 1) by decide +kernel) rfl ?_
  refine jr_1 jm_203 (show jw_cd cd_203 1 = some (.getfield 44) by decide +kernel) (js_getf (cl_old hl ⟨by omega, oR⟩) (jbg (by omega)) (show jw_fld 10 44 5 = some 5 by decide +kernel) rfl) ?_
  refine jr_c jm_203 (show jw_cd cd_203 4 = some (.invokestatic 120) by decide +kernel) (mc_s (n := 1) (m2 := 93) (bs := [.int (Int32.ofInt (((L.length : Nat) : Int)))]) (r := []) (by decide) (show jw_find jw_csT 10 120 = some (93, 1) by decide +kernel) rfl rfl rfl) jm_93 ⟨Nat.le_of_ble_eq_true rfl, by decide⟩ c1 ?_
  refine jr_1 jm_203 (F2 := (8, [some (.ref 11), some (.ref rw), some (.ref N), none], [], (cl_mk h1 κ))) (show jw_cd cd_203 7 = some (.astore_n 2) by decide +kernel) rfl ?_
  refine jr_1 jm_203 (show jw_cd cd_203 8 = some (.aload_n 1) by decide +kernel) rfl ?_
  refine jr_1 jm_203 (show jw_cd cd_203 9 = some (.getfield 44) by decide +kernel) (js_getf (cl_old (by omega : 50 ≤ h1.length) ⟨by omega, oR1⟩) (jbg (by omega)) (show jw_fld 10 44 5 = some 5 by decide +kernel) rfl) ?_
  refine jr_1 jm_203 (show jw_cd cd_203 12 = some (.iconst 1) by decide +kernel) rfl ?_
  refine jr_1 jm_203 (show jw_cd cd_203 13 = some (.isub) by decide +kernel) (mt_sub (c := ((L.length : Nat) : Int) - 1) rfl) ?_
  refine jr_1 jm_203 (F2 := (15, [some (.ref 11), some (.ref rw), some (.ref N), some (.int (Int32.ofInt (((L.length : Nat) : Int) - 1)))], [], (cl_mk h1 κ))) (show jw_cd cd_203 14 = some (.istore_n 3) by decide +kernel) rfl ?_
  exact p1
theorem jc_suL {β : Bool} {d : Nat} {h : jx_H} {κ : mS} (hl : 50 ≤ h.length) {X : Nat → Prop} {a t ka ia ic : Nat} {i : tI} {F0 : FT} {f g : Nat → Value} {ob : Bool} (l0 : a < 4000000000) (l2 : ia < 4000000000) (hA : (cl_mk h κ)[a]? = some (.inr (5, [.int (Int32.ofInt (i.1)), .int (Int32.ofInt (i.2.1)), .ref t, .ref ka, .ref ia, .int (Int32.ofInt (((fsz F0 : Nat) : Int)))]))) (hI : (cl_mk h κ)[ia]? = some (.inl (4, ic, f))) (hsz : fsz F0 ≤ ic ∧ ic ≤ 1000000) : ∀ (F : FT) (j : Nat) (s : Int), vF h X F ob f g j → j + fsz F = fsz F0 → jx_r (jz β) jw_M (d) 204 (4, [some (.ref 11), some (.ref a), some (.int (Int32.ofInt (s))), some (.int (Int32.ofInt (((j : Nat) : Int))))], [], (cl_mk h κ)) (cl_mk h (κ), .inl (some (.int (Int32.ofInt (ftot s F)))))
  | .leaf, j, s, _, hj => by
    have hj : j + 0 = fsz F0 := hj
    show jx_r (jz β) jw_M (d) 204 (4, [some (.ref 11), some (.ref a), some (.int (Int32.ofInt (s))), some (.int (Int32.ofInt (((j : Nat) : Int))))], [], (cl_mk h κ)) (cl_mk h (κ), .inl (some (.int (Int32.ofInt (s)))))
    refine jr_1 jm_204 (show jw_cd cd_204 4 = some (.iload_n 3) by decide +kernel) rfl ?_
    refine jr_1 jm_204 (show jw_cd cd_204 5 = some (.aload_n 1) by decide +kernel) rfl ?_
    refine jr_1 jm_204 (show jw_cd cd_204 6 = some (.getfield 44) by decide +kernel) (js_getf hA (jbg (by omega)) (show jw_fld 10 44 5 = some 5 by decide +kernel) rfl) ?_
    refine jr_1 jm_204 (show jw_cd cd_204 9 = some (.if_icmp .ge 21) by decide +kernel) (mb_t (q := .ge) (a := ((j : Nat) : Int)) (b := ((fsz F0 : Nat) : Int)) (t := 30) (by show ((fsz F0 : Nat) : Int) ≤ ((j : Nat) : Int); omega) ⟨by omega, by omega⟩ ⟨by omega, by omega⟩ (by decide) (by decide)) ?_
    refine jr_1 jm_204 (show jw_cd cd_204 30 = some (.iload_n 2) by decide +kernel) rfl ?_
    exact jr_v jm_204 (show jw_cd cd_204 31 = some (.ireturn) by decide +kernel) rfl
  | .inner s0 i0 u0 c0 n, j, s, hvF, hj => by
    have hj : j + (fsz n + 1) = fsz F0 := hj
    obtain ⟨⟨it, hit, hitv⟩, -, h3⟩ := hvF
    have hitv : vN h X it i0 c0 := hitv
    have hO := vN_O (κ := κ) hl hitv
    obtain ⟨zl0, zt, zka, zia, zkc, zic, zf, zg, ⟨zl1, zl2⟩, hzA, hzS, hzK, hzI, ⟨zs1, zs2⟩, zor, hzF⟩ := id hO
    have hr := jc_suL (β := β) (d := d) hl l0 l2 hA hI hsz n (j + 1) (s + i0.2.1) h3 (by omega)
    show jx_r (jz β) jw_M (d) 204 (4, [some (.ref 11), some (.ref a), some (.int (Int32.ofInt (s))), some (.int (Int32.ofInt (((j : Nat) : Int))))], [], (cl_mk h κ)) (cl_mk h (κ), .inl (some (.int (Int32.ofInt (ftot (s + i0.2.1) n)))))
    refine jr_1 jm_204 (show jw_cd cd_204 4 = some (.iload_n 3) by decide +kernel) rfl ?_
    refine jr_1 jm_204 (show jw_cd cd_204 5 = some (.aload_n 1) by decide +kernel) rfl ?_
    refine jr_1 jm_204 (show jw_cd cd_204 6 = some (.getfield 44) by decide +kernel) (js_getf hA (jbg (by omega)) (show jw_fld 10 44 5 = some 5 by decide +kernel) rfl) ?_
    refine jr_1 jm_204 (show jw_cd cd_204 9 = some (.if_icmp .ge 21) by decide +kernel) (mb_f (q := .ge) (a := ((j : Nat) : Int)) (b := ((fsz F0 : Nat) : Int)) (by show ¬ (((fsz F0 : Nat) : Int) ≤ ((j : Nat) : Int)); omega) ⟨by omega, by omega⟩ ⟨by omega, by omega⟩ (by decide)) ?_
    refine jr_1 jm_204 (show jw_cd cd_204 12 = some (.iload_n 2) by decide +kernel) rfl ?_
    refine jr_1 jm_204 (show jw_cd cd_204 13 = some (.aload_n 1) by decide +kernel) rfl ?_
    refine jr_1 jm_204 (show jw_cd cd_204 14 = some (.getfield 47) by decide +kernel) (js_getf hA (jbg (by omega)) (show jw_fld 10 47 5 = some 4 by decide +kernel) rfl) ?_
    refine jr_1 jm_204 (show jw_cd cd_204 17 = some (.iload_n 3) by decide +kernel) rfl ?_
    refine jr_1 jm_204 (show jw_cd cd_204 18 = some (.aaload) by decide +kernel) (cal_a (e := .ref it) (js_arr hI (jbg (by omega))) (Or.inl rfl) (by omega) (by omega) (by omega) (by rw [Int.toNat_natCast]; exact hit)) ?_
    refine jr_1 jm_204 (show jw_cd cd_204 19 = some (.getfield 149) by decide +kernel) (js_getf hzA (jbg (by omega)) (show jw_fld 10 149 5 = some 1 by decide +kernel) rfl) ?_
    refine jr_1 jm_204 (show jw_cd cd_204 22 = some (.iadd) by decide +kernel) (mt_add (c := s + i0.2.1) rfl) ?_
    refine jr_1 jm_204 (F2 := (24, [some (.ref 11), some (.ref a), some (.int (Int32.ofInt (s + i0.2.1))), some (.int (Int32.ofInt (((j : Nat) : Int))))], [], (cl_mk h κ))) (show jw_cd cd_204 23 = some (.istore_n 2) by decide +kernel) rfl ?_
    refine jr_1 jm_204 (F2 := (27, [some (.ref 11), some (.ref a), some (.int (Int32.ofInt (s + i0.2.1))), some (.int (Int32.ofInt (((j : Nat) : Int) + 1)))], [], (cl_mk h κ))) (show jw_cd cd_204 24 = some (.iinc 3 1) by decide +kernel) (mt_inc (a := ((j : Nat) : Int)) (c := ((j : Nat) : Int) + 1) rfl (by omega) rfl) ?_
    refine jr_1 jm_204 (show jw_cd cd_204 27 = some (.goto (-23)) by decide +kernel) (ju_go (t := 4) (by decide)) ?_
    exact hr
theorem jc_sum {β : Bool} {d : Nat} {h : jx_H} {κ : mS} (hl : 50 ≤ h.length) {X : Nat → Prop} {a : Nat} {i : tI} {F : FT} (hv : vO h κ X a i F) : jx_r (jz β) jw_M (d) 204 (0, [some (.ref 11), some (.ref a), none, none], [], (cl_mk h κ)) (cl_mk h (κ), .inl (some (.int (Int32.ofInt (ftot 0 F))))) := by
  obtain ⟨l0, t, ka, ia, kc, ic, f, g, ⟨l1, l2⟩, hA, hS, hK, hI, ⟨s1, s2⟩, or, hF⟩ := id hv
  have hr := jc_suL (β := β) (d := d) (κ := κ) hl l0 l2 hA hI ⟨s1, s2⟩ F 0 0 hF (by omega)
  refine jr_1 jm_204 (show jw_cd cd_204 0 = some (.iconst 0) by decide +kernel) rfl ?_
  refine jr_1 jm_204 (F2 := (2, [some (.ref 11), some (.ref a), some (.int (Int32.ofInt (0))), none], [], (cl_mk h κ))) (show jw_cd cd_204 1 = some (.istore_n 2) by decide +kernel) rfl ?_
  refine jr_1 jm_204 (show jw_cd cd_204 2 = some (.iconst 0) by decide +kernel) rfl ?_
  refine jr_1 jm_204 (F2 := (4, [some (.ref 11), some (.ref a), some (.int (Int32.ofInt (0))), some (.int (Int32.ofInt (0)))], [], (cl_mk h κ))) (show jw_cd cd_204 3 = some (.istore_n 3) by decide +kernel) rfl ?_
  exact hr
theorem jc_ouL {β : Bool} {d : Nat} {h : jx_H} {κ : mS} (hl : 50 ≤ h.length) {X : Nat → Prop} {a t ka ia ic : Nat} {i : tI} {F0 : FT} {f g : Nat → Value} {ob most : Bool} {dr kk : Int} (hdr : dr = bif most then 1 else -1) (l0 : a < 4000000000) (l2 : ia < 4000000000) (hA : (cl_mk h κ)[a]? = some (.inr (5, [.int (Int32.ofInt (i.1)), .int (Int32.ofInt (i.2.1)), .ref t, .ref ka, .ref ia, .int (Int32.ofInt (((fsz F0 : Nat) : Int)))]))) (hI : (cl_mk h κ)[ia]? = some (.inl (4, ic, f))) (hsz : fsz F0 ≤ ic ∧ ic ≤ 1000000) : ∀ (F : FT) (j fo : Nat) (x : vT), vF h X F ob f g j → fwf F → allK [] kk F = true → j + fsz F = fsz F0 → vN h X fo x.1 x.2 → vok x → x.1.1 = kk → ∃ c, jx_r (jz β) jw_M (d + 5) 205 (24, [some (.ref 11), some (.ref a), some (.int (Int32.ofInt (dr))), some (.ref fo), some (.int (Int32.ofInt (((j : Nat) : Int))))], [], (cl_mk h κ)) (cl_mk h (κ), .inl (some (.ref (c)))) ∧ vN h X c (fbest most x F).1 (fbest most x F).2
  | .leaf, j, fo, x, _, _, _, hj, hfo, _, _ => by
    have hj : j + 0 = fsz F0 := hj
    refine ⟨fo, ?_, hfo⟩
    refine jr_1 jm_205 (show jw_cd cd_205 24 = some (.iload 4) by decide +kernel) rfl ?_
    refine jr_1 jm_205 (show jw_cd cd_205 26 = some (.aload_n 1) by decide +kernel) rfl ?_
    refine jr_1 jm_205 (show jw_cd cd_205 27 = some (.getfield 44) by decide +kernel) (js_getf hA (jbg (by omega)) (show jw_fld 10 44 5 = some 5 by decide +kernel) rfl) ?_
    refine jr_1 jm_205 (show jw_cd cd_205 30 = some (.if_icmp .ge 33) by decide +kernel) (mb_t (q := .ge) (a := ((j : Nat) : Int)) (b := ((fsz F0 : Nat) : Int)) (t := 63) (by show ((fsz F0 : Nat) : Int) ≤ ((j : Nat) : Int); omega) ⟨by omega, by omega⟩ ⟨by omega, by omega⟩ (by decide) (by decide)) ?_
    refine jr_1 jm_205 (show jw_cd cd_205 63 = some (.aload_n 3) by decide +kernel) rfl ?_
    exact jr_v jm_205 (show jw_cd cd_205 64 = some (.areturn) by decide +kernel) rfl
  | .inner s0 i0 u0 c0 n, j, fo, x, hvF, hw, hK, hj, hfo, hxo, hxk => by
    have hj : j + (fsz n + 1) = fsz F0 := hj
    obtain ⟨⟨it, hit, hitv⟩, -, h3⟩ := hvF
    have hitv : vN h X it i0 c0 := hitv
    have hO := vN_O (κ := κ) hl hitv
    have hOf := vN_O (κ := κ) hl hfo
    obtain ⟨zl0, zt, zka, zia, zkc, zic, zf, zg, ⟨zl1, zl2⟩, hzA, hzS, hzK, hzI, ⟨zs1, zs2⟩, zor, hzF⟩ := id hO
    have hK : (decide (rkind [] i0 c0 = kk) && allK [] kk n) = true := hK
    rw [Bool.and_eq_true, decide_eq_true_eq] at hK
    have hik : i0.1 = kk := hK.1
    obtain ⟨o, c1, o1, o2', o3, o4⟩ := jc_order (β := β) (d := d) (κ := κ) hl hO hOf hw.1 hxo.1 (by omega)
    obtain ⟨o2, ho2⟩ : ∃ o2 : Int, dr * o = o2 := ⟨_, rfl⟩
    have hb : fbest most x (.inner s0 i0 u0 c0 n) = fbest most (if (bif most then abv i0 x.1 else abv x.1 i0) = true then (i0, c0) else x) n := rfl
    rw [hb]
    have ho : (0 < o2 ↔ (bif most then abv i0 x.1 else abv x.1 i0) = true) ∧ -1 ≤ o2 ∧ o2 ≤ 1 := by
      cases most with
      | true =>
        have hdr : dr = 1 := hdr
        rw [hdr, Int.one_mul] at ho2
        rw [← ho2]
        exact ⟨o1, o3, o4⟩
      | false =>
        have hdr : dr = -1 := hdr
        rw [hdr] at ho2
        have e2 : o2 = -o := by omega
        rw [e2]
        exact ⟨⟨fun z => o2'.mp (by omega), fun z => by have := o2'.mpr z; omega⟩, by omega, by omega⟩
    by_cases ht : (bif most then abv i0 x.1 else abv x.1 i0) = true
    · rw [if_pos ht]
      have hpos := ho.1.mpr ht
      obtain ⟨c, r1, r2⟩ := jc_ouL (β := β) (d := d) hl hdr l0 l2 hA hI hsz n (j + 1) it (i0, c0) h3 hw.2.2 hK.2 (by omega) hitv ⟨hw.1, hw.2.1⟩ hik
      refine ⟨c, ?_, r2⟩
      refine jr_1 jm_205 (show jw_cd cd_205 24 = some (.iload 4) by decide +kernel) rfl ?_
      refine jr_1 jm_205 (show jw_cd cd_205 26 = some (.aload_n 1) by decide +kernel) rfl ?_
      refine jr_1 jm_205 (show jw_cd cd_205 27 = some (.getfield 44) by decide +kernel) (js_getf hA (jbg (by omega)) (show jw_fld 10 44 5 = some 5 by decide +kernel) rfl) ?_
      refine jr_1 jm_205 (show jw_cd cd_205 30 = some (.if_icmp .ge 33) by decide +kernel) (mb_f (q := .ge) (a := ((j : Nat) : Int)) (b := ((fsz F0 : Nat) : Int)) (by show ¬ (((fsz F0 : Nat) : Int) ≤ ((j : Nat) : Int)); omega) ⟨by omega, by omega⟩ ⟨by omega, by omega⟩ (by decide)) ?_
      refine jr_1 jm_205 (show jw_cd cd_205 33 = some (.iload_n 2) by decide +kernel) rfl ?_
      refine jr_1 jm_205 (show jw_cd cd_205 34 = some (.aload_n 1) by decide +kernel) rfl ?_
      refine jr_1 jm_205 (show jw_cd cd_205 35 = some (.getfield 47) by decide +kernel) (js_getf hA (jbg (by omega)) (show jw_fld 10 47 5 = some 4 by decide +kernel) rfl) ?_
      refine jr_1 jm_205 (show jw_cd cd_205 38 = some (.iload 4) by decide +kernel) rfl ?_
      refine jr_1 jm_205 (show jw_cd cd_205 40 = some (.aaload) by decide +kernel) (cal_a (e := .ref it) (js_arr hI (jbg (by omega))) (Or.inl rfl) (by omega) (by omega) (by omega) (by rw [Int.toNat_natCast]; exact hit)) ?_
      refine jr_1 jm_205 (show jw_cd cd_205 41 = some (.aload_n 3) by decide +kernel) rfl ?_
      refine jr_c jm_205 (show jw_cd cd_205 42 = some (.invokevirtual 135) by decide +kernel) (ccv (n := 1) (m2 := 185) (ci := 5) (a := it) (bs := [.ref fo]) (r := [.int (Int32.ofInt (dr))]) (js_cls hzA (jbg (by omega))) (show jw_find jw_cvT 10 135 = some (1, [(5, 185)]) by decide +kernel) (by decide) rfl rfl rfl) jm_185 ⟨Nat.le_of_ble_eq_true rfl, by decide⟩ c1 ?_
      refine jr_1 jm_205 (show jw_cd cd_205 45 = some (.imul) by decide +kernel) (mt_mul (c := o2) ho2) ?_
      refine jr_1 jm_205 (show jw_cd cd_205 46 = some (.ifCond .le 11) by decide +kernel) (mz_f (q := .le) (a := o2) (by show ¬ (o2 ≤ 0); omega) ⟨by omega, by omega⟩ (by decide)) ?_
      refine jr_1 jm_205 (show jw_cd cd_205 49 = some (.aload_n 1) by decide +kernel) rfl ?_
      refine jr_1 jm_205 (show jw_cd cd_205 50 = some (.getfield 47) by decide +kernel) (js_getf hA (jbg (by omega)) (show jw_fld 10 47 5 = some 4 by decide +kernel) rfl) ?_
      refine jr_1 jm_205 (show jw_cd cd_205 53 = some (.iload 4) by decide +kernel) rfl ?_
      refine jr_1 jm_205 (show jw_cd cd_205 55 = some (.aaload) by decide +kernel) (cal_a (e := .ref it) (js_arr hI (jbg (by omega))) (Or.inl rfl) (by omega) (by omega) (by omega) (by rw [Int.toNat_natCast]; exact hit)) ?_
      refine jr_1 jm_205 (F2 := (57, [some (.ref 11), some (.ref a), some (.int (Int32.ofInt (dr))), some (.ref it), some (.int (Int32.ofInt (((j : Nat) : Int))))], [], (cl_mk h κ))) (show jw_cd cd_205 56 = some (.astore_n 3) by decide +kernel) rfl ?_
      refine jr_1 jm_205 (F2 := (60, [some (.ref 11), some (.ref a), some (.int (Int32.ofInt (dr))), some (.ref it), some (.int (Int32.ofInt (((j : Nat) : Int) + 1)))], [], (cl_mk h κ))) (show jw_cd cd_205 57 = some (.iinc 4 1) by decide +kernel) (mt_inc (a := ((j : Nat) : Int)) (c := ((j : Nat) : Int) + 1) rfl (by omega) rfl) ?_
      refine jr_1 jm_205 (show jw_cd cd_205 60 = some (.goto (-36)) by decide +kernel) (ju_go (t := 24) (by decide)) ?_
      exact r1
    · rw [if_neg ht]
      have hpos : ¬ 0 < o2 := fun z => ht (ho.1.mp z)
      obtain ⟨c, r1, r2⟩ := jc_ouL (β := β) (d := d) hl hdr l0 l2 hA hI hsz n (j + 1) fo x h3 hw.2.2 hK.2 (by omega) hfo hxo hxk
      refine ⟨c, ?_, r2⟩
      refine jr_1 jm_205 (show jw_cd cd_205 24 = some (.iload 4) by decide +kernel) rfl ?_
      refine jr_1 jm_205 (show jw_cd cd_205 26 = some (.aload_n 1) by decide +kernel) rfl ?_
      refine jr_1 jm_205 (show jw_cd cd_205 27 = some (.getfield 44) by decide +kernel) (js_getf hA (jbg (by omega)) (show jw_fld 10 44 5 = some 5 by decide +kernel) rfl) ?_
      refine jr_1 jm_205 (show jw_cd cd_205 30 = some (.if_icmp .ge 33) by decide +kernel) (mb_f (q := .ge) (a := ((j : Nat) : Int)) (b := ((fsz F0 : Nat) : Int)) (by show ¬ (((fsz F0 : Nat) : Int) ≤ ((j : Nat) : Int)); omega) ⟨by omega, by omega⟩ ⟨by omega, by omega⟩ (by decide)) ?_
      refine jr_1 jm_205 (show jw_cd cd_205 33 = some (.iload_n 2) by decide +kernel) rfl ?_
      refine jr_1 jm_205 (show jw_cd cd_205 34 = some (.aload_n 1) by decide +kernel) rfl ?_
      refine jr_1 jm_205 (show jw_cd cd_205 35 = some (.getfield 47) by decide +kernel) (js_getf hA (jbg (by omega)) (show jw_fld 10 47 5 = some 4 by decide +kernel) rfl) ?_
      refine jr_1 jm_205 (show jw_cd cd_205 38 = some (.iload 4) by decide +kernel) rfl ?_
      refine jr_1 jm_205 (show jw_cd cd_205 40 = some (.aaload) by decide +kernel) (cal_a (e := .ref it) (js_arr hI (jbg (by omega))) (Or.inl rfl) (by omega) (by omega) (by omega) (by rw [Int.toNat_natCast]; exact hit)) ?_
      refine jr_1 jm_205 (show jw_cd cd_205 41 = some (.aload_n 3) by decide +kernel) rfl ?_
      refine jr_c jm_205 (show jw_cd cd_205 42 = some (.invokevirtual 135) by decide +kernel) (ccv (n := 1) (m2 := 185) (ci := 5) (a := it) (bs := [.ref fo]) (r := [.int (Int32.ofInt (dr))]) (js_cls hzA (jbg (by omega))) (show jw_find jw_cvT 10 135 = some (1, [(5, 185)]) by decide +kernel) (by decide) rfl rfl rfl) jm_185 ⟨Nat.le_of_ble_eq_true rfl, by decide⟩ c1 ?_
      refine jr_1 jm_205 (show jw_cd cd_205 45 = some (.imul) by decide +kernel) (mt_mul (c := o2) ho2) ?_
      refine jr_1 jm_205 (show jw_cd cd_205 46 = some (.ifCond .le 11) by decide +kernel) (mz_t (q := .le) (a := o2) (t := 57) (by show o2 ≤ 0; omega) ⟨by omega, by omega⟩ (by decide) (by decide)) ?_
      refine jr_1 jm_205 (F2 := (60, [some (.ref 11), some (.ref a), some (.int (Int32.ofInt (dr))), some (.ref fo), some (.int (Int32.ofInt (((j : Nat) : Int) + 1)))], [], (cl_mk h κ))) (show jw_cd cd_205 57 = some (.iinc 4 1) by decide +kernel) (mt_inc (a := ((j : Nat) : Int)) (c := ((j : Nat) : Int) + 1) rfl (by omega) rfl) ?_
      refine jr_1 jm_205 (show jw_cd cd_205 60 = some (.goto (-36)) by decide +kernel) (ju_go (t := 24) (by decide)) ?_
      exact r1
theorem jc_outer {β : Bool} {d : Nat} {h : jx_H} {κ : mS} (hl : 50 ≤ h.length) {X : Nat → Prop} {a : Nat} {i : tI} {F : FT} {most : Bool} {dr : Int} (hv : vO h κ X a i F) (hw : fwf F) (hdr : dr = bif most then 1 else -1) (hK : ¬ fsort [] 0 F = -1) : ∃ c, jx_r (jz β) jw_M (d + 5) 205 (0, [some (.ref 11), some (.ref a), some (.int (Int32.ofInt (dr))), none, none], [], (cl_mk h κ)) (cl_mk h (κ), .inl (some (.ref (c)))) ∧ vQ h X c (fbest0 most F) := by
  obtain ⟨l0, t, ka, ia, kc, ic, f, g, ⟨l1, l2⟩, hA, hS, hK, hI, ⟨s1, s2⟩, or, hF⟩ := id hv
  cases F with
  | leaf =>
    have hz : fsz (.leaf : FT) = 0 := rfl
    refine ⟨7, ?_, rfl⟩
    obtain ⟨F, eF⟩ : ∃ F : FT, F = .leaf := ⟨_, rfl⟩
    rw [← eF] at hA hz s1
    refine jr_1 jm_205 (show jw_cd cd_205 0 = some (.aload_n 1) by decide +kernel) rfl ?_
    refine jr_1 jm_205 (show jw_cd cd_205 1 = some (.getfield 44) by decide +kernel) (js_getf hA (jbg (by omega)) (show jw_fld 10 44 5 = some 5 by decide +kernel) rfl) ?_
    refine jr_1 jm_205 (show jw_cd cd_205 4 = some (.ifCond .ne 10) by decide +kernel) (mz_f (q := .ne) (a := ((fsz F : Nat) : Int)) (by show ¬ (¬ (((fsz F : Nat) : Int) = 0)); omega) ⟨by omega, by omega⟩ (by decide)) ?_
    refine jr_1 jm_205 (show jw_cd cd_205 7 = some (.aload_n 0) by decide +kernel) rfl ?_
    refine jr_1 jm_205 (show jw_cd cd_205 8 = some (.getfield 9) by decide +kernel) (cgr_11_0 (show jw_fld 10 9 7 = some 0 by decide +kernel)) ?_
    refine jr_1 jm_205 (show jw_cd cd_205 11 = some (.goto 9) by decide +kernel) (ju_go (t := 20) (by decide)) ?_
    refine jr_1 jm_205 (F2 := (21, [some (.ref 11), some (.ref a), some (.int (Int32.ofInt (dr))), some (.ref 7), none], [], (cl_mk h κ))) (show jw_cd cd_205 20 = some (.astore_n 3) by decide +kernel) rfl ?_
    refine jr_1 jm_205 (show jw_cd cd_205 21 = some (.iconst 1) by decide +kernel) rfl ?_
    refine jr_1 jm_205 (F2 := (24, [some (.ref 11), some (.ref a), some (.int (Int32.ofInt (dr))), some (.ref 7), some (.int (Int32.ofInt (1)))], [], (cl_mk h κ))) (show jw_cd cd_205 22 = some (.istore 4) by decide +kernel) rfl ?_
    refine jr_1 jm_205 (show jw_cd cd_205 24 = some (.iload 4) by decide +kernel) rfl ?_
    refine jr_1 jm_205 (show jw_cd cd_205 26 = some (.aload_n 1) by decide +kernel) rfl ?_
    refine jr_1 jm_205 (show jw_cd cd_205 27 = some (.getfield 44) by decide +kernel) (js_getf hA (jbg (by omega)) (show jw_fld 10 44 5 = some 5 by decide +kernel) rfl) ?_
    refine jr_1 jm_205 (show jw_cd cd_205 30 = some (.if_icmp .ge 33) by decide +kernel) (mb_t (q := .ge) (a := 1) (b := ((fsz F : Nat) : Int)) (t := 63) (by show ((fsz F : Nat) : Int) ≤ 1; omega) ⟨by omega, by omega⟩ ⟨by omega, by omega⟩ (by decide) (by decide)) ?_
    refine jr_1 jm_205 (show jw_cd cd_205 63 = some (.aload_n 3) by decide +kernel) rfl ?_
    exact jr_v jm_205 (show jw_cd cd_205 64 = some (.areturn) by decide +kernel) rfl
  | inner s0 i0 u0 c0 n =>
    have hz : fsz (.inner s0 i0 u0 c0 n) = fsz n + 1 := rfl
    obtain ⟨⟨it, hit, hitv⟩, -, h3⟩ := hF
    have hitv : vN h X it i0 c0 := hitv
    have hkk : ∃ kk : Int, i0.1 = kk ∧ allK [] kk n = true := by
      rcases (fsort_0 (s := []) (.inner s0 i0 u0 c0 n)).mp hK with z | z
      · have z : (decide (rkind [] i0 c0 = 3) && allK [] 3 n) = true := z
        rw [Bool.and_eq_true, decide_eq_true_eq] at z
        exact ⟨3, z.1, z.2⟩
      · have z : (decide (rkind [] i0 c0 = 4) && allK [] 4 n) = true := z
        rw [Bool.and_eq_true, decide_eq_true_eq] at z
        exact ⟨4, z.1, z.2⟩
    obtain ⟨kk, hk1, hk2⟩ := hkk
    obtain ⟨c, r1, r2⟩ := jc_ouL (β := β) (d := d) (κ := κ) hl hdr l0 l2 hA hI ⟨s1, s2⟩ n 1 it (i0, c0) h3 hw.2.2 hk2 (by omega) hitv ⟨hw.1, hw.2.1⟩ hk1
    refine ⟨c, ?_, Or.inr r2⟩
    obtain ⟨F, eF⟩ : ∃ F : FT, F = .inner s0 i0 u0 c0 n := ⟨_, rfl⟩
    rw [← eF] at hA hz s1
    refine jr_1 jm_205 (show jw_cd cd_205 0 = some (.aload_n 1) by decide +kernel) rfl ?_
    refine jr_1 jm_205 (show jw_cd cd_205 1 = some (.getfield 44) by decide +kernel) (js_getf hA (jbg (by omega)) (show jw_fld 10 44 5 = some 5 by decide +kernel) rfl) ?_
    refine jr_1 jm_205 (show jw_cd cd_205 4 = some (.ifCond .ne 10) by decide +kernel) (mz_t (q := .ne) (a := ((fsz F : Nat) : Int)) (t := 14) (by show ¬ (((fsz F : Nat) : Int) = 0); omega) ⟨by omega, by omega⟩ (by decide) (by decide)) ?_
    refine jr_1 jm_205 (show jw_cd cd_205 14 = some (.aload_n 1) by decide +kernel) rfl ?_
    refine jr_1 jm_205 (show jw_cd cd_205 15 = some (.getfield 47) by decide +kernel) (js_getf hA (jbg (by omega)) (show jw_fld 10 47 5 = some 4 by decide +kernel) rfl) ?_
    refine jr_1 jm_205 (show jw_cd cd_205 18 = some (.iconst 0) by decide +kernel) rfl ?_
    refine jr_1 jm_205 (show jw_cd cd_205 19 = some (.aaload) by decide +kernel) (cal_a (e := .ref it) (js_arr hI (jbg (by omega))) (Or.inl rfl) (by omega) (by decide) (by omega) hit) ?_
    refine jr_1 jm_205 (F2 := (21, [some (.ref 11), some (.ref a), some (.int (Int32.ofInt (dr))), some (.ref it), none], [], (cl_mk h κ))) (show jw_cd cd_205 20 = some (.astore_n 3) by decide +kernel) rfl ?_
    refine jr_1 jm_205 (show jw_cd cd_205 21 = some (.iconst 1) by decide +kernel) rfl ?_
    refine jr_1 jm_205 (F2 := (24, [some (.ref 11), some (.ref a), some (.int (Int32.ofInt (dr))), some (.ref it), some (.int (Int32.ofInt (1)))], [], (cl_mk h κ))) (show jw_cd cd_205 22 = some (.istore 4) by decide +kernel) rfl ?_
    exact r1
theorem jc_type {β : Bool} {d : Nat} {h : jx_H} {κ : mS} (hl : 50 ≤ h.length) {X : Nat → Prop} {kd : Int} (hk : 0 ≤ kd ∧ kd ≤ 6) : ∃ c, jx_r (jz β) jw_M (d) 206 (0, [some (.ref 11), some (.int (Int32.ofInt (kd)))], [], (cl_mk h κ)) (cl_mk h (κ), .inl (some (.ref (c)))) ∧ strR h X c (tyS kd) := by
  obtain h0 | h0 | h0 | h0 | h0 | h0 | h0 : kd = 0 ∨ kd = 1 ∨ kd = 2 ∨ kd = 3 ∨ kd = 4 ∨ kd = 5 ∨ kd = 6 := by omega
  · refine ⟨jx_big + 14, ?_, Or.inl ⟨5, by decide, rfl, by rw [h0]; decide +kernel⟩⟩
    refine jr_1 jm_206 (show jw_cd cd_206 0 = some (.iload_n 1) by decide +kernel) rfl ?_
    refine jr_1 jm_206 (show jw_cd cd_206 1 = some (.tableswitch 54 0 5 #[39, 42, 42, 45, 48, 51]) by decide +kernel) (mt_ts (t := 40) (off := 39) ⟨by omega, by omega⟩ (by omega) (by rw [h0]; rfl) (by decide)) ?_
    refine jr_1 jm_206 (show jw_cd cd_206 40 = some (.ldc 152) by decide +kernel) (cld (a := jx_big + 14) rfl) ?_
    exact jr_v jm_206 (show jw_cd cd_206 42 = some (.areturn) by decide +kernel) rfl
  · refine ⟨jx_big + 15, ?_, Or.inl ⟨6, by decide, rfl, by rw [h0]; decide +kernel⟩⟩
    refine jr_1 jm_206 (show jw_cd cd_206 0 = some (.iload_n 1) by decide +kernel) rfl ?_
    refine jr_1 jm_206 (show jw_cd cd_206 1 = some (.tableswitch 54 0 5 #[39, 42, 42, 45, 48, 51]) by decide +kernel) (mt_ts (t := 43) (off := 42) ⟨by omega, by omega⟩ (by omega) (by rw [h0]; rfl) (by decide)) ?_
    refine jr_1 jm_206 (show jw_cd cd_206 43 = some (.ldc 153) by decide +kernel) (cld (a := jx_big + 15) rfl) ?_
    exact jr_v jm_206 (show jw_cd cd_206 45 = some (.areturn) by decide +kernel) rfl
  · refine ⟨jx_big + 15, ?_, Or.inl ⟨6, by decide, rfl, by rw [h0]; decide +kernel⟩⟩
    refine jr_1 jm_206 (show jw_cd cd_206 0 = some (.iload_n 1) by decide +kernel) rfl ?_
    refine jr_1 jm_206 (show jw_cd cd_206 1 = some (.tableswitch 54 0 5 #[39, 42, 42, 45, 48, 51]) by decide +kernel) (mt_ts (t := 43) (off := 42) ⟨by omega, by omega⟩ (by omega) (by rw [h0]; rfl) (by decide)) ?_
    refine jr_1 jm_206 (show jw_cd cd_206 43 = some (.ldc 153) by decide +kernel) (cld (a := jx_big + 15) rfl) ?_
    exact jr_v jm_206 (show jw_cd cd_206 45 = some (.areturn) by decide +kernel) rfl
  · refine ⟨jx_big + 16, ?_, Or.inl ⟨7, by decide, rfl, by rw [h0]; decide +kernel⟩⟩
    refine jr_1 jm_206 (show jw_cd cd_206 0 = some (.iload_n 1) by decide +kernel) rfl ?_
    refine jr_1 jm_206 (show jw_cd cd_206 1 = some (.tableswitch 54 0 5 #[39, 42, 42, 45, 48, 51]) by decide +kernel) (mt_ts (t := 46) (off := 45) ⟨by omega, by omega⟩ (by omega) (by rw [h0]; rfl) (by decide)) ?_
    refine jr_1 jm_206 (show jw_cd cd_206 46 = some (.ldc 155) by decide +kernel) (cld (a := jx_big + 16) rfl) ?_
    exact jr_v jm_206 (show jw_cd cd_206 48 = some (.areturn) by decide +kernel) rfl
  · refine ⟨jx_big + 17, ?_, Or.inl ⟨8, by decide, rfl, by rw [h0]; decide +kernel⟩⟩
    refine jr_1 jm_206 (show jw_cd cd_206 0 = some (.iload_n 1) by decide +kernel) rfl ?_
    refine jr_1 jm_206 (show jw_cd cd_206 1 = some (.tableswitch 54 0 5 #[39, 42, 42, 45, 48, 51]) by decide +kernel) (mt_ts (t := 49) (off := 48) ⟨by omega, by omega⟩ (by omega) (by rw [h0]; rfl) (by decide)) ?_
    refine jr_1 jm_206 (show jw_cd cd_206 49 = some (.ldc 156) by decide +kernel) (cld (a := jx_big + 17) rfl) ?_
    exact jr_v jm_206 (show jw_cd cd_206 51 = some (.areturn) by decide +kernel) rfl
  · refine ⟨jx_big + 18, ?_, Or.inl ⟨9, by decide, rfl, by rw [h0]; decide +kernel⟩⟩
    refine jr_1 jm_206 (show jw_cd cd_206 0 = some (.iload_n 1) by decide +kernel) rfl ?_
    refine jr_1 jm_206 (show jw_cd cd_206 1 = some (.tableswitch 54 0 5 #[39, 42, 42, 45, 48, 51]) by decide +kernel) (mt_ts (t := 52) (off := 51) ⟨by omega, by omega⟩ (by omega) (by rw [h0]; rfl) (by decide)) ?_
    refine jr_1 jm_206 (show jw_cd cd_206 52 = some (.ldc 157) by decide +kernel) (cld (a := jx_big + 18) rfl) ?_
    exact jr_v jm_206 (show jw_cd cd_206 54 = some (.areturn) by decide +kernel) rfl
  · refine ⟨jx_big + 19, ?_, Or.inl ⟨10, by decide, rfl, by rw [h0]; decide +kernel⟩⟩
    refine jr_1 jm_206 (show jw_cd cd_206 0 = some (.iload_n 1) by decide +kernel) rfl ?_
    refine jr_1 jm_206 (show jw_cd cd_206 1 = some (.tableswitch 54 0 5 #[39, 42, 42, 45, 48, 51]) by decide +kernel) (mt_td (t := 55) ⟨by omega, by omega⟩ (by omega) (by decide)) ?_
    refine jr_1 jm_206 (show jw_cd cd_206 55 = some (.ldc 159) by decide +kernel) (cld (a := jx_big + 19) rfl) ?_
    exact jr_v jm_206 (show jw_cd cd_206 57 = some (.areturn) by decide +kernel) rfl
theorem jw_wo {β : Bool} {H : jx_H} {w : Nat} (hw : w < 9) : jx_get (jz β) H (jx_big + w) 2 = some (.int (Int32.ofInt ((w : Nat) : Int))) := by
  unfold jx_get
  rw [if_neg (by omega), Nat.add_sub_cancel_left, ← ofN]
  exact if_pos hw
theorem jc_ord {β : Bool} {d : Nat} {h : jx_H} {κ : mS} (hl : 50 ≤ h.length) {w : Nat} (hw : w < 9) : jx_r (jz β) jw_M (d) 181 (0, [some (.ref (jx_big + w))], [], (cl_mk h κ)) (cl_mk h (κ), .inl (some (.int (Int32.ofInt (((w : Nat) : Int)))))) := by
  refine jr_1 jm_181 (show jw_cd cd_181 0 = some (.aload_n 0) by decide +kernel) rfl ?_
  refine jr_1 jm_181 (show jw_cd cd_181 1 = some (.getfield 7) by decide +kernel) (cgf (jw_wc hw) (show jw_fld 33 7 17 = some 2 by decide +kernel) (jw_wo hw)) ?_
  exact jr_v jm_181 (show jw_cd cd_181 4 = some (.ireturn) by decide +kernel) rfl
