/-! ===== the class: lists are filled; flat (printed by program: gen123.py) ===== -/
theorem jm_168 : jw_M 168 = some (9, 6, ((Option.some (Jvm.ClassFile.FieldType.object "PickDesk$Value")), false), jw_cd cd_168, fun _ _ => none) := rfl
theorem jm_174 : jw_M 174 = some (8, 2, (none, false), jw_cd cd_174, fun _ _ => none) := rfl
theorem bL_b {h : jx_H} {X : Nat → Prop} {N0 a ka ia kc ic : Nat} {f g : Nat → Value} {kd : Int} {E : FT} (hb : bL h X N0 a ka ia kc ic f g kd E) : a < h.length ∧ ka < h.length ∧ ia < h.length ∧ N0 ≤ a ∧ N0 ≤ ka ∧ N0 ≤ ia ∧ 50 ≤ N0 := by
  obtain ⟨b1, b2, b3, b4, b5, -⟩ := hb
  exact ⟨(List.getElem?_eq_some_iff.mp b3).1, (List.getElem?_eq_some_iff.mp b4).1, (List.getElem?_eq_some_iff.mp b5).1, b1.2.1, b1.2.2.1, b1.2.2.2.1, b1.1⟩
/-- one more value comes to a list -/
theorem jc_addG {β : Bool} {d : Nat} {h : jx_H} {κ : mS} (hl : 50 ≤ h.length) (hb32 : h.length < 3000000000) {X : Nat → Prop} {N0 a ka ia ic b : Nat} {f g : Nat → Value} {acc : List vT} {v : vT} (hb : bL h X N0 a ka ia 0 ic f g 5 (fl acc)) (hsz : acc.length ≤ 2000) (hv : vN h (bX X a ka ia) b v.1 v.2) : ∃ (h' : jx_H) (ia' ic' : Nat) (f' : Nat → Value), jx_r (jz β) jw_M (d + 1) 94 (0, [some (.ref a), some (.ref b)], [], (cl_mk h κ)) (cl_mk h' (κ), .inl none) ∧ bL h' X N0 a ka ia' 0 ic' f' g 5 (fl (acc ++ [v])) ∧ hQ h h' (bX X a ka ia) (bX X a ka ia') ∧ (∀ (c : Nat) (y : jx_C), c < N0 → h[c]? = some y → h'[c]? = some y) ∧ ((h'.length = h.length ∧ ic' = ic ∧ cvol h' = cvol h) ∨ (h'.length = h.length + 1 ∧ ic' = 2 * ic + 2 ∧ ic = acc.length ∧ cvol h' = cvol h + (2 * ic + 2))) := by
  obtain ⟨l1, l2, l3, n1, n2, n3, n0⟩ := bL_b hb
  obtain ⟨h', ia', ic', f', hr, hb', fr, hor⟩ := jc_add (β := β) (d := d) (κ := κ) hl rfl hb32 (i := wk v.1 []) (c := v.2) hb (by rw [fl_sz]; exact hsz) hv (fun z => absurd z (by decide))
  rw [← fl_snoc] at hb'
  rw [fl_sz] at hor
  refine ⟨h', ia', ic', f', hr, hb', fun c y z hy => ?_, fun c y hc hy => fr c y (by omega) (by omega) hy, ?_⟩
  · obtain ⟨g1, g2, g3, g4⟩ := bX_o z.2.2
    refine ⟨⟨z.1, z.2.1, bX_i g1 g2 g3 ?_⟩, fr c y g2 g4 hy⟩
    have := (List.getElem?_eq_some_iff.mp hy).1
    rcases hor with ⟨-, -, e, -⟩ | ⟨-, -, -, -, e⟩
    · rw [e]; exact g4
    · omega
  · rcases hor with ⟨e1, e2, e3, e4⟩ | ⟨e1, e2, e3, e4, e5⟩
    · exact Or.inl ⟨e1, e2, e4⟩
    · exact Or.inr ⟨e1, e2, e3, e4⟩
/-- without the NULLs, into a list with room -/
theorem jc_aun {β : Bool} {d : Nat} {h : jx_H} {κ : mS} (hl : 50 ≤ h.length) (hb32 : h.length < 3000000000) {X : Nat → Prop} {N0 a ka ia ic b : Nat} {f g : Nat → Value} {acc : List vT} {x : Option vT} (hb : bL h X N0 a ka ia 0 ic f g 5 (fl acc)) (hsz : acc.length < ic) (hic : ic ≤ 2000) (hv : vQ h (bX X a ka ia) b x) (hk : 0 ≤ (dv x).1.1 ∧ (dv x).1.1 ≤ 6) : ∃ (h' : jx_H) (f' : Nat → Value), jx_r (jz β) jw_M (d + 2) 174 (0, [some (.ref a), some (.ref b)], [], (cl_mk h κ)) (cl_mk h' (κ), .inl none) ∧ bL h' X N0 a ka ia 0 ic f' g 5 (fl (acc ++ (nnO x).toList)) ∧ hQ h h' (bX X a ka ia) (bX X a ka ia) ∧ (∀ (c : Nat) (y : jx_C), c < N0 → h[c]? = some y → h'[c]? = some y) ∧ h'.length = h.length ∧ cvol h' = cvol h := by
  obtain ⟨l1, l2, l3, n1, n2, n3, n0⟩ := bL_b hb
  have hO := vR_O (κ := κ) hl (vQ_R hv)
  obtain ⟨v, ev⟩ : ∃ v, v = dv x := ⟨_, rfl⟩
  rw [← ev] at hO hk
  obtain ⟨o0, t, ka0, ia0, kc0, ic0, f0, g0, ⟨o1, o2⟩, hA, -⟩ := id hO
  by_cases h0 : v.1.1 = 0
  · have e1 : (nnO x).toList = [] := by
      cases x with
      | none => rfl
      | some w =>
        have h0 : w.1.1 = 0 := by rw [ev] at h0; exact h0
        show (if w.1.1 = 0 then none else some w : Option vT).toList = []
        rw [if_pos h0]
        rfl
    rw [e1, List.append_nil]
    refine ⟨h, f, ?_, hb, fun c y z hy => ⟨z, hy⟩, fun c y _ hy => hy, rfl, rfl⟩
    refine jr_1 jm_174 (show jw_cd cd_174 0 = some (.aload_n 1) by decide +kernel) rfl ?_
    refine jr_1 jm_174 (show jw_cd cd_174 1 = some (.getfield 9) by decide +kernel) (js_getf hA (jbg (by omega)) (show jw_fld 8 9 5 = some 0 by decide +kernel) rfl) ?_
    refine jr_1 jm_174 (show jw_cd cd_174 4 = some (.ifCond .eq 8) by decide +kernel) (mz_t (q := .eq) (a := v.1.1) (t := 12) (by show v.1.1 = 0; omega) ⟨by omega, by omega⟩ (by decide) (by decide)) ?_
    exact jr_v jm_174 (show jw_cd cd_174 12 = some (.return_) by decide +kernel) rfl
  · cases x with
    | none => exact absurd (by rw [ev]; rfl) h0
    | some w =>
      obtain rfl : v = w := ev
      have e1 : (nnO (some v)).toList = [v] := by
        show (if v.1.1 = 0 then none else some v : Option vT).toList = [v]
        rw [if_neg h0]
        rfl
      have hvN : vN h (bX X a ka ia) b v.1 v.2 := by
        rcases hv with q | q
        · exact absurd q.2.1 h0
        · exact q
      rw [e1]
      obtain ⟨h', ia', ic', f', hr, hb', fr, hor⟩ := jc_add (β := β) (d := d) (κ := κ) hl rfl hb32 (i := wk v.1 []) (c := v.2) hb (by rw [fl_sz]; omega) hvN (fun z => absurd z (by decide))
      rw [← fl_snoc] at hb'
      rw [fl_sz] at hor
      rcases hor with ⟨e1', e2, e3, e4⟩ | ⟨-, -, e5, -⟩
      · subst e2
        subst e3
        refine ⟨h', f', ?_, hb', fun c y z hy => ⟨z, fr c y (bX_o z.2.2).2.1 (bX_o z.2.2).2.2.2 hy⟩, fun c y hc hy => fr c y (by omega) (by omega) hy, e1', e4⟩
        refine jr_1 jm_174 (show jw_cd cd_174 0 = some (.aload_n 1) by decide +kernel) rfl ?_
        refine jr_1 jm_174 (show jw_cd cd_174 1 = some (.getfield 9) by decide +kernel) (js_getf hA (jbg (by omega)) (show jw_fld 8 9 5 = some 0 by decide +kernel) rfl) ?_
        refine jr_1 jm_174 (show jw_cd cd_174 4 = some (.ifCond .eq 8) by decide +kernel) (mz_f (q := .eq) (a := v.1.1) (by show ¬ (v.1.1 = 0); omega) ⟨by omega, by omega⟩ (by decide)) ?_
        refine jr_1 jm_174 (show jw_cd cd_174 7 = some (.aload_n 0) by decide +kernel) rfl ?_
        refine jr_1 jm_174 (show jw_cd cd_174 8 = some (.aload_n 1) by decide +kernel) rfl ?_
        refine jr_c jm_174 (show jw_cd cd_174 9 = some (.invokevirtual 41) by decide +kernel) (ccv (n := 1) (m2 := 94) (ci := 5) (a := a) (bs := [.ref b]) (r := []) (js_cls (cl_old hl ⟨by omega, hb.2.2.1⟩) (jbg (by omega))) (show jw_find jw_cvT 8 41 = some (1, [(5, 94)]) by decide +kernel) (by decide) rfl rfl rfl) jm_94 ⟨Nat.le_of_ble_eq_true rfl, by decide⟩ hr ?_
        exact jr_v jm_174 (show jw_cd cd_174 12 = some (.return_) by decide +kernel) rfl
      · omega
theorem grw_tr {a b c : Nat} {i j k : Nat} {x y z : Nat} (h1 : ∃ w : Nat, b = a + w ∧ (i + 2) * 2 ^ w = j + 2 ∧ y + 2 * i ≤ x + 2 * j) (h2 : ∃ w : Nat, c = b + w ∧ (j + 2) * 2 ^ w = k + 2 ∧ z + 2 * j ≤ y + 2 * k) : ∃ w : Nat, c = a + w ∧ (i + 2) * 2 ^ w = k + 2 ∧ z + 2 * i ≤ x + 2 * k := by
  obtain ⟨w1, a1, a2, a3⟩ := h1
  obtain ⟨w2, b1, b2, b3⟩ := h2
  exact ⟨w1 + w2, by omega, by rw [Nat.pow_add, ← Nat.mul_assoc, a2, b2], by omega⟩
theorem grw_1 {h h' : jx_H} {ic ic' n : Nat} (h1 : (h'.length = h.length ∧ ic' = ic ∧ cvol h' = cvol h) ∨ (h'.length = h.length + 1 ∧ ic' = 2 * ic + 2 ∧ ic = n ∧ cvol h' = cvol h + (2 * ic + 2))) : ∃ w : Nat, h'.length = h.length + w ∧ (ic + 2) * 2 ^ w = ic' + 2 ∧ cvol h' + 2 * ic ≤ cvol h + 2 * ic' := by
  rcases h1 with ⟨a1, a2, a3⟩ | ⟨a1, a2, a3, a4⟩
  · exact ⟨0, by omega, by rw [a2, Nat.pow_zero, Nat.mul_one], by omega⟩
  · refine ⟨1, by omega, ?_, by omega⟩
    show (ic + 2) * 2 = ic' + 2
    omega
theorem jc_flI {β : Bool} {d : Nat} {κ : mS} {X : Nat → Prop} {N0 a ka e it j : Nat} {g : Nat → Value} {i0 : tI} {C0 : FT} (h5 : i0.1 = 5) (hct : fsz C0 ≤ 1000) : ∀ (C : FT) (q : Nat) (acc : List vT) (h : jx_H) (ia ic : Nat) (f : Nat → Value), 50 ≤ h.length → h.length + 2 * fsz C < 2900000000 → bL h X N0 a ka ia 0 ic f g 5 (fl acc) → acc.length + fsz C ≤ 1000 → vN h (bX X a ka ia) it i0 C0 → sib C = (sib C0).drop q → q + fsz C = fsz C0 → ∃ (h' : jx_H) (ia' ic' : Nat) (f' : Nat → Value), (∀ res, jx_r (jz β) jw_M (d + 2) 168 (81, [some (.ref 10), some (.ref e), some (.ref a), some (.int (Int32.ofInt (((j : Nat) : Int)))), some (.ref it), some (.int (Int32.ofInt (((fsz C0 : Nat) : Int))))], [], (cl_mk h' κ)) res → jx_r (jz β) jw_M (d + 2) 168 (44, [some (.ref 10), some (.ref e), some (.ref a), some (.int (Int32.ofInt (((j : Nat) : Int)))), some (.ref it), some (.int (Int32.ofInt (((q : Nat) : Int))))], [], (cl_mk h κ)) res) ∧ bL h' X N0 a ka ia' 0 ic' f' g 5 (fl (acc ++ sib C)) ∧ hQ h h' (bX X a ka ia) (bX X a ka ia') ∧ (∀ (c : Nat) (y : jx_C), c < N0 → h[c]? = some y → h'[c]? = some y) ∧ (ic ≤ ic' ∧ (ic' = ic ∨ ic' ≤ 2 * (acc ++ sib C).length)) ∧ (∃ w : Nat, h'.length = h.length + w ∧ (ic + 2) * 2 ^ w = ic' + 2 ∧ cvol h' + 2 * ic ≤ cvol h + 2 * ic')
  | .leaf, q, acc, h, ia, ic, f, hl, hb32, hb, hsz, hit, hdr, hq => by
    have hq : q + 0 = fsz C0 := hq
    obtain ⟨l1, l2, l3, n1, n2, n3, n0⟩ := bL_b hb
    obtain ⟨z0, zt, zka, zia, zkc, zic, zf, zg, z1, z2, hzA, hzS, hzK, hzI, ⟨zs1, zs2⟩, zor, hzF⟩ := id hit
    have z1 := z0.1
    have z2 := z0.2.1
    refine ⟨h, ia, ic, f, fun res kk => ?_, by show bL h X N0 a ka ia 0 ic f g 5 (fl (acc ++ [])); rw [List.append_nil]; exact hb, fun c y z hy => ⟨z, hy⟩, fun c y _ hy => hy, ⟨Nat.le_refl _, Or.inl rfl⟩, 0, rfl, by rw [Nat.pow_zero, Nat.mul_one], Nat.le_refl _⟩
    refine jr_1 jm_168 (show jw_cd cd_168 44 = some (.iload 5) by decide +kernel) rfl ?_
    refine jr_1 jm_168 (show jw_cd cd_168 46 = some (.aload 4) by decide +kernel) rfl ?_
    refine jr_1 jm_168 (show jw_cd cd_168 48 = some (.getfield 99) by decide +kernel) (js_getf (cl_old hl ⟨by omega, hzA⟩) (jbg (by omega)) (show jw_fld 9 99 5 = some 5 by decide +kernel) rfl) ?_
    refine jr_1 jm_168 (show jw_cd cd_168 51 = some (.if_icmp .ge 30) by decide +kernel) (mb_t (q := .ge) (a := ((q : Nat) : Int)) (b := ((fsz C0 : Nat) : Int)) (t := 81) (by show ((fsz C0 : Nat) : Int) ≤ ((q : Nat) : Int); omega) ⟨by omega, by omega⟩ ⟨by omega, by omega⟩ (by decide) (by decide)) ?_
    rw [show ((q : Nat) : Int) = ((fsz C0 : Nat) : Int) by omega]
    exact kk
  | .inner s1 i1 u1 c1 n1', q, acc, h, ia, ic, f, hl, hb32, hb, hsz, hit, hdr, hq => by
    have hq : q + (fsz n1' + 1) = fsz C0 := hq
    have hfs : fsz (.inner s1 i1 u1 c1 n1') = fsz n1' + 1 := rfl
    obtain ⟨l1, l2, l3, n1, n2, n3, n0⟩ := bL_b hb
    obtain ⟨z0, zt, zka, zia, zkc, zic, zf, zg, z1, z2, hzA, hzS, hzK, hzI, ⟨zs1, zs2⟩, zor, hzF⟩ := id hit
    have z1v := z0.1
    have z2v := z0.2.1
    have zi1 := z2.1
    have zi2 := z2.2.1
    have hdr : (i1, c1) :: sib n1' = (sib C0).drop q := hdr
    have hget : (sib C0)[q]? = some (i1, c1) := by rw [← List.head?_drop, ← hdr]; rfl
    have hdr2 : sib n1' = (sib C0).drop (q + 1) := by rw [← List.tail_drop, ← hdr]; rfl
    obtain ⟨cc, hcc, hcv⟩ := vF_nth C0 _ zf zg 0 q (i1, c1) hzF hget
    rw [Nat.zero_add] at hcc
    obtain ⟨h1, ia1, ic1, f1, hr, q1, q2, q3, q4⟩ := jc_addG (β := β) (d := d) (κ := κ) hl (by omega) hb (by omega) hcv
    have la : (acc ++ [(i1, c1)]).length = acc.length + 1 := by rw [List.length_append]; rfl
    obtain ⟨h2, ia2, ic2, f2, k2, p1, p2, p3, p4, p5⟩ := jc_flI (β := β) (d := d) (κ := κ) (e := e) (j := j) h5 hct n1' (q + 1) (acc ++ [(i1, c1)]) h1 ia1 ic1 f1 (by omega) (by omega) q1 (by omega) (vN_fr q2 hit) hdr2 (by omega)
    have eap : acc ++ [(i1, c1)] ++ sib n1' = acc ++ sib (.inner s1 i1 u1 c1 n1') := by rw [List.append_assoc]; rfl
    rw [eap] at p1 p4
    have len2 : (acc ++ sib (.inner s1 i1 u1 c1 n1')).length = acc.length + (fsz n1' + 1) := by rw [List.length_append, sib_sz]; rfl
    refine ⟨h2, ia2, ic2, f2, fun res kk => ?_, p1, fun c y z hy => p2 c y (q2 c y z hy).1 (q2 c y z hy).2, fun c y hc hy => p3 c y hc (q3 c y hc hy), ⟨by omega, by omega⟩, grw_tr (grw_1 q4) p5⟩
    have k3 := k2 _ kk
    refine jr_1 jm_168 (show jw_cd cd_168 44 = some (.iload 5) by decide +kernel) rfl ?_
    refine jr_1 jm_168 (show jw_cd cd_168 46 = some (.aload 4) by decide +kernel) rfl ?_
    refine jr_1 jm_168 (show jw_cd cd_168 48 = some (.getfield 99) by decide +kernel) (js_getf (cl_old hl ⟨by omega, hzA⟩) (jbg (by omega)) (show jw_fld 9 99 5 = some 5 by decide +kernel) rfl) ?_
    refine jr_1 jm_168 (show jw_cd cd_168 51 = some (.if_icmp .ge 30) by decide +kernel) (mb_f (q := .ge) (a := ((q : Nat) : Int)) (b := ((fsz C0 : Nat) : Int)) (by show ¬ (((fsz C0 : Nat) : Int) ≤ ((q : Nat) : Int)); omega) ⟨by omega, by omega⟩ ⟨by omega, by omega⟩ (by decide)) ?_
    refine jr_1 jm_168 (show jw_cd cd_168 54 = some (.aload 4) by decide +kernel) rfl ?_
    refine jr_1 jm_168 (show jw_cd cd_168 56 = some (.getfield 91) by decide +kernel) (js_getf (cl_old hl ⟨by omega, hzA⟩) (jbg (by omega)) (show jw_fld 9 91 5 = some 0 by decide +kernel) rfl) ?_
    refine jr_1 jm_168 (show jw_cd cd_168 59 = some (.iconst 5) by decide +kernel) rfl ?_
    refine jr_1 jm_168 (show jw_cd cd_168 60 = some (.if_icmp .ne 21) by decide +kernel) (mb_f (q := .ne) (a := i0.1) (b := 5) (by show ¬ (¬ (i0.1 = 5)); omega) ⟨by omega, by omega⟩ ⟨by omega, by omega⟩ (by decide)) ?_
    refine jr_1 jm_168 (show jw_cd cd_168 63 = some (.aload_n 2) by decide +kernel) rfl ?_
    refine jr_1 jm_168 (show jw_cd cd_168 64 = some (.aload 4) by decide +kernel) rfl ?_
    refine jr_1 jm_168 (show jw_cd cd_168 66 = some (.getfield 115) by decide +kernel) (js_getf (cl_old hl ⟨by omega, hzA⟩) (jbg (by omega)) (show jw_fld 9 115 5 = some 4 by decide +kernel) rfl) ?_
    refine jr_1 jm_168 (show jw_cd cd_168 69 = some (.iload 5) by decide +kernel) rfl ?_
    refine jr_1 jm_168 (show jw_cd cd_168 71 = some (.aaload) by decide +kernel) (cal_a (e := .ref cc) (jx_ar_h (cl_old hl ⟨by omega, hzI⟩) (jbg (by omega))) (Or.inl rfl) (by omega) (by omega) (by omega) (by rw [Int.toNat_natCast]; exact hcc)) ?_
    refine jr_c jm_168 (show jw_cd cd_168 72 = some (.invokevirtual 126) by decide +kernel) (ccv (n := 1) (m2 := 94) (ci := 5) (a := a) (bs := [.ref cc]) (r := []) (js_cls (cl_old hl ⟨by omega, hb.2.2.1⟩) (jbg (by omega))) (show jw_find jw_cvT 9 126 = some (1, [(5, 94)]) by decide +kernel) (by decide) rfl rfl rfl) jm_94 ⟨Nat.le_of_ble_eq_true rfl, by decide⟩ hr ?_
    refine jr_1 jm_168 (F2 := (78, [some (.ref 10), some (.ref e), some (.ref a), some (.int (Int32.ofInt (((j : Nat) : Int)))), some (.ref it), some (.int (Int32.ofInt (((q : Nat) : Int) + 1)))], [], (cl_mk h1 κ))) (show jw_cd cd_168 75 = some (.iinc 5 1) by decide +kernel) (mt_inc (a := ((q : Nat) : Int)) (c := ((q : Nat) : Int) + 1) rfl (by omega) rfl) ?_
    refine jr_1 jm_168 (show jw_cd cd_168 78 = some (.goto (-34)) by decide +kernel) (ju_go (t := 44) (by decide)) ?_
    exact k3
theorem jc_fl81 {β : Bool} {d : Nat} {h : jx_H} {κ : mS} {a e j : Nat} {t4 t5 : Option Value} {res : jx_H × (Option Value ⊕ Nat)} (kk : jx_r (jz β) jw_M (d) 168 (10, [some (.ref 10), some (.ref e), some (.ref a), some (.int (Int32.ofInt (((j + 1 : Nat) : Int)))), t4, t5], [], (cl_mk h κ)) res) : jx_r (jz β) jw_M (d) 168 (81, [some (.ref 10), some (.ref e), some (.ref a), some (.int (Int32.ofInt (((j : Nat) : Int)))), t4, t5], [], (cl_mk h κ)) res := by
  refine jr_1 jm_168 (F2 := (84, [some (.ref 10), some (.ref e), some (.ref a), some (.int (Int32.ofInt (((j : Nat) : Int) + 1))), t4, t5], [], (cl_mk h κ))) (show jw_cd cd_168 81 = some (.iinc 3 1) by decide +kernel) (mt_inc (a := ((j : Nat) : Int)) (c := ((j : Nat) : Int) + 1) rfl (by omega) rfl) ?_
  refine jr_1 jm_168 (show jw_cd cd_168 84 = some (.goto (-74)) by decide +kernel) (ju_go (t := 10) (by decide)) ?_
  exact kk
theorem jc_flK {β : Bool} {d : Nat} {h : jx_H} {κ : mS} {a e j it zt zka zia : Nat} {i0 : tI} {C0 : FT} (hzA : (cl_mk h κ)[it]? = some (.inr (5, [.int (Int32.ofInt (i0.1)), .int (Int32.ofInt (i0.2.1)), .ref zt, .ref zka, .ref zia, .int (Int32.ofInt (((fsz C0 : Nat) : Int)))]))) (hit : it < 4000000000) (h5 : ¬ i0.1 = 5) (hk : 0 ≤ i0.1 ∧ i0.1 ≤ 6) (hz : fsz C0 ≤ 1000000) {res : jx_H × (Option Value ⊕ Nat)} (kk : jx_r (jz β) jw_M (d) 168 (81, [some (.ref 10), some (.ref e), some (.ref a), some (.int (Int32.ofInt (((j : Nat) : Int)))), some (.ref it), some (.int (Int32.ofInt (0)))], [], (cl_mk h κ)) res) : jx_r (jz β) jw_M (d) 168 (44, [some (.ref 10), some (.ref e), some (.ref a), some (.int (Int32.ofInt (((j : Nat) : Int)))), some (.ref it), some (.int (Int32.ofInt (0)))], [], (cl_mk h κ)) res := by
  by_cases h0 : fsz C0 = 0
  · refine jr_1 jm_168 (show jw_cd cd_168 44 = some (.iload 5) by decide +kernel) rfl ?_
    refine jr_1 jm_168 (show jw_cd cd_168 46 = some (.aload 4) by decide +kernel) rfl ?_
    refine jr_1 jm_168 (show jw_cd cd_168 48 = some (.getfield 99) by decide +kernel) (js_getf hzA (jbg (by omega)) (show jw_fld 9 99 5 = some 5 by decide +kernel) rfl) ?_
    refine jr_1 jm_168 (show jw_cd cd_168 51 = some (.if_icmp .ge 30) by decide +kernel) (mb_t (q := .ge) (a := 0) (b := ((fsz C0 : Nat) : Int)) (t := 81) (by show ((fsz C0 : Nat) : Int) ≤ 0; omega) ⟨by omega, by omega⟩ ⟨by omega, by omega⟩ (by decide) (by decide)) ?_
    exact kk
  · refine jr_1 jm_168 (show jw_cd cd_168 44 = some (.iload 5) by decide +kernel) rfl ?_
    refine jr_1 jm_168 (show jw_cd cd_168 46 = some (.aload 4) by decide +kernel) rfl ?_
    refine jr_1 jm_168 (show jw_cd cd_168 48 = some (.getfield 99) by decide +kernel) (js_getf hzA (jbg (by omega)) (show jw_fld 9 99 5 = some 5 by decide +kernel) rfl) ?_
    refine jr_1 jm_168 (show jw_cd cd_168 51 = some (.if_icmp .ge 30) by decide +kernel) (mb_f (q := .ge) (a := 0) (b := ((fsz C0 : Nat) : Int)) (by show ¬ (((fsz C0 : Nat) : Int) ≤ 0); omega) ⟨by omega, by omega⟩ ⟨by omega, by omega⟩ (by decide)) ?_
    refine jr_1 jm_168 (show jw_cd cd_168 54 = some (.aload 4) by decide +kernel) rfl ?_
    refine jr_1 jm_168 (show jw_cd cd_168 56 = some (.getfield 91) by decide +kernel) (js_getf hzA (jbg (by omega)) (show jw_fld 9 91 5 = some 0 by decide +kernel) rfl) ?_
    refine jr_1 jm_168 (show jw_cd cd_168 59 = some (.iconst 5) by decide +kernel) rfl ?_
    refine jr_1 jm_168 (show jw_cd cd_168 60 = some (.if_icmp .ne 21) by decide +kernel) (mb_t (q := .ne) (a := i0.1) (b := 5) (t := 81) (by show ¬ (i0.1 = 5); omega) ⟨by omega, by omega⟩ ⟨by omega, by omega⟩ (by decide) (by decide)) ?_
    exact kk
theorem jc_flO {β : Bool} {d : Nat} {κ : mS} {X : Nat → Prop} {N0 a ka e : Nat} {g : Nat → Value} {i : tI} {F0 : FT} : ∀ (F : FT) (j : Nat) (acc : List vT) (h : jx_H) (ia ic : Nat) (f : Nat → Value) (t4 t5 : Option Value), 50 ≤ h.length → h.length + 20 * fct F + 20 < 2900000000 → bL h X N0 a ka ia 0 ic f g 5 (fl acc) → acc.length + fct F ≤ 1000 → fwf F → vN h (bX X a ka ia) e i F0 → sib F = (sib F0).drop j → j + fsz F = fsz F0 → ∃ (h' : jx_H) (ia' ic' : Nat) (f' : Nat → Value), jx_r (jz β) jw_M (d + 2) 168 (10, [some (.ref 10), some (.ref e), some (.ref a), some (.int (Int32.ofInt (((j : Nat) : Int)))), t4, t5], [], (cl_mk h κ)) (cl_mk h' (κ), .inl (some (.ref (a)))) ∧ bL h' X N0 a ka ia' 0 ic' f' g 5 (fl (acc ++ (sib F).flatMap fun v => if v.1.1 = 5 then sib v.2 else [v])) ∧ hQ h h' (bX X a ka ia) (bX X a ka ia') ∧ (∀ (c : Nat) (y : jx_C), c < N0 → h[c]? = some y → h'[c]? = some y) ∧ (ic ≤ ic' ∧ (ic' = ic ∨ ic' ≤ 2 * (acc.length + fct F))) ∧ (∃ w : Nat, h'.length = h.length + w ∧ (ic + 2) * 2 ^ w = ic' + 2 ∧ cvol h' + 2 * ic ≤ cvol h + 2 * ic')
  | .leaf, j, acc, h, ia, ic, f, t4, t5, hl, hb32, hb, hsz, hw, he, hdr, hj => by
    have hj : j + 0 = fsz F0 := hj
    obtain ⟨l1, l2, l3, n1, n2, n3, n0⟩ := bL_b hb
    obtain ⟨w0, wt, wka, wia, wkc, wic, wf, wg, w1, w2, hwA, hwS, hwK, hwI, ⟨ws1, ws2⟩, wor, hwF⟩ := id he
    have z1 := w0.1
    have z2 := w0.2.1
    refine ⟨h, ia, ic, f, ?_, by show bL h X N0 a ka ia 0 ic f g 5 (fl (acc ++ [])); rw [List.append_nil]; exact hb, fun c y z hy => ⟨z, hy⟩, fun c y _ hy => hy, ⟨Nat.le_refl _, Or.inl rfl⟩, 0, rfl, by rw [Nat.pow_zero, Nat.mul_one], Nat.le_refl _⟩
    refine jr_1 jm_168 (show jw_cd cd_168 10 = some (.iload_n 3) by decide +kernel) rfl ?_
    refine jr_1 jm_168 (show jw_cd cd_168 11 = some (.aload_n 1) by decide +kernel) rfl ?_
    refine jr_1 jm_168 (show jw_cd cd_168 12 = some (.getfield 99) by decide +kernel) (js_getf (cl_old hl ⟨by omega, hwA⟩) (jbg (by omega)) (show jw_fld 9 99 5 = some 5 by decide +kernel) rfl) ?_
    refine jr_1 jm_168 (show jw_cd cd_168 15 = some (.if_icmp .ge 72) by decide +kernel) (mb_t (q := .ge) (a := ((j : Nat) : Int)) (b := ((fsz F0 : Nat) : Int)) (t := 87) (by show ((fsz F0 : Nat) : Int) ≤ ((j : Nat) : Int); omega) ⟨by omega, by omega⟩ ⟨by omega, by omega⟩ (by decide) (by decide)) ?_
    refine jr_1 jm_168 (show jw_cd cd_168 87 = some (.aload_n 2) by decide +kernel) rfl ?_
    exact jr_v jm_168 (show jw_cd cd_168 88 = some (.areturn) by decide +kernel) rfl
  | .inner s0 i0 u0 C0 n, j, acc, h, ia, ic, f, t4, t5, hl, hb32, hb, hsz, hw, he, hdr, hj => by
    have hj : j + (fsz n + 1) = fsz F0 := hj
    have hfc : fct (.inner s0 i0 u0 C0 n) = 1 + fct C0 + fct n := rfl
    obtain ⟨l1, l2, l3, n1, n2, n3, n0⟩ := bL_b hb
    obtain ⟨w0, wt, wka, wia, wkc, wic, wf, wg, w1, w2, hwA, hwS, hwK, hwI, ⟨ws1, ws2⟩, wor, hwF⟩ := id he
    have w1v := w0.1
    have w2v := w0.2.1
    have wi1 := w2.1
    have wi2 := w2.2.1
    have hdr : (i0, C0) :: sib n = (sib F0).drop j := hdr
    have hget : (sib F0)[j]? = some (i0, C0) := by rw [← List.head?_drop, ← hdr]; rfl
    have hdr2 : sib n = (sib F0).drop (j + 1) := by rw [← List.tail_drop, ← hdr]; rfl
    obtain ⟨it, hit, hitv⟩ := vF_nth F0 _ wf wg 0 j (i0, C0) hwF hget
    rw [Nat.zero_add] at hit
    have hitv : vN h (bX X a ka ia) it i0 C0 := hitv
    obtain ⟨z0, zt, zka, zia, zkc, zic, zf, zg, z1, z2, hzA, hzS, hzK, hzI, ⟨zs1, zs2⟩, zor, hzF⟩ := id hitv
    have z1v := z0.1
    have z2v := z0.2.1
    have hsf := fsz_le C0
    have ik1 := hw.1.1
    have ik2 := hw.1.2.1
    have hfm : (sib (.inner s0 i0 u0 C0 n)).flatMap (fun v : vT => if v.1.1 = 5 then sib v.2 else [v]) = (if i0.1 = 5 then sib C0 else [(i0, C0)]) ++ (sib n).flatMap (fun v : vT => if v.1.1 = 5 then sib v.2 else [v]) := rfl
    by_cases h5 : i0.1 = 5
    · rw [if_pos h5] at hfm
      obtain ⟨h1, ia1, ic1, f1, k1, q1, q2, q3, q4, q5⟩ := jc_flI (β := β) (d := d) (κ := κ) (e := e) (j := j) h5 (by omega) C0 0 acc h ia ic f hl (by omega) hb (by omega) hitv rfl (by omega)
      have hl1 : h.length ≤ h1.length ∧ h1.length ≤ h.length + 20 := by
        obtain ⟨w, a1, a2, a3⟩ := q5
        refine ⟨by omega, ?_⟩
        have la : (acc ++ sib C0).length = acc.length + fsz C0 := by rw [List.length_append, sib_sz]
        have hic := q1.2.2.2.2.2.1.2
        have hw20 : w ≤ 20 := by
          by_cases hx : w ≤ 20
          · exact hx
          · have h1 := Nat.pow_le_pow_right (n := 2) (by decide) (show 21 ≤ w by omega)
            have h2 : (2 : Nat) ^ 21 = 2097152 := rfl
            have h3 := Nat.mul_le_mul (show 1 ≤ ic + 2 by omega) h1
            omega
        omega
      have la : (acc ++ sib C0).length = acc.length + fsz C0 := by rw [List.length_append, sib_sz]
      obtain ⟨h2, ia2, ic2, f2, r2, p1, p2, p3, p4, p5⟩ := jc_flO (β := β) (d := d) (κ := κ) n (j + 1) (acc ++ sib C0) h1 ia1 ic1 f1 (some (.ref it)) (some (.int (Int32.ofInt ((fsz C0 : Nat) : Int)))) (by omega) (by omega) q1 (by omega) hw.2.2 (vN_fr q2 he) hdr2 (by omega)
      rw [hfm, ← List.append_assoc]
      refine ⟨h2, ia2, ic2, f2, ?_, p1, fun c y z hy => p2 c y (q2 c y z hy).1 (q2 c y z hy).2, fun c y hc hy => p3 c y hc (q3 c y hc hy), ⟨by omega, by omega⟩, grw_tr q5 p5⟩
      have k3 := k1 _ (jc_fl81 r2)
      refine jr_1 jm_168 (show jw_cd cd_168 10 = some (.iload_n 3) by decide +kernel) rfl ?_
      refine jr_1 jm_168 (show jw_cd cd_168 11 = some (.aload_n 1) by decide +kernel) rfl ?_
      refine jr_1 jm_168 (show jw_cd cd_168 12 = some (.getfield 99) by decide +kernel) (js_getf (cl_old hl ⟨by omega, hwA⟩) (jbg (by omega)) (show jw_fld 9 99 5 = some 5 by decide +kernel) rfl) ?_
      refine jr_1 jm_168 (show jw_cd cd_168 15 = some (.if_icmp .ge 72) by decide +kernel) (mb_f (q := .ge) (a := ((j : Nat) : Int)) (b := ((fsz F0 : Nat) : Int)) (by show ¬ (((fsz F0 : Nat) : Int) ≤ ((j : Nat) : Int)); omega) ⟨by omega, by omega⟩ ⟨by omega, by omega⟩ (by decide)) ?_
      refine jr_1 jm_168 (show jw_cd cd_168 18 = some (.aload_n 1) by decide +kernel) rfl ?_
      refine jr_1 jm_168 (show jw_cd cd_168 19 = some (.getfield 115) by decide +kernel) (js_getf (cl_old hl ⟨by omega, hwA⟩) (jbg (by omega)) (show jw_fld 9 115 5 = some 4 by decide +kernel) rfl) ?_
      refine jr_1 jm_168 (show jw_cd cd_168 22 = some (.iload_n 3) by decide +kernel) rfl ?_
      refine jr_1 jm_168 (show jw_cd cd_168 23 = some (.aaload) by decide +kernel) (cal_a (e := .ref it) (jx_ar_h (cl_old hl ⟨by omega, hwI⟩) (jbg (by omega))) (Or.inl rfl) (by omega) (by omega) (by omega) (by rw [Int.toNat_natCast]; exact hit)) ?_
      refine jr_1 jm_168 (F2 := (26, [some (.ref 10), some (.ref e), some (.ref a), some (.int (Int32.ofInt (((j : Nat) : Int)))), some (.ref it), t5], [], (cl_mk h κ))) (show jw_cd cd_168 24 = some (.astore 4) by decide +kernel) rfl ?_
      refine jr_1 jm_168 (show jw_cd cd_168 26 = some (.aload 4) by decide +kernel) rfl ?_
      refine jr_1 jm_168 (show jw_cd cd_168 28 = some (.getfield 91) by decide +kernel) (js_getf (cl_old hl ⟨by omega, hzA⟩) (jbg (by omega)) (show jw_fld 9 91 5 = some 0 by decide +kernel) rfl) ?_
      refine jr_1 jm_168 (show jw_cd cd_168 31 = some (.iconst 5) by decide +kernel) rfl ?_
      refine jr_1 jm_168 (show jw_cd cd_168 32 = some (.if_icmp .eq 9) by decide +kernel) (mb_t (q := .eq) (a := i0.1) (b := 5) (t := 41) (by show i0.1 = 5; omega) ⟨by omega, by omega⟩ ⟨by omega, by omega⟩ (by decide) (by decide)) ?_
      refine jr_1 jm_168 (show jw_cd cd_168 41 = some (.iconst 0) by decide +kernel) rfl ?_
      refine jr_1 jm_168 (F2 := (44, [some (.ref 10), some (.ref e), some (.ref a), some (.int (Int32.ofInt (((j : Nat) : Int)))), some (.ref it), some (.int (Int32.ofInt (0)))], [], (cl_mk h κ))) (show jw_cd cd_168 42 = some (.istore 5) by decide +kernel) rfl ?_
      exact k3
    · rw [if_neg h5] at hfm
      obtain ⟨h1, ia1, ic1, f1, hr, q1, q2, q3, q4⟩ := jc_addG (β := β) (d := d) (κ := κ) (v := (i0, C0)) hl (by omega) hb (by omega) hitv
      have la : (acc ++ [(i0, C0)]).length = acc.length + 1 := by rw [List.length_append]; rfl
      obtain ⟨h2, ia2, ic2, f2, r2, p1, p2, p3, p4, p5⟩ := jc_flO (β := β) (d := d) (κ := κ) n (j + 1) (acc ++ [(i0, C0)]) h1 ia1 ic1 f1 (some (.ref it)) (some (.int (Int32.ofInt 0))) (by omega) (by omega) q1 (by omega) hw.2.2 (vN_fr q2 he) hdr2 (by omega)
      rw [hfm, ← List.append_assoc]
      refine ⟨h2, ia2, ic2, f2, ?_, p1, fun c y z hy => p2 c y (q2 c y z hy).1 (q2 c y z hy).2, fun c y hc hy => p3 c y hc (q3 c y hc hy), ⟨by omega, by omega⟩, grw_tr (grw_1 q4) p5⟩
      have hl1 : 50 ≤ h1.length := by omega
      have hzA1 := (q2 it _ z0 hzA).2
      have k3 := jc_flK (β := β) (d := d + 2) (h := h1) (κ := κ) (a := a) (e := e) (j := j) (cl_old hl1 ⟨by omega, hzA1⟩) (by omega) h5 ⟨hw.1.1, hw.1.2.1⟩ (by omega) (jc_fl81 r2)
      refine jr_1 jm_168 (show jw_cd cd_168 10 = some (.iload_n 3) by decide +kernel) rfl ?_
      refine jr_1 jm_168 (show jw_cd cd_168 11 = some (.aload_n 1) by decide +kernel) rfl ?_
      refine jr_1 jm_168 (show jw_cd cd_168 12 = some (.getfield 99) by decide +kernel) (js_getf (cl_old hl ⟨by omega, hwA⟩) (jbg (by omega)) (show jw_fld 9 99 5 = some 5 by decide +kernel) rfl) ?_
      refine jr_1 jm_168 (show jw_cd cd_168 15 = some (.if_icmp .ge 72) by decide +kernel) (mb_f (q := .ge) (a := ((j : Nat) : Int)) (b := ((fsz F0 : Nat) : Int)) (by show ¬ (((fsz F0 : Nat) : Int) ≤ ((j : Nat) : Int)); omega) ⟨by omega, by omega⟩ ⟨by omega, by omega⟩ (by decide)) ?_
      refine jr_1 jm_168 (show jw_cd cd_168 18 = some (.aload_n 1) by decide +kernel) rfl ?_
      refine jr_1 jm_168 (show jw_cd cd_168 19 = some (.getfield 115) by decide +kernel) (js_getf (cl_old hl ⟨by omega, hwA⟩) (jbg (by omega)) (show jw_fld 9 115 5 = some 4 by decide +kernel) rfl) ?_
      refine jr_1 jm_168 (show jw_cd cd_168 22 = some (.iload_n 3) by decide +kernel) rfl ?_
      refine jr_1 jm_168 (show jw_cd cd_168 23 = some (.aaload) by decide +kernel) (cal_a (e := .ref it) (jx_ar_h (cl_old hl ⟨by omega, hwI⟩) (jbg (by omega))) (Or.inl rfl) (by omega) (by omega) (by omega) (by rw [Int.toNat_natCast]; exact hit)) ?_
      refine jr_1 jm_168 (F2 := (26, [some (.ref 10), some (.ref e), some (.ref a), some (.int (Int32.ofInt (((j : Nat) : Int)))), some (.ref it), t5], [], (cl_mk h κ))) (show jw_cd cd_168 24 = some (.astore 4) by decide +kernel) rfl ?_
      refine jr_1 jm_168 (show jw_cd cd_168 26 = some (.aload 4) by decide +kernel) rfl ?_
      refine jr_1 jm_168 (show jw_cd cd_168 28 = some (.getfield 91) by decide +kernel) (js_getf (cl_old hl ⟨by omega, hzA⟩) (jbg (by omega)) (show jw_fld 9 91 5 = some 0 by decide +kernel) rfl) ?_
      refine jr_1 jm_168 (show jw_cd cd_168 31 = some (.iconst 5) by decide +kernel) rfl ?_
      refine jr_1 jm_168 (show jw_cd cd_168 32 = some (.if_icmp .eq 9) by decide +kernel) (mb_f (q := .eq) (a := i0.1) (b := 5) (by show ¬ (i0.1 = 5); omega) ⟨by omega, by omega⟩ ⟨by omega, by omega⟩ (by decide)) ?_
      refine jr_1 jm_168 (show jw_cd cd_168 35 = some (.aload_n 2) by decide +kernel) rfl ?_
      refine jr_1 jm_168 (show jw_cd cd_168 36 = some (.aload 4) by decide +kernel) rfl ?_
      refine jr_c jm_168 (show jw_cd cd_168 38 = some (.invokevirtual 126) by decide +kernel) (ccv (n := 1) (m2 := 94) (ci := 5) (a := a) (bs := [.ref it]) (r := []) (js_cls (cl_old hl ⟨by omega, hb.2.2.1⟩) (jbg (by omega))) (show jw_find jw_cvT 9 126 = some (1, [(5, 94)]) by decide +kernel) (by decide) rfl rfl rfl) jm_94 ⟨Nat.le_of_ble_eq_true rfl, by decide⟩ hr ?_
      refine jr_1 jm_168 (show jw_cd cd_168 41 = some (.iconst 0) by decide +kernel) rfl ?_
      refine jr_1 jm_168 (F2 := (44, [some (.ref 10), some (.ref e), some (.ref a), some (.int (Int32.ofInt (((j : Nat) : Int)))), some (.ref it), some (.int (Int32.ofInt (0)))], [], (cl_mk h1 κ))) (show jw_cd cd_168 42 = some (.istore 5) by decide +kernel) rfl ?_
      exact k3
theorem jc_flat {β : Bool} {d : Nat} {h : jx_H} {κ : mS} (hl : 50 ≤ h.length) {N : Nat} (hN : h.length = N) (hb32 : N < 2800000000) {X : Nat → Prop} (hx : ∀ c, N ≤ c → ¬ X c) {e : Nat} {i : tI} {F : FT} (he : vN h X e i F) (hw : fwf F) (hct : fct F ≤ 390) : ∃ h' : jx_H, jx_r (jz β) jw_M (d + 2) 168 (0, [some (.ref 10), some (.ref e), none, none, none, none], [], (cl_mk h κ)) (cl_mk h' (κ), .inl (some (.ref (N)))) ∧ vN h' X N (5, 0, [], []) (fl (flatS F)) ∧ (∀ (c : Nat) (y : jx_C), h[c]? = some y → h'[c]? = some y) ∧ (N ≤ h'.length ∧ h'.length ≤ N + 12) ∧ cvol h' ≤ cvol h + 6 + 4 * fct F := by
  have hfz := fsz_le F
  obtain ⟨w0, wt, wka, wia, wkc, wic, wf, wg, w1, w2, hwA, hwS, hwK, hwI, ⟨ws1, ws2⟩, wor, hwF⟩ := id he
  have w1v := w0.1
  have w2v := w0.2.1
  have c1 := jc_ofL (β := β) (d := d) (κ := κ) (rm := ((fsz F : Nat) : Int)) hl hN (by omega) ⟨by omega, by omega⟩
  have hbn := bL_new (rm := fsz F) (kd := 5) hl hN hx (by decide) (by omega)
  rw [Int.toNat_natCast] at c1
  obtain ⟨h1, eh1⟩ : ∃ h1, h1 = h ++ [.inr (5, [.int (Int32.ofInt (5)), .int (Int32.ofInt (0)), .ref (jx_big + 9), .ref (N + 1), .ref (N + 2), .int (Int32.ofInt (0))]), .inl (4, 0, fun _ => .null), .inl (4, fsz F, fun _ => .null)] := ⟨_, rfl⟩
  rw [← eh1] at c1 hbn
  have hN1 : h1.length = N + 3 := by rw [eh1, List.length_append, hN]; rfl
  have hl1 : 50 ≤ h1.length := by omega
  have q1 : ∀ (c : Nat) (y : jx_C), h[c]? = some y → h1[c]? = some y := fun c y hy => by rw [eh1, List.getElem?_append_left (List.getElem?_eq_some_iff.mp hy).1]; exact hy
  have v1 : cvol h1 = cvol h + (6 + fsz F) := by
    rw [eh1, cvol_app]
    show cvol h + (6 + (0 + (fsz F + 0))) = _
    omega
  have he1 : vN h1 (bX X N (N + 1) (N + 2)) e i F := vN_fr (fun c y z hy => ⟨⟨z.1, z.2.1, by have := (List.getElem?_eq_some_iff.mp hy).1; exact bX_i z.2.2 (by omega) (by omega) (by omega)⟩, q1 c y hy⟩) he
  obtain ⟨h2, ia2, ic2, f2, r2, p1, p2, p3, p4, ⟨w, p5, p6, p7⟩⟩ := jc_flO (β := β) (d := d) (κ := κ) F 0 [] h1 (N + 2) (fsz F) (fun _ => .null) none none hl1 (by omega) hbn (by show 0 + fct F ≤ 1000; omega) hw he1 rfl (by omega)
  have e0 : ([] : List vT) ++ ((sib F).flatMap fun v => if v.1.1 = 5 then sib v.2 else [v]) = flatS F := rfl
  rw [e0] at p1
  have l0 : ([] : List vT).length = 0 := rfl
  have hic : ic2 ≤ 2 * fct F := by omega
  have hw9 : w ≤ 9 := by
    by_cases hx9 : w ≤ 9
    · exact hx9
    · have h1 := Nat.pow_le_pow_right (n := 2) (by decide) (show 10 ≤ w by omega)
      have h2 : (2 : Nat) ^ 10 = 1024 := rfl
      have h3 := Nat.mul_le_mul (show 1 ≤ fsz F + 2 by omega) h1
      omega
  refine ⟨h2, ?_, bL_done (by omega) p1, fun c y hy => p3 c y (by have := (List.getElem?_eq_some_iff.mp hy).1; omega) (q1 c y hy), ⟨by omega, by omega⟩, by omega⟩
  refine jr_1 jm_168 (show jw_cd cd_168 0 = some (.aload_n 1) by decide +kernel) rfl ?_
  refine jr_1 jm_168 (show jw_cd cd_168 1 = some (.getfield 99) by decide +kernel) (js_getf (cl_old hl ⟨by omega, hwA⟩) (jbg (by omega)) (show jw_fld 9 99 5 = some 5 by decide +kernel) rfl) ?_
  refine jr_c jm_168 (show jw_cd cd_168 4 = some (.invokestatic 101) by decide +kernel) (mc_s (n := 1) (m2 := 93) (bs := [.int (Int32.ofInt (((fsz F : Nat) : Int)))]) (r := []) (by decide) (show jw_find jw_csT 9 101 = some (93, 1) by decide +kernel) rfl rfl rfl) jm_93 ⟨Nat.le_of_ble_eq_true rfl, by decide⟩ c1 ?_
  refine jr_1 jm_168 (F2 := (8, [some (.ref 10), some (.ref e), some (.ref N), none, none, none], [], (cl_mk h1 κ))) (show jw_cd cd_168 7 = some (.astore_n 2) by decide +kernel) rfl ?_
  refine jr_1 jm_168 (show jw_cd cd_168 8 = some (.iconst 0) by decide +kernel) rfl ?_
  refine jr_1 jm_168 (F2 := (10, [some (.ref 10), some (.ref e), some (.ref N), some (.int (Int32.ofInt (0))), none, none], [], (cl_mk h1 κ))) (show jw_cd cd_168 9 = some (.istore_n 3) by decide +kernel) rfl ?_
  exact r2
