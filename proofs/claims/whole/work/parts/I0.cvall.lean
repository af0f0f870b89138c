/-! ===== the class: readValue as sP says, lists and objects (printed by program: gen92.py) ===== -/
theorem cv_L_s {β : Bool} {T : Int → Int} {n : Int} {f : Nat} (ht : tOK T n) (hV : cv_V β T n f) (hR : cv_L β T n f) : cv_L β T n (f + 1) := by
  intro a m D p h κ X N N0 lst ka ia kc ic j fr gr E ham hD hl hN hb hP hsc hf hbL hw hcap hj hjp
  have h0 := hP.2.2.2.1
  have hp1 := hP.2.2.2.2
  have hn160 := ht.2.1
  have hbL' := hbL
  have hbx := hbL.2.1
  obtain ⟨⟨b0, b1, b2, b3, b4, b5, b6⟩, -, c1, c2, c3, c4, c5, c6⟩ := hbL'
  have l1 := (List.getElem?_eq_some_iff.mp c1).1
  have l2 := (List.getElem?_eq_some_iff.mp c2).1
  have l3 := (List.getElem?_eq_some_iff.mp c3).1
  have hx' : ∀ c, N ≤ c → ¬ bX X lst ka ia c := fun c hc => bX_i (hbx c (by omega)) (by omega) (by omega) (by omega)
  obtain ⟨D', rfl⟩ : ∃ D', D = D' + 7 := ⟨D - 7, by omega⟩
  obtain ⟨κ1, L, b, i, F, r1, r2, ⟨r3, r4, r5⟩, r6, r7, r8, r9⟩ := hV (a + 1) m (D' + 7) p h κ (bX X lst ka ia) N (by omega) hD hl hN (by omega) hx' hP hsc (by omega)
  have hLb : (L.length : Int) ≤ 12 * (n - p) + 20 * (5 - (a : Int)) ∧ (cvol L : Int) ≤ 30 * (n - p) + 40 * (5 - (a : Int)) := by
    cases hs : sP T n f (.inl (a + 1, p)) with
    | inl e =>
      obtain ⟨-, y1, y2⟩ := r9 e hs
      exact ⟨by omega, by omega⟩
    | inr x =>
      obtain ⟨i', F', q⟩ := x
      obtain ⟨-, -, y0, y1, y2⟩ := r8 i' F' q hs
      have := y0.2.2.2.2
      exact ⟨by omega, by omega⟩
  have hlen : (h ++ L).length = N + L.length := by rw [List.length_append, hN]
  have hvol : cvol (h ++ L) = cvol h + cvol L := cvol_app _ _
  have hq0 : ∀ (c : Nat) (y : jx_C), h[c]? = some y → (h ++ L)[c]? = some y := fun c y hy => by
    rw [List.getElem?_append_left (List.getElem?_eq_some_iff.mp hy).1]
    exact hy
  obtain ⟨h2, ia', ic', f', s1, s2, s3, s4⟩ := jc_add (β := β) (d := D' + 6) (κ := κ1) (h := h ++ L) (i := wk i []) (c := F) (b := b) (by omega) hlen (by omega) (bL_fr hq0 hbL) (by omega) r2 (fun e => absurd e (by decide))
  have hla : (cl_mk (h ++ L) κ1)[lst]? = some (.inr (5, [.int (Int32.ofInt (5)), .int (Int32.ofInt (0)), .ref (jx_big + 9), .ref ka, .ref ia, .int (Int32.ofInt ((fsz E : Int)))])) := cl_old (by omega) ⟨by omega, hq0 _ _ c1⟩
  have en : ∀ res, jx_r (jz β) jw_M (D' + 7 + 1) 92 (39, [some (.ref 5), some (.int (Int32.ofInt ((a : Int)))), some (.ref lst), some (.int (Int32.ofInt ((j : Int))))], [], (cl_mk h2 κ1)) res → jx_r (jz β) jw_M (D' + 7 + 1) 92 (21, [some (.ref 5), some (.int (Int32.ofInt ((a : Int)))), some (.ref lst), some (.int (Int32.ofInt ((j : Int))))], [], (cl_mk h κ)) res := by
    intro res hr
    refine jr_1 jm_92 (show jw_cd cd_92 21 = some (.iload_n 3) by decide +kernel) rfl ?_
    refine jr_1 jm_92 (show jw_cd cd_92 22 = some (.sipush 160) by decide +kernel) (mt_si (by decide)) ?_
    refine jr_1 jm_92 (show jw_cd cd_92 25 = some (.if_icmp .ge 35) by decide +kernel) (mb_f (q := .ge) (a := (j : Int)) (b := 160) (by show ¬ (160 ≤ (j : Int)); omega) ⟨by omega, by omega⟩ ⟨by omega, by omega⟩ (by decide)) ?_
    refine jr_1 jm_92 (show jw_cd cd_92 28 = some (.aload_n 2) by decide +kernel) rfl ?_
    refine jr_1 jm_92 (show jw_cd cd_92 29 = some (.aload_n 0) by decide +kernel) rfl ?_
    refine jr_1 jm_92 (show jw_cd cd_92 30 = some (.iload_n 1) by decide +kernel) rfl ?_
    refine jr_1 jm_92 (show jw_cd cd_92 31 = some (.iconst 1) by decide +kernel) rfl ?_
    refine jr_1 jm_92 (show jw_cd cd_92 32 = some (.iadd) by decide +kernel) (mt_add (c := (a : Int) + 1) rfl) ?_
    refine jr_c jm_92 (show jw_cd cd_92 33 = some (.invokevirtual 66) by decide +kernel) (ccv (n := 1) (m2 := 57) (ci := 3) (a := 5) (bs := [.int (Int32.ofInt ((a : Int) + 1))]) (r := [.ref lst]) (js_cls cl_c5 (by decide)) (show jw_find jw_cvT 6 66 = some (1, [(3, 57)]) by decide +kernel) (by decide) rfl rfl rfl) jm_57 ⟨Nat.le_of_ble_eq_true rfl, by decide⟩ (show jx_r (jz β) jw_M (D' + 7) 57 (0, [some (.ref 5), some (.int (Int32.ofInt ((a : Int) + 1))), none], [], (cl_mk h κ)) (cl_mk (h ++ L) (κ1), .inl (some (.ref (b)))) from r1) ?_
    refine jr_c jm_92 (show jw_cd cd_92 36 = some (.invokevirtual 69) by decide +kernel) (ccv (n := 1) (m2 := 94) (ci := 5) (a := lst) (bs := [.ref b]) (r := []) (js_cls hla (jbg (by omega))) (show jw_find jw_cvT 6 69 = some (1, [(5, 94)]) by decide +kernel) (by decide) rfl rfl rfl) jm_94 ⟨Nat.le_of_ble_eq_true rfl, by decide⟩ s1 ?_
    exact hr
  have t0 : tx ([] : List Int) := ⟨by decide, fun c hc => absurd hc List.not_mem_nil⟩
  have hik : iok (wk i []) := ⟨r3.1, r3.2.1, r3.2.2.1, r3.2.2.2.1, t0⟩
  have ew : ∀ z : tI, fput false (wk z []) F E = fapp (wk z []) F E := fun z => if_neg (fun y => Bool.noConfusion y.1)
  have es : fsz (fapp (wk i []) F E) = fsz E + 1 := fsz_app _ _ _
  have hw2 : fwf (fapp (wk i []) F E) := fwf_app hik r5 E hw
  have hfr : ∀ (c : Nat) (y : jx_C), c < N0 → h[c]? = some y → h2[c]? = some y := fun c y hc hy => s3 c y (by omega) (by omega) (hq0 c y hy)
  have hkc : kc = 0 := by
    rcases c5 with c5 | c5
    · exact absurd c5.1 (by decide)
    · exact c5.2
  have hcap2 : ic' ≤ 2 * fsz (fapp (wk i []) F E) ∧ kc ≤ 2 * fsz (fapp (wk i []) F E) := by
    rcases s4 with s4 | s4
    · omega
    · omega
  have hgr : N + L.length ≤ h2.length ∧ h2.length ≤ N + L.length + 1 ∧ cvol h2 + 2 * ic ≤ cvol h + cvol L + 2 * ic' := by
    rcases s4 with s4 | s4
    · omega
    · omega
  have hl2 : 50 ≤ h2.length := by omega
  have hsn : sName false T n p = .inr ([], p) := rfl
  cases hs : sP T n f (.inl (a + 1, p)) with
  | inl e =>
    obtain ⟨y1, y2, y3⟩ := r9 e hs
    have e0 := sPi_e2 (F := E) hsn hs
    refine ⟨κ1, h2, ka, ia', kc, ic', f', gr, _, en _ (jc_rlW (d := D' + 6) (t := 0) hl2 y1.2.1), s2, hw2, hcap2, hfr, by omega, r6, r7, fun w F' q hh => (by rw [e0] at hh; cases hh), fun e' hh => ?_⟩
    rw [e0] at hh
    injection hh with hh
    rw [← hh]
    exact ⟨y1, by omega, by omega⟩
  | inr x =>
    obtain ⟨i', F', q⟩ := x
    obtain ⟨z1, z2, hP2, y2, y3⟩ := r8 i' F' q hs
    have hpq := (((sP_ok ht f).1 (a + 1) p h0 hp1).1 i' F' q hs).1
    subst z1
    subst z2
    have hq0' := hP2.2.2.2.1
    have hqn := hP2.2.2.2.2
    by_cases c44 : tH T n q = 44
    · have hq1 : q < n := (tH_r ht hq0').2.2.2 (by rw [c44]; decide)
      have hP3 : cP (su κ1 4 0 (q + 1)) T n (q + 1) := cP_mv hP2 (by omega) (by omega)
      have e0 := sPi_44 (F := E) hsn hs c44
      rw [ew] at e0
      obtain ⟨κ', h', ka2, ia2, kc2, ic2, fr2, gr2, E', t1, t2, t3, t4, t5, t6, t7, t8, t9, t10⟩ := hR a m (D' + 7) (q + 1) h2 (su κ1 4 0 (q + 1)) X h2.length N0 lst ka ia' kc ic' (j + 1) f' gr (fapp (wk i []) F E) ham hD hl2 rfl (by omega) hP3 (by rw [su_nf (by decide)]; exact r7) (by omega) s2 hw2 hcap2 (by omega) (by omega)
      refine ⟨κ', h', ka2, ia2, kc2, ic2, fr2, gr2, E', en _ (jc_rlA (d := D' + 6) (t := 0) hl2 hP2 (by omega) c44 t1), t2, t3, t4, fun c y hc hy => t5 c y hc (hfr c y hc hy), by omega, fun g hg => (t7 g hg).trans ((su_row (fun e => hg (by rw [e]; decide))).trans (r6 g hg)), t8, fun w F2 q2 hh => ?_, fun e hh => ?_⟩
      · rw [e0] at hh
        obtain ⟨u1, u2, u3, u4⟩ := t9 w F2 q2 hh
        exact ⟨u1, u2, by omega, by omega⟩
      · rw [e0] at hh
        obtain ⟨u2, u3, u4⟩ := t10 e hh
        exact ⟨u2, by omega, by omega⟩
    · by_cases c93 : tH T n q = 93
      · have hq1 : q < n := (tH_r ht hq0').2.2.2 (by rw [c93]; decide)
        have e0 := sPi_cl (F := E) hsn hs c44 (by rw [c93]; rfl)
        rw [ew] at e0
        refine ⟨su κ1 4 0 (q + 1), h2, ka, ia', kc, ic', f', gr, _, en _ (jc_rlB (d := D' + 6) (t := 0) hl2 hP2 c93), s2, hw2, hcap2, hfr, by omega, fun g hg => (su_row (fun e => hg (by rw [e]; decide))).trans (r6 g hg), by rw [su_nf (by decide)]; exact r7, fun w F2 q2 hh => ?_, fun e hh => (by rw [e0] at hh; cases hh)⟩
        rw [e0] at hh
        injection hh with hh
        injection hh with v1 hh
        injection hh with v2 v3
        rw [← v2, ← v3]
        exact ⟨rfl, cP_mv hP2 (by omega) (by omega), by omega, by omega⟩
      · have e0 := sPi_no (F := E) hsn hs c44 c93
        refine ⟨su κ1 5 0 q, h2, ka, ia', kc, ic', f', gr, _, en _ (jc_rlC (d := D' + 6) (t := 0) hl2 hP2 c44 c93), s2, hw2, hcap2, hfr, by omega, fun g hg => (su_row (fun e => hg (by rw [e]; decide))).trans (r6 g hg), by rw [su_nf (by decide)]; exact r7, fun w F2 q2 hh => (by rw [e0] at hh; cases hh), fun e hh => ?_⟩
        rw [e0] at hh
        injection hh with hh
        rw [← hh]
        exact ⟨cP_w hP2 hq0' (by omega), by omega, by omega⟩
theorem cv_O_s {β : Bool} {T : Int → Int} {n : Int} {f : Nat} (ht : tOK T n) (hV : cv_V β T n f) (hR : cv_O β T n f) : cv_O β T n (f + 1) := by
  intro a m D p h κ X N N0 lst ka ia kc ic j fr gr E t4 ham hD hl hN hb hP hsc hf hbL hw hcap hj hjp
  have h0 := hP.2.2.2.1
  have hp1 := hP.2.2.2.2
  have hn160 := ht.2.1
  have hbL' := hbL
  have hbx := hbL.2.1
  obtain ⟨⟨b0, b1, b2, b3, b4, b5, b6⟩, -, c1, c2, c3, c4, c5, c6⟩ := hbL'
  have l1 := (List.getElem?_eq_some_iff.mp c1).1
  have l2 := (List.getElem?_eq_some_iff.mp c2).1
  have l3 := (List.getElem?_eq_some_iff.mp c3).1
  have hx' : ∀ c, N ≤ c → ¬ bX X lst ka ia c := fun c hc => bX_i (hbx c (by omega)) (by omega) (by omega) (by omega)
  obtain ⟨D', rfl⟩ : ∃ D', D = D' + 7 := ⟨D - 7, by omega⟩
  obtain ⟨κ1, L1, s', k1, k2, k3, k4, k5, k6, k7, k8, k9⟩ := jc_keyC (β := β) (d := D' + 1) (X := bX X lst ka ia) (a := a) (lst := lst) (j := j) (t := 0) (t4 := t4) hl hN (by omega) hx' hP hsc
  have hlen1 : (h ++ L1).length = N + 2 := by rw [List.length_append, hN, k2]
  have hx1 : ∀ c, N + 2 ≤ c → ¬ bX X lst ka ia c := fun c hc => hx' c (by omega)
  obtain ⟨κ2, L2, b, i, F, r1, r2, ⟨r3, r4, r5⟩, r6, r7, r8, r9, r10⟩ : ∃ (κ2 : mS) (L2 : List jx_C) (b : Nat) (i : tI) (F : FT), jx_r (jz β) jw_M (D' + 7) 57 (0, [some (.ref 5), some (.int (Int32.ofInt (((a + 1 : Nat) : Int)))), none], [], (cl_mk (h ++ L1) κ1)) (cl_mk (h ++ L1 ++ L2) (κ2), .inl (some (.ref (b)))) ∧ vN (h ++ L1 ++ L2) (bX X lst ka ia) b i F ∧ (iok i ∧ i.2.2.2 = [] ∧ fwf F) ∧ mEq [4, 5, 7, 8, 15] κ1 κ2 ∧ (0 ≤ κ2 7 0 ∧ κ2 7 0 ≤ 16) ∧ (∀ s p1 i' F' q, sName true T n p = .inr (s, p1) → sP T n f (.inl (a + 1, p1)) = .inr (i', F', q) → i = i' ∧ F = F' ∧ cP κ2 T n q ∧ (L2.length : Int) ≤ 12 * (q - p1) ∧ (cvol L2 : Int) ≤ 30 * (q - p1) ∧ p < p1 ∧ p1 < q) ∧ (∀ e, (sName true T n p = .inl e ∨ ∃ s p1, sName true T n p = .inr (s, p1) ∧ sP T n f (.inl (a + 1, p1)) = .inl e) → cE κ2 T n e) ∧ ((L2.length : Int) ≤ 12 * (n - p) + 20 * (5 - (a : Int)) ∧ (cvol L2 : Int) ≤ 30 * (n - p) + 40 * (5 - (a : Int))) := by
    cases hsn : sName true T n p with
    | inl e =>
      have y1 := k9 e hsn
      refine ⟨κ1, [.inr (5, [.int (Int32.ofInt (0)), .int (Int32.ofInt (0)), .ref (jx_big + 9), .ref (N + 2 + 1), .ref (N + 2 + 2), .int (Int32.ofInt (0))]), .inl (4, 0, fun _ => .null), .inl (4, 0, fun _ => .null)], N + 2, (0, 0, [], []), .leaf, jc_valW (d := D' + 4) (a := a + 1) (by omega) hlen1 (by omega) y1.2.1 (by omega), ofV_vN (by omega) hlen1 (by omega) hx1 emp_str (by decide), ⟨⟨by show (0 : Int) ≤ 0; decide, by show (0 : Int) ≤ 6; decide, ⟨by show -2147483648 ≤ (0 : Int); decide, by show (0 : Int) ≤ 2147483647; decide⟩, ⟨by decide, fun c hc => absurd hc List.not_mem_nil⟩, ⟨by decide, fun c hc => absurd hc List.not_mem_nil⟩⟩, rfl, trivial⟩, fun f hf => rfl, k7, fun s p1 i' F' q hh => (by cases hh), fun e' hh => ?_, ⟨by show (3 : Int) ≤ _; omega, by show (6 : Int) ≤ _; omega⟩⟩
      rcases hh with hh | ⟨s, p1, hh, -⟩
      · injection hh with hh
        rw [← hh]
        exact y1
      · cases hh
    | inr x =>
      obtain ⟨s, p1⟩ := x
      obtain ⟨z1, hP1⟩ := k8 s p1 hsn
      have hpp : p < p1 := by
        have q0 : (match sKey T n p with
          | .inl e => (.inl e : Int ⊕ (List Int × Int))
          | .inr (s, q) => if tH T n q = 58 then .inr (s, q + 1) else .inl q) = .inr (s, p1) := hsn
        cases hk : sKey T n p with
        | inl e => rw [hk] at q0; cases q0
        | inr x =>
          obtain ⟨s2, q2⟩ := x
          rw [hk] at q0
          have q0 : (if tH T n q2 = 58 then (.inr (s2, q2 + 1) : Int ⊕ (List Int × Int)) else .inl q2) = .inr (s, p1) := q0
          have := (sKey_q h0 hp1 hk).1
          split at q0
          · injection q0 with q0
            injection q0 with _ q0
            omega
          · cases q0
      have h01 := hP1.2.2.2.1
      have hp11 := hP1.2.2.2.2
      obtain ⟨κ2, L2, b, i, F, r1, r2, r3, r6, r7, r8, r9⟩ := hV (a + 1) m (D' + 7) p1 (h ++ L1) κ1 (bX X lst ka ia) (N + 2) (by omega) hD (by omega) hlen1 (by omega) hx1 hP1 k7 (by omega)
      refine ⟨κ2, L2, b, i, F, r1, r2, r3, r6, r7, fun s2 p2 i' F' q hh hs => ?_, fun e hh => ?_, ?_⟩
      · injection hh with hh
        injection hh with e1 e2
        rw [← e2] at hs ⊢
        obtain ⟨y1, y2, y3, y4, y5⟩ := r8 i' F' q hs
        exact ⟨y1, y2, y3, y4, y5, hpp, (((sP_ok ht f).1 (a + 1) p1 h01 hp11).1 i' F' q hs).1⟩
      · rcases hh with hh | ⟨s2, p2, hh, hs⟩
        · cases hh
        · injection hh with hh
          injection hh with e1 e2
          rw [← e2] at hs
          exact (r9 e hs).1
      · cases hs : sP T n f (.inl (a + 1, p1)) with
        | inl e =>
          obtain ⟨-, y1, y2⟩ := r9 e hs
          exact ⟨by omega, by omega⟩
        | inr x =>
          obtain ⟨i', F', q⟩ := x
          obtain ⟨-, -, y0, y1, y2⟩ := r8 i' F' q hs
          have := y0.2.2.2.2
          exact ⟨by omega, by omega⟩
  have hlen : (h ++ L1 ++ L2).length = N + 2 + L2.length := by rw [List.length_append, hlen1]
  have hvol : cvol (h ++ L1 ++ L2) = cvol h + cvol L1 + cvol L2 := by rw [cvol_app, cvol_app]
  have hq0 : ∀ (c : Nat) (y : jx_C), h[c]? = some y → (h ++ L1 ++ L2)[c]? = some y := fun c y hy => by
    have := (List.getElem?_eq_some_iff.mp hy).1
    rw [List.getElem?_append_left (by omega), List.getElem?_append_left this]
    exact hy
  obtain ⟨h3, ka', ia', kc', ic', f', g', s1, s2, s3, s4, s5, s6, s7, s8⟩ := jc_put (β := β) (d := D' + 5) (κ := κ2) (h := h ++ L1 ++ L2) (i := i) (c := F) (b := b) (t := N) (s := s') (by omega) hlen (by omega) (bL_fr hq0 hbL) (by omega) hw r2 (strR_fr ext_q k4) k5
  have hla : (cl_mk (h ++ L1 ++ L2) κ2)[lst]? = some (.inr (5, [.int (Int32.ofInt (6)), .int (Int32.ofInt (0)), .ref (jx_big + 9), .ref ka, .ref ia, .int (Int32.ofInt ((fsz E : Int)))])) := cl_old (by omega) ⟨by omega, hq0 _ _ c1⟩
  have en : ∀ res, jx_r (jz β) jw_M (D' + 7 + 1) 97 (60, [some (.ref 5), some (.int (Int32.ofInt ((a : Int)))), some (.ref lst), some (.int (Int32.ofInt ((j : Int)))), some (.ref N)], [], (cl_mk h3 κ2)) res → jx_r (jz β) jw_M (D' + 7 + 1) 97 (22, [some (.ref 5), some (.int (Int32.ofInt ((a : Int)))), some (.ref lst), some (.int (Int32.ofInt ((j : Int)))), t4], [], (cl_mk h κ)) res := by
    intro res hr
    refine jr_1 jm_97 (show jw_cd cd_97 22 = some (.iload_n 3) by decide +kernel) rfl ?_
    refine jr_1 jm_97 (show jw_cd cd_97 23 = some (.sipush 160) by decide +kernel) (mt_si (by decide)) ?_
    refine jr_1 jm_97 (show jw_cd cd_97 26 = some (.if_icmp .ge 55) by decide +kernel) (mb_f (q := .ge) (a := (j : Int)) (b := 160) (by show ¬ (160 ≤ (j : Int)); omega) ⟨by omega, by omega⟩ ⟨by omega, by omega⟩ (by decide)) ?_
    refine k1 _ ?_
    refine jr_1 jm_97 (show jw_cd cd_97 47 = some (.aload_n 2) by decide +kernel) rfl ?_
    refine jr_1 jm_97 (show jw_cd cd_97 48 = some (.aload 4) by decide +kernel) rfl ?_
    refine jr_1 jm_97 (show jw_cd cd_97 50 = some (.aload_n 0) by decide +kernel) rfl ?_
    refine jr_1 jm_97 (show jw_cd cd_97 51 = some (.iload_n 1) by decide +kernel) rfl ?_
    refine jr_1 jm_97 (show jw_cd cd_97 52 = some (.iconst 1) by decide +kernel) rfl ?_
    refine jr_1 jm_97 (show jw_cd cd_97 53 = some (.iadd) by decide +kernel) (mt_add (c := (a : Int) + 1) rfl) ?_
    refine jr_c jm_97 (show jw_cd cd_97 54 = some (.invokevirtual 66) by decide +kernel) (ccv (n := 1) (m2 := 57) (ci := 3) (a := 5) (bs := [.int (Int32.ofInt ((a : Int) + 1))]) (r := [.ref N, .ref lst]) (js_cls cl_c5 (by decide)) (show jw_find jw_cvT 6 66 = some (1, [(3, 57)]) by decide +kernel) (by decide) rfl rfl rfl) jm_57 ⟨Nat.le_of_ble_eq_true rfl, by decide⟩ (show jx_r (jz β) jw_M (D' + 7) 57 (0, [some (.ref 5), some (.int (Int32.ofInt ((a : Int) + 1))), none], [], (cl_mk (h ++ L1) κ1)) (cl_mk (h ++ L1 ++ L2) (κ2), .inl (some (.ref (b)))) from r1) ?_
    refine jr_c jm_97 (show jw_cd cd_97 57 = some (.invokevirtual 76) by decide +kernel) (ccv (n := 2) (m2 := 100) (ci := 5) (a := lst) (bs := [.ref N, .ref b]) (r := []) (js_cls hla (jbg (by omega))) (show jw_find jw_cvT 6 76 = some (2, [(5, 100)]) by decide +kernel) (by decide) rfl rfl rfl) jm_100 ⟨Nat.le_of_ble_eq_true rfl, by decide⟩ s1 ?_
    exact hr
  have hik : iok (wk i s') := ⟨r3.1, r3.2.1, r3.2.2.1, r3.2.2.2.1, k5⟩
  have hw2 : fwf (fput true (wk i s') F E) := fwf_put hik r5 hw
  obtain ⟨E2, eE⟩ : ∃ E2, E2 = fput true (wk i s') F E := ⟨_, rfl⟩
  rw [← eE] at s2 s6 s7 s8 hw2
  have hfr : ∀ (c : Nat) (y : jx_C), c < N0 → h[c]? = some y → h3[c]? = some y := fun c y hc hy => s3 c y (by omega) (by omega) (by omega) (hq0 c y hy)
  have hcap2 : ic' ≤ 2 * fsz E2 ∧ kc' ≤ 2 * fsz E2 := ⟨s6 hcap.1, s7 hcap.2⟩
  have hl3 : 50 ≤ h3.length := by omega
  have hmq : mEq [4, 5, 7, 8, 15] κ κ2 := fun g hg => (r6 g hg).trans (k6 g hg)
  have bad : ∀ e, cE κ2 T n e → sP T n (f + 1) (.inr (true, a, E, p)) = .inl e → ∃ (κ' : mS) (h' : jx_H) (ka' ia' kc' ic' : Nat) (fr' gr' : Nat → Value) (E' : FT), jx_r (jz β) jw_M (D' + 7 + 1) 97 (22, [some (.ref 5), some (.int (Int32.ofInt ((a : Int)))), some (.ref lst), some (.int (Int32.ofInt ((j : Int)))), t4], [], (cl_mk h κ)) (cl_mk h' (κ'), .inl (some (.ref (lst)))) ∧ bL h' X N0 lst ka' ia' kc' ic' fr' gr' 6 E' ∧ fwf E' ∧ (ic' ≤ 2 * fsz E' ∧ kc' ≤ 2 * fsz E') ∧ (∀ (c : Nat) (y : jx_C), c < N0 → h[c]? = some y → h'[c]? = some y) ∧ N ≤ h'.length ∧ mEq [4, 5, 7, 8, 15] κ κ' ∧ (0 ≤ κ' 7 0 ∧ κ' 7 0 ≤ 16) ∧ (∀ w F' q, sP T n (f + 1) (.inr (true, a, E, p)) = .inr (w, F', q) → E' = F' ∧ cP κ' T n q ∧ (h'.length : Int) ≤ N + 12 * (q - p) ∧ (cvol h' : Int) + 2 * ic + 2 * kc + 8 * fsz E' ≤ cvol h + 2 * ic' + 2 * kc' + 8 * fsz E + 30 * (q - p)) ∧ (∀ e, sP T n (f + 1) (.inr (true, a, E, p)) = .inl e → cE κ' T n e ∧ (h'.length : Int) ≤ N + 12 * (n - p) + 20 * (5 - (a : Int)) + 15 ∧ (cvol h' : Int) + 2 * ic + 2 * kc + 8 * fsz E' ≤ cvol h + 2 * ic' + 2 * kc' + 8 * fsz E + 30 * (n - p) + 40 * (5 - (a : Int)) + 33) := by
    intro e y1 e0
    refine ⟨κ2, h3, ka', ia', kc', ic', f', g', E2, en _ (jc_roW (d := D' + 6) (t := 0) hl3 y1.2.1), s2, hw2, hcap2, hfr, by omega, hmq, r7, fun w F' q hh => (by rw [e0] at hh; cases hh), fun e' hh => ?_⟩
    rw [e0] at hh
    injection hh with hh
    rw [← hh]
    exact ⟨y1, by omega, by omega⟩
  cases hsn : sName true T n p with
  | inl e => exact bad e (r9 e (Or.inl hsn)) (sPi_e1 hsn)
  | inr x =>
    obtain ⟨s, p1⟩ := x
    cases hs : sP T n f (.inl (a + 1, p1)) with
    | inl e => exact bad e (r9 e (Or.inr ⟨s, p1, hsn, hs⟩)) (sPi_e2 hsn hs)
    | inr x =>
      obtain ⟨i', F', q⟩ := x
      have hss := (k8 s p1 hsn).1
      obtain ⟨z1, z2, hP2, y2, y3, y4, y5⟩ := r8 s p1 i' F' q hsn hs
      subst z1
      subst z2
      subst hss
      have hq0' := hP2.2.2.2.1
      have hqn := hP2.2.2.2.2
      by_cases c44 : tH T n q = 44
      · have hq1 : q < n := (tH_r ht hq0').2.2.2 (by rw [c44]; decide)
        have hP3 : cP (su κ2 4 0 (q + 1)) T n (q + 1) := cP_mv hP2 (by omega) (by omega)
        have e0 := sPi_44 (F := E) hsn hs c44
        rw [← eE] at e0
        obtain ⟨κ', h', ka2, ia2, kc2, ic2, fr2, gr2, E', u1, u2, u3, u4, u5, u6, u7, u8, u9, u10⟩ := hR a m (D' + 7) (q + 1) h3 (su κ2 4 0 (q + 1)) X h3.length N0 lst ka' ia' kc' ic' (j + 1) f' g' E2 (some (.ref N)) ham hD hl3 rfl (by omega) hP3 (by rw [su_nf (by decide)]; exact r7) (by omega) s2 hw2 hcap2 (by omega) (by omega)
        refine ⟨κ', h', ka2, ia2, kc2, ic2, fr2, gr2, E', en _ (jc_roA (d := D' + 6) (t := 0) hl3 hP2 (by omega) c44 u1), u2, u3, u4, fun c y hc hy => u5 c y hc (hfr c y hc hy), by omega, fun g hg => (u7 g hg).trans ((su_row (fun e => hg (by rw [e]; decide))).trans (hmq g hg)), u8, fun w F2 q2 hh => ?_, fun e hh => ?_⟩
        · rw [e0] at hh
          obtain ⟨v1, v2, v3, v4⟩ := u9 w F2 q2 hh
          exact ⟨v1, v2, by omega, by omega⟩
        · rw [e0] at hh
          obtain ⟨v2, v3, v4⟩ := u10 e hh
          exact ⟨v2, by omega, by omega⟩
      · by_cases c93 : tH T n q = 125
        · have hq1 : q < n := (tH_r ht hq0').2.2.2 (by rw [c93]; decide)
          have e0 := sPi_cl (F := E) hsn hs c44 (by rw [c93]; rfl)
          rw [← eE] at e0
          refine ⟨su κ2 4 0 (q + 1), h3, ka', ia', kc', ic', f', g', E2, en _ (jc_roB (d := D' + 6) (t := 0) hl3 hP2 c93), s2, hw2, hcap2, hfr, by omega, fun g hg => (su_row (fun e => hg (by rw [e]; decide))).trans (hmq g hg), by rw [su_nf (by decide)]; exact r7, fun w F2 q2 hh => ?_, fun e hh => (by rw [e0] at hh; cases hh)⟩
          rw [e0] at hh
          injection hh with hh
          injection hh with v1 hh
          injection hh with v2 v3
          rw [← v2, ← v3]
          exact ⟨rfl, cP_mv hP2 (by omega) (by omega), by omega, by omega⟩
        · have e0 := sPi_no (F := E) hsn hs c44 c93
          refine ⟨su κ2 5 0 q, h3, ka', ia', kc', ic', f', g', E2, en _ (jc_roC (d := D' + 6) (t := 0) hl3 hP2 c44 c93), s2, hw2, hcap2, hfr, by omega, fun g hg => (su_row (fun e => hg (by rw [e]; decide))).trans (hmq g hg), by rw [su_nf (by decide)]; exact r7, fun w F2 q2 hh => (by rw [e0] at hh; cases hh), fun e hh => ?_⟩
          rw [e0] at hh
          injection hh with hh
          rw [← hh]
          exact ⟨cP_w hP2 hq0' (by omega), by omega, by omega⟩
theorem cv_VLO {β : Bool} {T : Int → Int} {n : Int} (ht : tOK T n) : ∀ f : Nat, cv_V β T n f ∧ cv_L β T n f ∧ cv_O β T n f := by
  intro f
  induction f with
  | zero =>
    refine ⟨fun a m D p h κ X N ham hD hl hN hb hx hP hsc hf => absurd hf ?_, fun a m D p h κ X N N0 lst ka ia kc ic j fr gr E ham hD hl hN hb hP hsc hf => absurd hf ?_, fun a m D p h κ X N N0 lst ka ia kc ic j fr gr E t4 ham hD hl hN hb hP hsc hf => absurd hf ?_⟩
    · have := hP.2.2.2.2
      omega
    · have := hP.2.2.2.2
      omega
    · have := hP.2.2.2.2
      omega
  | succ f ih => exact ⟨cv_V_s ht ih.2.1 ih.2.2, cv_L_s ht ih.1 ih.2.1, cv_O_s ht ih.1 ih.2.2⟩
