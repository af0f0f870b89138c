/-! ===== the class: readSide as a whole (printed by program: gen108.py) ===== -/
theorem ofV_vN' {h h2 : jx_H} {N : Nat} {x : Int} {X : Nat → Prop} {c0 : jx_C} (hA : h2[N]? = some c0) (eh2 : h2 = h ++ [.inr (5, [.int (Int32.ofInt (3)), .int (Int32.ofInt (x)), .ref (jx_big + 9), .ref (N + 1 + 1), .ref (N + 1 + 2), .int (Int32.ofInt (0))]), .inl (4, 0, fun _ => .null), .inl (4, 0, fun _ => .null)]) (hl : 50 ≤ h.length) (hN : h.length = N + 1) (hb32 : N + 1 < 3000000000) (hx : ∀ c, N + 1 ≤ c → ¬ X c) : vN h2 X (N + 1) (3, x, [], []) .leaf := by
  rw [eh2]
  exact ofV_vN (nm := x) (kd := 3) hl hN hb32 hx emp_str (by decide)
theorem jc_side {β : Bool} {d : Nat} {h : jx_H} {κ : mS} (hl : 50 ≤ h.length) {N : Nat} (hN : h.length = N) (hb32 : N < 2800000000) {X : Nat → Prop} (hx : ∀ c, N ≤ c → ¬ X c) {T : Int → Int} {n p : Int} (hP : cP κ T n p) (hsc : 0 ≤ κ 7 0 ∧ κ 7 0 ≤ 16) : ∃ (κ' : mS) (L : List jx_C), jx_r (jz β) jw_M (d + 8) 145 (0, [some (.ref 6), none, none], [], (cl_mk h κ)) (cl_mk (h ++ L) (κ'), .inl (some (.ref (N)))) ∧ L.length ≤ 30 ∧ cvol L ≤ 100 ∧ mEq [4, 5, 7, 8, 15] κ κ' ∧ (0 ≤ κ' 7 0 ∧ κ' 7 0 ≤ 16) ∧ (∀ s q, sSide T n p = .inr (s, q) → cdR (h ++ L) X N s ∧ cP κ' T n q) ∧ (∀ e, sSide T n p = .inl e → cE κ' T n e) := by
  have ht := hP.1.2.2
  have hp0 := hP.2.2.2.1
  have hpn := hP.2.2.2.2
  have hr0 : 0 ≤ tC T n p ∧ tC T n p ≤ 126 := (tC_H ht hp0).2.2
  have ep := pN_C ht hp0
  by_cases hpN : pN (tH T n p) = true
  · have hpC : pN (tC T n p) = true := ep.trans hpN
    obtain ⟨h1, eh1⟩ : ∃ h1, h1 = h ++ [.inr (15, [.null, .null, .int (Int32.ofInt (0))])] := ⟨_, rfl⟩
    have hN1 : h1.length = N + 1 := by rw [eh1, List.length_append, hN]; rfl
    have hl1 : 50 ≤ h1.length := by omega
    have hA1 : h1[N]? = some (.inr (15, [.null, .null, .int (Int32.ofInt (0))])) := by
      rw [eh1, ← hN, List.getElem?_append_right (Nat.le_refl _), Nat.sub_self]
      rfl
    have q1 : ∀ (c : Nat) (y : jx_C), h[c]? = some y → h1[c]? = some y := fun c y hy => by rw [eh1, List.getElem?_append_left (List.getElem?_eq_some_iff.mp hy).1]; exact hy
    have v1 : cvol h1 = cvol h + 3 := by rw [eh1, cvol_app]; rfl
    obtain ⟨κ1, x, r1, x1, m1, n1, n2⟩ := jc_numU (β := β) (d := d + 6) hl1 hP
    have r2 := jc_ofN (β := β) (d := d + 6) (κ := κ1) (nm := x) hl1 hN1 (by omega)
    have t2 := ofV_vN (nm := x) (X := X) (kd := 3) hl1 hN1 (by omega) (fun c hc => hx c (by omega)) emp_str (by decide)
    obtain ⟨h2, eh2⟩ : ∃ h2, h2 = h1 ++ [.inr (5, [.int (Int32.ofInt (3)), .int (Int32.ofInt (x)), .ref (jx_big + 9), .ref (N + 1 + 1), .ref (N + 1 + 2), .int (Int32.ofInt (0))]), .inl (4, 0, fun _ => .null), .inl (4, 0, fun _ => .null)] := ⟨_, rfl⟩
    rw [← eh2] at r2 t2
    have hN2 : h2.length = N + 4 := by rw [eh2, List.length_append, hN1]; rfl
    have hl2 : 50 ≤ h2.length := by omega
    have q12 : ∀ (c : Nat) (y : jx_C), h1[c]? = some y → h2[c]? = some y := fun c y hy => by rw [eh2, List.getElem?_append_left (List.getElem?_eq_some_iff.mp hy).1]; exact hy
    have q2 : ∀ (c : Nat) (y : jx_C), h[c]? = some y → h2[c]? = some y := fun c y hy => q12 c y (q1 c y hy)
    have v2 : cvol h2 = cvol h + 9 := by rw [eh2, cvol_app, v1]; rfl
    have hA2 := q12 _ _ hA1
    obtain ⟨h3, r3, hA3, hR3, f3, hN3, v3⟩ := jc_sdJ (β := β) (d := d + 7) (κ := κ1) (v := N + 1) hl2 hN2 (by omega) ⟨by omega, by omega⟩ hA2
    have q3 : ∀ (c : Nat) (y : jx_C), h[c]? = some y → h3[c]? = some y := fun c y hy => f3 c y (by have := (List.getElem?_eq_some_iff.mp hy).1; omega) (q2 c y hy)
    obtain ⟨L, eL⟩ := ext_of (h := h) (h' := h3) (by omega) q3
    have eln : h3.length = N + L.length := by rw [eL, List.length_append, hN]
    have evl : cvol h3 = cvol h + cvol L := by rw [eL, cvol_app]
    rw [eL] at r3
    refine ⟨κ1, L, ?_, by omega, by omega, mEq_sub m1 (by decide), by rw [m1 7 (by decide)]; exact hsc, fun s q hh => ?_, fun e hh => ?_⟩
    rotate_left
    · rw [← eL]
      cases hs : sNum T n p with
      | inl e => rw [show sSide T n p = .inl e by unfold sSide; rw [if_pos hpN, hs]] at hh; cases hh
      | inr y =>
        obtain ⟨x', q'⟩ := y
        rw [show sSide T n p = .inr ((2, x', [], []), q') by unfold sSide; rw [if_pos hpN, hs]] at hh
        injection hh with hh
        injection hh with z1 z2
        obtain ⟨y1, y2⟩ := n1 x' q' hs
        rw [← z1, ← z2]
        refine ⟨⟨⟨by omega, by omega, hx N (Nat.le_refl _)⟩, N + 4, 0, _, _, ⟨by omega, by omega, hx _ (by omega)⟩, hA3, hR3, Or.inr (Or.inl ⟨rfl, N + 1, rfl, ?_⟩)⟩, y2⟩
        rw [← y1]
        exact vN_fr (X := fun c => X c ∨ c = N) (fun c y z hy => ⟨⟨z.1, z.2.1, fun w => z.2.2 (Or.inl w)⟩, f3 c y (fun w => z.2.2 (Or.inr w)) hy⟩) (ofV_vN' hA2 eh2 hl1 hN1 (by omega) (fun c hc w => by rcases w with w | w; exact hx c (by omega) w; omega))
    · cases hs : sNum T n p with
      | inr y =>
        obtain ⟨x', q'⟩ := y
        rw [show sSide T n p = .inr ((2, x', [], []), q') by unfold sSide; rw [if_pos hpN, hs]] at hh
        cases hh
      | inl e' =>
        rw [show sSide T n p = .inl e' by unfold sSide; rw [if_pos hpN, hs]] at hh
        injection hh with hh
        rw [← hh]
        exact n2 e' hs
    refine jr_1 jm_145 (show jw_cd cd_145 0 = some (.aload_n 0) by decide +kernel) rfl ?_
    refine jr_1 jm_145 (show jw_cd cd_145 1 = some (.getfield 9) by decide +kernel) (cgr_6_0 (show jw_fld 7 9 4 = some 0 by decide +kernel)) ?_
    refine jr_c jm_145 (show jw_cd cd_145 4 = some (.invokevirtual 45) by decide +kernel) (ccv (n := 0) (m2 := 58) (ci := 1) (a := 1) (bs := []) (r := []) (js_cls cl_c1 (by decide)) (show jw_find jw_cvT 7 45 = some (0, [(1, 58)]) by decide +kernel) (by decide) rfl rfl rfl) jm_58 ⟨Nat.le_of_ble_eq_true rfl, by decide⟩ (jc_here hl hP) ?_
    refine jr_c jm_145 (show jw_cd cd_145 7 = some (.invokestatic 127) by decide +kernel) (mc_s (n := 1) (m2 := 59) (bs := [.int (Int32.ofInt (tC T n p))]) (r := []) (by decide) (show jw_find jw_csT 7 127 = some (59, 1) by decide +kernel) rfl rfl rfl) jm_59 ⟨Nat.le_of_ble_eq_true rfl, by decide⟩ (jc_sN_t hl hr0 hpC) ?_
    refine jr_1 jm_145 (show jw_cd cd_145 10 = some (.ifCond .eq 21) by decide +kernel) (mz_f (q := .eq) (a := 1) (by show ¬ (1 = 0); omega) ⟨by omega, by omega⟩ (by decide)) ?_
    refine jr_1 jm_145 (F2 := (16, [some (.ref 6), none, none], [.ref N], (cl_mk (h ++ [.inr (15, [.null, .null, .int (Int32.ofInt (0))])]) κ))) (show jw_cd cd_145 13 = some (.new 150) by decide +kernel) (cnw0 hl hN (by omega) (show jw_find jw_xcT 7 150 = none by decide +kernel) (show jw_find jw_nwT 7 150 = some 15 by decide +kernel)) ?_
    rw [← eh1]
    refine jr_1 jm_145 (show jw_cd cd_145 16 = some (.dup) by decide +kernel) rfl ?_
    refine jr_1 jm_145 (show jw_cd cd_145 17 = some (.aload_n 0) by decide +kernel) rfl ?_
    refine jr_1 jm_145 (show jw_cd cd_145 18 = some (.getfield 9) by decide +kernel) (cgr_6_0 (show jw_fld 7 9 4 = some 0 by decide +kernel)) ?_
    refine jr_c jm_145 (show jw_cd cd_145 21 = some (.invokevirtual 120) by decide +kernel) (ccv (n := 0) (m2 := 60) (ci := 1) (a := 1) (bs := []) (r := [.ref N, .ref N]) (js_cls cl_c1 (by decide)) (show jw_find jw_cvT 7 120 = some (0, [(1, 60)]) by decide +kernel) (by decide) rfl rfl rfl) jm_60 ⟨Nat.le_of_ble_eq_true rfl, by decide⟩ r1 ?_
    refine jr_c jm_145 (show jw_cd cd_145 24 = some (.invokestatic 152) by decide +kernel) (mc_s (n := 1) (m2 := 63) (bs := [.int (Int32.ofInt (x))]) (r := [.ref N, .ref N]) (by decide) (show jw_find jw_csT 7 152 = some (63, 1) by decide +kernel) rfl rfl rfl) jm_63 ⟨Nat.le_of_ble_eq_true rfl, by decide⟩ r2 ?_
    refine jr_c jm_145 (show jw_cd cd_145 27 = some (.invokespecial 158) by decide +kernel) (ccp (n := 1) (m2 := 146) (ci := 15) (a := N) (bs := [.ref (N + 1)]) (r := [.ref N]) (by decide +kernel) (js_cls (cl_old hl2 ⟨by omega, hA2⟩) (jbg (by omega))) (by decide) (jbg (by omega)) (show jw_find jw_cpT 7 158 = some (1, 146) by decide +kernel) rfl rfl rfl) jm_146 ⟨Nat.le_of_ble_eq_true rfl, by decide⟩ r3 ?_
    exact jr_v jm_145 (show jw_cd cd_145 30 = some (.areturn) by decide +kernel) rfl
  have hpC : ¬ pN (tC T n p) = true := by rw [ep]; exact hpN
  by_cases h39 : tH T n p = 39
  · have hpn2 : p < n := (tH_r ht hp0).2.2.2 (by rw [h39]; decide)
    have hP1 : cP (su κ 4 0 (p + 1)) T n (p + 1) := cP_mv hP (by omega) (by omega)
    obtain ⟨h1, eh1⟩ : ∃ h1, h1 = h ++ [.inr (15, [.null, .null, .int (Int32.ofInt (0))])] := ⟨_, rfl⟩
    have hN1 : h1.length = N + 1 := by rw [eh1, List.length_append, hN]; rfl
    have hl1 : 50 ≤ h1.length := by omega
    have hA1 : h1[N]? = some (.inr (15, [.null, .null, .int (Int32.ofInt (0))])) := by
      rw [eh1, ← hN, List.getElem?_append_right (Nat.le_refl _), Nat.sub_self]
      rfl
    have q1 : ∀ (c : Nat) (y : jx_C), h[c]? = some y → h1[c]? = some y := fun c y hy => by rw [eh1, List.getElem?_append_left (List.getElem?_eq_some_iff.mp hy).1]; exact hy
    have v1 : cvol h1 = cvol h + 3 := by rw [eh1, cvol_app]; rfl
    have hXN : ∀ a, N + 1 ≤ a → ¬ (fun c => X c ∨ c = N) a := fun c hc w => by rcases w with w | w; exact hx c (by omega) w; omega
    obtain ⟨κ1, L1, s', r1, l1, l2, r4, rt, m1, m2, n1, n2⟩ := jc_readQ (β := β) (d := d + 1) (x := fun c => X c ∨ c = N) hl1 hN1 (by omega) hXN hP1 (by rw [su_nf (by decide)]; exact hsc)
    obtain ⟨h2, eh2⟩ : ∃ h2, h2 = h1 ++ L1 := ⟨_, rfl⟩
    rw [← eh2] at r1 r4
    have hN2 : h2.length = N + 3 := by rw [eh2, List.length_append, hN1, l1]
    have hl2 : 50 ≤ h2.length := by omega
    have q12 : ∀ (c : Nat) (y : jx_C), h1[c]? = some y → h2[c]? = some y := fun c y hy => by rw [eh2, List.getElem?_append_left (List.getElem?_eq_some_iff.mp hy).1]; exact hy
    have q2 : ∀ (c : Nat) (y : jx_C), h[c]? = some y → h2[c]? = some y := fun c y hy => q12 c y (q1 c y hy)
    have v2 : cvol h2 ≤ cvol h + 14 := by rw [eh2, cvol_app, v1]; omega
    have r2 := jc_ofT (β := β) (d := d + 6) (κ := κ1) (t := N + 1) hl2 hN2 (by omega)
    have t2 := ofV_vN (nm := 0) (kd := 4) hl2 hN2 (by omega) (fun c hc => hXN c (by omega)) r4 (by decide)
    obtain ⟨h3, eh3⟩ : ∃ h3, h3 = h2 ++ [.inr (5, [.int (Int32.ofInt (4)), .int (Int32.ofInt (0)), .ref (N + 1), .ref (N + 3 + 1), .ref (N + 3 + 2), .int (Int32.ofInt (0))]), .inl (4, 0, fun _ => .null), .inl (4, 0, fun _ => .null)] := ⟨_, rfl⟩
    rw [← eh3] at r2 t2
    have hN3 : h3.length = N + 6 := by rw [eh3, List.length_append, hN2]; rfl
    have hl3 : 50 ≤ h3.length := by omega
    have q23 : ∀ (c : Nat) (y : jx_C), h2[c]? = some y → h3[c]? = some y := fun c y hy => by rw [eh3, List.getElem?_append_left (List.getElem?_eq_some_iff.mp hy).1]; exact hy
    have q3 : ∀ (c : Nat) (y : jx_C), h[c]? = some y → h3[c]? = some y := fun c y hy => q23 c y (q2 c y hy)
    have v3 : cvol h3 ≤ cvol h + 20 := by rw [eh3, cvol_app]; show cvol h2 + 6 ≤ _; omega
    have hA3 := q23 _ _ (q12 _ _ hA1)
    obtain ⟨h4, r3, hA4, hR4, f4, hN4, v4⟩ := jc_sdJ (β := β) (d := d + 7) (κ := κ1) (v := N + 3) hl3 hN3 (by omega) ⟨by omega, by omega⟩ hA3
    have q4 : ∀ (c : Nat) (y : jx_C), h[c]? = some y → h4[c]? = some y := fun c y hy => f4 c y (by have := (List.getElem?_eq_some_iff.mp hy).1; omega) (q3 c y hy)
    obtain ⟨L, eL⟩ := ext_of (h := h) (h' := h4) (by omega) q4
    have eln : h4.length = N + L.length := by rw [eL, List.length_append, hN]
    have evl : cvol h4 = cvol h + cvol L := by rw [eL, cvol_app]
    rw [eL] at r3
    refine ⟨κ1, L, ?_, by omega, by omega, fun f hf => (m1 f hf).trans (su_row (fun e => hf (by rw [e]; decide))), m2, fun s q hh => ?_, fun e hh => ?_⟩
    rotate_left
    · rw [← eL]
      cases hs : sText T n p with
      | inl e => rw [show sSide T n p = .inl e by unfold sSide; rw [if_neg hpN, if_pos h39, hs]] at hh; cases hh
      | inr y =>
        obtain ⟨x', q'⟩ := y
        rw [show sSide T n p = .inr ((3, 0, x', []), q') by unfold sSide; rw [if_neg hpN, if_pos h39, hs]] at hh
        injection hh with hh
        injection hh with z1 z2
        obtain ⟨y1, y2⟩ := n1 x' q' hs
        rw [← z1, ← z2]
        refine ⟨⟨⟨by omega, by omega, hx N (Nat.le_refl _)⟩, N + 6, 0, _, _, ⟨by omega, by omega, hx _ (by omega)⟩, hA4, hR4, Or.inr (Or.inr ⟨rfl, N + 3, rfl, ?_⟩)⟩, y2⟩
        rw [← y1]
        exact vN_fr (fun c y z hy => ⟨⟨z.1, z.2.1, fun w => z.2.2 (Or.inl w)⟩, f4 c y (fun w => z.2.2 (Or.inr w)) hy⟩) t2
    · cases hs : sText T n p with
      | inr y =>
        obtain ⟨x', q'⟩ := y
        rw [show sSide T n p = .inr ((3, 0, x', []), q') by unfold sSide; rw [if_neg hpN, if_pos h39, hs]] at hh
        cases hh
      | inl e' =>
        rw [show sSide T n p = .inl e' by unfold sSide; rw [if_neg hpN, if_pos h39, hs]] at hh
        injection hh with hh
        rw [← hh]
        exact n2 e' hs
    refine jr_1 jm_145 (show jw_cd cd_145 0 = some (.aload_n 0) by decide +kernel) rfl ?_
    refine jr_1 jm_145 (show jw_cd cd_145 1 = some (.getfield 9) by decide +kernel) (cgr_6_0 (show jw_fld 7 9 4 = some 0 by decide +kernel)) ?_
    refine jr_c jm_145 (show jw_cd cd_145 4 = some (.invokevirtual 45) by decide +kernel) (ccv (n := 0) (m2 := 58) (ci := 1) (a := 1) (bs := []) (r := []) (js_cls cl_c1 (by decide)) (show jw_find jw_cvT 7 45 = some (0, [(1, 58)]) by decide +kernel) (by decide) rfl rfl rfl) jm_58 ⟨Nat.le_of_ble_eq_true rfl, by decide⟩ (jc_here hl hP) ?_
    refine jr_c jm_145 (show jw_cd cd_145 7 = some (.invokestatic 127) by decide +kernel) (mc_s (n := 1) (m2 := 59) (bs := [.int (Int32.ofInt (tC T n p))]) (r := []) (by decide) (show jw_find jw_csT 7 127 = some (59, 1) by decide +kernel) rfl rfl rfl) jm_59 ⟨Nat.le_of_ble_eq_true rfl, by decide⟩ (jc_sN_f hl hr0 hpC) ?_
    refine jr_1 jm_145 (show jw_cd cd_145 10 = some (.ifCond .eq 21) by decide +kernel) (mz_t (q := .eq) (a := 0) (t := 31) (by show 0 = 0; omega) ⟨by omega, by omega⟩ (by decide) (by decide)) ?_
    refine jr_1 jm_145 (show jw_cd cd_145 31 = some (.aload_n 0) by decide +kernel) rfl ?_
    refine jr_1 jm_145 (show jw_cd cd_145 32 = some (.getfield 9) by decide +kernel) (cgr_6_0 (show jw_fld 7 9 4 = some 0 by decide +kernel)) ?_
    refine jr_1 jm_145 (show jw_cd cd_145 35 = some (.bipush 39) by decide +kernel) (mt_bi (by decide)) ?_
    refine jr_c jm_145 (show jw_cd cd_145 37 = some (.invokevirtual 36) by decide +kernel) (ccv (n := 1) (m2 := 64) (ci := 1) (a := 1) (bs := [.int (Int32.ofInt (39))]) (r := []) (js_cls cl_c1 (by decide)) (show jw_find jw_cvT 7 36 = some (1, [(1, 64)]) by decide +kernel) (by decide) rfl rfl rfl) jm_64 ⟨Nat.le_of_ble_eq_true rfl, by decide⟩ (jc_takeT hl hP ((tC_eq hP.1.2.2 hP.2.2.2.1 (by decide)).mpr h39) (by decide)) ?_
    refine jr_1 jm_145 (show jw_cd cd_145 40 = some (.ifCond .eq 21) by decide +kernel) (mz_f (q := .eq) (a := 1) (by show ¬ (1 = 0); omega) ⟨by omega, by omega⟩ (by decide)) ?_
    refine jr_1 jm_145 (F2 := (46, [some (.ref 6), none, none], [.ref N], (cl_mk (h ++ [.inr (15, [.null, .null, .int (Int32.ofInt (0))])]) (su κ 4 (0) (p + 1))))) (show jw_cd cd_145 43 = some (.new 150) by decide +kernel) (cnw0 hl hN (by omega) (show jw_find jw_xcT 7 150 = none by decide +kernel) (show jw_find jw_nwT 7 150 = some 15 by decide +kernel)) ?_
    rw [← eh1]
    refine jr_1 jm_145 (show jw_cd cd_145 46 = some (.dup) by decide +kernel) rfl ?_
    refine jr_1 jm_145 (show jw_cd cd_145 47 = some (.aload_n 0) by decide +kernel) rfl ?_
    refine jr_1 jm_145 (show jw_cd cd_145 48 = some (.getfield 9) by decide +kernel) (cgr_6_0 (show jw_fld 7 9 4 = some 0 by decide +kernel)) ?_
    refine jr_c jm_145 (show jw_cd cd_145 51 = some (.invokevirtual 161) by decide +kernel) (ccv (n := 0) (m2 := 65) (ci := 1) (a := 1) (bs := []) (r := [.ref N, .ref N]) (js_cls cl_c1 (by decide)) (show jw_find jw_cvT 7 161 = some (0, [(1, 65)]) by decide +kernel) (by decide) rfl rfl rfl) jm_65 ⟨Nat.le_of_ble_eq_true rfl, by decide⟩ r1 ?_
    refine jr_c jm_145 (show jw_cd cd_145 54 = some (.invokestatic 164) by decide +kernel) (mc_s (n := 1) (m2 := 91) (bs := [.ref (N + 1)]) (r := [.ref N, .ref N]) (by decide) (show jw_find jw_csT 7 164 = some (91, 1) by decide +kernel) rfl rfl rfl) jm_91 ⟨Nat.le_of_ble_eq_true rfl, by decide⟩ r2 ?_
    refine jr_c jm_145 (show jw_cd cd_145 57 = some (.invokespecial 158) by decide +kernel) (ccp (n := 1) (m2 := 146) (ci := 15) (a := N) (bs := [.ref (N + 3)]) (r := [.ref N]) (by decide +kernel) (js_cls (cl_old hl3 ⟨by omega, hA3⟩) (jbg (by omega))) (by decide) (jbg (by omega)) (show jw_find jw_cpT 7 158 = some (1, 146) by decide +kernel) rfl rfl rfl) jm_146 ⟨Nat.le_of_ble_eq_true rfl, by decide⟩ r3 ?_
    exact jr_v jm_145 (show jw_cd cd_145 60 = some (.areturn) by decide +kernel) rfl
  obtain ⟨h1, eh1⟩ : ∃ h1, h1 = h ++ [.inr (15, [.null, .ref (N + 1), .int (Int32.ofInt (0))]), .inl (4, 3, fun _ => .null)] := ⟨_, rfl⟩
  have hN1 : h1.length = N + 2 := by rw [eh1, List.length_append, hN]; rfl
  have hl1 : 50 ≤ h1.length := by omega
  have q1 : ∀ (c : Nat) (y : jx_C), h[c]? = some y → h1[c]? = some y := fun c y hy => by rw [eh1, List.getElem?_append_left (List.getElem?_eq_some_iff.mp hy).1]; exact hy
  have v1 : cvol h1 = cvol h + 6 := by rw [eh1, cvol_app]; rfl
  have hU1 : sdU h1 X N N (N + 1) (fun _ => .null) [] := by
    refine ⟨⟨by omega, by omega, by omega, by omega, by omega, by omega⟩, hx, ?_, ?_, by decide, fun i s hi => by cases hi⟩
    · rw [eh1, ← hN, List.getElem?_append_right (Nat.le_refl _), Nat.sub_self]
      rfl
    · rw [eh1, ← hN, List.getElem?_append_right (by omega), show h.length + 1 - h.length = 1 by omega]
      rfl
  by_cases h64 : tH T n p = 64
  · have hpn2 : p < n := (tH_r ht hp0).2.2.2 (by rw [h64]; decide)
    have hP1 : cP (su κ 4 0 (p + 1)) T n (p + 1) := cP_mv hP (by omega) (by omega)
    obtain ⟨κ4, h4, w1, w2, w3, w4, w5, w6, w7, w8⟩ := jc_sdL (β := β) (d := d + 1) 4 0 [] (p + 1) h1 _ _ rfl (by decide) hl1 (by omega) hP1 (by rw [su_nf (by decide)]; exact hsc) hU1
    have q4 : ∀ (c : Nat) (y : jx_C), h[c]? = some y → h4[c]? = some y := fun c y hy => by
      have := (List.getElem?_eq_some_iff.mp hy).1
      exact w2 c y (by omega) (by omega) (q1 c y hy)
    obtain ⟨L, eL⟩ := ext_of (h := h) (h' := h4) (by omega) q4
    have eln : h4.length = N + L.length := by rw [eL, List.length_append, hN]
    have evl : cvol h4 = cvol h + cvol L := by rw [eL, cvol_app]
    rw [eL] at w1
    refine ⟨κ4, L, ?_, by omega, by omega, fun f hf => (w5 f hf).trans (su_row (fun e => hf (by rw [e]; decide))), w6, fun s q hh => ?_, fun e hh => ?_⟩
    rotate_left
    · rw [← eL]
      cases hs : sPth T n 4 [] (p + 1) with
      | inl e => rw [show sSide T n p = .inl e by unfold sSide; rw [if_neg hpN, if_neg h39, if_pos h64, hs]] at hh; cases hh
      | inr y =>
        obtain ⟨ks, q'⟩ := y
        rw [show sSide T n p = .inr ((1, 0, [], ks), q') by unfold sSide; rw [if_neg hpN, if_neg h39, if_pos h64, hs]] at hh
        injection hh with hh
        injection hh with z1 z2
        obtain ⟨g', y1, y2⟩ := w7 ks q' hs
        rw [← z1, ← z2]
        exact ⟨sdU_done y1, y2⟩
    · cases hs : sPth T n 4 [] (p + 1) with
      | inr y =>
        obtain ⟨ks, q'⟩ := y
        rw [show sSide T n p = .inr ((1, 0, [], ks), q') by unfold sSide; rw [if_neg hpN, if_neg h39, if_pos h64, hs]] at hh
        cases hh
      | inl e' =>
        rw [show sSide T n p = .inl e' by unfold sSide; rw [if_neg hpN, if_neg h39, if_pos h64, hs]] at hh
        injection hh with hh
        rw [← hh]
        exact w8 e' hs
    refine jr_1 jm_145 (show jw_cd cd_145 0 = some (.aload_n 0) by decide +kernel) rfl ?_
    refine jr_1 jm_145 (show jw_cd cd_145 1 = some (.getfield 9) by decide +kernel) (cgr_6_0 (show jw_fld 7 9 4 = some 0 by decide +kernel)) ?_
    refine jr_c jm_145 (show jw_cd cd_145 4 = some (.invokevirtual 45) by decide +kernel) (ccv (n := 0) (m2 := 58) (ci := 1) (a := 1) (bs := []) (r := []) (js_cls cl_c1 (by decide)) (show jw_find jw_cvT 7 45 = some (0, [(1, 58)]) by decide +kernel) (by decide) rfl rfl rfl) jm_58 ⟨Nat.le_of_ble_eq_true rfl, by decide⟩ (jc_here hl hP) ?_
    refine jr_c jm_145 (show jw_cd cd_145 7 = some (.invokestatic 127) by decide +kernel) (mc_s (n := 1) (m2 := 59) (bs := [.int (Int32.ofInt (tC T n p))]) (r := []) (by decide) (show jw_find jw_csT 7 127 = some (59, 1) by decide +kernel) rfl rfl rfl) jm_59 ⟨Nat.le_of_ble_eq_true rfl, by decide⟩ (jc_sN_f hl hr0 hpC) ?_
    refine jr_1 jm_145 (show jw_cd cd_145 10 = some (.ifCond .eq 21) by decide +kernel) (mz_t (q := .eq) (a := 0) (t := 31) (by show 0 = 0; omega) ⟨by omega, by omega⟩ (by decide) (by decide)) ?_
    refine jr_1 jm_145 (show jw_cd cd_145 31 = some (.aload_n 0) by decide +kernel) rfl ?_
    refine jr_1 jm_145 (show jw_cd cd_145 32 = some (.getfield 9) by decide +kernel) (cgr_6_0 (show jw_fld 7 9 4 = some 0 by decide +kernel)) ?_
    refine jr_1 jm_145 (show jw_cd cd_145 35 = some (.bipush 39) by decide +kernel) (mt_bi (by decide)) ?_
    refine jr_c jm_145 (show jw_cd cd_145 37 = some (.invokevirtual 36) by decide +kernel) (ccv (n := 1) (m2 := 64) (ci := 1) (a := 1) (bs := [.int (Int32.ofInt (39))]) (r := []) (js_cls cl_c1 (by decide)) (show jw_find jw_cvT 7 36 = some (1, [(1, 64)]) by decide +kernel) (by decide) rfl rfl rfl) jm_64 ⟨Nat.le_of_ble_eq_true rfl, by decide⟩ (jc_takeF hl hP (fun e => h39 ((tC_eq hP.1.2.2 hP.2.2.2.1 (by decide)).mp e)) (by decide)) ?_
    refine jr_1 jm_145 (show jw_cd cd_145 40 = some (.ifCond .eq 21) by decide +kernel) (mz_t (q := .eq) (a := 0) (t := 61) (by show 0 = 0; omega) ⟨by omega, by omega⟩ (by decide) (by decide)) ?_
    refine jr_1 jm_145 (F2 := (64, [some (.ref 6), none, none], [.ref N], (cl_mk (h ++ [.inr (15, [.null, .null, .int (Int32.ofInt (0))])]) κ))) (show jw_cd cd_145 61 = some (.new 150) by decide +kernel) (cnw0 hl hN (by omega) (show jw_find jw_xcT 7 150 = none by decide +kernel) (show jw_find jw_nwT 7 150 = some 15 by decide +kernel)) ?_
    refine jr_1 jm_145 (show jw_cd cd_145 64 = some (.dup) by decide +kernel) rfl ?_
    refine jr_1 jm_145 (show jw_cd cd_145 65 = some (.aconst_null) by decide +kernel) rfl ?_
    refine jr_c jm_145 (show jw_cd cd_145 66 = some (.invokespecial 158) by decide +kernel) (ccp (n := 1) (m2 := 146) (ci := 15) (a := N) (bs := [.null]) (r := [.ref N]) (by decide +kernel) (js_cls (ap_get hl hN 0 rfl) (jbg (by omega))) (by decide) (jbg (by omega)) (show jw_find jw_cpT 7 158 = some (1, 146) by decide +kernel) rfl rfl rfl) jm_146 ⟨Nat.le_of_ble_eq_true rfl, by decide⟩ (jc_sdI0 hl hN (by omega)) ?_
    refine jr_1 jm_145 (F2 := (70, [some (.ref 6), some (.ref N), none], [], (cl_mk (h ++ [.inr (15, [.null, .ref (N + 1), .int (Int32.ofInt (0))]), .inl (4, 3, fun _ => .null)]) κ))) (show jw_cd cd_145 69 = some (.astore_n 1) by decide +kernel) rfl ?_
    rw [← eh1]
    refine jr_1 jm_145 (show jw_cd cd_145 70 = some (.aload_n 0) by decide +kernel) rfl ?_
    refine jr_1 jm_145 (show jw_cd cd_145 71 = some (.getfield 9) by decide +kernel) (cgr_6_0 (show jw_fld 7 9 4 = some 0 by decide +kernel)) ?_
    refine jr_1 jm_145 (show jw_cd cd_145 74 = some (.bipush 64) by decide +kernel) (mt_bi (by decide)) ?_
    refine jr_c jm_145 (show jw_cd cd_145 76 = some (.invokevirtual 36) by decide +kernel) (ccv (n := 1) (m2 := 64) (ci := 1) (a := 1) (bs := [.int (Int32.ofInt (64))]) (r := []) (js_cls cl_c1 (by decide)) (show jw_find jw_cvT 7 36 = some (1, [(1, 64)]) by decide +kernel) (by decide) rfl rfl rfl) jm_64 ⟨Nat.le_of_ble_eq_true rfl, by decide⟩ (jc_takeT hl1 hP ((tC_eq hP.1.2.2 hP.2.2.2.1 (by decide)).mpr h64) (by decide)) ?_
    refine jr_1 jm_145 (show jw_cd cd_145 79 = some (.ifCond .ne 17) by decide +kernel) (mz_t (q := .ne) (a := 1) (t := 96) (by show ¬ (1 = 0); omega) ⟨by omega, by omega⟩ (by decide) (by decide)) ?_
    refine jr_1 jm_145 (show jw_cd cd_145 96 = some (.iconst 0) by decide +kernel) rfl ?_
    refine jr_1 jm_145 (F2 := (98, [some (.ref 6), some (.ref N), some (.int (Int32.ofInt (0)))], [], (cl_mk h1 (su κ 4 (0) (p + 1))))) (show jw_cd cd_145 97 = some (.istore_n 2) by decide +kernel) rfl ?_
    exact w1
  · have hdX : ∀ c, N + 2 ≤ c → ¬ dX X N (N + 1) c := fun c hc z => by
      rcases z with z | z | z
      · exact hx c (by omega) z
      · omega
      · omega
    obtain ⟨κ1, L1, s', r1, l1, l2, r4, rt, m1, m2, n1, n2⟩ := jc_readKey (β := β) (d := d + 1) (x := dX X N (N + 1)) hl1 hN1 (by omega) hdX hP hsc
    obtain ⟨h2, eh2⟩ : ∃ h2, h2 = h1 ++ L1 := ⟨_, rfl⟩
    rw [← eh2] at r1 r4
    have hN2 : h2.length = N + 4 := by rw [eh2, List.length_append, hN1, l1]
    have hl2 : 50 ≤ h2.length := by omega
    have q12 : ∀ (c : Nat) (y : jx_C), h1[c]? = some y → h2[c]? = some y := fun c y hy => by rw [eh2, List.getElem?_append_left (List.getElem?_eq_some_iff.mp hy).1]; exact hy
    have q2 : ∀ (c : Nat) (y : jx_C), h[c]? = some y → h2[c]? = some y := fun c y hy => q12 c y (q1 c y hy)
    have r2 := jc_ofT (β := β) (d := d + 6) (κ := κ1) (t := N + 2) hl2 hN2 (by omega)
    have t2 := ofT_vN hl2 hN2 (by omega) (fun c hc => hdX c (by omega)) r4
    obtain ⟨h3, eh3⟩ : ∃ h3, h3 = h2 ++ [.inr (5, [.int (Int32.ofInt (4)), .int (Int32.ofInt (0)), .ref (N + 2), .ref (N + 4 + 1), .ref (N + 4 + 2), .int (Int32.ofInt (0))]), .inl (4, 0, fun _ => .null), .inl (4, 0, fun _ => .null)] := ⟨_, rfl⟩
    rw [← eh3] at r2 t2
    have hN3 : h3.length = N + 7 := by rw [eh3, List.length_append, hN2]; rfl
    have hl3 : 50 ≤ h3.length := by omega
    have q23 : ∀ (c : Nat) (y : jx_C), h2[c]? = some y → h3[c]? = some y := fun c y hy => by rw [eh3, List.getElem?_append_left (List.getElem?_eq_some_iff.mp hy).1]; exact hy
    have q3 : ∀ (c : Nat) (y : jx_C), h[c]? = some y → h3[c]? = some y := fun c y hy => q23 c y (q2 c y hy)
    have v3 : cvol h3 ≤ cvol h + 23 := by rw [eh3, cvol_app, eh2, cvol_app, v1]; show cvol h + 6 + cvol L1 + 6 ≤ _; omega
    have hU3 := sdU_fr (fun c y hy => q23 c y (q12 c y hy)) hU1
    have hA3 := hU3.2.2.1
    obtain ⟨h4, g4, r3, hU4, f4, hN4, v4⟩ := jc_sdAdd (β := β) (d := d + 7) (κ := κ1) hl3 hU3 (by decide) t2
    have q4 : ∀ (c : Nat) (y : jx_C), h[c]? = some y → h4[c]? = some y := fun c y hy => by
      have := (List.getElem?_eq_some_iff.mp hy).1
      exact f4 c y (by omega) (by omega) (q3 c y hy)
    cases hs : sKey T n p with
    | inl e' =>
      have e0 : sSide T n p = .inl e' := by unfold sSide; rw [if_neg hpN, if_neg h39, if_neg h64, hs]
      have hE := n2 e' hs
      have w1 := jc_sdW (β := β) (d := d + 6) (i := 0) (sa := N) (by omega : 50 ≤ h4.length) (by decide) hE.2.1
      obtain ⟨L, eL⟩ := ext_of (h := h) (h' := h4) (by omega) q4
      have eln : h4.length = N + L.length := by rw [eL, List.length_append, hN]
      have evl : cvol h4 = cvol h + cvol L := by rw [eL, cvol_app]
      rw [eL] at w1 r3
      refine ⟨κ1, L, ?_, by omega, by omega, m1, m2, fun s q hh => (by rw [e0] at hh; cases hh), fun e hh => by rw [e0] at hh; injection hh with hh; rw [← hh]; exact hE⟩
      refine jr_1 jm_145 (show jw_cd cd_145 0 = some (.aload_n 0) by decide +kernel) rfl ?_
      refine jr_1 jm_145 (show jw_cd cd_145 1 = some (.getfield 9) by decide +kernel) (cgr_6_0 (show jw_fld 7 9 4 = some 0 by decide +kernel)) ?_
      refine jr_c jm_145 (show jw_cd cd_145 4 = some (.invokevirtual 45) by decide +kernel) (ccv (n := 0) (m2 := 58) (ci := 1) (a := 1) (bs := []) (r := []) (js_cls cl_c1 (by decide)) (show jw_find jw_cvT 7 45 = some (0, [(1, 58)]) by decide +kernel) (by decide) rfl rfl rfl) jm_58 ⟨Nat.le_of_ble_eq_true rfl, by decide⟩ (jc_here hl hP) ?_
      refine jr_c jm_145 (show jw_cd cd_145 7 = some (.invokestatic 127) by decide +kernel) (mc_s (n := 1) (m2 := 59) (bs := [.int (Int32.ofInt (tC T n p))]) (r := []) (by decide) (show jw_find jw_csT 7 127 = some (59, 1) by decide +kernel) rfl rfl rfl) jm_59 ⟨Nat.le_of_ble_eq_true rfl, by decide⟩ (jc_sN_f hl hr0 hpC) ?_
      refine jr_1 jm_145 (show jw_cd cd_145 10 = some (.ifCond .eq 21) by decide +kernel) (mz_t (q := .eq) (a := 0) (t := 31) (by show 0 = 0; omega) ⟨by omega, by omega⟩ (by decide) (by decide)) ?_
      refine jr_1 jm_145 (show jw_cd cd_145 31 = some (.aload_n 0) by decide +kernel) rfl ?_
      refine jr_1 jm_145 (show jw_cd cd_145 32 = some (.getfield 9) by decide +kernel) (cgr_6_0 (show jw_fld 7 9 4 = some 0 by decide +kernel)) ?_
      refine jr_1 jm_145 (show jw_cd cd_145 35 = some (.bipush 39) by decide +kernel) (mt_bi (by decide)) ?_
      refine jr_c jm_145 (show jw_cd cd_145 37 = some (.invokevirtual 36) by decide +kernel) (ccv (n := 1) (m2 := 64) (ci := 1) (a := 1) (bs := [.int (Int32.ofInt (39))]) (r := []) (js_cls cl_c1 (by decide)) (show jw_find jw_cvT 7 36 = some (1, [(1, 64)]) by decide +kernel) (by decide) rfl rfl rfl) jm_64 ⟨Nat.le_of_ble_eq_true rfl, by decide⟩ (jc_takeF hl hP (fun e => h39 ((tC_eq hP.1.2.2 hP.2.2.2.1 (by decide)).mp e)) (by decide)) ?_
      refine jr_1 jm_145 (show jw_cd cd_145 40 = some (.ifCond .eq 21) by decide +kernel) (mz_t (q := .eq) (a := 0) (t := 61) (by show 0 = 0; omega) ⟨by omega, by omega⟩ (by decide) (by decide)) ?_
      refine jr_1 jm_145 (F2 := (64, [some (.ref 6), none, none], [.ref N], (cl_mk (h ++ [.inr (15, [.null, .null, .int (Int32.ofInt (0))])]) κ))) (show jw_cd cd_145 61 = some (.new 150) by decide +kernel) (cnw0 hl hN (by omega) (show jw_find jw_xcT 7 150 = none by decide +kernel) (show jw_find jw_nwT 7 150 = some 15 by decide +kernel)) ?_
      refine jr_1 jm_145 (show jw_cd cd_145 64 = some (.dup) by decide +kernel) rfl ?_
      refine jr_1 jm_145 (show jw_cd cd_145 65 = some (.aconst_null) by decide +kernel) rfl ?_
      refine jr_c jm_145 (show jw_cd cd_145 66 = some (.invokespecial 158) by decide +kernel) (ccp (n := 1) (m2 := 146) (ci := 15) (a := N) (bs := [.null]) (r := [.ref N]) (by decide +kernel) (js_cls (ap_get hl hN 0 rfl) (jbg (by omega))) (by decide) (jbg (by omega)) (show jw_find jw_cpT 7 158 = some (1, 146) by decide +kernel) rfl rfl rfl) jm_146 ⟨Nat.le_of_ble_eq_true rfl, by decide⟩ (jc_sdI0 hl hN (by omega)) ?_
      refine jr_1 jm_145 (F2 := (70, [some (.ref 6), some (.ref N), none], [], (cl_mk (h ++ [.inr (15, [.null, .ref (N + 1), .int (Int32.ofInt (0))]), .inl (4, 3, fun _ => .null)]) κ))) (show jw_cd cd_145 69 = some (.astore_n 1) by decide +kernel) rfl ?_
      rw [← eh1]
      refine jr_1 jm_145 (show jw_cd cd_145 70 = some (.aload_n 0) by decide +kernel) rfl ?_
      refine jr_1 jm_145 (show jw_cd cd_145 71 = some (.getfield 9) by decide +kernel) (cgr_6_0 (show jw_fld 7 9 4 = some 0 by decide +kernel)) ?_
      refine jr_1 jm_145 (show jw_cd cd_145 74 = some (.bipush 64) by decide +kernel) (mt_bi (by decide)) ?_
      refine jr_c jm_145 (show jw_cd cd_145 76 = some (.invokevirtual 36) by decide +kernel) (ccv (n := 1) (m2 := 64) (ci := 1) (a := 1) (bs := [.int (Int32.ofInt (64))]) (r := []) (js_cls cl_c1 (by decide)) (show jw_find jw_cvT 7 36 = some (1, [(1, 64)]) by decide +kernel) (by decide) rfl rfl rfl) jm_64 ⟨Nat.le_of_ble_eq_true rfl, by decide⟩ (jc_takeF hl1 hP (fun e => h64 ((tC_eq hP.1.2.2 hP.2.2.2.1 (by decide)).mp e)) (by decide)) ?_
      refine jr_1 jm_145 (show jw_cd cd_145 79 = some (.ifCond .ne 17) by decide +kernel) (mz_f (q := .ne) (a := 0) (by show ¬ (¬ (0 = 0)); omega) ⟨by omega, by omega⟩ (by decide)) ?_
      refine jr_1 jm_145 (show jw_cd cd_145 82 = some (.aload_n 1) by decide +kernel) rfl ?_
      refine jr_1 jm_145 (show jw_cd cd_145 83 = some (.aload_n 0) by decide +kernel) rfl ?_
      refine jr_1 jm_145 (show jw_cd cd_145 84 = some (.getfield 9) by decide +kernel) (cgr_6_0 (show jw_fld 7 9 4 = some 0 by decide +kernel)) ?_
      refine jr_c jm_145 (show jw_cd cd_145 87 = some (.invokevirtual 77) by decide +kernel) (ccv (n := 0) (m2 := 98) (ci := 1) (a := 1) (bs := []) (r := [.ref N]) (js_cls cl_c1 (by decide)) (show jw_find jw_cvT 7 77 = some (0, [(1, 98)]) by decide +kernel) (by decide) rfl rfl rfl) jm_98 ⟨Nat.le_of_ble_eq_true rfl, by decide⟩ r1 ?_
      refine jr_c jm_145 (show jw_cd cd_145 90 = some (.invokestatic 164) by decide +kernel) (mc_s (n := 1) (m2 := 91) (bs := [.ref (N + 2)]) (r := [.ref N]) (by decide) (show jw_find jw_csT 7 164 = some (91, 1) by decide +kernel) rfl rfl rfl) jm_91 ⟨Nat.le_of_ble_eq_true rfl, by decide⟩ r2 ?_
      refine jr_c jm_145 (show jw_cd cd_145 93 = some (.invokevirtual 168) by decide +kernel) (ccv (n := 1) (m2 := 147) (ci := 15) (a := N) (bs := [.ref (N + 4)]) (r := []) (js_cls (cl_old hl3 ⟨by omega, hA3⟩) (jbg (by omega))) (show jw_find jw_cvT 7 168 = some (1, [(15, 147)]) by decide +kernel) (by decide) rfl rfl rfl) jm_147 ⟨Nat.le_of_ble_eq_true rfl, by decide⟩ r3 ?_
      refine jr_1 jm_145 (show jw_cd cd_145 96 = some (.iconst 0) by decide +kernel) rfl ?_
      refine jr_1 jm_145 (F2 := (98, [some (.ref 6), some (.ref N), some (.int (Int32.ofInt (0)))], [], (cl_mk (h ++ L) κ1))) (show jw_cd cd_145 97 = some (.istore_n 2) by decide +kernel) rfl ?_
      exact w1
    | inr y =>
      obtain ⟨s, q'⟩ := y
      obtain ⟨y1, y2⟩ := n1 s q' hs
      rw [y1] at hU4
      obtain ⟨κ5, h5, w1, w2, w3, w4, w5, w6, w7, w8⟩ := jc_sdL (β := β) (d := d + 1) 3 0 [s] q' h4 _ _ rfl (Nat.zero_le _) (by omega) (by omega) y2 m2 hU4
      have q5 : ∀ (c : Nat) (y : jx_C), h[c]? = some y → h5[c]? = some y := fun c y hy => by
        have := (List.getElem?_eq_some_iff.mp hy).1
        exact w2 c y (by omega) (by omega) (q4 c y hy)
      obtain ⟨L, eL⟩ := ext_of (h := h) (h' := h5) (by omega) q5
      have eln : h5.length = N + L.length := by rw [eL, List.length_append, hN]
      have evl : cvol h5 = cvol h + cvol L := by rw [eL, cvol_app]
      rw [eL] at w1
      refine ⟨κ5, L, ?_, by omega, by omega, mEq_trans m1 w5, w6, fun s2 q hh => ?_, fun e hh => ?_⟩
      rotate_left
      · rw [← eL]
        cases hs2 : sPth T n 3 [s] q' with
        | inl e => rw [show sSide T n p = .inl e by unfold sSide; rw [if_neg hpN, if_neg h39, if_neg h64, hs]; simp only [hs2]] at hh; cases hh
        | inr y =>
          obtain ⟨ks, q2'⟩ := y
          rw [show sSide T n p = .inr ((1, 0, [], ks), q2') by unfold sSide; rw [if_neg hpN, if_neg h39, if_neg h64, hs]; simp only [hs2]] at hh
          injection hh with hh
          injection hh with z1 z2
          obtain ⟨g', y1, y2⟩ := w7 ks q2' hs2
          rw [← z1, ← z2]
          exact ⟨sdU_done y1, y2⟩
      · cases hs2 : sPth T n 3 [s] q' with
        | inr y =>
          obtain ⟨ks, q2'⟩ := y
          rw [show sSide T n p = .inr ((1, 0, [], ks), q2') by unfold sSide; rw [if_neg hpN, if_neg h39, if_neg h64, hs]; simp only [hs2]] at hh
          cases hh
        | inl e' =>
          rw [show sSide T n p = .inl e' by unfold sSide; rw [if_neg hpN, if_neg h39, if_neg h64, hs]; simp only [hs2]] at hh
          injection hh with hh
          rw [← hh]
          exact w8 e' hs2
      refine jr_1 jm_145 (show jw_cd cd_145 0 = some (.aload_n 0) by decide +kernel) rfl ?_
      refine jr_1 jm_145 (show jw_cd cd_145 1 = some (.getfield 9) by decide +kernel) (cgr_6_0 (show jw_fld 7 9 4 = some 0 by decide +kernel)) ?_
      refine jr_c jm_145 (show jw_cd cd_145 4 = some (.invokevirtual 45) by decide +kernel) (ccv (n := 0) (m2 := 58) (ci := 1) (a := 1) (bs := []) (r := []) (js_cls cl_c1 (by decide)) (show jw_find jw_cvT 7 45 = some (0, [(1, 58)]) by decide +kernel) (by decide) rfl rfl rfl) jm_58 ⟨Nat.le_of_ble_eq_true rfl, by decide⟩ (jc_here hl hP) ?_
      refine jr_c jm_145 (show jw_cd cd_145 7 = some (.invokestatic 127) by decide +kernel) (mc_s (n := 1) (m2 := 59) (bs := [.int (Int32.ofInt (tC T n p))]) (r := []) (by decide) (show jw_find jw_csT 7 127 = some (59, 1) by decide +kernel) rfl rfl rfl) jm_59 ⟨Nat.le_of_ble_eq_true rfl, by decide⟩ (jc_sN_f hl hr0 hpC) ?_
      refine jr_1 jm_145 (show jw_cd cd_145 10 = some (.ifCond .eq 21) by decide +kernel) (mz_t (q := .eq) (a := 0) (t := 31) (by show 0 = 0; omega) ⟨by omega, by omega⟩ (by decide) (by decide)) ?_
      refine jr_1 jm_145 (show jw_cd cd_145 31 = some (.aload_n 0) by decide +kernel) rfl ?_
      refine jr_1 jm_145 (show jw_cd cd_145 32 = some (.getfield 9) by decide +kernel) (cgr_6_0 (show jw_fld 7 9 4 = some 0 by decide +kernel)) ?_
      refine jr_1 jm_145 (show jw_cd cd_145 35 = some (.bipush 39) by decide +kernel) (mt_bi (by decide)) ?_
      refine jr_c jm_145 (show jw_cd cd_145 37 = some (.invokevirtual 36) by decide +kernel) (ccv (n := 1) (m2 := 64) (ci := 1) (a := 1) (bs := [.int (Int32.ofInt (39))]) (r := []) (js_cls cl_c1 (by decide)) (show jw_find jw_cvT 7 36 = some (1, [(1, 64)]) by decide +kernel) (by decide) rfl rfl rfl) jm_64 ⟨Nat.le_of_ble_eq_true rfl, by decide⟩ (jc_takeF hl hP (fun e => h39 ((tC_eq hP.1.2.2 hP.2.2.2.1 (by decide)).mp e)) (by decide)) ?_
      refine jr_1 jm_145 (show jw_cd cd_145 40 = some (.ifCond .eq 21) by decide +kernel) (mz_t (q := .eq) (a := 0) (t := 61) (by show 0 = 0; omega) ⟨by omega, by omega⟩ (by decide) (by decide)) ?_
      refine jr_1 jm_145 (F2 := (64, [some (.ref 6), none, none], [.ref N], (cl_mk (h ++ [.inr (15, [.null, .null, .int (Int32.ofInt (0))])]) κ))) (show jw_cd cd_145 61 = some (.new 150) by decide +kernel) (cnw0 hl hN (by omega) (show jw_find jw_xcT 7 150 = none by decide +kernel) (show jw_find jw_nwT 7 150 = some 15 by decide +kernel)) ?_
      refine jr_1 jm_145 (show jw_cd cd_145 64 = some (.dup) by decide +kernel) rfl ?_
      refine jr_1 jm_145 (show jw_cd cd_145 65 = some (.aconst_null) by decide +kernel) rfl ?_
      refine jr_c jm_145 (show jw_cd cd_145 66 = some (.invokespecial 158) by decide +kernel) (ccp (n := 1) (m2 := 146) (ci := 15) (a := N) (bs := [.null]) (r := [.ref N]) (by decide +kernel) (js_cls (ap_get hl hN 0 rfl) (jbg (by omega))) (by decide) (jbg (by omega)) (show jw_find jw_cpT 7 158 = some (1, 146) by decide +kernel) rfl rfl rfl) jm_146 ⟨Nat.le_of_ble_eq_true rfl, by decide⟩ (jc_sdI0 hl hN (by omega)) ?_
      refine jr_1 jm_145 (F2 := (70, [some (.ref 6), some (.ref N), none], [], (cl_mk (h ++ [.inr (15, [.null, .ref (N + 1), .int (Int32.ofInt (0))]), .inl (4, 3, fun _ => .null)]) κ))) (show jw_cd cd_145 69 = some (.astore_n 1) by decide +kernel) rfl ?_
      rw [← eh1]
      refine jr_1 jm_145 (show jw_cd cd_145 70 = some (.aload_n 0) by decide +kernel) rfl ?_
      refine jr_1 jm_145 (show jw_cd cd_145 71 = some (.getfield 9) by decide +kernel) (cgr_6_0 (show jw_fld 7 9 4 = some 0 by decide +kernel)) ?_
      refine jr_1 jm_145 (show jw_cd cd_145 74 = some (.bipush 64) by decide +kernel) (mt_bi (by decide)) ?_
      refine jr_c jm_145 (show jw_cd cd_145 76 = some (.invokevirtual 36) by decide +kernel) (ccv (n := 1) (m2 := 64) (ci := 1) (a := 1) (bs := [.int (Int32.ofInt (64))]) (r := []) (js_cls cl_c1 (by decide)) (show jw_find jw_cvT 7 36 = some (1, [(1, 64)]) by decide +kernel) (by decide) rfl rfl rfl) jm_64 ⟨Nat.le_of_ble_eq_true rfl, by decide⟩ (jc_takeF hl1 hP (fun e => h64 ((tC_eq hP.1.2.2 hP.2.2.2.1 (by decide)).mp e)) (by decide)) ?_
      refine jr_1 jm_145 (show jw_cd cd_145 79 = some (.ifCond .ne 17) by decide +kernel) (mz_f (q := .ne) (a := 0) (by show ¬ (¬ (0 = 0)); omega) ⟨by omega, by omega⟩ (by decide)) ?_
      refine jr_1 jm_145 (show jw_cd cd_145 82 = some (.aload_n 1) by decide +kernel) rfl ?_
      refine jr_1 jm_145 (show jw_cd cd_145 83 = some (.aload_n 0) by decide +kernel) rfl ?_
      refine jr_1 jm_145 (show jw_cd cd_145 84 = some (.getfield 9) by decide +kernel) (cgr_6_0 (show jw_fld 7 9 4 = some 0 by decide +kernel)) ?_
      refine jr_c jm_145 (show jw_cd cd_145 87 = some (.invokevirtual 77) by decide +kernel) (ccv (n := 0) (m2 := 98) (ci := 1) (a := 1) (bs := []) (r := [.ref N]) (js_cls cl_c1 (by decide)) (show jw_find jw_cvT 7 77 = some (0, [(1, 98)]) by decide +kernel) (by decide) rfl rfl rfl) jm_98 ⟨Nat.le_of_ble_eq_true rfl, by decide⟩ r1 ?_
      refine jr_c jm_145 (show jw_cd cd_145 90 = some (.invokestatic 164) by decide +kernel) (mc_s (n := 1) (m2 := 91) (bs := [.ref (N + 2)]) (r := [.ref N]) (by decide) (show jw_find jw_csT 7 164 = some (91, 1) by decide +kernel) rfl rfl rfl) jm_91 ⟨Nat.le_of_ble_eq_true rfl, by decide⟩ r2 ?_
      refine jr_c jm_145 (show jw_cd cd_145 93 = some (.invokevirtual 168) by decide +kernel) (ccv (n := 1) (m2 := 147) (ci := 15) (a := N) (bs := [.ref (N + 4)]) (r := []) (js_cls (cl_old hl3 ⟨by omega, hA3⟩) (jbg (by omega))) (show jw_find jw_cvT 7 168 = some (1, [(15, 147)]) by decide +kernel) (by decide) rfl rfl rfl) jm_147 ⟨Nat.le_of_ble_eq_true rfl, by decide⟩ r3 ?_
      refine jr_1 jm_145 (show jw_cd cd_145 96 = some (.iconst 0) by decide +kernel) rfl ?_
      refine jr_1 jm_145 (F2 := (98, [some (.ref 6), some (.ref N), some (.int (Int32.ofInt (0)))], [], (cl_mk h4 κ1))) (show jw_cd cd_145 97 = some (.istore_n 2) by decide +kernel) rfl ?_
      exact w1
theorem jc_sideW {β : Bool} {d : Nat} {h : jx_H} {κ : mS} (hl : 50 ≤ h.length) {N : Nat} (hN : h.length = N) (hb32 : N < 2800000000) {X : Nat → Prop} (hx : ∀ c, N ≤ c → ¬ X c) {T : Int → Int} {n e : Int} (hE : cE κ T n e) (hsc : 0 ≤ κ 7 0 ∧ κ 7 0 ≤ 16) : ∃ (κ' : mS) (L : List jx_C), jx_r (jz β) jw_M (d + 8) 145 (0, [some (.ref 6), none, none], [], (cl_mk h κ)) (cl_mk (h ++ L) (κ'), .inl (some (.ref (N)))) ∧ L.length ≤ 30 ∧ cvol L ≤ 100 ∧ mEq [7, 15] κ κ' ∧ (0 ≤ κ' 7 0 ∧ κ' 7 0 ≤ 16) ∧ cE κ' T n e := by
  have hW := hE.2.1
  obtain ⟨h1, eh1⟩ : ∃ h1, h1 = h ++ [.inr (15, [.null, .ref (N + 1), .int (Int32.ofInt (0))]), .inl (4, 3, fun _ => .null)] := ⟨_, rfl⟩
  have hN1 : h1.length = N + 2 := by rw [eh1, List.length_append, hN]; rfl
  have hl1 : 50 ≤ h1.length := by omega
  have q1 : ∀ (c : Nat) (y : jx_C), h[c]? = some y → h1[c]? = some y := fun c y hy => by rw [eh1, List.getElem?_append_left (List.getElem?_eq_some_iff.mp hy).1]; exact hy
  have v1 : cvol h1 = cvol h + 6 := by rw [eh1, cvol_app]; rfl
  have hU1 : sdU h1 X N N (N + 1) (fun _ => .null) [] := by
    refine ⟨⟨by omega, by omega, by omega, by omega, by omega, by omega⟩, hx, ?_, ?_, by decide, fun i s hi => by cases hi⟩
    · rw [eh1, ← hN, List.getElem?_append_right (Nat.le_refl _), Nat.sub_self]
      rfl
    · rw [eh1, ← hN, List.getElem?_append_right (by omega), show h.length + 1 - h.length = 1 by omega]
      rfl
  have hdX : ∀ c, N + 2 ≤ c → ¬ dX X N (N + 1) c := fun c hc z => by
    rcases z with z | z | z
    · exact hx c (by omega) z
    · omega
    · omega
  obtain ⟨κ1, L1, r1, l1, l2, r4, m1, m2, hE1⟩ := jc_readKeyW (β := β) (d := d + 1) (x := dX X N (N + 1)) hl1 hN1 (by omega) hdX hE hsc
  obtain ⟨h2, eh2⟩ : ∃ h2, h2 = h1 ++ L1 := ⟨_, rfl⟩
  rw [← eh2] at r1 r4
  have hN2 : h2.length = N + 4 := by rw [eh2, List.length_append, hN1, l1]
  have hl2 : 50 ≤ h2.length := by omega
  have q12 : ∀ (c : Nat) (y : jx_C), h1[c]? = some y → h2[c]? = some y := fun c y hy => by rw [eh2, List.getElem?_append_left (List.getElem?_eq_some_iff.mp hy).1]; exact hy
  have q2 : ∀ (c : Nat) (y : jx_C), h[c]? = some y → h2[c]? = some y := fun c y hy => q12 c y (q1 c y hy)
  have r2 := jc_ofT (β := β) (d := d + 6) (κ := κ1) (t := N + 2) hl2 hN2 (by omega)
  have t2 := ofT_vN hl2 hN2 (by omega) (fun c hc => hdX c (by omega)) r4
  obtain ⟨h3, eh3⟩ : ∃ h3, h3 = h2 ++ [.inr (5, [.int (Int32.ofInt (4)), .int (Int32.ofInt (0)), .ref (N + 2), .ref (N + 4 + 1), .ref (N + 4 + 2), .int (Int32.ofInt (0))]), .inl (4, 0, fun _ => .null), .inl (4, 0, fun _ => .null)] := ⟨_, rfl⟩
  rw [← eh3] at r2 t2
  have hN3 : h3.length = N + 7 := by rw [eh3, List.length_append, hN2]; rfl
  have hl3 : 50 ≤ h3.length := by omega
  have q23 : ∀ (c : Nat) (y : jx_C), h2[c]? = some y → h3[c]? = some y := fun c y hy => by rw [eh3, List.getElem?_append_left (List.getElem?_eq_some_iff.mp hy).1]; exact hy
  have q3 : ∀ (c : Nat) (y : jx_C), h[c]? = some y → h3[c]? = some y := fun c y hy => q23 c y (q2 c y hy)
  have v3 : cvol h3 ≤ cvol h + 23 := by rw [eh3, cvol_app, eh2, cvol_app, v1]; show cvol h + 6 + cvol L1 + 6 ≤ _; omega
  have hU3 := sdU_fr (fun c y hy => q23 c y (q12 c y hy)) hU1
  have hA3 := hU3.2.2.1
  obtain ⟨h4, g4, r3, hU4, f4, hN4, v4⟩ := jc_sdAdd (β := β) (d := d + 7) (κ := κ1) hl3 hU3 (by decide) t2
  have q4 : ∀ (c : Nat) (y : jx_C), h[c]? = some y → h4[c]? = some y := fun c y hy => by
    have := (List.getElem?_eq_some_iff.mp hy).1
    exact f4 c y (by omega) (by omega) (q3 c y hy)
  have w1 := jc_sdW (β := β) (d := d + 6) (i := 0) (sa := N) (by omega : 50 ≤ h4.length) (by decide) hE1.2.1
  obtain ⟨L, eL⟩ := ext_of (h := h) (h' := h4) (by omega) q4
  have eln : h4.length = N + L.length := by rw [eL, List.length_append, hN]
  have evl : cvol h4 = cvol h + cvol L := by rw [eL, cvol_app]
  rw [eL] at w1 r3
  refine ⟨κ1, L, ?_, by omega, by omega, m1, m2, hE1⟩
  refine jr_1 jm_145 (show jw_cd cd_145 0 = some (.aload_n 0) by decide +kernel) rfl ?_
  refine jr_1 jm_145 (show jw_cd cd_145 1 = some (.getfield 9) by decide +kernel) (cgr_6_0 (show jw_fld 7 9 4 = some 0 by decide +kernel)) ?_
  refine jr_c jm_145 (show jw_cd cd_145 4 = some (.invokevirtual 45) by decide +kernel) (ccv (n := 0) (m2 := 58) (ci := 1) (a := 1) (bs := []) (r := []) (js_cls cl_c1 (by decide)) (show jw_find jw_cvT 7 45 = some (0, [(1, 58)]) by decide +kernel) (by decide) rfl rfl rfl) jm_58 ⟨Nat.le_of_ble_eq_true rfl, by decide⟩ (jc_hereW hl hW) ?_
  refine jr_c jm_145 (show jw_cd cd_145 7 = some (.invokestatic 127) by decide +kernel) (mc_s (n := 1) (m2 := 59) (bs := [.int (Int32.ofInt (0))]) (r := []) (by decide) (show jw_find jw_csT 7 127 = some (59, 1) by decide +kernel) rfl rfl rfl) jm_59 ⟨Nat.le_of_ble_eq_true rfl, by decide⟩ (jc_sN_f hl (by decide) (by decide)) ?_
  refine jr_1 jm_145 (show jw_cd cd_145 10 = some (.ifCond .eq 21) by decide +kernel) (mz_t (q := .eq) (a := 0) (t := 31) (by show 0 = 0; omega) ⟨by omega, by omega⟩ (by decide) (by decide)) ?_
  refine jr_1 jm_145 (show jw_cd cd_145 31 = some (.aload_n 0) by decide +kernel) rfl ?_
  refine jr_1 jm_145 (show jw_cd cd_145 32 = some (.getfield 9) by decide +kernel) (cgr_6_0 (show jw_fld 7 9 4 = some 0 by decide +kernel)) ?_
  refine jr_1 jm_145 (show jw_cd cd_145 35 = some (.bipush 39) by decide +kernel) (mt_bi (by decide)) ?_
  refine jr_c jm_145 (show jw_cd cd_145 37 = some (.invokevirtual 36) by decide +kernel) (ccv (n := 1) (m2 := 64) (ci := 1) (a := 1) (bs := [.int (Int32.ofInt (39))]) (r := []) (js_cls cl_c1 (by decide)) (show jw_find jw_cvT 7 36 = some (1, [(1, 64)]) by decide +kernel) (by decide) rfl rfl rfl) jm_64 ⟨Nat.le_of_ble_eq_true rfl, by decide⟩ (jc_takeW hl hW (by decide)) ?_
  refine jr_1 jm_145 (show jw_cd cd_145 40 = some (.ifCond .eq 21) by decide +kernel) (mz_t (q := .eq) (a := 0) (t := 61) (by show 0 = 0; omega) ⟨by omega, by omega⟩ (by decide) (by decide)) ?_
  refine jr_1 jm_145 (F2 := (64, [some (.ref 6), none, none], [.ref N], (cl_mk (h ++ [.inr (15, [.null, .null, .int (Int32.ofInt (0))])]) κ))) (show jw_cd cd_145 61 = some (.new 150) by decide +kernel) (cnw0 hl hN (by omega) (show jw_find jw_xcT 7 150 = none by decide +kernel) (show jw_find jw_nwT 7 150 = some 15 by decide +kernel)) ?_
  refine jr_1 jm_145 (show jw_cd cd_145 64 = some (.dup) by decide +kernel) rfl ?_
  refine jr_1 jm_145 (show jw_cd cd_145 65 = some (.aconst_null) by decide +kernel) rfl ?_
  refine jr_c jm_145 (show jw_cd cd_145 66 = some (.invokespecial 158) by decide +kernel) (ccp (n := 1) (m2 := 146) (ci := 15) (a := N) (bs := [.null]) (r := [.ref N]) (by decide +kernel) (js_cls (ap_get hl hN 0 rfl) (jbg (by omega))) (by decide) (jbg (by omega)) (show jw_find jw_cpT 7 158 = some (1, 146) by decide +kernel) rfl rfl rfl) jm_146 ⟨Nat.le_of_ble_eq_true rfl, by decide⟩ (jc_sdI0 hl hN (by omega)) ?_
  refine jr_1 jm_145 (F2 := (70, [some (.ref 6), some (.ref N), none], [], (cl_mk (h ++ [.inr (15, [.null, .ref (N + 1), .int (Int32.ofInt (0))]), .inl (4, 3, fun _ => .null)]) κ))) (show jw_cd cd_145 69 = some (.astore_n 1) by decide +kernel) rfl ?_
  rw [← eh1]
  refine jr_1 jm_145 (show jw_cd cd_145 70 = some (.aload_n 0) by decide +kernel) rfl ?_
  refine jr_1 jm_145 (show jw_cd cd_145 71 = some (.getfield 9) by decide +kernel) (cgr_6_0 (show jw_fld 7 9 4 = some 0 by decide +kernel)) ?_
  refine jr_1 jm_145 (show jw_cd cd_145 74 = some (.bipush 64) by decide +kernel) (mt_bi (by decide)) ?_
  refine jr_c jm_145 (show jw_cd cd_145 76 = some (.invokevirtual 36) by decide +kernel) (ccv (n := 1) (m2 := 64) (ci := 1) (a := 1) (bs := [.int (Int32.ofInt (64))]) (r := []) (js_cls cl_c1 (by decide)) (show jw_find jw_cvT 7 36 = some (1, [(1, 64)]) by decide +kernel) (by decide) rfl rfl rfl) jm_64 ⟨Nat.le_of_ble_eq_true rfl, by decide⟩ (jc_takeW hl1 hW (by decide)) ?_
  refine jr_1 jm_145 (show jw_cd cd_145 79 = some (.ifCond .ne 17) by decide +kernel) (mz_f (q := .ne) (a := 0) (by show ¬ (¬ (0 = 0)); omega) ⟨by omega, by omega⟩ (by decide)) ?_
  refine jr_1 jm_145 (show jw_cd cd_145 82 = some (.aload_n 1) by decide +kernel) rfl ?_
  refine jr_1 jm_145 (show jw_cd cd_145 83 = some (.aload_n 0) by decide +kernel) rfl ?_
  refine jr_1 jm_145 (show jw_cd cd_145 84 = some (.getfield 9) by decide +kernel) (cgr_6_0 (show jw_fld 7 9 4 = some 0 by decide +kernel)) ?_
  refine jr_c jm_145 (show jw_cd cd_145 87 = some (.invokevirtual 77) by decide +kernel) (ccv (n := 0) (m2 := 98) (ci := 1) (a := 1) (bs := []) (r := [.ref N]) (js_cls cl_c1 (by decide)) (show jw_find jw_cvT 7 77 = some (0, [(1, 98)]) by decide +kernel) (by decide) rfl rfl rfl) jm_98 ⟨Nat.le_of_ble_eq_true rfl, by decide⟩ r1 ?_
  refine jr_c jm_145 (show jw_cd cd_145 90 = some (.invokestatic 164) by decide +kernel) (mc_s (n := 1) (m2 := 91) (bs := [.ref (N + 2)]) (r := [.ref N]) (by decide) (show jw_find jw_csT 7 164 = some (91, 1) by decide +kernel) rfl rfl rfl) jm_91 ⟨Nat.le_of_ble_eq_true rfl, by decide⟩ r2 ?_
  refine jr_c jm_145 (show jw_cd cd_145 93 = some (.invokevirtual 168) by decide +kernel) (ccv (n := 1) (m2 := 147) (ci := 15) (a := N) (bs := [.ref (N + 4)]) (r := []) (js_cls (cl_old hl3 ⟨by omega, hA3⟩) (jbg (by omega))) (show jw_find jw_cvT 7 168 = some (1, [(15, 147)]) by decide +kernel) (by decide) rfl rfl rfl) jm_147 ⟨Nat.le_of_ble_eq_true rfl, by decide⟩ r3 ?_
  refine jr_1 jm_145 (show jw_cd cd_145 96 = some (.iconst 0) by decide +kernel) rfl ?_
  refine jr_1 jm_145 (F2 := (98, [some (.ref 6), some (.ref N), some (.int (Int32.ofInt (0)))], [], (cl_mk (h ++ L) κ1))) (show jw_cd cd_145 97 = some (.istore_n 2) by decide +kernel) rfl ?_
  exact w1
