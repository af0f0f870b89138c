/-! ===== the class: readSide (printed by program: gen107.py) ===== -/
theorem jc_sdL {β : Bool} {d : Nat} {T : Int → Int} {n : Int} {X : Nat → Prop} {N0 sa ra : Nat} : ∀ (f i : Nat) (ks : List (List Int)) (p : Int) (h : jx_H) (κ : mS) (g : Nat → Value), ks.length + f = 4 → i ≤ ks.length → 50 ≤ h.length → h.length + 5 * f < 2900000000 → cP κ T n p → 0 ≤ κ 7 0 ∧ κ 7 0 ≤ 16 → sdU h X N0 sa ra g ks → ∃ (κ' : mS) (h' : jx_H), jx_r (jz β) jw_M (d + 7) 145 (98, [some (.ref 6), some (.ref sa), some (.int (Int32.ofInt (((i : Nat) : Int))))], [], (cl_mk h κ)) (cl_mk h' (κ'), .inl (some (.ref (sa)))) ∧ (∀ (c : Nat) (y : jx_C), ¬ c = sa → ¬ c = ra → h[c]? = some y → h'[c]? = some y) ∧ (h.length ≤ h'.length ∧ h'.length ≤ h.length + 5 * f) ∧ cvol h' ≤ cvol h + 17 * f ∧ mEq [4, 5, 7, 8, 15] κ κ' ∧ (0 ≤ κ' 7 0 ∧ κ' 7 0 ≤ 16) ∧ (∀ ks' q, sPth T n f ks p = .inr (ks', q) → ∃ g', sdU h' X N0 sa ra g' ks' ∧ cP κ' T n q) ∧ (∀ e, sPth T n f ks p = .inl e → cE κ' T n e)
  | 0, i, ks, p, h, κ, g, hf, hi, hl, hb, hP, hsc, hU => by
    have := hU.2.2.2.2.1
    omega
  | f + 1, i, ks, p, h, κ, g, hf, hi, hl, hb, hP, hsc, hU => by
    obtain ⟨u1, u2, u3, u4, u5, u6⟩ := id hU
    have al := (List.getElem?_eq_some_iff.mp u3).1
    have rl := (List.getElem?_eq_some_iff.mp u4).1
    have hdX : ∀ c, h.length ≤ c → ¬ dX X sa ra c := fun c hc z => by
      rcases z with z | z | z
      · exact u2 c (by omega) z
      · omega
      · omega
    by_cases h46 : ¬ tH T n p = 46
    · refine ⟨κ, h, ?_, fun c y _ _ hy => hy, ⟨by omega, by omega⟩, by omega, mEq_refl _ _, hsc, fun ks' q hh => ?_, fun e hh => ?_⟩
      refine jr_1 jm_145 (show jw_cd cd_145 98 = some (.iload_n 2) by decide +kernel) rfl ?_
      refine jr_1 jm_145 (show jw_cd cd_145 99 = some (.iconst 3) by decide +kernel) rfl ?_
      refine jr_1 jm_145 (show jw_cd cd_145 100 = some (.if_icmp .gt 56) by decide +kernel) (mb_f (q := .gt) (a := ((i : Nat) : Int)) (b := 3) (by show ¬ (3 < ((i : Nat) : Int)); omega) ⟨by omega, by omega⟩ ⟨by omega, by omega⟩ (by decide)) ?_
      refine jr_1 jm_145 (show jw_cd cd_145 103 = some (.aload_n 0) by decide +kernel) rfl ?_
      refine jr_1 jm_145 (show jw_cd cd_145 104 = some (.getfield 9) by decide +kernel) (cgr_6_0 (show jw_fld 7 9 4 = some 0 by decide +kernel)) ?_
      refine jr_1 jm_145 (show jw_cd cd_145 107 = some (.bipush 46) by decide +kernel) (mt_bi (by decide)) ?_
      refine jr_c jm_145 (show jw_cd cd_145 109 = some (.invokevirtual 36) by decide +kernel) (ccv (n := 1) (m2 := 64) (ci := 1) (a := 1) (bs := [.int (Int32.ofInt (46))]) (r := []) (js_cls cl_c1 (by decide)) (show jw_find jw_cvT 7 36 = some (1, [(1, 64)]) by decide +kernel) (by decide) rfl rfl rfl) jm_64 ⟨Nat.le_of_ble_eq_true rfl, by decide⟩ (jc_takeF hl hP (fun e => h46 ((tC_eq hP.1.2.2 hP.2.2.2.1 (by decide)).mp e)) (by decide)) ?_
      refine jr_1 jm_145 (show jw_cd cd_145 112 = some (.ifCond .eq 44) by decide +kernel) (mz_t (q := .eq) (a := 0) (t := 156) (by show 0 = 0; omega) ⟨by omega, by omega⟩ (by decide) (by decide)) ?_
      refine jr_1 jm_145 (show jw_cd cd_145 156 = some (.aload_n 1) by decide +kernel) rfl ?_
      exact jr_v jm_145 (show jw_cd cd_145 157 = some (.areturn) by decide +kernel) rfl
      · have e0 : sPth T n (f + 1) ks p = .inr (ks, p) := if_neg h46
        rw [e0] at hh
        injection hh with hh
        injection hh with z1 z2
        rw [← z1, ← z2]
        exact ⟨g, hU, hP⟩
      · have e0 : sPth T n (f + 1) ks p = .inr (ks, p) := if_neg h46
        rw [e0] at hh
        cases hh
    have h46 : tH T n p = 46 := by omega
    have hpn : p < n := (tH_r hP.1.2.2 hP.2.2.2.1).2.2.2 (by rw [h46]; decide)
    have hp0 := hP.2.2.2.1
    have hn160 := hP.1.2.2.2.1
    have hP0 : cP (su κ 4 0 (p + 1)) T n (p + 1) := cP_mv hP (by omega) (by omega)
    by_cases h3 : ks.length = 3
    · have e0 : sPth T n (f + 1) ks p = .inl (p + 1) := (if_pos h46).trans (if_pos h3)
      have hE : cE (su (su κ 4 0 (p + 1)) 5 0 (p + 1)) T n (p + 1) := cP_w hP0 (by omega) (by omega)
      obtain ⟨κ1, L1, r1, l1, l2, r4, r5, r6, r7⟩ := jc_readKeyW (β := β) (d := d) (x := dX X sa ra) hl rfl (by omega) hdX hE (by rw [su_nf (by decide), su_nf (by decide)]; exact hsc)
      obtain ⟨h1, eh1⟩ : ∃ h1, h1 = h ++ L1 := ⟨_, rfl⟩
      have hN1 : h1.length = h.length + 2 := by rw [eh1, List.length_append, l1]
      have hl1 : 50 ≤ h1.length := by omega
      have q1 : ∀ (c : Nat) (y : jx_C), h[c]? = some y → h1[c]? = some y := fun c y hy => by rw [eh1, List.getElem?_append_left (List.getElem?_eq_some_iff.mp hy).1]; exact hy
      rw [← eh1] at r1 r4
      have r2 := jc_ofT (β := β) (d := d + 5) (κ := κ1) (t := h.length) hl1 hN1 (by omega)
      have t2 := ofT_vN hl1 hN1 (by omega) (fun c hc => hdX c (by omega)) r4
      obtain ⟨h2, eh2⟩ : ∃ h2, h2 = h1 ++ [.inr (5, [.int (Int32.ofInt (4)), .int (Int32.ofInt (0)), .ref (h.length), .ref (h.length + 2 + 1), .ref (h.length + 2 + 2), .int (Int32.ofInt (0))]), .inl (4, 0, fun _ => .null), .inl (4, 0, fun _ => .null)] := ⟨_, rfl⟩
      have hN2 : h2.length = h.length + 5 := by rw [eh2, List.length_append, hN1]; rfl
      have hl2 : 50 ≤ h2.length := by omega
      have q2 : ∀ (c : Nat) (y : jx_C), h[c]? = some y → h2[c]? = some y := fun c y hy => by rw [eh2, List.getElem?_append_left (List.getElem?_eq_some_iff.mp (q1 c y hy)).1]; exact q1 c y hy
      have v2 : cvol h2 ≤ cvol h + 17 := by
        have e1 : cvol h1 = cvol h + cvol L1 := by rw [eh1, cvol_app]
        have e2 : cvol h2 = cvol h1 + 6 := by rw [eh2, cvol_app]; rfl
        omega
      rw [← eh2] at r2 t2
      have hU2 := sdU_fr q2 hU
      have r3 := jc_sdA1 (β := β) (d := d + 6) (κ := κ1) (v := h.length + 2) hl2 ⟨by omega, by omega⟩ ⟨by omega, by omega⟩ hU2.1.2.2.2.1 hU2.2.2.1 hU2.2.2.2.1 h3
      refine ⟨κ1, h2, ?_, fun c y _ _ hy => q2 c y hy, ⟨by omega, by omega⟩, by omega, fun f hf => (r5 f (fun z => hf (by revert z; simp only [List.mem_cons, List.mem_nil_iff, or_false]; omega))).trans ((su_row (fun e => hf (by rw [e]; decide))).trans (su_row (fun e => hf (by rw [e]; decide)))), r6, fun ks' q hh => (by rw [e0] at hh; cases hh), fun e hh => by rw [e0] at hh; injection hh with hh; rw [← hh]; exact r7⟩
      refine jr_1 jm_145 (show jw_cd cd_145 98 = some (.iload_n 2) by decide +kernel) rfl ?_
      refine jr_1 jm_145 (show jw_cd cd_145 99 = some (.iconst 3) by decide +kernel) rfl ?_
      refine jr_1 jm_145 (show jw_cd cd_145 100 = some (.if_icmp .gt 56) by decide +kernel) (mb_f (q := .gt) (a := ((i : Nat) : Int)) (b := 3) (by show ¬ (3 < ((i : Nat) : Int)); omega) ⟨by omega, by omega⟩ ⟨by omega, by omega⟩ (by decide)) ?_
      refine jr_1 jm_145 (show jw_cd cd_145 103 = some (.aload_n 0) by decide +kernel) rfl ?_
      refine jr_1 jm_145 (show jw_cd cd_145 104 = some (.getfield 9) by decide +kernel) (cgr_6_0 (show jw_fld 7 9 4 = some 0 by decide +kernel)) ?_
      refine jr_1 jm_145 (show jw_cd cd_145 107 = some (.bipush 46) by decide +kernel) (mt_bi (by decide)) ?_
      refine jr_c jm_145 (show jw_cd cd_145 109 = some (.invokevirtual 36) by decide +kernel) (ccv (n := 1) (m2 := 64) (ci := 1) (a := 1) (bs := [.int (Int32.ofInt (46))]) (r := []) (js_cls cl_c1 (by decide)) (show jw_find jw_cvT 7 36 = some (1, [(1, 64)]) by decide +kernel) (by decide) rfl rfl rfl) jm_64 ⟨Nat.le_of_ble_eq_true rfl, by decide⟩ (jc_takeT hl hP ((tC_eq hP.1.2.2 hP.2.2.2.1 (by decide)).mpr h46) (by decide)) ?_
      refine jr_1 jm_145 (show jw_cd cd_145 112 = some (.ifCond .eq 44) by decide +kernel) (mz_f (q := .eq) (a := 1) (by show ¬ (1 = 0); omega) ⟨by omega, by omega⟩ (by decide)) ?_
      refine jr_1 jm_145 (show jw_cd cd_145 115 = some (.aload_n 1) by decide +kernel) rfl ?_
      refine jr_c jm_145 (show jw_cd cd_145 116 = some (.invokevirtual 170) by decide +kernel) (ccv (n := 0) (m2 := 148) (ci := 15) (a := sa) (bs := []) (r := []) (js_cls (cl_old hl ⟨by omega, u3⟩) (jbg (by omega))) (show jw_find jw_cvT 7 170 = some (0, [(15, 148)]) by decide +kernel) (by decide) rfl rfl rfl) jm_148 ⟨Nat.le_of_ble_eq_true rfl, by decide⟩ (jc_sdF1 hl ⟨by omega, by omega⟩ ⟨by omega, by omega⟩ u1.2.2.2.1 u3 u4 (by omega)) ?_
      refine jr_1 jm_145 (show jw_cd cd_145 119 = some (.ifCond .eq 17) by decide +kernel) (mz_f (q := .eq) (a := 1) (by show ¬ (1 = 0); omega) ⟨by omega, by omega⟩ (by decide)) ?_
      refine jr_1 jm_145 (show jw_cd cd_145 122 = some (.aload_n 0) by decide +kernel) rfl ?_
      refine jr_1 jm_145 (show jw_cd cd_145 123 = some (.getfield 9) by decide +kernel) (cgr_6_0 (show jw_fld 7 9 4 = some 0 by decide +kernel)) ?_
      refine jr_1 jm_145 (show jw_cd cd_145 126 = some (.aload_n 0) by decide +kernel) rfl ?_
      refine jr_1 jm_145 (show jw_cd cd_145 127 = some (.getfield 9) by decide +kernel) (cgr_6_0 (show jw_fld 7 9 4 = some 0 by decide +kernel)) ?_
      refine jr_1 jm_145 (show jw_cd cd_145 130 = some (.getfield 74) by decide +kernel) (cg_4 (e := p + 1) (su_eq _ _ _ _) (show jw_fld 7 74 1 = some 2 by decide +kernel)) ?_
      refine jr_c jm_145 (show jw_cd cd_145 133 = some (.invokevirtual 70) by decide +kernel) (ccv (n := 1) (m2 := 62) (ci := 1) (a := 1) (bs := [.int (Int32.ofInt (p + 1))]) (r := []) (js_cls cl_c1 (by decide)) (show jw_find jw_cvT 7 70 = some (1, [(1, 62)]) by decide +kernel) (by decide) rfl rfl rfl) jm_62 ⟨Nat.le_of_ble_eq_true rfl, by decide⟩ (jc_wrongAt hl hP0) ?_
      exact jc_sdKey ⟨by omega, by omega⟩ hl2 (by omega) hU2.2.2.1 r1 r2 r3 (jc_sdW hl2 (by omega) r7.2.1)
    · obtain ⟨κ1, L1, s', r1, l1, l2, r4, rt, r5, r6, r7, r8⟩ := jc_readKey (β := β) (d := d) (x := dX X sa ra) hl rfl (by omega) hdX hP0 (by rw [su_nf (by decide)]; exact hsc)
      obtain ⟨h1, eh1⟩ : ∃ h1, h1 = h ++ L1 := ⟨_, rfl⟩
      have hN1 : h1.length = h.length + 2 := by rw [eh1, List.length_append, l1]
      have hl1 : 50 ≤ h1.length := by omega
      have q1 : ∀ (c : Nat) (y : jx_C), h[c]? = some y → h1[c]? = some y := fun c y hy => by rw [eh1, List.getElem?_append_left (List.getElem?_eq_some_iff.mp hy).1]; exact hy
      rw [← eh1] at r1 r4
      have r2 := jc_ofT (β := β) (d := d + 5) (κ := κ1) (t := h.length) hl1 hN1 (by omega)
      have t2 := ofT_vN hl1 hN1 (by omega) (fun c hc => hdX c (by omega)) r4
      obtain ⟨h2, eh2⟩ : ∃ h2, h2 = h1 ++ [.inr (5, [.int (Int32.ofInt (4)), .int (Int32.ofInt (0)), .ref (h.length), .ref (h.length + 2 + 1), .ref (h.length + 2 + 2), .int (Int32.ofInt (0))]), .inl (4, 0, fun _ => .null), .inl (4, 0, fun _ => .null)] := ⟨_, rfl⟩
      have hN2 : h2.length = h.length + 5 := by rw [eh2, List.length_append, hN1]; rfl
      have hl2 : 50 ≤ h2.length := by omega
      have q2 : ∀ (c : Nat) (y : jx_C), h[c]? = some y → h2[c]? = some y := fun c y hy => by rw [eh2, List.getElem?_append_left (List.getElem?_eq_some_iff.mp (q1 c y hy)).1]; exact q1 c y hy
      have v2 : cvol h2 ≤ cvol h + 17 := by
        have e1 : cvol h1 = cvol h + cvol L1 := by rw [eh1, cvol_app]
        have e2 : cvol h2 = cvol h1 + 6 := by rw [eh2, cvol_app]; rfl
        omega
      rw [← eh2] at r2 t2
      have hU2 := sdU_fr q2 hU
      obtain ⟨h3', g3, r3, hU3, f3, len3, v3⟩ := jc_sdAdd (β := β) (d := d + 6) (κ := κ1) hl2 hU2 (by omega) t2
      have m1 : mEq [4, 5, 7, 8, 15] κ κ1 := fun f hf => (r5 f hf).trans (su_row (fun e => hf (by rw [e]; decide)))
      cases hs : sKey T n (p + 1) with
      | inl e =>
        have e0 : sPth T n (f + 1) ks p = .inl e := by
          refine (if_pos h46).trans ((if_neg h3).trans ?_)
          rw [hs]
        have hE := r8 e hs
        refine ⟨κ1, h3', ?_, fun c y c1 c2 hy => f3 c y c1 c2 (q2 c y hy), ⟨by omega, by omega⟩, by omega, m1, r6, fun ks' q hh => (by rw [e0] at hh; cases hh), fun e' hh => by rw [e0] at hh; injection hh with hh; rw [← hh]; exact hE⟩
        refine jr_1 jm_145 (show jw_cd cd_145 98 = some (.iload_n 2) by decide +kernel) rfl ?_
        refine jr_1 jm_145 (show jw_cd cd_145 99 = some (.iconst 3) by decide +kernel) rfl ?_
        refine jr_1 jm_145 (show jw_cd cd_145 100 = some (.if_icmp .gt 56) by decide +kernel) (mb_f (q := .gt) (a := ((i : Nat) : Int)) (b := 3) (by show ¬ (3 < ((i : Nat) : Int)); omega) ⟨by omega, by omega⟩ ⟨by omega, by omega⟩ (by decide)) ?_
        refine jr_1 jm_145 (show jw_cd cd_145 103 = some (.aload_n 0) by decide +kernel) rfl ?_
        refine jr_1 jm_145 (show jw_cd cd_145 104 = some (.getfield 9) by decide +kernel) (cgr_6_0 (show jw_fld 7 9 4 = some 0 by decide +kernel)) ?_
        refine jr_1 jm_145 (show jw_cd cd_145 107 = some (.bipush 46) by decide +kernel) (mt_bi (by decide)) ?_
        refine jr_c jm_145 (show jw_cd cd_145 109 = some (.invokevirtual 36) by decide +kernel) (ccv (n := 1) (m2 := 64) (ci := 1) (a := 1) (bs := [.int (Int32.ofInt (46))]) (r := []) (js_cls cl_c1 (by decide)) (show jw_find jw_cvT 7 36 = some (1, [(1, 64)]) by decide +kernel) (by decide) rfl rfl rfl) jm_64 ⟨Nat.le_of_ble_eq_true rfl, by decide⟩ (jc_takeT hl hP ((tC_eq hP.1.2.2 hP.2.2.2.1 (by decide)).mpr h46) (by decide)) ?_
        refine jr_1 jm_145 (show jw_cd cd_145 112 = some (.ifCond .eq 44) by decide +kernel) (mz_f (q := .eq) (a := 1) (by show ¬ (1 = 0); omega) ⟨by omega, by omega⟩ (by decide)) ?_
        refine jr_1 jm_145 (show jw_cd cd_145 115 = some (.aload_n 1) by decide +kernel) rfl ?_
        refine jr_c jm_145 (show jw_cd cd_145 116 = some (.invokevirtual 170) by decide +kernel) (ccv (n := 0) (m2 := 148) (ci := 15) (a := sa) (bs := []) (r := []) (js_cls (cl_old hl ⟨by omega, u3⟩) (jbg (by omega))) (show jw_find jw_cvT 7 170 = some (0, [(15, 148)]) by decide +kernel) (by decide) rfl rfl rfl) jm_148 ⟨Nat.le_of_ble_eq_true rfl, by decide⟩ (jc_sdF0 hl ⟨by omega, by omega⟩ ⟨by omega, by omega⟩ u1.2.2.2.1 u3 u4 (by omega)) ?_
        refine jr_1 jm_145 (show jw_cd cd_145 119 = some (.ifCond .eq 17) by decide +kernel) (mz_t (q := .eq) (a := 0) (t := 136) (by show 0 = 0; omega) ⟨by omega, by omega⟩ (by decide) (by decide)) ?_
        exact jc_sdKey ⟨by omega, by omega⟩ hl2 (by omega) hU2.2.2.1 r1 r2 r3 (jc_sdW (by omega) (by omega) hE.2.1)
      | inr x =>
        obtain ⟨s, q⟩ := x
        have e0 : sPth T n (f + 1) ks p = sPth T n f (ks ++ [s]) q := by
          refine (if_pos h46).trans ((if_neg h3).trans ?_)
          rw [hs]
        obtain ⟨es, hPq⟩ := r7 s q hs
        rw [es] at hU3
        obtain ⟨κ4, h4, w1, w2, w3, w4, w5, w6, w7, w8⟩ := jc_sdL (β := β) (d := d) f (i + 1) (ks ++ [s]) q h3' κ1 g3 (by rw [List.length_append]; show ks.length + 1 + f = 4; omega) (by rw [List.length_append]; show i + 1 ≤ ks.length + 1; omega) (by omega) (by omega) hPq r6 hU3
        rw [e0]
        refine ⟨κ4, h4, ?_, fun c y c1 c2 hy => w2 c y c1 c2 (f3 c y c1 c2 (q2 c y hy)), ⟨by omega, by omega⟩, by omega, mEq_trans m1 w5, w6, w7, w8⟩
        refine jr_1 jm_145 (show jw_cd cd_145 98 = some (.iload_n 2) by decide +kernel) rfl ?_
        refine jr_1 jm_145 (show jw_cd cd_145 99 = some (.iconst 3) by decide +kernel) rfl ?_
        refine jr_1 jm_145 (show jw_cd cd_145 100 = some (.if_icmp .gt 56) by decide +kernel) (mb_f (q := .gt) (a := ((i : Nat) : Int)) (b := 3) (by show ¬ (3 < ((i : Nat) : Int)); omega) ⟨by omega, by omega⟩ ⟨by omega, by omega⟩ (by decide)) ?_
        refine jr_1 jm_145 (show jw_cd cd_145 103 = some (.aload_n 0) by decide +kernel) rfl ?_
        refine jr_1 jm_145 (show jw_cd cd_145 104 = some (.getfield 9) by decide +kernel) (cgr_6_0 (show jw_fld 7 9 4 = some 0 by decide +kernel)) ?_
        refine jr_1 jm_145 (show jw_cd cd_145 107 = some (.bipush 46) by decide +kernel) (mt_bi (by decide)) ?_
        refine jr_c jm_145 (show jw_cd cd_145 109 = some (.invokevirtual 36) by decide +kernel) (ccv (n := 1) (m2 := 64) (ci := 1) (a := 1) (bs := [.int (Int32.ofInt (46))]) (r := []) (js_cls cl_c1 (by decide)) (show jw_find jw_cvT 7 36 = some (1, [(1, 64)]) by decide +kernel) (by decide) rfl rfl rfl) jm_64 ⟨Nat.le_of_ble_eq_true rfl, by decide⟩ (jc_takeT hl hP ((tC_eq hP.1.2.2 hP.2.2.2.1 (by decide)).mpr h46) (by decide)) ?_
        refine jr_1 jm_145 (show jw_cd cd_145 112 = some (.ifCond .eq 44) by decide +kernel) (mz_f (q := .eq) (a := 1) (by show ¬ (1 = 0); omega) ⟨by omega, by omega⟩ (by decide)) ?_
        refine jr_1 jm_145 (show jw_cd cd_145 115 = some (.aload_n 1) by decide +kernel) rfl ?_
        refine jr_c jm_145 (show jw_cd cd_145 116 = some (.invokevirtual 170) by decide +kernel) (ccv (n := 0) (m2 := 148) (ci := 15) (a := sa) (bs := []) (r := []) (js_cls (cl_old hl ⟨by omega, u3⟩) (jbg (by omega))) (show jw_find jw_cvT 7 170 = some (0, [(15, 148)]) by decide +kernel) (by decide) rfl rfl rfl) jm_148 ⟨Nat.le_of_ble_eq_true rfl, by decide⟩ (jc_sdF0 hl ⟨by omega, by omega⟩ ⟨by omega, by omega⟩ u1.2.2.2.1 u3 u4 (by omega)) ?_
        refine jr_1 jm_145 (show jw_cd cd_145 119 = some (.ifCond .eq 17) by decide +kernel) (mz_t (q := .eq) (a := 0) (t := 136) (by show 0 = 0; omega) ⟨by omega, by omega⟩ (by decide) (by decide)) ?_
        exact jc_sdKey ⟨by omega, by omega⟩ hl2 (by omega) hU2.2.2.1 r1 r2 r3 w1
