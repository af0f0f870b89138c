/-! ===== the class: readBrackets, readDot (printed by program: gen114.py) ===== -/
theorem jc_brk {β : Bool} {d : Nat} {h : jx_H} {κ : mS} (hl : 50 ≤ h.length) {X : Nat → Prop} {N0 sa la ea cap kk : Nat} {f : Nat → Value} {acc : List sE} (hU : sgU h X N0 sa la ea cap f acc) (hacc : acc.length ≤ 12) (hb32 : h.length < 2600000000) {T : Int → Int} {n p : Int} (hP : cP κ T n p) (hsc : 0 ≤ κ 7 0 ∧ κ 7 0 ≤ 16) (e9 : κ 9 0 = ((kk : Nat) : Int)) (hk : kk ≤ 12) (hc : tH T n p = 91) : ∃ (κ' : mS) (h' : jx_H) (cap' : Nat), jx_r (jz β) jw_M (d + 10) 142 (0, [some (.ref 6), some (.ref sa)], [], (cl_mk h κ)) (cl_mk h' (κ'), .inl none) ∧ (∀ (c : Nat) (y : jx_C), ¬ c = la → ¬ c = ea → h[c]? = some y → h'[c]? = some y) ∧ (h.length ≤ h'.length ∧ h'.length ≤ h.length + 65) ∧ cvol h' + 4 * cap ≤ cvol h + 4 * cap' + 250 ∧ (cap ≤ cap' ∧ cap' ≤ 10 + acc.length + acc.length / 2) ∧ mEq [4, 5, 7, 8, 9, 15] κ κ' ∧ (0 ≤ κ' 7 0 ∧ κ' 7 0 ≤ 16) ∧ (∀ e q, sBr T n p kk = .inr (e, q) → ∃ (ea' : Nat) (f' : Nat → Value), sgU h' X N0 sa la ea' cap' f' (acc ++ [e]) ∧ cP κ' T n q ∧ κ' 9 0 = ((kk + 1 : Nat) : Int)) ∧ (∀ e, sBr T n p kk = .inl e → cE κ' T n e) := by
  have ht := hP.1.2.2
  have hp0 := hP.2.2.2.1
  have hpn : p < n := (tH_r ht hp0).2.2.2 (by rw [hc]; decide)
  have hn160 := ht.2.1
  obtain ⟨l0, l1, l2, l3⟩ := sgU_lt hU
  have hx := sgU_x hU
  obtain ⟨u1, u2, u3, u4, u5, u6⟩ := id hU
  obtain ⟨z4, ⟨md, oL⟩, -⟩ := id u4
  rw [sBrA_c]
  by_cases h12 : kk = 12
  · obtain ⟨c1, hE⟩ := (jc_count (β := β) (d := d + 8) hl hP ⟨hp0, by omega⟩ e9).2 h12
    obtain ⟨κ1, ek⟩ : ∃ κ1, κ1 = su (su κ 9 0 (((kk : Nat) : Int) + 1)) 5 0 p := ⟨_, rfl⟩
    rw [← ek] at c1 hE
    have m1 : mEq [4, 5, 7, 8, 9, 15] κ κ1 := by rw [ek]; exact mEq_su (mEq_su (mEq_refl _ _) (by decide)) (by decide)
    have s1 : κ1 7 0 = κ 7 0 := by rw [ek, su_nf (by decide), su_nf (by decide)]
    have c2 := jc_mustW (β := β) (d := d + 8) (c := 91) hl hE.2.1 (by decide)
    obtain ⟨h', ea', cap', f', ra, p1, p2, p3, p4, p5⟩ := sg_put (β := β) (d := d + 4) (κ := κ1) (L := [.inr (14, [.int (Int32.ofInt (1)), .ref (jx_big + 9), .int (Int32.ofInt (0)), .int (Int32.ofInt (1000000)), .int (Int32.ofInt (1)), .null, .int (Int32.ofInt (0)), .null])]) hl (by show h.length + 1 < _; omega) hU (by omega) (newc rfl) ⟨by omega, by omega⟩
    have rm := jc_mustW (β := β) (d := d + 8) (h := h') (c := 93) (by omega) hE.2.1 (by decide)
    have hr := jc_brW (β := β) (d := d) hl rfl (by omega) ⟨by omega, by omega⟩ ⟨by omega, by omega⟩ u3 oL hE.2.1 h' κ1 ra rm
    have p2 : h.length ≤ h'.length ∧ h'.length ≤ h.length + 1 + 1 := p2
    have p3 : cvol h' + 4 * cap ≤ cvol h + 8 + 4 * cap' := p3
    refine ⟨κ1, h', cap', ?_, p1, ⟨by omega, by omega⟩, by omega, p4, m1, by rw [s1]; exact hsc, fun e q hh => (by rw [if_pos h12] at hh; cases hh), fun e hh => by rw [if_pos h12] at hh; injection hh with hh; rw [← hh]; exact hE⟩
    refine jr_1 jm_142 (show jw_cd cd_142 0 = some (.aload_n 0) by decide +kernel) rfl ?_
    refine jr_1 jm_142 (show jw_cd cd_142 1 = some (.aload_n 0) by decide +kernel) rfl ?_
    refine jr_1 jm_142 (show jw_cd cd_142 2 = some (.getfield 9) by decide +kernel) (cgr_6_0 (show jw_fld 7 9 4 = some 0 by decide +kernel)) ?_
    refine jr_1 jm_142 (show jw_cd cd_142 5 = some (.getfield 74) by decide +kernel) (cg_4 (e := p) hP.2.1 (show jw_fld 7 74 1 = some 2 by decide +kernel)) ?_
    refine jr_c jm_142 (show jw_cd cd_142 8 = some (.invokevirtual 85) by decide +kernel) (ccv (n := 1) (m2 := 133) (ci := 4) (a := 6) (bs := [.int (Int32.ofInt (p))]) (r := []) (js_cls cl_c6 (by decide)) (show jw_find jw_cvT 7 85 = some (1, [(4, 133)]) by decide +kernel) (by decide) rfl rfl rfl) jm_133 ⟨Nat.le_of_ble_eq_true rfl, by decide⟩ c1 ?_
    refine jr_1 jm_142 (show jw_cd cd_142 11 = some (.aload_n 0) by decide +kernel) rfl ?_
    refine jr_1 jm_142 (show jw_cd cd_142 12 = some (.getfield 9) by decide +kernel) (cgr_6_0 (show jw_fld 7 9 4 = some 0 by decide +kernel)) ?_
    refine jr_1 jm_142 (show jw_cd cd_142 15 = some (.bipush 91) by decide +kernel) (mt_bi (by decide)) ?_
    refine jr_c jm_142 (show jw_cd cd_142 17 = some (.invokevirtual 56) by decide +kernel) (ccv (n := 1) (m2 := 96) (ci := 1) (a := 1) (bs := [.int (Int32.ofInt (91))]) (r := []) (js_cls cl_c1 (by decide)) (show jw_find jw_cvT 7 56 = some (1, [(1, 96)]) by decide +kernel) (by decide) rfl rfl rfl) jm_96 ⟨Nat.le_of_ble_eq_true rfl, by decide⟩ c2 ?_
    exact hr
  rw [if_neg h12]
  obtain ⟨c1, hP1⟩ := (jc_count (β := β) (d := d + 8) (p := p) hl hP ⟨hp0, by omega⟩ e9).1 (by omega)
  obtain ⟨κ1, ek⟩ : ∃ κ1, κ1 = su κ 9 0 (((kk : Nat) : Int) + 1) := ⟨_, rfl⟩
  rw [← ek] at c1 hP1
  have c2 := jc_mustT (β := β) (d := d + 8) hl hP1 ((tC_eq hP1.1.2.2 hP1.2.2.2.1 (by decide)).mpr hc) (by decide)
  obtain ⟨κ2, ek2⟩ : ∃ κ2, κ2 = su κ1 4 0 (p + 1) := ⟨_, rfl⟩
  have hP2 : cP κ2 T n (p + 1) := by rw [ek2]; exact cP_mv hP1 (by omega) (by omega)
  rw [← ek2] at c2
  have m2 : mEq [4, 5, 7, 8, 9, 15] κ κ2 := by rw [ek2, ek]; exact mEq_su (mEq_su (mEq_refl _ _) (by decide)) (by decide)
  have s2 : κ2 7 0 = κ 7 0 := by rw [ek2, ek, su_nf (by decide), su_nf (by decide)]
  have n2 : κ2 9 0 = ((kk + 1 : Nat) : Int) := by rw [ek2, ek, su_nf (by decide), su_eq]; rfl
  obtain ⟨κm, L, b, fs, hrun, w1, w2, w3, w4, w5, w6, w7, w8⟩ := jc_brM (β := β) (d := d) hl rfl (by omega) hx ⟨by omega, by omega⟩ ⟨by omega, by omega⟩ u3 oL hP2 (by rw [s2]; exact hsc)
  obtain ⟨h', ea', cap', f', ra, p1, p2, p3, p4, p5⟩ := sg_put (β := β) (d := d + 4) (κ := κm) hl (by omega) hU (by omega) w1 w2
  have n3 : κm 9 0 = ((kk + 1 : Nat) : Int) := by rw [w5 9 (by decide)]; exact n2
  have m3 : mEq [4, 5, 7, 8, 9, 15] κ κm := mEq_trans m2 (mEq_sub w5 (by decide))
  have l' : 50 ≤ h'.length := by omega
  cases hs : sBrA T n (p + 1) with
  | inl e0 =>
    have hE := w8 e0 hs
    have rm := jc_mustW (β := β) (d := d + 8) (h := h') (c := 93) l' hE.2.1 (by decide)
    refine ⟨κm, h', cap', ?_, p1, ⟨by omega, by omega⟩, by omega, p4, m3, w6, fun e q hh => (by cases hh), fun e hh => by injection hh with hh; rw [← hh]; exact hE⟩
    refine jr_1 jm_142 (show jw_cd cd_142 0 = some (.aload_n 0) by decide +kernel) rfl ?_
    refine jr_1 jm_142 (show jw_cd cd_142 1 = some (.aload_n 0) by decide +kernel) rfl ?_
    refine jr_1 jm_142 (show jw_cd cd_142 2 = some (.getfield 9) by decide +kernel) (cgr_6_0 (show jw_fld 7 9 4 = some 0 by decide +kernel)) ?_
    refine jr_1 jm_142 (show jw_cd cd_142 5 = some (.getfield 74) by decide +kernel) (cg_4 (e := p) hP.2.1 (show jw_fld 7 74 1 = some 2 by decide +kernel)) ?_
    refine jr_c jm_142 (show jw_cd cd_142 8 = some (.invokevirtual 85) by decide +kernel) (ccv (n := 1) (m2 := 133) (ci := 4) (a := 6) (bs := [.int (Int32.ofInt (p))]) (r := []) (js_cls cl_c6 (by decide)) (show jw_find jw_cvT 7 85 = some (1, [(4, 133)]) by decide +kernel) (by decide) rfl rfl rfl) jm_133 ⟨Nat.le_of_ble_eq_true rfl, by decide⟩ c1 ?_
    refine jr_1 jm_142 (show jw_cd cd_142 11 = some (.aload_n 0) by decide +kernel) rfl ?_
    refine jr_1 jm_142 (show jw_cd cd_142 12 = some (.getfield 9) by decide +kernel) (cgr_6_0 (show jw_fld 7 9 4 = some 0 by decide +kernel)) ?_
    refine jr_1 jm_142 (show jw_cd cd_142 15 = some (.bipush 91) by decide +kernel) (mt_bi (by decide)) ?_
    refine jr_c jm_142 (show jw_cd cd_142 17 = some (.invokevirtual 56) by decide +kernel) (ccv (n := 1) (m2 := 96) (ci := 1) (a := 1) (bs := [.int (Int32.ofInt (91))]) (r := []) (js_cls cl_c1 (by decide)) (show jw_find jw_cvT 7 56 = some (1, [(1, 96)]) by decide +kernel) (by decide) rfl rfl rfl) jm_96 ⟨Nat.le_of_ble_eq_true rfl, by decide⟩ c2 ?_
    exact hrun h' κm ra rm
  | inr y =>
    obtain ⟨e0, q⟩ := y
    obtain ⟨y1, hPq⟩ := w7 e0 q hs
    have hq0 := hPq.2.2.2.1
    have hqn := hPq.2.2.2.2
    by_cases h93 : tH T n q = 93
    · have hqn2 : q < n := (tH_r ht hq0).2.2.2 (by rw [h93]; decide)
      have rm := jc_mustT (β := β) (d := d + 8) (h := h') l' hPq ((tC_eq hPq.1.2.2 hPq.2.2.2.1 (by decide)).mpr h93) (by decide)
      have e2 : cl93 T n (.inr (e0, q)) = .inr (e0, q + 1) := if_pos h93
      rw [e2]
      refine ⟨su κm 4 0 (q + 1), h', cap', ?_, p1, ⟨by omega, by omega⟩, by omega, p4, mEq_su m3 (by decide), by rw [su_nf (by decide)]; exact w6, fun e q' hh => ?_, fun e hh => (by cases hh)⟩
      rotate_left
      · injection hh with hh
        injection hh with z1 z2
        rw [← z1, ← z2]
        exact ⟨ea', f', p5 e0 y1, cP_mv hPq (by omega) (by omega), by rw [su_nf (by decide)]; exact n3⟩
      refine jr_1 jm_142 (show jw_cd cd_142 0 = some (.aload_n 0) by decide +kernel) rfl ?_
      refine jr_1 jm_142 (show jw_cd cd_142 1 = some (.aload_n 0) by decide +kernel) rfl ?_
      refine jr_1 jm_142 (show jw_cd cd_142 2 = some (.getfield 9) by decide +kernel) (cgr_6_0 (show jw_fld 7 9 4 = some 0 by decide +kernel)) ?_
      refine jr_1 jm_142 (show jw_cd cd_142 5 = some (.getfield 74) by decide +kernel) (cg_4 (e := p) hP.2.1 (show jw_fld 7 74 1 = some 2 by decide +kernel)) ?_
      refine jr_c jm_142 (show jw_cd cd_142 8 = some (.invokevirtual 85) by decide +kernel) (ccv (n := 1) (m2 := 133) (ci := 4) (a := 6) (bs := [.int (Int32.ofInt (p))]) (r := []) (js_cls cl_c6 (by decide)) (show jw_find jw_cvT 7 85 = some (1, [(4, 133)]) by decide +kernel) (by decide) rfl rfl rfl) jm_133 ⟨Nat.le_of_ble_eq_true rfl, by decide⟩ c1 ?_
      refine jr_1 jm_142 (show jw_cd cd_142 11 = some (.aload_n 0) by decide +kernel) rfl ?_
      refine jr_1 jm_142 (show jw_cd cd_142 12 = some (.getfield 9) by decide +kernel) (cgr_6_0 (show jw_fld 7 9 4 = some 0 by decide +kernel)) ?_
      refine jr_1 jm_142 (show jw_cd cd_142 15 = some (.bipush 91) by decide +kernel) (mt_bi (by decide)) ?_
      refine jr_c jm_142 (show jw_cd cd_142 17 = some (.invokevirtual 56) by decide +kernel) (ccv (n := 1) (m2 := 96) (ci := 1) (a := 1) (bs := [.int (Int32.ofInt (91))]) (r := []) (js_cls cl_c1 (by decide)) (show jw_find jw_cvT 7 56 = some (1, [(1, 96)]) by decide +kernel) (by decide) rfl rfl rfl) jm_96 ⟨Nat.le_of_ble_eq_true rfl, by decide⟩ c2 ?_
      exact hrun h' _ ra rm
    · have rm := jc_mustF (β := β) (d := d + 8) (h := h') l' hPq (fun e => h93 ((tC_eq hPq.1.2.2 hPq.2.2.2.1 (by decide)).mp e)) (by decide)
      have e2 : cl93 T n (.inr (e0, q)) = .inl q := if_neg h93
      rw [e2]
      refine ⟨su κm 5 0 q, h', cap', ?_, p1, ⟨by omega, by omega⟩, by omega, p4, mEq_su m3 (by decide), by rw [su_nf (by decide)]; exact w6, fun e q' hh => (by cases hh), fun e hh => ?_⟩
      rotate_left
      · injection hh with hh
        rw [← hh]
        exact cP_w hPq (by omega) (by omega)
      refine jr_1 jm_142 (show jw_cd cd_142 0 = some (.aload_n 0) by decide +kernel) rfl ?_
      refine jr_1 jm_142 (show jw_cd cd_142 1 = some (.aload_n 0) by decide +kernel) rfl ?_
      refine jr_1 jm_142 (show jw_cd cd_142 2 = some (.getfield 9) by decide +kernel) (cgr_6_0 (show jw_fld 7 9 4 = some 0 by decide +kernel)) ?_
      refine jr_1 jm_142 (show jw_cd cd_142 5 = some (.getfield 74) by decide +kernel) (cg_4 (e := p) hP.2.1 (show jw_fld 7 74 1 = some 2 by decide +kernel)) ?_
      refine jr_c jm_142 (show jw_cd cd_142 8 = some (.invokevirtual 85) by decide +kernel) (ccv (n := 1) (m2 := 133) (ci := 4) (a := 6) (bs := [.int (Int32.ofInt (p))]) (r := []) (js_cls cl_c6 (by decide)) (show jw_find jw_cvT 7 85 = some (1, [(4, 133)]) by decide +kernel) (by decide) rfl rfl rfl) jm_133 ⟨Nat.le_of_ble_eq_true rfl, by decide⟩ c1 ?_
      refine jr_1 jm_142 (show jw_cd cd_142 11 = some (.aload_n 0) by decide +kernel) rfl ?_
      refine jr_1 jm_142 (show jw_cd cd_142 12 = some (.getfield 9) by decide +kernel) (cgr_6_0 (show jw_fld 7 9 4 = some 0 by decide +kernel)) ?_
      refine jr_1 jm_142 (show jw_cd cd_142 15 = some (.bipush 91) by decide +kernel) (mt_bi (by decide)) ?_
      refine jr_c jm_142 (show jw_cd cd_142 17 = some (.invokevirtual 56) by decide +kernel) (ccv (n := 1) (m2 := 96) (ci := 1) (a := 1) (bs := [.int (Int32.ofInt (91))]) (r := []) (js_cls cl_c1 (by decide)) (show jw_find jw_cvT 7 56 = some (1, [(1, 96)]) by decide +kernel) (by decide) rfl rfl rfl) jm_96 ⟨Nat.le_of_ble_eq_true rfl, by decide⟩ c2 ?_
      exact hrun h' _ ra rm
theorem jc_dot {β : Bool} {d : Nat} {h : jx_H} {κ : mS} (hl : 50 ≤ h.length) {X : Nat → Prop} {N0 sa la ea cap kk : Nat} {f : Nat → Value} {acc : List sE} (hU : sgU h X N0 sa la ea cap f acc) (hacc : acc.length ≤ 12) (hb32 : h.length < 2600000000) {T : Int → Int} {n p : Int} (hP : cP κ T n p) (hsc : 0 ≤ κ 7 0 ∧ κ 7 0 ≤ 16) (e9 : κ 9 0 = ((kk : Nat) : Int)) (hk : kk ≤ 12) (hc : tH T n p = 46) : ∃ (κ' : mS) (h' : jx_H) (cap' : Nat), jx_r (jz β) jw_M (d + 10) 155 (0, [some (.ref 6), some (.ref sa)], [], (cl_mk h κ)) (cl_mk h' (κ'), .inl none) ∧ (∀ (c : Nat) (y : jx_C), ¬ c = la → ¬ c = ea → h[c]? = some y → h'[c]? = some y) ∧ (h.length ≤ h'.length ∧ h'.length ≤ h.length + 65) ∧ cvol h' + 4 * cap ≤ cvol h + 4 * cap' + 250 ∧ (cap ≤ cap' ∧ cap' ≤ 10 + acc.length + acc.length / 2) ∧ mEq [4, 5, 7, 8, 9, 15] κ κ' ∧ (0 ≤ κ' 7 0 ∧ κ' 7 0 ≤ 16) ∧ (∀ e q, sNxt T n p kk = .inr (e, q) → ∃ (ea' : Nat) (f' : Nat → Value), sgU h' X N0 sa la ea' cap' f' (acc ++ [e]) ∧ cP κ' T n q ∧ κ' 9 0 = ((kk + 1 : Nat) : Int)) ∧ (∀ e, sNxt T n p kk = .inl e → cE κ' T n e) := by
  have ht := hP.1.2.2
  have hp0 := hP.2.2.2.1
  have hpn : p < n := (tH_r ht hp0).2.2.2 (by rw [hc]; decide)
  have hn160 := ht.2.1
  obtain ⟨l0, l1, l2, l3⟩ := sgU_lt hU
  have hx := sgU_x hU
  obtain ⟨u1, u2, u3, u4, u5, u6⟩ := id hU
  obtain ⟨z4, ⟨md, oL⟩, -⟩ := id u4
  have hs0 : sNxt T n p kk = if kk = 12 then .inl p else if tH T n (p + 1) = 42 then .inr ((3, [], nnu, 0, nsd, nsd), p + 1 + 1) else (match sKey T n (p + 1) with
    | .inl e => .inl e
    | .inr (s, q) => .inr ((0, s, nnu, 0, nsd, nsd), q)) := if_neg (by omega)
  rw [hs0]
  -- the key's step, from a state with the key read
  have key : ∀ (κ1 κ2 κ3 : mS) (L0 : List jx_C) (s' : List Int), jx_r (jz β) jw_M (d + 9) 133 (0, [some (.ref 6), some (.int (Int32.ofInt (p)))], [], (cl_mk h κ)) (cl_mk h (κ1), .inl none) → jx_r (jz β) jw_M (d + 9) 96 (0, [some (.ref 1), some (.int (Int32.ofInt (46)))], [], (cl_mk h κ1)) (cl_mk h (κ2), .inl none) → jx_r (jz β) jw_M (d + 9) 64 (0, [some (.ref 1), some (.int (Int32.ofInt (42)))], [], (cl_mk h κ2)) (cl_mk h (κ2), .inl (some (.int (Int32.ofInt (0))))) → jx_r (jz β) jw_M (d + 9) 98 (0, [some (.ref 1), none], [], (cl_mk h κ2)) (cl_mk (h ++ L0) (κ3), .inl (some (.ref (h.length)))) → L0.length = 2 → cvol L0 ≤ 11 → strR (h ++ L0) (gX X sa la ea) h.length s' → ∃ (h' : jx_H) (ea' cap' : Nat) (f' : Nat → Value), jx_r (jz β) jw_M (d + 10) 155 (0, [some (.ref 6), some (.ref sa)], [], (cl_mk h κ)) (cl_mk h' (κ3), .inl none) ∧ (∀ (c : Nat) (y : jx_C), ¬ c = la → ¬ c = ea → h[c]? = some y → h'[c]? = some y) ∧ (h.length ≤ h'.length ∧ h'.length ≤ h.length + 65) ∧ cvol h' + 4 * cap ≤ cvol h + 4 * cap' + 250 ∧ (cap ≤ cap' ∧ cap' ≤ 10 + acc.length + acc.length / 2) ∧ sgU h' X N0 sa la ea' cap' f' (acc ++ [(0, s', nnu, 0, nsd, nsd)]) := by
    intro κ1 κ2 κ3 L0 s' c1 c2 c3 c4 hL hv hS
    obtain ⟨h0, eh0⟩ : ∃ h0, h0 = h ++ L0 := ⟨_, rfl⟩
    have hN0 : h0.length = h.length + 2 := by rw [eh0, List.length_append, hL]
    have hl0 : 50 ≤ h0.length := by omega
    rw [← eh0] at c4 hS
    obtain ⟨t, et⟩ : ∃ t, t = h.length := ⟨_, rfl⟩
    rw [← et] at c4 hS
    have c5 := jc_stKey (β := β) (d := d + 8) (κ := κ3) (t := t) hl0 hN0 (by omega)
    obtain ⟨h1, eh1⟩ : ∃ h1, h1 = h0 ++ [.inr (14, [.int (Int32.ofInt (0)), .ref t, .int (Int32.ofInt (0)), .int (Int32.ofInt (1000000)), .int (Int32.ofInt (1)), .null, .int (Int32.ofInt (0)), .null])] := ⟨_, rfl⟩
    have e1 : h1 = h ++ (L0 ++ [.inr (14, [.int (Int32.ofInt (0)), .ref t, .int (Int32.ofInt (0)), .int (Int32.ofInt (1000000)), .int (Int32.ofInt (1)), .null, .int (Int32.ofInt (0)), .null])]) := by rw [eh1, eh0, List.append_assoc]
    have q0 : ∀ (c : Nat) (y : jx_C), h0[c]? = some y → h1[c]? = some y := fun c y hy => by rw [eh1, List.getElem?_append_left (List.getElem?_eq_some_iff.mp hy).1]; exact hy
    have q1 : ∀ (c : Nat) (y : jx_C), h[c]? = some y → h1[c]? = some y := fun c y hy => by rw [e1, List.getElem?_append_left (List.getElem?_eq_some_iff.mp hy).1]; exact hy
    have hN1 : h1.length = h.length + 3 := by rw [eh1, List.length_append, hN0]; rfl
    have hl1 : 50 ≤ h1.length := by omega
    have oL1 := q1 _ _ oL
    have hC : h1[h.length + 2]? = some (.inr (14, [.int (Int32.ofInt (0)), .ref t, .int (Int32.ofInt (0)), .int (Int32.ofInt (1000000)), .int (Int32.ofInt (1)), .null, .int (Int32.ofInt (0)), .null])) := by rw [eh1]; exact newc hN0
    obtain ⟨b, eb⟩ : ∃ b, b = h.length + 2 := ⟨_, rfl⟩
    rw [← eb] at hC c5
    rw [← eh1] at c5
    obtain ⟨h', ea', cap', f', ra, p1, p2, p3, p4, p5⟩ := sg_put (β := β) (d := d + 4) (κ := κ3) (L := L0 ++ [.inr (14, [.int (Int32.ofInt (0)), .ref t, .int (Int32.ofInt (0)), .int (Int32.ofInt (1000000)), .int (Int32.ofInt (1)), .null, .int (Int32.ofInt (0)), .null])]) hl (by rw [List.length_append, hL]; show h.length + (2 + 1) < _; omega) hU (by omega) (by rw [← e1]; exact hC) ⟨by omega, by omega⟩
    rw [← e1] at ra p5
    rw [List.length_append, hL] at p2
    rw [cvol_app] at p3
    have p2 : h.length ≤ h'.length ∧ h'.length ≤ h.length + (2 + 1) + 1 := p2
    have p3 : cvol h' + 4 * cap ≤ cvol h + (cvol L0 + 8) + 4 * cap' := p3
    refine ⟨h', ea', cap', f', ?_, p1, ⟨by omega, by omega⟩, by omega, p4, p5 _ ⟨⟨by omega, by omega, hx b (by omega)⟩, t, .null, .null, hC.trans rfl, strR_fr (fun c y z hy => ⟨z, q0 c y hy⟩) hS, fun z => absurd z (show ¬ (0 : Int) = 4 by decide)⟩⟩
    refine jr_1 jm_155 (show jw_cd cd_155 0 = some (.aload_n 0) by decide +kernel) rfl ?_
    refine jr_1 jm_155 (show jw_cd cd_155 1 = some (.aload_n 0) by decide +kernel) rfl ?_
    refine jr_1 jm_155 (show jw_cd cd_155 2 = some (.getfield 9) by decide +kernel) (cgr_6_0 (show jw_fld 7 9 4 = some 0 by decide +kernel)) ?_
    refine jr_1 jm_155 (show jw_cd cd_155 5 = some (.getfield 74) by decide +kernel) (cg_4 (e := p) hP.2.1 (show jw_fld 7 74 1 = some 2 by decide +kernel)) ?_
    refine jr_c jm_155 (show jw_cd cd_155 8 = some (.invokevirtual 85) by decide +kernel) (ccv (n := 1) (m2 := 133) (ci := 4) (a := 6) (bs := [.int (Int32.ofInt (p))]) (r := []) (js_cls cl_c6 (by decide)) (show jw_find jw_cvT 7 85 = some (1, [(4, 133)]) by decide +kernel) (by decide) rfl rfl rfl) jm_133 ⟨Nat.le_of_ble_eq_true rfl, by decide⟩ c1 ?_
    refine jr_1 jm_155 (show jw_cd cd_155 11 = some (.aload_n 0) by decide +kernel) rfl ?_
    refine jr_1 jm_155 (show jw_cd cd_155 12 = some (.getfield 9) by decide +kernel) (cgr_6_0 (show jw_fld 7 9 4 = some 0 by decide +kernel)) ?_
    refine jr_1 jm_155 (show jw_cd cd_155 15 = some (.bipush 46) by decide +kernel) (mt_bi (by decide)) ?_
    refine jr_c jm_155 (show jw_cd cd_155 17 = some (.invokevirtual 56) by decide +kernel) (ccv (n := 1) (m2 := 96) (ci := 1) (a := 1) (bs := [.int (Int32.ofInt (46))]) (r := []) (js_cls cl_c1 (by decide)) (show jw_find jw_cvT 7 56 = some (1, [(1, 96)]) by decide +kernel) (by decide) rfl rfl rfl) jm_96 ⟨Nat.le_of_ble_eq_true rfl, by decide⟩ c2 ?_
    refine jr_1 jm_155 (show jw_cd cd_155 20 = some (.aload_n 0) by decide +kernel) rfl ?_
    refine jr_1 jm_155 (show jw_cd cd_155 21 = some (.getfield 9) by decide +kernel) (cgr_6_0 (show jw_fld 7 9 4 = some 0 by decide +kernel)) ?_
    refine jr_1 jm_155 (show jw_cd cd_155 24 = some (.bipush 42) by decide +kernel) (mt_bi (by decide)) ?_
    refine jr_c jm_155 (show jw_cd cd_155 26 = some (.invokevirtual 36) by decide +kernel) (ccv (n := 1) (m2 := 64) (ci := 1) (a := 1) (bs := [.int (Int32.ofInt (42))]) (r := []) (js_cls cl_c1 (by decide)) (show jw_find jw_cvT 7 36 = some (1, [(1, 64)]) by decide +kernel) (by decide) rfl rfl rfl) jm_64 ⟨Nat.le_of_ble_eq_true rfl, by decide⟩ c3 ?_
    refine jr_1 jm_155 (show jw_cd cd_155 29 = some (.ifCond .eq 18) by decide +kernel) (mz_t (q := .eq) (a := 0) (t := 47) (by show 0 = 0; omega) ⟨by omega, by omega⟩ (by decide) (by decide)) ?_
    refine jr_1 jm_155 (show jw_cd cd_155 47 = some (.aload_n 1) by decide +kernel) rfl ?_
    refine jr_1 jm_155 (show jw_cd cd_155 48 = some (.getfield 88) by decide +kernel) (js_getf (cl_old hl ⟨by omega, u3⟩) (jbg (by omega)) (show jw_fld 7 88 13 = some 2 by decide +kernel) rfl) ?_
    refine jr_1 jm_155 (show jw_cd cd_155 51 = some (.aload_n 0) by decide +kernel) rfl ?_
    refine jr_1 jm_155 (show jw_cd cd_155 52 = some (.getfield 9) by decide +kernel) (cgr_6_0 (show jw_fld 7 9 4 = some 0 by decide +kernel)) ?_
    refine jr_c jm_155 (show jw_cd cd_155 55 = some (.invokevirtual 77) by decide +kernel) (ccv (n := 0) (m2 := 98) (ci := 1) (a := 1) (bs := []) (r := [.ref la]) (js_cls cl_c1 (by decide)) (show jw_find jw_cvT 7 77 = some (0, [(1, 98)]) by decide +kernel) (by decide) rfl rfl rfl) jm_98 ⟨Nat.le_of_ble_eq_true rfl, by decide⟩ c4 ?_
    refine jr_c jm_155 (show jw_cd cd_155 58 = some (.invokestatic 90) by decide +kernel) (mc_s (n := 1) (m2 := 134) (bs := [.ref t]) (r := [.ref la]) (by decide) (show jw_find jw_csT 7 90 = some (134, 1) by decide +kernel) rfl rfl rfl) jm_134 ⟨Nat.le_of_ble_eq_true rfl, by decide⟩ c5 ?_
    refine jr_c jm_155 (show jw_cd cd_155 61 = some (.invokevirtual 30) by decide +kernel) (ccv (n := 1) (m2 := 136) (ci := 12) (a := la) (bs := [.ref b]) (r := []) (js_cls (cl_old hl1 ⟨by omega, oL1⟩) (jbg (by omega))) (show jw_find jw_cvT 7 30 = some (1, [(12, 136)]) by decide +kernel) (by decide) rfl rfl rfl) jm_136 ⟨Nat.le_of_ble_eq_true rfl, by decide⟩ ra ?_
    refine jr_1 jm_155 (show jw_cd cd_155 64 = some (.pop) by decide +kernel) rfl ?_
    exact jr_v jm_155 (show jw_cd cd_155 65 = some (.return_) by decide +kernel) rfl
  by_cases h12 : kk = 12
  · rw [if_pos h12]
    obtain ⟨c1, hE⟩ := (jc_count (β := β) (d := d + 8) hl hP ⟨hp0, by omega⟩ e9).2 h12
    obtain ⟨κ1, ek⟩ : ∃ κ1, κ1 = su (su κ 9 0 (((kk : Nat) : Int) + 1)) 5 0 p := ⟨_, rfl⟩
    rw [← ek] at c1 hE
    have m1 : mEq [4, 5, 7, 8, 9, 15] κ κ1 := by rw [ek]; exact mEq_su (mEq_su (mEq_refl _ _) (by decide)) (by decide)
    have s1 : κ1 7 0 = κ 7 0 := by rw [ek, su_nf (by decide), su_nf (by decide)]
    have c2 := jc_mustW (β := β) (d := d + 8) (c := 46) hl hE.2.1 (by decide)
    have c3 := jc_takeW (β := β) (d := d + 8) (c := 42) hl hE.2.1 (by decide)
    obtain ⟨κ3, L0, c4, y1, y2, y3, y4, y5, y6⟩ := jc_readKeyW (β := β) (d := d + 3) (x := gX X sa la ea) hl rfl (by omega) hx hE (by rw [s1]; exact hsc)
    obtain ⟨h', ea', cap', f', hr, p1, p2, p3, p4, p5⟩ := key κ1 κ1 κ3 L0 [] c1 c2 c3 c4 y1 y2 y3
    exact ⟨κ3, h', cap', hr, p1, p2, p3, p4, mEq_trans m1 (mEq_sub y4 (by decide)), y5, fun e q hh => (by cases hh), fun e hh => by injection hh with hh; rw [← hh]; exact y6⟩
  rw [if_neg h12]
  obtain ⟨c1, hP1⟩ := (jc_count (β := β) (d := d + 8) (p := p) hl hP ⟨hp0, by omega⟩ e9).1 (by omega)
  obtain ⟨κ1, ek⟩ : ∃ κ1, κ1 = su κ 9 0 (((kk : Nat) : Int) + 1) := ⟨_, rfl⟩
  rw [← ek] at c1 hP1
  have c2 := jc_mustT (β := β) (d := d + 8) hl hP1 ((tC_eq hP1.1.2.2 hP1.2.2.2.1 (by decide)).mpr hc) (by decide)
  obtain ⟨κ2, ek2⟩ : ∃ κ2, κ2 = su κ1 4 0 (p + 1) := ⟨_, rfl⟩
  have hP2 : cP κ2 T n (p + 1) := by rw [ek2]; exact cP_mv hP1 (by omega) (by omega)
  rw [← ek2] at c2
  have m2 : mEq [4, 5, 7, 8, 9, 15] κ κ2 := by rw [ek2, ek]; exact mEq_su (mEq_su (mEq_refl _ _) (by decide)) (by decide)
  have s2 : κ2 7 0 = κ 7 0 := by rw [ek2, ek, su_nf (by decide), su_nf (by decide)]
  have n2 : κ2 9 0 = ((kk + 1 : Nat) : Int) := by rw [ek2, ek, su_nf (by decide), su_eq]; rfl
  by_cases h42 : tH T n (p + 1) = 42
  · rw [if_pos h42]
    have hpn2 : p + 1 < n := (tH_r ht (by omega)).2.2.2 (by rw [h42]; decide)
    have c3 := jc_takeT (β := β) (d := d + 8) hl hP2 ((tC_eq hP2.1.2.2 hP2.2.2.2.1 (by decide)).mpr h42) (by decide)
    obtain ⟨κ3, ek3⟩ : ∃ κ3, κ3 = su κ2 4 0 (p + 1 + 1) := ⟨_, rfl⟩
    have hP3 : cP κ3 T n (p + 1 + 1) := by rw [ek3]; exact cP_mv hP2 (by omega) (by omega)
    rw [← ek3] at c3
    have c4 := jc_stK (β := β) (d := d + 8) (κ := κ3) (kd := 3) hl rfl (by omega)
    obtain ⟨h1, eh1⟩ : ∃ h1, h1 = h ++ [.inr (14, [.int (Int32.ofInt (3)), .ref (jx_big + 9), .int (Int32.ofInt (0)), .int (Int32.ofInt (1000000)), .int (Int32.ofInt (1)), .null, .int (Int32.ofInt (0)), .null])] := ⟨_, rfl⟩
    have q1 : ∀ (c : Nat) (y : jx_C), h[c]? = some y → h1[c]? = some y := fun c y hy => by rw [eh1, List.getElem?_append_left (List.getElem?_eq_some_iff.mp hy).1]; exact hy
    have hN1 : h1.length = h.length + 1 := by rw [eh1, List.length_append]; rfl
    have hl1 : 50 ≤ h1.length := by omega
    have oL1 := q1 _ _ oL
    obtain ⟨b, eb⟩ : ∃ b, b = h.length := ⟨_, rfl⟩
    have hC : h1[b]? = some (.inr (14, [.int (Int32.ofInt (3)), .ref (jx_big + 9), .int (Int32.ofInt (0)), .int (Int32.ofInt (1000000)), .int (Int32.ofInt (1)), .null, .int (Int32.ofInt (0)), .null])) := by rw [eh1]; exact newc eb.symm
    rw [← eb, ← eh1] at c4
    obtain ⟨h', ea', cap', f', ra, p1, p2, p3, p4, p5⟩ := sg_put (β := β) (d := d + 4) (κ := κ3) (L := [.inr (14, [.int (Int32.ofInt (3)), .ref (jx_big + 9), .int (Int32.ofInt (0)), .int (Int32.ofInt (1000000)), .int (Int32.ofInt (1)), .null, .int (Int32.ofInt (0)), .null])]) hl (by show h.length + 1 < _; omega) hU (by omega) (by rw [← eh1]; exact hC) ⟨by omega, by omega⟩
    rw [← eh1] at ra p5
    have p2 : h.length ≤ h'.length ∧ h'.length ≤ h.length + 1 + 1 := p2
    have p3 : cvol h' + 4 * cap ≤ cvol h + 8 + 4 * cap' := p3
    refine ⟨κ3, h', cap', ?_, p1, ⟨by omega, by omega⟩, by omega, p4, by rw [ek3]; exact mEq_su m2 (by decide), by rw [ek3, su_nf (by decide), s2]; exact hsc, fun e q hh => ?_, fun e hh => (by cases hh)⟩
    rotate_left
    · injection hh with hh
      injection hh with z1 z2
      rw [← z1, ← z2]
      exact ⟨ea', f', p5 _ ⟨⟨by omega, by omega, hx b (by omega)⟩, jx_big + 9, .null, .null, hC.trans rfl, emp_str, fun z => absurd z (show ¬ (3 : Int) = 4 by decide)⟩, hP3, by rw [ek3, su_nf (by decide)]; exact n2⟩
    refine jr_1 jm_155 (show jw_cd cd_155 0 = some (.aload_n 0) by decide +kernel) rfl ?_
    refine jr_1 jm_155 (show jw_cd cd_155 1 = some (.aload_n 0) by decide +kernel) rfl ?_
    refine jr_1 jm_155 (show jw_cd cd_155 2 = some (.getfield 9) by decide +kernel) (cgr_6_0 (show jw_fld 7 9 4 = some 0 by decide +kernel)) ?_
    refine jr_1 jm_155 (show jw_cd cd_155 5 = some (.getfield 74) by decide +kernel) (cg_4 (e := p) hP.2.1 (show jw_fld 7 74 1 = some 2 by decide +kernel)) ?_
    refine jr_c jm_155 (show jw_cd cd_155 8 = some (.invokevirtual 85) by decide +kernel) (ccv (n := 1) (m2 := 133) (ci := 4) (a := 6) (bs := [.int (Int32.ofInt (p))]) (r := []) (js_cls cl_c6 (by decide)) (show jw_find jw_cvT 7 85 = some (1, [(4, 133)]) by decide +kernel) (by decide) rfl rfl rfl) jm_133 ⟨Nat.le_of_ble_eq_true rfl, by decide⟩ c1 ?_
    refine jr_1 jm_155 (show jw_cd cd_155 11 = some (.aload_n 0) by decide +kernel) rfl ?_
    refine jr_1 jm_155 (show jw_cd cd_155 12 = some (.getfield 9) by decide +kernel) (cgr_6_0 (show jw_fld 7 9 4 = some 0 by decide +kernel)) ?_
    refine jr_1 jm_155 (show jw_cd cd_155 15 = some (.bipush 46) by decide +kernel) (mt_bi (by decide)) ?_
    refine jr_c jm_155 (show jw_cd cd_155 17 = some (.invokevirtual 56) by decide +kernel) (ccv (n := 1) (m2 := 96) (ci := 1) (a := 1) (bs := [.int (Int32.ofInt (46))]) (r := []) (js_cls cl_c1 (by decide)) (show jw_find jw_cvT 7 56 = some (1, [(1, 96)]) by decide +kernel) (by decide) rfl rfl rfl) jm_96 ⟨Nat.le_of_ble_eq_true rfl, by decide⟩ c2 ?_
    refine jr_1 jm_155 (show jw_cd cd_155 20 = some (.aload_n 0) by decide +kernel) rfl ?_
    refine jr_1 jm_155 (show jw_cd cd_155 21 = some (.getfield 9) by decide +kernel) (cgr_6_0 (show jw_fld 7 9 4 = some 0 by decide +kernel)) ?_
    refine jr_1 jm_155 (show jw_cd cd_155 24 = some (.bipush 42) by decide +kernel) (mt_bi (by decide)) ?_
    refine jr_c jm_155 (show jw_cd cd_155 26 = some (.invokevirtual 36) by decide +kernel) (ccv (n := 1) (m2 := 64) (ci := 1) (a := 1) (bs := [.int (Int32.ofInt (42))]) (r := []) (js_cls cl_c1 (by decide)) (show jw_find jw_cvT 7 36 = some (1, [(1, 64)]) by decide +kernel) (by decide) rfl rfl rfl) jm_64 ⟨Nat.le_of_ble_eq_true rfl, by decide⟩ c3 ?_
    refine jr_1 jm_155 (show jw_cd cd_155 29 = some (.ifCond .eq 18) by decide +kernel) (mz_f (q := .eq) (a := 1) (by show ¬ (1 = 0); omega) ⟨by omega, by omega⟩ (by decide)) ?_
    refine jr_1 jm_155 (show jw_cd cd_155 32 = some (.aload_n 1) by decide +kernel) rfl ?_
    refine jr_1 jm_155 (show jw_cd cd_155 33 = some (.getfield 88) by decide +kernel) (js_getf (cl_old hl ⟨by omega, u3⟩) (jbg (by omega)) (show jw_fld 7 88 13 = some 2 by decide +kernel) rfl) ?_
    refine jr_1 jm_155 (show jw_cd cd_155 36 = some (.iconst 3) by decide +kernel) rfl ?_
    refine jr_c jm_155 (show jw_cd cd_155 37 = some (.invokestatic 109) by decide +kernel) (mc_s (n := 1) (m2 := 143) (bs := [.int (Int32.ofInt (3))]) (r := [.ref la]) (by decide) (show jw_find jw_csT 7 109 = some (143, 1) by decide +kernel) rfl rfl rfl) jm_143 ⟨Nat.le_of_ble_eq_true rfl, by decide⟩ c4 ?_
    refine jr_c jm_155 (show jw_cd cd_155 40 = some (.invokevirtual 30) by decide +kernel) (ccv (n := 1) (m2 := 136) (ci := 12) (a := la) (bs := [.ref b]) (r := []) (js_cls (cl_old hl1 ⟨by omega, oL1⟩) (jbg (by omega))) (show jw_find jw_cvT 7 30 = some (1, [(12, 136)]) by decide +kernel) (by decide) rfl rfl rfl) jm_136 ⟨Nat.le_of_ble_eq_true rfl, by decide⟩ ra ?_
    refine jr_1 jm_155 (show jw_cd cd_155 43 = some (.pop) by decide +kernel) rfl ?_
    refine jr_1 jm_155 (show jw_cd cd_155 44 = some (.goto 21) by decide +kernel) (ju_go (t := 65) (by decide)) ?_
    exact jr_v jm_155 (show jw_cd cd_155 65 = some (.return_) by decide +kernel) rfl
  rw [if_neg h42]
  have c3 := jc_takeF (β := β) (d := d + 8) hl hP2 (fun e => h42 ((tC_eq hP2.1.2.2 hP2.2.2.2.1 (by decide)).mp e)) (by decide)
  obtain ⟨κ3, L0, s', c4, y1, y2, y3, yt, y4, y5, y6, y7⟩ := jc_readKey (β := β) (d := d + 3) (x := gX X sa la ea) hl rfl (by omega) hx hP2 (by rw [s2]; exact hsc)
  obtain ⟨h', ea', cap', f', hr, p1, p2, p3, p4, p5⟩ := key κ1 κ2 κ3 L0 s' c1 c2 c3 c4 y1 y2 y3
  refine ⟨κ3, h', cap', hr, p1, p2, p3, p4, mEq_trans m2 (mEq_sub y4 (by decide)), y5, fun e q hh => ?_, fun e hh => ?_⟩
  · cases hs : sKey T n (p + 1) with
    | inl e' => rw [hs] at hh; cases hh
    | inr x =>
      obtain ⟨s, q'⟩ := x
      rw [hs] at hh
      injection hh with hh
      injection hh with z1 z2
      rw [← z1, ← z2]
      obtain ⟨x1, x2⟩ := y6 s q' hs
      rw [x1] at p5
      exact ⟨ea', f', p5, x2, by rw [y4 9 (by decide)]; exact n2⟩
  · cases hs : sKey T n (p + 1) with
    | inl e' =>
      rw [hs] at hh
      injection hh with hh
      rw [← hh]
      exact y7 e' hs
    | inr x =>
      obtain ⟨s, q'⟩ := x
      rw [hs] at hh
      cases hh
