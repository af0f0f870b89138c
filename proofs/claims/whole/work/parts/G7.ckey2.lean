/-! ===== the class reads a key, a text: as a whole (printed by program: gen79.py) ===== -/
theorem jc_readKey {β : Bool} {d : Nat} {h : jx_H} {κ : mS} (hl : 50 ≤ h.length) {N : Nat} {x : Nat → Prop} (hN : h.length = N) (hb32 : N < 3000000000) (hx : ∀ a, N ≤ a → ¬ x a) {T : Int → Int} {n p : Int} (hP : cP κ T n p) (hsc : 0 ≤ κ 7 0 ∧ κ 7 0 ≤ 16) : ∃ (κ' : mS) (L : List jx_C) (s' : List Int), jx_r (jz β) jw_M (d + 6) 98 (0, [some (.ref 1), none], [], (cl_mk h κ)) (cl_mk (h ++ L) (κ'), .inl (some (.ref (N)))) ∧ L.length = 2 ∧ cvol L ≤ 11 ∧ strR (h ++ L) x N s' ∧ tx s' ∧ mEq [4, 5, 7, 8, 15] κ κ' ∧ (0 ≤ κ' 7 0 ∧ κ' 7 0 ≤ 16) ∧ (∀ s q, sKey T n p = .inr (s, q) → s' = s ∧ cP κ' T n q) ∧ (∀ e, sKey T n p = .inl e → cE κ' T n e) := by
  obtain ⟨h0, hpn⟩ := hP.2.2.2
  have ht := hP.1.2.2
  have hn160 := ht.2.1
  obtain ⟨κ1, s1, s2, s3⟩ := jc_set0 (β := β) (d := d + 3) (h := h) hl rfl hsc
  have hP1 : cP κ1 T n p := cP_q hP s3 (by decide)
  obtain ⟨κ2, l1, l2, l3, l4⟩ := jc_ke_loop (β := β) (d := d + 3) (h := h) hl 7 [] p κ1 rfl hP1 (scP_0 s2)
  obtain ⟨r, hr⟩ : ∃ r, r = spn pL T n 7 p := ⟨_, rfl⟩
  rw [← hr, List.nil_append] at l3
  rw [← hr] at l2 l1
  have hr7 := spn_le (P := pL) (T := T) (n := n) 7 p
  rw [← hr] at hr7
  obtain ⟨q, hq⟩ : ∃ q : Int, q = p + (r.length : Int) := ⟨_, rfl⟩
  rw [← hq] at l2
  have hQ : cP κ2 T n q := l2
  have hS : scP κ2 r := l3
  obtain ⟨q0, q1⟩ := hQ.2.2.2
  have hmq : mEq [4, 7, 8, 15] κ κ2 := fun g hg => (l4 g (by simp only [List.mem_cons, List.mem_nil_iff, or_false] at hg ⊢; omega)).trans (s3 g (by simp only [List.mem_cons, List.mem_nil_iff, or_false] at hg ⊢; omega))
  have hmq2 : mEq [4, 5, 7, 8, 15] κ κ2 := fun g hg => hmq g (by simp only [List.mem_cons, List.mem_nil_iff, or_false] at hg ⊢; omega)
  have hmq3 : mEq [4, 5, 7, 8, 15] κ (su κ2 5 0 q) := fun g hg => (su_row (by simp only [List.mem_cons, List.mem_nil_iff, or_false] at hg; omega)).trans (hmq2 g hg)
  obtain ⟨t9, -, t0, t1⟩ := tC_H (p := q) ht q0
  have htx : tx r := ⟨hr7, hS.2.2⟩
  have hS5 : scP (su κ2 5 0 q) r := scP_q hS (su_row (by decide)) (su_row (by decide))
  have h7a : 0 ≤ κ2 7 0 ∧ κ2 7 0 ≤ 16 := by rw [hS.1]; omega
  have h7b : 0 ≤ (su κ2 5 0 q) 7 0 ∧ (su κ2 5 0 q) 7 0 ≤ 16 := by rw [su_nf (by decide)]; exact h7a
  obtain ⟨i, hi⟩ : ∃ i : Int, i = ((([] : List Int).length : Nat) : Int) + (r.length : Int) := ⟨_, rfl⟩
  rw [← hi] at l1
  have l1 : ∀ res, jx_r (jz β) jw_M (d + 6) 98 (54, [some (.ref 1), some (.int (Int32.ofInt (i)))], [], (cl_mk h κ2)) res → jx_r (jz β) jw_M (d + 6) 98 (10, [some (.ref 1), some (.int (Int32.ofInt (0)))], [], (cl_mk h κ1)) res := l1
  have pre : ∀ res, jx_r (jz β) jw_M (d + 6) 98 (54, [some (.ref 1), some (.int (Int32.ofInt (i)))], [], (cl_mk h κ2)) res → jx_r (jz β) jw_M (d + 6) 98 (0, [some (.ref 1), none], [], (cl_mk h κ)) res := fun res kk => by
    have kk := l1 res kk
    refine jr_1 jm_98 (show jw_cd cd_98 0 = some (.aload_n 0) by decide +kernel) rfl ?_
    refine jr_1 jm_98 (show jw_cd cd_98 1 = some (.getfield 28) by decide +kernel) (cgr_1_4 (show jw_fld 2 28 1 = some 4 by decide +kernel)) ?_
    refine jr_1 jm_98 (show jw_cd cd_98 4 = some (.iconst 0) by decide +kernel) rfl ?_
    refine jr_c jm_98 (show jw_cd cd_98 5 = some (.invokevirtual 40) by decide +kernel) (ccv (n := 1) (m2 := 66) (ci := 2) (a := 3) (bs := [.int (Int32.ofInt (0))]) (r := []) (js_cls cl_c3 (by decide)) (show jw_find jw_cvT 2 40 = some (1, [(2, 66)]) by decide +kernel) (by decide) rfl rfl rfl) jm_66 ⟨Nat.le_of_ble_eq_true rfl, by decide⟩ s1 ?_
    refine jr_1 jm_98 (show jw_cd cd_98 8 = some (.iconst 0) by decide +kernel) rfl ?_
    refine jr_1 jm_98 (F2 := (10, [some (.ref 1), some (.int (Int32.ofInt (0)))], [], (cl_mk h κ1))) (show jw_cd cd_98 9 = some (.istore_n 1) by decide +kernel) rfl ?_
    exact kk
  have hcut : ((spn pL T n 8 p).length ≤ 7 → spn pL T n 7 p = spn pL T n 8 p ∧ ¬ pL (tH T n (p + (spn pL T n 7 p).length)) = true) ∧ ((spn pL T n 8 p).length = 8 → (spn pL T n 7 p).length = 7 ∧ pL (tH T n (p + 7)) = true) := spn_cut (P := pL) (T := T) (n := n) 7 p
  rw [← hr, ← hq] at hcut
  have hiff := tC_is (p := q) ht q0 (a := 97) (b := 122) (by decide)
  unfold sKey
  by_cases hl0 : (spn pL T n 8 p).length = 0
  · rw [if_pos hl0]
    have hrn : r = [] := by
      rw [(hcut.1 (by omega)).1]
      exact List.eq_nil_of_length_eq_zero hl0
    have hr0 : (r.length : Int) = 0 := by rw [hrn]; rfl
    obtain ⟨L, z1, z2, z3, z4⟩ := jc_scS (β := β) (d := d) (h := h) (x := x) hl hN hb32 hx hS5 hr7
    refine ⟨su κ2 5 0 q, L, r, pre _ ?_, z2, z3, z4, htx, hmq3, h7b, fun s q' he => (by cases he), fun e he => ?_⟩
    · skip
      refine jr_1 jm_98 (show jw_cd cd_98 54 = some (.aload_n 0) by decide +kernel) rfl ?_
      refine jr_1 jm_98 (show jw_cd cd_98 55 = some (.getfield 28) by decide +kernel) (cgr_1_4 (show jw_fld 2 28 1 = some 4 by decide +kernel)) ?_
      refine jr_c jm_98 (show jw_cd cd_98 58 = some (.invokevirtual 51) by decide +kernel) (ccv (n := 0) (m2 := 77) (ci := 2) (a := 3) (bs := []) (r := []) (js_cls cl_c3 (by decide)) (show jw_find jw_cvT 2 51 = some (0, [(2, 77)]) by decide +kernel) (by decide) rfl rfl rfl) jm_77 ⟨Nat.le_of_ble_eq_true rfl, by decide⟩ (jc_len hl hS.1) ?_
      refine jr_1 jm_98 (show jw_cd cd_98 61 = some (.ifCond .eq 13) by decide +kernel) (mz_t (q := .eq) (a := (r.length : Int)) (t := 74) (by show (r.length : Int) = 0; omega) ⟨by omega, by omega⟩ (by decide) (by decide)) ?_
      refine jr_1 jm_98 (show jw_cd cd_98 74 = some (.aload_n 0) by decide +kernel) rfl ?_
      refine jr_1 jm_98 (show jw_cd cd_98 75 = some (.aload_n 0) by decide +kernel) rfl ?_
      refine jr_1 jm_98 (show jw_cd cd_98 76 = some (.getfield 19) by decide +kernel) (cg_4 (e := q) hQ.2.1 (show jw_fld 2 19 1 = some 2 by decide +kernel)) ?_
      refine jr_c jm_98 (show jw_cd cd_98 79 = some (.invokevirtual 32) by decide +kernel) (ccv (n := 1) (m2 := 62) (ci := 1) (a := 1) (bs := [.int (Int32.ofInt (q))]) (r := []) (js_cls cl_c1 (by decide)) (show jw_find jw_cvT 2 32 = some (1, [(1, 62)]) by decide +kernel) (by decide) rfl rfl rfl) jm_62 ⟨Nat.le_of_ble_eq_true rfl, by decide⟩ (jc_wrongAt hl hQ) ?_
      refine jr_1 jm_98 (show jw_cd cd_98 82 = some (.aload_n 0) by decide +kernel) rfl ?_
      refine jr_1 jm_98 (show jw_cd cd_98 83 = some (.getfield 28) by decide +kernel) (cgr_1_4 (show jw_fld 2 28 1 = some 4 by decide +kernel)) ?_
      refine jr_c jm_98 (show jw_cd cd_98 86 = some (.invokevirtual 54) by decide +kernel) (ccv (n := 0) (m2 := 73) (ci := 2) (a := 3) (bs := []) (r := []) (js_cls cl_c3 (by decide)) (show jw_find jw_cvT 2 54 = some (0, [(2, 73)]) by decide +kernel) (by decide) rfl rfl rfl) jm_73 ⟨Nat.le_of_ble_eq_true rfl, by decide⟩ z1 ?_
      exact jr_v jm_98 (show jw_cd cd_98 89 = some (.areturn) by decide +kernel) rfl
    · cases he
      rw [show q = p by omega]
      exact cP_w (by rw [show q = p by omega] at hQ; exact hQ) h0 (by omega)
  · rw [if_neg hl0]
    by_cases hl8 : (spn pL T n 8 p).length = 8
    · rw [if_pos hl8]
      obtain ⟨c1, c2⟩ := hcut.2 hl8
      have hr7' : (r.length : Int) = 7 := by rw [c1]; rfl
      have hck : 97 ≤ tC T n q ∧ tC T n q ≤ 122 := hiff.mpr (by rw [show q = p + 7 by omega]; exact pL_ne c2)
      obtain ⟨L, z1, z2, z3, z4⟩ := jc_scS (β := β) (d := d) (h := h) (x := x) hl hN hb32 hx hS5 hr7
      refine ⟨su κ2 5 0 q, L, r, pre _ ?_, z2, z3, z4, htx, hmq3, h7b, fun s q' he => (by cases he), fun e he => ?_⟩
      · skip
        refine jr_1 jm_98 (show jw_cd cd_98 54 = some (.aload_n 0) by decide +kernel) rfl ?_
        refine jr_1 jm_98 (show jw_cd cd_98 55 = some (.getfield 28) by decide +kernel) (cgr_1_4 (show jw_fld 2 28 1 = some 4 by decide +kernel)) ?_
        refine jr_c jm_98 (show jw_cd cd_98 58 = some (.invokevirtual 51) by decide +kernel) (ccv (n := 0) (m2 := 77) (ci := 2) (a := 3) (bs := []) (r := []) (js_cls cl_c3 (by decide)) (show jw_find jw_cvT 2 51 = some (0, [(2, 77)]) by decide +kernel) (by decide) rfl rfl rfl) jm_77 ⟨Nat.le_of_ble_eq_true rfl, by decide⟩ (jc_len hl hS.1) ?_
        refine jr_1 jm_98 (show jw_cd cd_98 61 = some (.ifCond .eq 13) by decide +kernel) (mz_f (q := .eq) (a := (r.length : Int)) (by show ¬ ((r.length : Int) = 0); omega) ⟨by omega, by omega⟩ (by decide)) ?_
        refine jr_1 jm_98 (show jw_cd cd_98 64 = some (.aload_n 0) by decide +kernel) rfl ?_
        refine jr_c jm_98 (show jw_cd cd_98 65 = some (.invokevirtual 36) by decide +kernel) (ccv (n := 0) (m2 := 58) (ci := 1) (a := 1) (bs := []) (r := []) (js_cls cl_c1 (by decide)) (show jw_find jw_cvT 2 36 = some (0, [(1, 58)]) by decide +kernel) (by decide) rfl rfl rfl) jm_58 ⟨Nat.le_of_ble_eq_true rfl, by decide⟩ (jc_here hl hQ) ?_
        refine jr_c jm_98 (show jw_cd cd_98 68 = some (.invokestatic 43) by decide +kernel) (mc_s (n := 1) (m2 := 99) (bs := [.int (Int32.ofInt (tC T n q))]) (r := []) (by decide) (show jw_find jw_csT 2 43 = some (99, 1) by decide +kernel) rfl rfl rfl) jm_99 ⟨Nat.le_of_ble_eq_true rfl, by decide⟩ (jc_isK_t hl hck) ?_
        refine jr_1 jm_98 (show jw_cd cd_98 71 = some (.ifCond .eq 11) by decide +kernel) (mz_f (q := .eq) (a := 1) (by show ¬ (1 = 0); omega) ⟨by omega, by omega⟩ (by decide)) ?_
        refine jr_1 jm_98 (show jw_cd cd_98 74 = some (.aload_n 0) by decide +kernel) rfl ?_
        refine jr_1 jm_98 (show jw_cd cd_98 75 = some (.aload_n 0) by decide +kernel) rfl ?_
        refine jr_1 jm_98 (show jw_cd cd_98 76 = some (.getfield 19) by decide +kernel) (cg_4 (e := q) hQ.2.1 (show jw_fld 2 19 1 = some 2 by decide +kernel)) ?_
        refine jr_c jm_98 (show jw_cd cd_98 79 = some (.invokevirtual 32) by decide +kernel) (ccv (n := 1) (m2 := 62) (ci := 1) (a := 1) (bs := [.int (Int32.ofInt (q))]) (r := []) (js_cls cl_c1 (by decide)) (show jw_find jw_cvT 2 32 = some (1, [(1, 62)]) by decide +kernel) (by decide) rfl rfl rfl) jm_62 ⟨Nat.le_of_ble_eq_true rfl, by decide⟩ (jc_wrongAt hl hQ) ?_
        refine jr_1 jm_98 (show jw_cd cd_98 82 = some (.aload_n 0) by decide +kernel) rfl ?_
        refine jr_1 jm_98 (show jw_cd cd_98 83 = some (.getfield 28) by decide +kernel) (cgr_1_4 (show jw_fld 2 28 1 = some 4 by decide +kernel)) ?_
        refine jr_c jm_98 (show jw_cd cd_98 86 = some (.invokevirtual 54) by decide +kernel) (ccv (n := 0) (m2 := 73) (ci := 2) (a := 3) (bs := []) (r := []) (js_cls cl_c3 (by decide)) (show jw_find jw_cvT 2 54 = some (0, [(2, 73)]) by decide +kernel) (by decide) rfl rfl rfl) jm_73 ⟨Nat.le_of_ble_eq_true rfl, by decide⟩ z1 ?_
        exact jr_v jm_98 (show jw_cd cd_98 89 = some (.areturn) by decide +kernel) rfl
      · cases he
        rw [← show q = p + 7 by omega]
        exact cP_w hQ q0 (by omega)
    · rw [if_neg hl8]
      have h8 := spn_le (P := pL) (T := T) (n := n) 8 p
      obtain ⟨c1, c2⟩ := hcut.1 (by omega)
      rw [← c1] at hl0 ⊢
      have hck : ¬ (97 ≤ tC T n q ∧ tC T n q ≤ 122) := fun z => c2 (decide_eq_true (hiff.mp z))
      obtain ⟨L, z1, z2, z3, z4⟩ := jc_scS (β := β) (d := d) (h := h) (x := x) hl hN hb32 hx hS hr7
      refine ⟨κ2, L, r, pre _ ?_, z2, z3, z4, htx, hmq2, h7a, fun s q' he => ?_, fun e he => (by cases he)⟩
      · skip
        refine jr_1 jm_98 (show jw_cd cd_98 54 = some (.aload_n 0) by decide +kernel) rfl ?_
        refine jr_1 jm_98 (show jw_cd cd_98 55 = some (.getfield 28) by decide +kernel) (cgr_1_4 (show jw_fld 2 28 1 = some 4 by decide +kernel)) ?_
        refine jr_c jm_98 (show jw_cd cd_98 58 = some (.invokevirtual 51) by decide +kernel) (ccv (n := 0) (m2 := 77) (ci := 2) (a := 3) (bs := []) (r := []) (js_cls cl_c3 (by decide)) (show jw_find jw_cvT 2 51 = some (0, [(2, 77)]) by decide +kernel) (by decide) rfl rfl rfl) jm_77 ⟨Nat.le_of_ble_eq_true rfl, by decide⟩ (jc_len hl hS.1) ?_
        refine jr_1 jm_98 (show jw_cd cd_98 61 = some (.ifCond .eq 13) by decide +kernel) (mz_f (q := .eq) (a := (r.length : Int)) (by show ¬ ((r.length : Int) = 0); omega) ⟨by omega, by omega⟩ (by decide)) ?_
        refine jr_1 jm_98 (show jw_cd cd_98 64 = some (.aload_n 0) by decide +kernel) rfl ?_
        refine jr_c jm_98 (show jw_cd cd_98 65 = some (.invokevirtual 36) by decide +kernel) (ccv (n := 0) (m2 := 58) (ci := 1) (a := 1) (bs := []) (r := []) (js_cls cl_c1 (by decide)) (show jw_find jw_cvT 2 36 = some (0, [(1, 58)]) by decide +kernel) (by decide) rfl rfl rfl) jm_58 ⟨Nat.le_of_ble_eq_true rfl, by decide⟩ (jc_here hl hQ) ?_
        refine jr_c jm_98 (show jw_cd cd_98 68 = some (.invokestatic 43) by decide +kernel) (mc_s (n := 1) (m2 := 99) (bs := [.int (Int32.ofInt (tC T n q))]) (r := []) (by decide) (show jw_find jw_csT 2 43 = some (99, 1) by decide +kernel) rfl rfl rfl) jm_99 ⟨Nat.le_of_ble_eq_true rfl, by decide⟩ (jc_isK_f hl ⟨t0, t1⟩ hck) ?_
        refine jr_1 jm_98 (show jw_cd cd_98 71 = some (.ifCond .eq 11) by decide +kernel) (mz_t (q := .eq) (a := 0) (t := 82) (by show 0 = 0; omega) ⟨by omega, by omega⟩ (by decide) (by decide)) ?_
        refine jr_1 jm_98 (show jw_cd cd_98 82 = some (.aload_n 0) by decide +kernel) rfl ?_
        refine jr_1 jm_98 (show jw_cd cd_98 83 = some (.getfield 28) by decide +kernel) (cgr_1_4 (show jw_fld 2 28 1 = some 4 by decide +kernel)) ?_
        refine jr_c jm_98 (show jw_cd cd_98 86 = some (.invokevirtual 54) by decide +kernel) (ccv (n := 0) (m2 := 73) (ci := 2) (a := 3) (bs := []) (r := []) (js_cls cl_c3 (by decide)) (show jw_find jw_cvT 2 54 = some (0, [(2, 73)]) by decide +kernel) (by decide) rfl rfl rfl) jm_73 ⟨Nat.le_of_ble_eq_true rfl, by decide⟩ z1 ?_
        exact jr_v jm_98 (show jw_cd cd_98 89 = some (.areturn) by decide +kernel) rfl
      · cases he
        rw [← hq]
        exact ⟨rfl, hQ⟩
theorem jc_readQ {β : Bool} {d : Nat} {h : jx_H} {κ : mS} (hl : 50 ≤ h.length) {N : Nat} {x : Nat → Prop} (hN : h.length = N) (hb32 : N < 3000000000) (hx : ∀ a, N ≤ a → ¬ x a) {T : Int → Int} {n p0 : Int} (hP : cP κ T n (p0 + 1)) (hsc : 0 ≤ κ 7 0 ∧ κ 7 0 ≤ 16) : ∃ (κ' : mS) (L : List jx_C) (s' : List Int), jx_r (jz β) jw_M (d + 6) 65 (0, [some (.ref 1), none], [], (cl_mk h κ)) (cl_mk (h ++ L) (κ'), .inl (some (.ref (N)))) ∧ L.length = 2 ∧ cvol L ≤ 11 ∧ strR (h ++ L) x N s' ∧ tx s' ∧ mEq [4, 5, 7, 8, 15] κ κ' ∧ (0 ≤ κ' 7 0 ∧ κ' 7 0 ≤ 16) ∧ (∀ s q, sText T n p0 = .inr (s, q) → s' = s ∧ cP κ' T n q) ∧ (∀ e, sText T n p0 = .inl e → cE κ' T n e) := by
  obtain ⟨p, hpe⟩ : ∃ p, p = p0 + 1 := ⟨_, rfl⟩
  unfold sText
  rw [← hpe] at hP ⊢
  obtain ⟨h0, hpn⟩ := hP.2.2.2
  have ht := hP.1.2.2
  have hn160 := ht.2.1
  obtain ⟨κ1, s1, s2, s3⟩ := jc_set0 (β := β) (d := d + 3) (h := h) hl rfl hsc
  have hP1 : cP κ1 T n p := cP_q hP s3 (by decide)
  obtain ⟨κ2, l1, l2, l3, l4⟩ := jc_qu_loop (β := β) (d := d + 3) (h := h) hl 7 [] p κ1 rfl hP1 (scP_0 s2)
  obtain ⟨r, hr⟩ : ∃ r, r = spn pX T n 7 p := ⟨_, rfl⟩
  rw [← hr, List.nil_append] at l3
  rw [← hr] at l2 l1
  have hr7 := spn_le (P := pX) (T := T) (n := n) 7 p
  rw [← hr] at hr7
  obtain ⟨q, hq⟩ : ∃ q : Int, q = p + (r.length : Int) := ⟨_, rfl⟩
  rw [← hq] at l2
  have hQ : cP κ2 T n q := l2
  have hS : scP κ2 r := l3
  obtain ⟨q0, q1⟩ := hQ.2.2.2
  have hmq : mEq [4, 7, 8, 15] κ κ2 := fun g hg => (l4 g (by simp only [List.mem_cons, List.mem_nil_iff, or_false] at hg ⊢; omega)).trans (s3 g (by simp only [List.mem_cons, List.mem_nil_iff, or_false] at hg ⊢; omega))
  have hmq2 : mEq [4, 5, 7, 8, 15] κ κ2 := fun g hg => hmq g (by simp only [List.mem_cons, List.mem_nil_iff, or_false] at hg ⊢; omega)
  have hmq3 : mEq [4, 5, 7, 8, 15] κ (su κ2 5 0 q) := fun g hg => (su_row (by simp only [List.mem_cons, List.mem_nil_iff, or_false] at hg; omega)).trans (hmq2 g hg)
  obtain ⟨t9, -, t0, t1⟩ := tC_H (p := q) ht q0
  have htx : tx r := ⟨hr7, hS.2.2⟩
  have hS5 : scP (su κ2 5 0 q) r := scP_q hS (su_row (by decide)) (su_row (by decide))
  have h7a : 0 ≤ κ2 7 0 ∧ κ2 7 0 ≤ 16 := by rw [hS.1]; omega
  have h7b : 0 ≤ (su κ2 5 0 q) 7 0 ∧ (su κ2 5 0 q) 7 0 ≤ 16 := by rw [su_nf (by decide)]; exact h7a
  obtain ⟨i, hi⟩ : ∃ i : Int, i = ((([] : List Int).length : Nat) : Int) + (r.length : Int) := ⟨_, rfl⟩
  rw [← hi] at l1
  have l1 : ∀ res, jx_r (jz β) jw_M (d + 6) 65 (60, [some (.ref 1), some (.int (Int32.ofInt (i)))], [], (cl_mk h κ2)) res → jx_r (jz β) jw_M (d + 6) 65 (10, [some (.ref 1), some (.int (Int32.ofInt (0)))], [], (cl_mk h κ1)) res := l1
  have pre : ∀ res, jx_r (jz β) jw_M (d + 6) 65 (60, [some (.ref 1), some (.int (Int32.ofInt (i)))], [], (cl_mk h κ2)) res → jx_r (jz β) jw_M (d + 6) 65 (0, [some (.ref 1), none], [], (cl_mk h κ)) res := fun res kk => by
    have kk := l1 res kk
    refine jr_1 jm_65 (show jw_cd cd_65 0 = some (.aload_n 0) by decide +kernel) rfl ?_
    refine jr_1 jm_65 (show jw_cd cd_65 1 = some (.getfield 28) by decide +kernel) (cgr_1_4 (show jw_fld 2 28 1 = some 4 by decide +kernel)) ?_
    refine jr_1 jm_65 (show jw_cd cd_65 4 = some (.iconst 0) by decide +kernel) rfl ?_
    refine jr_c jm_65 (show jw_cd cd_65 5 = some (.invokevirtual 40) by decide +kernel) (ccv (n := 1) (m2 := 66) (ci := 2) (a := 3) (bs := [.int (Int32.ofInt (0))]) (r := []) (js_cls cl_c3 (by decide)) (show jw_find jw_cvT 2 40 = some (1, [(2, 66)]) by decide +kernel) (by decide) rfl rfl rfl) jm_66 ⟨Nat.le_of_ble_eq_true rfl, by decide⟩ s1 ?_
    refine jr_1 jm_65 (show jw_cd cd_65 8 = some (.iconst 0) by decide +kernel) rfl ?_
    refine jr_1 jm_65 (F2 := (10, [some (.ref 1), some (.int (Int32.ofInt (0)))], [], (cl_mk h κ1))) (show jw_cd cd_65 9 = some (.istore_n 1) by decide +kernel) rfl ?_
    exact kk
  have hcut : ((spn pX T n 8 p).length ≤ 7 → spn pX T n 7 p = spn pX T n 8 p ∧ ¬ pX (tH T n (p + (spn pX T n 7 p).length)) = true) ∧ ((spn pX T n 8 p).length = 8 → (spn pX T n 7 p).length = 7 ∧ pX (tH T n (p + 7)) = true) := spn_cut (P := pX) (T := T) (n := n) 7 p
  rw [← hr, ← hq] at hcut
  have hiff := tC_eq (p := q) ht q0 (c := 39) (by decide)
  by_cases hl8 : (spn pX T n 8 p).length = 8
  · rw [if_pos hl8]
    obtain ⟨c1, c2⟩ := hcut.2 hl8
    have hr7' : (r.length : Int) = 7 := by rw [c1]; rfl
    have hck : ¬ tC T n q = 39 := fun z => by
      have z2 := hiff.mp z
      rw [show q = p + 7 by omega] at z2
      exact (of_decide_eq_true c2).2 z2
    obtain ⟨L, z1, z2, z3, z4⟩ := jc_scS (β := β) (d := d) (h := h) (x := x) hl hN hb32 hx hS5 hr7
    refine ⟨su κ2 5 0 q, L, r, pre _ ?_, z2, z3, z4, htx, hmq3, h7b, fun s q' he => (by cases he), fun e he => ?_⟩
    · skip
      refine jr_1 jm_65 (show jw_cd cd_65 60 = some (.aload_n 0) by decide +kernel) rfl ?_
      refine jr_c jm_65 (show jw_cd cd_65 61 = some (.invokevirtual 36) by decide +kernel) (ccv (n := 0) (m2 := 58) (ci := 1) (a := 1) (bs := []) (r := []) (js_cls cl_c1 (by decide)) (show jw_find jw_cvT 2 36 = some (0, [(1, 58)]) by decide +kernel) (by decide) rfl rfl rfl) jm_58 ⟨Nat.le_of_ble_eq_true rfl, by decide⟩ (jc_here hl hQ) ?_
      refine jr_1 jm_65 (show jw_cd cd_65 64 = some (.bipush 39) by decide +kernel) (mt_bi (by decide)) ?_
      refine jr_1 jm_65 (show jw_cd cd_65 66 = some (.if_icmp .ne 16) by decide +kernel) (mb_t (q := .ne) (a := tC T n q) (b := 39) (t := 82) (by show ¬ (tC T n q = 39); omega) ⟨by omega, by omega⟩ ⟨by omega, by omega⟩ (by decide) (by decide)) ?_
      refine jr_1 jm_65 (show jw_cd cd_65 82 = some (.aload_n 0) by decide +kernel) rfl ?_
      refine jr_1 jm_65 (show jw_cd cd_65 83 = some (.aload_n 0) by decide +kernel) rfl ?_
      refine jr_1 jm_65 (show jw_cd cd_65 84 = some (.getfield 19) by decide +kernel) (cg_4 (e := q) hQ.2.1 (show jw_fld 2 19 1 = some 2 by decide +kernel)) ?_
      refine jr_c jm_65 (show jw_cd cd_65 87 = some (.invokevirtual 32) by decide +kernel) (ccv (n := 1) (m2 := 62) (ci := 1) (a := 1) (bs := [.int (Int32.ofInt (q))]) (r := []) (js_cls cl_c1 (by decide)) (show jw_find jw_cvT 2 32 = some (1, [(1, 62)]) by decide +kernel) (by decide) rfl rfl rfl) jm_62 ⟨Nat.le_of_ble_eq_true rfl, by decide⟩ (jc_wrongAt hl hQ) ?_
      refine jr_1 jm_65 (show jw_cd cd_65 90 = some (.aload_n 0) by decide +kernel) rfl ?_
      refine jr_1 jm_65 (show jw_cd cd_65 91 = some (.getfield 28) by decide +kernel) (cgr_1_4 (show jw_fld 2 28 1 = some 4 by decide +kernel)) ?_
      refine jr_c jm_65 (show jw_cd cd_65 94 = some (.invokevirtual 54) by decide +kernel) (ccv (n := 0) (m2 := 73) (ci := 2) (a := 3) (bs := []) (r := []) (js_cls cl_c3 (by decide)) (show jw_find jw_cvT 2 54 = some (0, [(2, 73)]) by decide +kernel) (by decide) rfl rfl rfl) jm_73 ⟨Nat.le_of_ble_eq_true rfl, by decide⟩ z1 ?_
      exact jr_v jm_65 (show jw_cd cd_65 97 = some (.areturn) by decide +kernel) rfl
    · cases he
      rw [← show q = p + 7 by omega]
      exact cP_w hQ q0 (by omega)
  · rw [if_neg hl8]
    have h8 := spn_le (P := pX) (T := T) (n := n) 8 p
    obtain ⟨c1, c2⟩ := hcut.1 (by omega)
    rw [← c1, ← hq]
    by_cases h39 : tH T n q = 39
    · rw [if_pos h39]
      have hck := hiff.mpr h39
      have hl1 := tH_lt ht q0 h39 (by decide)
      have hS4 : scP (su κ2 4 0 (q + 1)) r := scP_q hS (su_row (by decide)) (su_row (by decide))
      obtain ⟨L, z1, z2, z3, z4⟩ := jc_scS (β := β) (d := d) (h := h) (κ := su κ2 4 0 (q + 1)) (x := x) hl hN hb32 hx hS4 hr7
      refine ⟨su κ2 4 0 (q + 1), L, r, pre _ ?_, z2, z3, z4, htx, fun g hg => (su_row (by simp only [List.mem_cons, List.mem_nil_iff, or_false] at hg; omega)).trans (hmq2 g hg), by rw [su_nf (by decide)]; exact h7a, fun s q' he => ?_, fun e he => (by cases he)⟩
      · skip
        refine jr_1 jm_65 (show jw_cd cd_65 60 = some (.aload_n 0) by decide +kernel) rfl ?_
        refine jr_c jm_65 (show jw_cd cd_65 61 = some (.invokevirtual 36) by decide +kernel) (ccv (n := 0) (m2 := 58) (ci := 1) (a := 1) (bs := []) (r := []) (js_cls cl_c1 (by decide)) (show jw_find jw_cvT 2 36 = some (0, [(1, 58)]) by decide +kernel) (by decide) rfl rfl rfl) jm_58 ⟨Nat.le_of_ble_eq_true rfl, by decide⟩ (jc_here hl hQ) ?_
        refine jr_1 jm_65 (show jw_cd cd_65 64 = some (.bipush 39) by decide +kernel) (mt_bi (by decide)) ?_
        refine jr_1 jm_65 (show jw_cd cd_65 66 = some (.if_icmp .ne 16) by decide +kernel) (mb_f (q := .ne) (a := tC T n q) (b := 39) (by show ¬ (¬ (tC T n q = 39)); omega) ⟨by omega, by omega⟩ ⟨by omega, by omega⟩ (by decide)) ?_
        refine jr_1 jm_65 (show jw_cd cd_65 69 = some (.aload_n 0) by decide +kernel) rfl ?_
        refine jr_1 jm_65 (show jw_cd cd_65 70 = some (.dup) by decide +kernel) rfl ?_
        refine jr_1 jm_65 (show jw_cd cd_65 71 = some (.getfield 19) by decide +kernel) (cg_4 (e := q) hQ.2.1 (show jw_fld 2 19 1 = some 2 by decide +kernel)) ?_
        refine jr_1 jm_65 (show jw_cd cd_65 74 = some (.iconst 1) by decide +kernel) rfl ?_
        refine jr_1 jm_65 (show jw_cd cd_65 75 = some (.iadd) by decide +kernel) (mt_add (c := q + 1) rfl) ?_
        refine jr_1 jm_65 (show jw_cd cd_65 76 = some (.putfield 19) by decide +kernel) (cp_4 (x := q + 1) (show jw_fld 2 19 1 = some 2 by decide +kernel) (show jw_fm 2 1 2 = some false by decide +kernel)) ?_
        refine jr_1 jm_65 (show jw_cd cd_65 79 = some (.goto 11) by decide +kernel) (ju_go (t := 90) (by decide)) ?_
        refine jr_1 jm_65 (show jw_cd cd_65 90 = some (.aload_n 0) by decide +kernel) rfl ?_
        refine jr_1 jm_65 (show jw_cd cd_65 91 = some (.getfield 28) by decide +kernel) (cgr_1_4 (show jw_fld 2 28 1 = some 4 by decide +kernel)) ?_
        refine jr_c jm_65 (show jw_cd cd_65 94 = some (.invokevirtual 54) by decide +kernel) (ccv (n := 0) (m2 := 73) (ci := 2) (a := 3) (bs := []) (r := []) (js_cls cl_c3 (by decide)) (show jw_find jw_cvT 2 54 = some (0, [(2, 73)]) by decide +kernel) (by decide) rfl rfl rfl) jm_73 ⟨Nat.le_of_ble_eq_true rfl, by decide⟩ z1 ?_
        exact jr_v jm_65 (show jw_cd cd_65 97 = some (.areturn) by decide +kernel) rfl
      · cases he
        exact ⟨rfl, cP_mv hQ (by omega) (by omega)⟩
    · rw [if_neg h39]
      have hck : ¬ tC T n q = 39 := fun z => h39 (hiff.mp z)
      obtain ⟨L, z1, z2, z3, z4⟩ := jc_scS (β := β) (d := d) (h := h) (x := x) hl hN hb32 hx hS5 hr7
      refine ⟨su κ2 5 0 q, L, r, pre _ ?_, z2, z3, z4, htx, hmq3, h7b, fun s q' he => (by cases he), fun e he => ?_⟩
      · skip
        refine jr_1 jm_65 (show jw_cd cd_65 60 = some (.aload_n 0) by decide +kernel) rfl ?_
        refine jr_c jm_65 (show jw_cd cd_65 61 = some (.invokevirtual 36) by decide +kernel) (ccv (n := 0) (m2 := 58) (ci := 1) (a := 1) (bs := []) (r := []) (js_cls cl_c1 (by decide)) (show jw_find jw_cvT 2 36 = some (0, [(1, 58)]) by decide +kernel) (by decide) rfl rfl rfl) jm_58 ⟨Nat.le_of_ble_eq_true rfl, by decide⟩ (jc_here hl hQ) ?_
        refine jr_1 jm_65 (show jw_cd cd_65 64 = some (.bipush 39) by decide +kernel) (mt_bi (by decide)) ?_
        refine jr_1 jm_65 (show jw_cd cd_65 66 = some (.if_icmp .ne 16) by decide +kernel) (mb_t (q := .ne) (a := tC T n q) (b := 39) (t := 82) (by show ¬ (tC T n q = 39); omega) ⟨by omega, by omega⟩ ⟨by omega, by omega⟩ (by decide) (by decide)) ?_
        refine jr_1 jm_65 (show jw_cd cd_65 82 = some (.aload_n 0) by decide +kernel) rfl ?_
        refine jr_1 jm_65 (show jw_cd cd_65 83 = some (.aload_n 0) by decide +kernel) rfl ?_
        refine jr_1 jm_65 (show jw_cd cd_65 84 = some (.getfield 19) by decide +kernel) (cg_4 (e := q) hQ.2.1 (show jw_fld 2 19 1 = some 2 by decide +kernel)) ?_
        refine jr_c jm_65 (show jw_cd cd_65 87 = some (.invokevirtual 32) by decide +kernel) (ccv (n := 1) (m2 := 62) (ci := 1) (a := 1) (bs := [.int (Int32.ofInt (q))]) (r := []) (js_cls cl_c1 (by decide)) (show jw_find jw_cvT 2 32 = some (1, [(1, 62)]) by decide +kernel) (by decide) rfl rfl rfl) jm_62 ⟨Nat.le_of_ble_eq_true rfl, by decide⟩ (jc_wrongAt hl hQ) ?_
        refine jr_1 jm_65 (show jw_cd cd_65 90 = some (.aload_n 0) by decide +kernel) rfl ?_
        refine jr_1 jm_65 (show jw_cd cd_65 91 = some (.getfield 28) by decide +kernel) (cgr_1_4 (show jw_fld 2 28 1 = some 4 by decide +kernel)) ?_
        refine jr_c jm_65 (show jw_cd cd_65 94 = some (.invokevirtual 54) by decide +kernel) (ccv (n := 0) (m2 := 73) (ci := 2) (a := 3) (bs := []) (r := []) (js_cls cl_c3 (by decide)) (show jw_find jw_cvT 2 54 = some (0, [(2, 73)]) by decide +kernel) (by decide) rfl rfl rfl) jm_73 ⟨Nat.le_of_ble_eq_true rfl, by decide⟩ z1 ?_
        exact jr_v jm_65 (show jw_cd cd_65 97 = some (.areturn) by decide +kernel) rfl
      · cases he
        exact cP_w hQ q0 (by omega)
theorem jc_readKeyW {β : Bool} {d : Nat} {h : jx_H} {κ : mS} (hl : 50 ≤ h.length) {N : Nat} {x : Nat → Prop} (hN : h.length = N) (hb32 : N < 3000000000) (hx : ∀ a, N ≤ a → ¬ x a) {T : Int → Int} {n e : Int} (hE : cE κ T n e) (hsc : 0 ≤ κ 7 0 ∧ κ 7 0 ≤ 16) : ∃ (κ' : mS) (L : List jx_C), jx_r (jz β) jw_M (d + 6) 98 (0, [some (.ref 1), none], [], (cl_mk h κ)) (cl_mk (h ++ L) (κ'), .inl (some (.ref (N)))) ∧ L.length = 2 ∧ cvol L ≤ 11 ∧ strR (h ++ L) x N [] ∧ mEq [7, 15] κ κ' ∧ (0 ≤ κ' 7 0 ∧ κ' 7 0 ≤ 16) ∧ cE κ' T n e := by
  obtain ⟨κ1, s1, s2, s3⟩ := jc_set0 (β := β) (d := d + 3) (h := h) hl rfl hsc
  have hE1 : cE κ1 T n e := cE_q hE s3 (by decide)
  obtain ⟨L, z1, z2, z3, z4⟩ := jc_scS (β := β) (d := d) (h := h) (κ := κ1) (x := x) hl hN hb32 hx (scP_0 s2) (by decide)
  refine ⟨κ1, L, ?_, z2, z3, z4, s3, by rw [s2]; decide, hE1⟩
  refine jr_1 jm_98 (show jw_cd cd_98 0 = some (.aload_n 0) by decide +kernel) rfl ?_
  refine jr_1 jm_98 (show jw_cd cd_98 1 = some (.getfield 28) by decide +kernel) (cgr_1_4 (show jw_fld 2 28 1 = some 4 by decide +kernel)) ?_
  refine jr_1 jm_98 (show jw_cd cd_98 4 = some (.iconst 0) by decide +kernel) rfl ?_
  refine jr_c jm_98 (show jw_cd cd_98 5 = some (.invokevirtual 40) by decide +kernel) (ccv (n := 1) (m2 := 66) (ci := 2) (a := 3) (bs := [.int (Int32.ofInt (0))]) (r := []) (js_cls cl_c3 (by decide)) (show jw_find jw_cvT 2 40 = some (1, [(2, 66)]) by decide +kernel) (by decide) rfl rfl rfl) jm_66 ⟨Nat.le_of_ble_eq_true rfl, by decide⟩ s1 ?_
  refine jr_1 jm_98 (show jw_cd cd_98 8 = some (.iconst 0) by decide +kernel) rfl ?_
  refine jr_1 jm_98 (F2 := (10, [some (.ref 1), some (.int (Int32.ofInt (0)))], [], (cl_mk h κ1))) (show jw_cd cd_98 9 = some (.istore_n 1) by decide +kernel) rfl ?_
  refine jr_1 jm_98 (show jw_cd cd_98 10 = some (.iload_n 1) by decide +kernel) rfl ?_
  refine jr_1 jm_98 (show jw_cd cd_98 11 = some (.bipush 7) by decide +kernel) (mt_bi (by decide)) ?_
  refine jr_1 jm_98 (show jw_cd cd_98 13 = some (.if_icmp .ge 41) by decide +kernel) (mb_f (q := .ge) (a := 0) (b := 7) (by show ¬ (7 ≤ 0); omega) ⟨by omega, by omega⟩ ⟨by omega, by omega⟩ (by decide)) ?_
  refine jr_1 jm_98 (show jw_cd cd_98 16 = some (.aload_n 0) by decide +kernel) rfl ?_
  refine jr_c jm_98 (show jw_cd cd_98 17 = some (.invokevirtual 36) by decide +kernel) (ccv (n := 0) (m2 := 58) (ci := 1) (a := 1) (bs := []) (r := []) (js_cls cl_c1 (by decide)) (show jw_find jw_cvT 2 36 = some (0, [(1, 58)]) by decide +kernel) (by decide) rfl rfl rfl) jm_58 ⟨Nat.le_of_ble_eq_true rfl, by decide⟩ (jc_hereW hl hE1.2.1) ?_
  refine jr_c jm_98 (show jw_cd cd_98 20 = some (.invokestatic 43) by decide +kernel) (mc_s (n := 1) (m2 := 99) (bs := [.int (Int32.ofInt (0))]) (r := []) (by decide) (show jw_find jw_csT 2 43 = some (99, 1) by decide +kernel) rfl rfl rfl) jm_99 ⟨Nat.le_of_ble_eq_true rfl, by decide⟩ (jc_isK_f hl ⟨by decide, by decide⟩ (by decide)) ?_
  refine jr_1 jm_98 (show jw_cd cd_98 23 = some (.ifCond .eq 31) by decide +kernel) (mz_t (q := .eq) (a := 0) (t := 54) (by show 0 = 0; omega) ⟨by omega, by omega⟩ (by decide) (by decide)) ?_
  refine jr_1 jm_98 (show jw_cd cd_98 54 = some (.aload_n 0) by decide +kernel) rfl ?_
  refine jr_1 jm_98 (show jw_cd cd_98 55 = some (.getfield 28) by decide +kernel) (cgr_1_4 (show jw_fld 2 28 1 = some 4 by decide +kernel)) ?_
  refine jr_c jm_98 (show jw_cd cd_98 58 = some (.invokevirtual 51) by decide +kernel) (ccv (n := 0) (m2 := 77) (ci := 2) (a := 3) (bs := []) (r := []) (js_cls cl_c3 (by decide)) (show jw_find jw_cvT 2 51 = some (0, [(2, 77)]) by decide +kernel) (by decide) rfl rfl rfl) jm_77 ⟨Nat.le_of_ble_eq_true rfl, by decide⟩ (jc_len hl s2) ?_
  refine jr_1 jm_98 (show jw_cd cd_98 61 = some (.ifCond .eq 13) by decide +kernel) (mz_t (q := .eq) (a := 0) (t := 74) (by show 0 = 0; omega) ⟨by omega, by omega⟩ (by decide) (by decide)) ?_
  refine jr_1 jm_98 (show jw_cd cd_98 74 = some (.aload_n 0) by decide +kernel) rfl ?_
  refine jr_1 jm_98 (show jw_cd cd_98 75 = some (.aload_n 0) by decide +kernel) rfl ?_
  refine jr_1 jm_98 (show jw_cd cd_98 76 = some (.getfield 19) by decide +kernel) (cg_4 (e := κ1 4 0) rfl (show jw_fld 2 19 1 = some 2 by decide +kernel)) ?_
  refine jr_c jm_98 (show jw_cd cd_98 79 = some (.invokevirtual 32) by decide +kernel) (ccv (n := 1) (m2 := 62) (ci := 1) (a := 1) (bs := [.int (Int32.ofInt (κ1 4 0))]) (r := []) (js_cls cl_c1 (by decide)) (show jw_find jw_cvT 2 32 = some (1, [(1, 62)]) by decide +kernel) (by decide) rfl rfl rfl) jm_62 ⟨Nat.le_of_ble_eq_true rfl, by decide⟩ (jc_wrongW hl hE1.2.1) ?_
  refine jr_1 jm_98 (show jw_cd cd_98 82 = some (.aload_n 0) by decide +kernel) rfl ?_
  refine jr_1 jm_98 (show jw_cd cd_98 83 = some (.getfield 28) by decide +kernel) (cgr_1_4 (show jw_fld 2 28 1 = some 4 by decide +kernel)) ?_
  refine jr_c jm_98 (show jw_cd cd_98 86 = some (.invokevirtual 54) by decide +kernel) (ccv (n := 0) (m2 := 73) (ci := 2) (a := 3) (bs := []) (r := []) (js_cls cl_c3 (by decide)) (show jw_find jw_cvT 2 54 = some (0, [(2, 73)]) by decide +kernel) (by decide) rfl rfl rfl) jm_73 ⟨Nat.le_of_ble_eq_true rfl, by decide⟩ z1 ?_
  exact jr_v jm_98 (show jw_cd cd_98 89 = some (.areturn) by decide +kernel) rfl
theorem jc_readQW {β : Bool} {d : Nat} {h : jx_H} {κ : mS} (hl : 50 ≤ h.length) {N : Nat} {x : Nat → Prop} (hN : h.length = N) (hb32 : N < 3000000000) (hx : ∀ a, N ≤ a → ¬ x a) {T : Int → Int} {n e : Int} (hE : cE κ T n e) (hsc : 0 ≤ κ 7 0 ∧ κ 7 0 ≤ 16) : ∃ (κ' : mS) (L : List jx_C), jx_r (jz β) jw_M (d + 6) 65 (0, [some (.ref 1), none], [], (cl_mk h κ)) (cl_mk (h ++ L) (κ'), .inl (some (.ref (N)))) ∧ L.length = 2 ∧ cvol L ≤ 11 ∧ strR (h ++ L) x N [] ∧ mEq [7, 15] κ κ' ∧ (0 ≤ κ' 7 0 ∧ κ' 7 0 ≤ 16) ∧ cE κ' T n e := by
  obtain ⟨κ1, s1, s2, s3⟩ := jc_set0 (β := β) (d := d + 3) (h := h) hl rfl hsc
  have hE1 : cE κ1 T n e := cE_q hE s3 (by decide)
  obtain ⟨L, z1, z2, z3, z4⟩ := jc_scS (β := β) (d := d) (h := h) (κ := κ1) (x := x) hl hN hb32 hx (scP_0 s2) (by decide)
  refine ⟨κ1, L, ?_, z2, z3, z4, s3, by rw [s2]; decide, hE1⟩
  refine jr_1 jm_65 (show jw_cd cd_65 0 = some (.aload_n 0) by decide +kernel) rfl ?_
  refine jr_1 jm_65 (show jw_cd cd_65 1 = some (.getfield 28) by decide +kernel) (cgr_1_4 (show jw_fld 2 28 1 = some 4 by decide +kernel)) ?_
  refine jr_1 jm_65 (show jw_cd cd_65 4 = some (.iconst 0) by decide +kernel) rfl ?_
  refine jr_c jm_65 (show jw_cd cd_65 5 = some (.invokevirtual 40) by decide +kernel) (ccv (n := 1) (m2 := 66) (ci := 2) (a := 3) (bs := [.int (Int32.ofInt (0))]) (r := []) (js_cls cl_c3 (by decide)) (show jw_find jw_cvT 2 40 = some (1, [(2, 66)]) by decide +kernel) (by decide) rfl rfl rfl) jm_66 ⟨Nat.le_of_ble_eq_true rfl, by decide⟩ s1 ?_
  refine jr_1 jm_65 (show jw_cd cd_65 8 = some (.iconst 0) by decide +kernel) rfl ?_
  refine jr_1 jm_65 (F2 := (10, [some (.ref 1), some (.int (Int32.ofInt (0)))], [], (cl_mk h κ1))) (show jw_cd cd_65 9 = some (.istore_n 1) by decide +kernel) rfl ?_
  refine jr_1 jm_65 (show jw_cd cd_65 10 = some (.iload_n 1) by decide +kernel) rfl ?_
  refine jr_1 jm_65 (show jw_cd cd_65 11 = some (.bipush 7) by decide +kernel) (mt_bi (by decide)) ?_
  refine jr_1 jm_65 (show jw_cd cd_65 13 = some (.if_icmp .ge 47) by decide +kernel) (mb_f (q := .ge) (a := 0) (b := 7) (by show ¬ (7 ≤ 0); omega) ⟨by omega, by omega⟩ ⟨by omega, by omega⟩ (by decide)) ?_
  refine jr_1 jm_65 (show jw_cd cd_65 16 = some (.aload_n 0) by decide +kernel) rfl ?_
  refine jr_c jm_65 (show jw_cd cd_65 17 = some (.invokevirtual 36) by decide +kernel) (ccv (n := 0) (m2 := 58) (ci := 1) (a := 1) (bs := []) (r := []) (js_cls cl_c1 (by decide)) (show jw_find jw_cvT 2 36 = some (0, [(1, 58)]) by decide +kernel) (by decide) rfl rfl rfl) jm_58 ⟨Nat.le_of_ble_eq_true rfl, by decide⟩ (jc_hereW hl hE1.2.1) ?_
  refine jr_1 jm_65 (show jw_cd cd_65 20 = some (.bipush 39) by decide +kernel) (mt_bi (by decide)) ?_
  refine jr_1 jm_65 (show jw_cd cd_65 22 = some (.if_icmp .eq 38) by decide +kernel) (mb_f (q := .eq) (a := 0) (b := 39) (by show ¬ (0 = 39); omega) ⟨by omega, by omega⟩ ⟨by omega, by omega⟩ (by decide)) ?_
  refine jr_1 jm_65 (show jw_cd cd_65 25 = some (.aload_n 0) by decide +kernel) rfl ?_
  refine jr_c jm_65 (show jw_cd cd_65 26 = some (.invokevirtual 36) by decide +kernel) (ccv (n := 0) (m2 := 58) (ci := 1) (a := 1) (bs := []) (r := []) (js_cls cl_c1 (by decide)) (show jw_find jw_cvT 2 36 = some (0, [(1, 58)]) by decide +kernel) (by decide) rfl rfl rfl) jm_58 ⟨Nat.le_of_ble_eq_true rfl, by decide⟩ (jc_hereW hl hE1.2.1) ?_
  refine jr_1 jm_65 (show jw_cd cd_65 29 = some (.ifCond .eq 31) by decide +kernel) (mz_t (q := .eq) (a := 0) (t := 60) (by show 0 = 0; omega) ⟨by omega, by omega⟩ (by decide) (by decide)) ?_
  refine jr_1 jm_65 (show jw_cd cd_65 60 = some (.aload_n 0) by decide +kernel) rfl ?_
  refine jr_c jm_65 (show jw_cd cd_65 61 = some (.invokevirtual 36) by decide +kernel) (ccv (n := 0) (m2 := 58) (ci := 1) (a := 1) (bs := []) (r := []) (js_cls cl_c1 (by decide)) (show jw_find jw_cvT 2 36 = some (0, [(1, 58)]) by decide +kernel) (by decide) rfl rfl rfl) jm_58 ⟨Nat.le_of_ble_eq_true rfl, by decide⟩ (jc_hereW hl hE1.2.1) ?_
  refine jr_1 jm_65 (show jw_cd cd_65 64 = some (.bipush 39) by decide +kernel) (mt_bi (by decide)) ?_
  refine jr_1 jm_65 (show jw_cd cd_65 66 = some (.if_icmp .ne 16) by decide +kernel) (mb_t (q := .ne) (a := 0) (b := 39) (t := 82) (by show ¬ (0 = 39); omega) ⟨by omega, by omega⟩ ⟨by omega, by omega⟩ (by decide) (by decide)) ?_
  refine jr_1 jm_65 (show jw_cd cd_65 82 = some (.aload_n 0) by decide +kernel) rfl ?_
  refine jr_1 jm_65 (show jw_cd cd_65 83 = some (.aload_n 0) by decide +kernel) rfl ?_
  refine jr_1 jm_65 (show jw_cd cd_65 84 = some (.getfield 19) by decide +kernel) (cg_4 (e := κ1 4 0) rfl (show jw_fld 2 19 1 = some 2 by decide +kernel)) ?_
  refine jr_c jm_65 (show jw_cd cd_65 87 = some (.invokevirtual 32) by decide +kernel) (ccv (n := 1) (m2 := 62) (ci := 1) (a := 1) (bs := [.int (Int32.ofInt (κ1 4 0))]) (r := []) (js_cls cl_c1 (by decide)) (show jw_find jw_cvT 2 32 = some (1, [(1, 62)]) by decide +kernel) (by decide) rfl rfl rfl) jm_62 ⟨Nat.le_of_ble_eq_true rfl, by decide⟩ (jc_wrongW hl hE1.2.1) ?_
  refine jr_1 jm_65 (show jw_cd cd_65 90 = some (.aload_n 0) by decide +kernel) rfl ?_
  refine jr_1 jm_65 (show jw_cd cd_65 91 = some (.getfield 28) by decide +kernel) (cgr_1_4 (show jw_fld 2 28 1 = some 4 by decide +kernel)) ?_
  refine jr_c jm_65 (show jw_cd cd_65 94 = some (.invokevirtual 54) by decide +kernel) (ccv (n := 0) (m2 := 73) (ci := 2) (a := 3) (bs := []) (r := []) (js_cls cl_c3 (by decide)) (show jw_find jw_cvT 2 54 = some (0, [(2, 73)]) by decide +kernel) (by decide) rfl rfl rfl) jm_73 ⟨Nat.le_of_ble_eq_true rfl, by decide⟩ z1 ?_
  exact jr_v jm_65 (show jw_cd cd_65 97 = some (.areturn) by decide +kernel) rfl
