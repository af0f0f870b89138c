/-! ===== the class: query (printed by program: gen119.py) ===== -/
theorem cs_11 {β : Bool} {cd : Nat → Option Instr} {own pc : Nat} {rt : Option FieldType × Bool} {lo : jx_L} {st : List Value} {h : jx_H} {κ : mS} {i : Int} {v : Nat} (h0 : 0 ≤ i) (h1 : i < 12) (hv : jx_cls (jz β) (cl_mk h κ) v = some 11) : jx_do (jz β) cd own pc rt .aastore lo (.ref v :: .int (Int32.ofInt i) :: .ref 12 :: st) (cl_mk h κ) = some (.inl (pc + 1, lo, st, cl_mk h (su κ 11 i (v : Int)))) := by
  obtain ⟨k1, k2⟩ := ci_nat (n := 12) (by decide) h0 h1
  have e0 : jx_arr (jz β) (cl_mk h κ) 12 = some (5, 12, fun i : Nat => if κ 11 i < 0 then .null else .ref (κ 11 i).toNat) := js_arr cl_c12 (by decide)
  have e1 : jx_may (jz β) (cl_mk h κ) 5 (.ref v) = true := by
    unfold jx_may
    simp only [hv]
    rfl
  have e := js_ast (T := jz β) (ok := jx_isRefTy) (pc := pc) (lo := lo) (st := st) (v := .ref v) (cl_c12 (h := h) (κ := κ)) (by decide) (ty := .object "PickDesk$Query") rfl rfl rfl k1
  have er : updV (fun j : Nat => if κ 11 j < 0 then Value.null else .ref (κ 11 j).toNat) i.toNat (.ref v) = fun j : Nat => if su κ 11 i (v : Int) 11 j < 0 then Value.null else .ref (su κ 11 i (v : Int) 11 j).toNat := by
    funext j
    by_cases hj : j = i.toNat
    · subst hj
      rw [updV_at, show ((i.toNat : Nat) : Int) = i by omega, su_eq, if_neg (by omega), Int.toNat_natCast]
    · rw [updV_ne _ _ hj, su_ni (by omega)]
  rw [narrow_of_fits (by rfl), k2, er] at e
  simp only [jx_do, e0, e1]
  exact e
theorem jc_query {β : Bool} {d : Nat} {h : jx_H} {κ : mS} (hl : 50 ≤ h.length) {N : Nat} (hN : h.length = N) {X : Nat → Prop} (hx : ∀ c, N ≤ c → ¬ X c) {T : Int → Int} {n : Int} {Q : Nat} (hb32 : (N : Int) + 68 * n + 1000 < 2600000000) (hP : cP κ T n 0) (hsc : 0 ≤ κ 7 0 ∧ κ 7 0 ≤ 16) (e0 : κ 0 0 = ((Q : Nat) : Int)) (hQ : Q < 12) : ∃ (κ' : mS) (h' : jx_H), (∀ (c : Nat) (y : jx_C), h[c]? = some y → h'[c]? = some y) ∧ (N : Int) ≤ h'.length ∧ (h'.length : Int) ≤ N + 68 * n + 210 ∧ (cvol h' : Int) ≤ cvol h + 380 * n + 1600 ∧ mEq [0, 3, 4, 5, 7, 8, 9, 11, 15] κ κ' ∧ (0 ≤ κ' 7 0 ∧ κ' 7 0 ≤ 16) ∧ (κ' 3 0 = 0 ∧ κ' 4 0 = 0 ∧ κ' 5 0 = -1) ∧ (∀ e, sQry T n = .inl e → jx_r (jz β) jw_M (d + 13) 122 (0, [some (.ref 0), none, none], [], (cl_mk h κ)) (cl_mk h' (κ'), .inl (some (.int (Int32.ofInt (-1 - e))))) ∧ κ' 0 = κ 0 ∧ κ' 11 = κ 11) ∧ (∀ l, sQry T n = .inr l → jx_r (jz β) jw_M (d + 13) 122 (0, [some (.ref 0), none, none], [], (cl_mk h κ)) (cl_mk h' (κ'), .inl (some (.int (Int32.ofInt (((Q : Nat) : Int)))))) ∧ κ' 0 0 = ((Q : Nat) : Int) + 1 ∧ (∃ b : Nat, κ' 11 ((Q : Nat) : Int) = (b : Int) ∧ qyR h' X b l) ∧ (∀ i, ¬ i = ((Q : Nat) : Int) → κ' 11 i = κ 11 i)) := by
  have hn0 := hP.1.2.2.1
  have hn160 := hP.1.2.2.2.1
  obtain ⟨κ1, h1, c1, w1, w2, w3, w4, w5, w6, w7, w8⟩ := jc_read (β := β) (d := d) hl hN hx hb32 hP hsc
  have hl1 : 50 ≤ h1.length := by omega
  have mq : ∀ κ2, mEq [3, 4, 5] κ1 κ2 → mEq [0, 3, 4, 5, 7, 8, 9, 11, 15] κ κ2 ∧ (0 ≤ κ2 7 0 ∧ κ2 7 0 ≤ 16) ∧ κ2 0 = κ 0 ∧ κ2 11 = κ 11 := fun κ2 hm => ⟨mEq_trans (mEq_sub w3 (by decide)) (mEq_sub hm (by decide)), by rw [hm 7 (by decide)]; exact w4, (hm 0 (by decide)).trans (w3 0 (by decide)), (hm 11 (by decide)).trans (w3 11 (by decide))⟩
  have m3 : ∀ κ2 : mS, mEq [3, 4, 5] κ2 ((su (su (su κ2 3 (0) (0)) 4 (0) (0)) 5 (0) (-1))) := fun κ2 => mEq_su (mEq_su (mEq_su (mEq_refl _ _) (by decide)) (by decide)) (by decide)
  cases hs : sQry T n with
  | inl e =>
    rcases w6 e hs with hE | ⟨hPq, hq⟩
    · have e3 : κ1 3 0 = n := hE.1.1
      have hp0 := hE.2.2.1
      have hp1 : κ1 4 0 ≤ 160 := by have := hE.2.2.2; omega
      have he1 := hE.2.1.2.1
      have he2 := hE.2.1.2.2
      obtain ⟨a1, a2, a3, a4⟩ := mq _ (m3 κ1)
      refine ⟨_, h1, w1, by omega, w7, w8, a1, a2, ⟨by rw [su_nf (by decide), su_nf (by decide), su_eq], by rw [su_nf (by decide), su_eq], su_eq _ _ _ _⟩, fun e' hh => ⟨?_, a3, a4⟩, fun l hh => (by cases hh)⟩
      injection hh with hh
      rw [← hh]
      refine jr_1 jm_122 (show jw_cd cd_122 0 = some (.aload_n 0) by decide +kernel) rfl ?_
      refine jr_1 jm_122 (show jw_cd cd_122 1 = some (.getfield 53) by decide +kernel) (cg_0 (e := ((Q : Nat) : Int)) e0 (show jw_fld 0 53 0 = some 5 by decide +kernel)) ?_
      refine jr_1 jm_122 (show jw_cd cd_122 4 = some (.bipush 12) by decide +kernel) (mt_bi (by decide)) ?_
      refine jr_1 jm_122 (show jw_cd cd_122 6 = some (.if_icmp .lt 11) by decide +kernel) (mb_t (q := .lt) (a := ((Q : Nat) : Int)) (b := 12) (t := 17) (by show ((Q : Nat) : Int) < 12; omega) ⟨by omega, by omega⟩ ⟨by omega, by omega⟩ (by decide) (by decide)) ?_
      refine jr_1 jm_122 (show jw_cd cd_122 17 = some (.aload_n 0) by decide +kernel) rfl ?_
      refine jr_1 jm_122 (show jw_cd cd_122 18 = some (.getfield 28) by decide +kernel) (cgr_0_2 (show jw_fld 0 28 0 = some 2 by decide +kernel)) ?_
      refine jr_c jm_122 (show jw_cd cd_122 21 = some (.invokevirtual 103) by decide +kernel) (ccv (n := 0) (m2 := 123) (ci := 4) (a := 6) (bs := []) (r := []) (js_cls cl_c6 (by decide)) (show jw_find jw_cvT 0 103 = some (0, [(4, 123)]) by decide +kernel) (by decide) rfl rfl rfl) jm_123 ⟨Nat.le_of_ble_eq_true rfl, by decide⟩ c1 ?_
      refine jr_1 jm_122 (F2 := (25, [some (.ref 0), some (.ref N), none], [], (cl_mk h1 κ1))) (show jw_cd cd_122 24 = some (.astore_n 1) by decide +kernel) rfl ?_
      refine jr_1 jm_122 (show jw_cd cd_122 25 = some (.aload_n 0) by decide +kernel) rfl ?_
      refine jr_1 jm_122 (show jw_cd cd_122 26 = some (.getfield 10) by decide +kernel) (cgr_0_0 (show jw_fld 0 10 0 = some 0 by decide +kernel)) ?_
      refine jr_c jm_122 (show jw_cd cd_122 29 = some (.invokevirtual 95) by decide +kernel) (ccv (n := 0) (m2 := 104) (ci := 1) (a := 1) (bs := []) (r := []) (js_cls cl_c1 (by decide)) (show jw_find jw_cvT 0 95 = some (0, [(1, 104)]) by decide +kernel) (by decide) rfl rfl rfl) jm_104 ⟨Nat.le_of_ble_eq_true rfl, by decide⟩ (jc_endW hl1 hE.2.1 e3 rfl ⟨hn0, hn160⟩ ⟨hp0, hp1⟩) ?_
      refine jr_1 jm_122 (F2 := (33, [some (.ref 0), some (.ref N), some (.int (Int32.ofInt (e)))], [], (cl_mk h1 (su (su (su κ1 3 (0) (0)) 4 (0) (0)) 5 (0) (-1))))) (show jw_cd cd_122 32 = some (.istore_n 2) by decide +kernel) rfl ?_
      refine jr_1 jm_122 (show jw_cd cd_122 33 = some (.iload_n 2) by decide +kernel) rfl ?_
      refine jr_1 jm_122 (show jw_cd cd_122 34 = some (.iconst (-1)) by decide +kernel) rfl ?_
      refine jr_1 jm_122 (show jw_cd cd_122 35 = some (.if_icmp .eq 7) by decide +kernel) (mb_f (q := .eq) (a := e) (b := -1) (by show ¬ (e = -1); omega) ⟨by omega, by omega⟩ ⟨by omega, by omega⟩ (by decide)) ?_
      refine jr_1 jm_122 (show jw_cd cd_122 38 = some (.iconst (-1)) by decide +kernel) rfl ?_
      refine jr_1 jm_122 (show jw_cd cd_122 39 = some (.iload_n 2) by decide +kernel) rfl ?_
      refine jr_1 jm_122 (show jw_cd cd_122 40 = some (.isub) by decide +kernel) (mt_sub (c := -1 - e) rfl) ?_
      exact jr_v jm_122 (show jw_cd cd_122 41 = some (.ireturn) by decide +kernel) rfl
    · have he1 := hPq.2.2.2.1
      obtain ⟨a1, a2, a3, a4⟩ := mq ((su (su (su (su κ1 5 (0) (e)) 3 (0) (0)) 4 (0) (0)) 5 (0) (-1))) (mEq_su (mEq_su (mEq_su (mEq_su (mEq_refl _ _) (by decide)) (by decide)) (by decide)) (by decide))
      refine ⟨_, h1, w1, by omega, w7, w8, a1, a2, ⟨by rw [su_nf (by decide), su_nf (by decide), su_eq], by rw [su_nf (by decide), su_eq], su_eq _ _ _ _⟩, fun e' hh => ⟨?_, a3, a4⟩, fun l hh => (by cases hh)⟩
      injection hh with hh
      rw [← hh]
      refine jr_1 jm_122 (show jw_cd cd_122 0 = some (.aload_n 0) by decide +kernel) rfl ?_
      refine jr_1 jm_122 (show jw_cd cd_122 1 = some (.getfield 53) by decide +kernel) (cg_0 (e := ((Q : Nat) : Int)) e0 (show jw_fld 0 53 0 = some 5 by decide +kernel)) ?_
      refine jr_1 jm_122 (show jw_cd cd_122 4 = some (.bipush 12) by decide +kernel) (mt_bi (by decide)) ?_
      refine jr_1 jm_122 (show jw_cd cd_122 6 = some (.if_icmp .lt 11) by decide +kernel) (mb_t (q := .lt) (a := ((Q : Nat) : Int)) (b := 12) (t := 17) (by show ((Q : Nat) : Int) < 12; omega) ⟨by omega, by omega⟩ ⟨by omega, by omega⟩ (by decide) (by decide)) ?_
      refine jr_1 jm_122 (show jw_cd cd_122 17 = some (.aload_n 0) by decide +kernel) rfl ?_
      refine jr_1 jm_122 (show jw_cd cd_122 18 = some (.getfield 28) by decide +kernel) (cgr_0_2 (show jw_fld 0 28 0 = some 2 by decide +kernel)) ?_
      refine jr_c jm_122 (show jw_cd cd_122 21 = some (.invokevirtual 103) by decide +kernel) (ccv (n := 0) (m2 := 123) (ci := 4) (a := 6) (bs := []) (r := []) (js_cls cl_c6 (by decide)) (show jw_find jw_cvT 0 103 = some (0, [(4, 123)]) by decide +kernel) (by decide) rfl rfl rfl) jm_123 ⟨Nat.le_of_ble_eq_true rfl, by decide⟩ c1 ?_
      refine jr_1 jm_122 (F2 := (25, [some (.ref 0), some (.ref N), none], [], (cl_mk h1 κ1))) (show jw_cd cd_122 24 = some (.astore_n 1) by decide +kernel) rfl ?_
      refine jr_1 jm_122 (show jw_cd cd_122 25 = some (.aload_n 0) by decide +kernel) rfl ?_
      refine jr_1 jm_122 (show jw_cd cd_122 26 = some (.getfield 10) by decide +kernel) (cgr_0_0 (show jw_fld 0 10 0 = some 0 by decide +kernel)) ?_
      refine jr_c jm_122 (show jw_cd cd_122 29 = some (.invokevirtual 95) by decide +kernel) (ccv (n := 0) (m2 := 104) (ci := 1) (a := 1) (bs := []) (r := []) (js_cls cl_c1 (by decide)) (show jw_find jw_cvT 0 95 = some (0, [(1, 104)]) by decide +kernel) (by decide) rfl rfl rfl) jm_104 ⟨Nat.le_of_ble_eq_true rfl, by decide⟩ ((jc_end hl1 hPq).1 hq) ?_
      refine jr_1 jm_122 (F2 := (33, [some (.ref 0), some (.ref N), some (.int (Int32.ofInt (e)))], [], (cl_mk h1 (su (su (su (su κ1 5 (0) (e)) 3 (0) (0)) 4 (0) (0)) 5 (0) (-1))))) (show jw_cd cd_122 32 = some (.istore_n 2) by decide +kernel) rfl ?_
      refine jr_1 jm_122 (show jw_cd cd_122 33 = some (.iload_n 2) by decide +kernel) rfl ?_
      refine jr_1 jm_122 (show jw_cd cd_122 34 = some (.iconst (-1)) by decide +kernel) rfl ?_
      refine jr_1 jm_122 (show jw_cd cd_122 35 = some (.if_icmp .eq 7) by decide +kernel) (mb_f (q := .eq) (a := e) (b := -1) (by show ¬ (e = -1); omega) ⟨by omega, by omega⟩ ⟨by omega, by omega⟩ (by decide)) ?_
      refine jr_1 jm_122 (show jw_cd cd_122 38 = some (.iconst (-1)) by decide +kernel) rfl ?_
      refine jr_1 jm_122 (show jw_cd cd_122 39 = some (.iload_n 2) by decide +kernel) rfl ?_
      refine jr_1 jm_122 (show jw_cd cd_122 40 = some (.isub) by decide +kernel) (mt_sub (c := -1 - e) rfl) ?_
      exact jr_v jm_122 (show jw_cd cd_122 41 = some (.ireturn) by decide +kernel) rfl
  | inr l =>
    obtain ⟨hqy, q, hPq, hq⟩ := w5 l hs
    obtain ⟨a1, a2, a3, a4⟩ := mq _ (m3 κ1)
    obtain ⟨κ2, ek⟩ : ∃ κ2, κ2 = (su (su (su κ1 3 (0) (0)) 4 (0) (0)) 5 (0) (-1)) := ⟨_, rfl⟩
    rw [← ek] at a1 a2 a3 a4
    have n0 : κ2 0 0 = ((Q : Nat) : Int) := by rw [a3]; exact e0
    have b3 : κ2 3 0 = 0 ∧ κ2 4 0 = 0 ∧ κ2 5 0 = -1 := by rw [ek]; exact ⟨by rw [su_nf (by decide), su_nf (by decide), su_eq], by rw [su_nf (by decide), su_eq], su_eq _ _ _ _⟩
    have hcq : jx_cls (jz β) (cl_mk h1 κ2) N = some 11 := by
      obtain ⟨z, la, ea, cap, f, hA, -⟩ := hqy
      exact js_cls (cl_old hl1 ⟨by omega, hA⟩) (jbg (by omega))
    refine ⟨(su (su κ2 11 (((Q : Nat) : Int)) (((N : Nat) : Int))) 0 (0) (((Q : Nat) : Int) + 1)), h1, w1, by omega, w7, w8, mEq_su (mEq_su a1 (by decide)) (by decide), by rw [su_nf (by decide), su_nf (by decide)]; exact a2, by rw [su_nf (by decide), su_nf (by decide), su_nf (by decide), su_nf (by decide), su_nf (by decide), su_nf (by decide)]; exact b3, fun e' hh => (by cases hh), fun l' hh => ⟨?_, su_eq _ _ _ _, ⟨N, by rw [su_nf (by decide), su_eq], ?_⟩, fun i hi => by rw [su_nf (by decide), su_ni hi, a4]⟩⟩
    · injection hh with hh
      refine jr_1 jm_122 (show jw_cd cd_122 0 = some (.aload_n 0) by decide +kernel) rfl ?_
      refine jr_1 jm_122 (show jw_cd cd_122 1 = some (.getfield 53) by decide +kernel) (cg_0 (e := ((Q : Nat) : Int)) e0 (show jw_fld 0 53 0 = some 5 by decide +kernel)) ?_
      refine jr_1 jm_122 (show jw_cd cd_122 4 = some (.bipush 12) by decide +kernel) (mt_bi (by decide)) ?_
      refine jr_1 jm_122 (show jw_cd cd_122 6 = some (.if_icmp .lt 11) by decide +kernel) (mb_t (q := .lt) (a := ((Q : Nat) : Int)) (b := 12) (t := 17) (by show ((Q : Nat) : Int) < 12; omega) ⟨by omega, by omega⟩ ⟨by omega, by omega⟩ (by decide) (by decide)) ?_
      refine jr_1 jm_122 (show jw_cd cd_122 17 = some (.aload_n 0) by decide +kernel) rfl ?_
      refine jr_1 jm_122 (show jw_cd cd_122 18 = some (.getfield 28) by decide +kernel) (cgr_0_2 (show jw_fld 0 28 0 = some 2 by decide +kernel)) ?_
      refine jr_c jm_122 (show jw_cd cd_122 21 = some (.invokevirtual 103) by decide +kernel) (ccv (n := 0) (m2 := 123) (ci := 4) (a := 6) (bs := []) (r := []) (js_cls cl_c6 (by decide)) (show jw_find jw_cvT 0 103 = some (0, [(4, 123)]) by decide +kernel) (by decide) rfl rfl rfl) jm_123 ⟨Nat.le_of_ble_eq_true rfl, by decide⟩ c1 ?_
      refine jr_1 jm_122 (F2 := (25, [some (.ref 0), some (.ref N), none], [], (cl_mk h1 κ1))) (show jw_cd cd_122 24 = some (.astore_n 1) by decide +kernel) rfl ?_
      refine jr_1 jm_122 (show jw_cd cd_122 25 = some (.aload_n 0) by decide +kernel) rfl ?_
      refine jr_1 jm_122 (show jw_cd cd_122 26 = some (.getfield 10) by decide +kernel) (cgr_0_0 (show jw_fld 0 10 0 = some 0 by decide +kernel)) ?_
      refine jr_c jm_122 (show jw_cd cd_122 29 = some (.invokevirtual 95) by decide +kernel) (ccv (n := 0) (m2 := 104) (ci := 1) (a := 1) (bs := []) (r := []) (js_cls cl_c1 (by decide)) (show jw_find jw_cvT 0 95 = some (0, [(1, 104)]) by decide +kernel) (by decide) rfl rfl rfl) jm_104 ⟨Nat.le_of_ble_eq_true rfl, by decide⟩ ((jc_end hl1 hPq).2 hq) ?_
      rw [← ek]
      refine jr_1 jm_122 (F2 := (33, [some (.ref 0), some (.ref N), some (.int (Int32.ofInt (-1)))], [], (cl_mk h1 κ2))) (show jw_cd cd_122 32 = some (.istore_n 2) by decide +kernel) rfl ?_
      refine jr_1 jm_122 (show jw_cd cd_122 33 = some (.iload_n 2) by decide +kernel) rfl ?_
      refine jr_1 jm_122 (show jw_cd cd_122 34 = some (.iconst (-1)) by decide +kernel) rfl ?_
      refine jr_1 jm_122 (show jw_cd cd_122 35 = some (.if_icmp .eq 7) by decide +kernel) (mb_t (q := .eq) (a := -1) (b := -1) (t := 42) (by show -1 = -1; omega) ⟨by omega, by omega⟩ ⟨by omega, by omega⟩ (by decide) (by decide)) ?_
      refine jr_1 jm_122 (show jw_cd cd_122 42 = some (.aload_n 0) by decide +kernel) rfl ?_
      refine jr_1 jm_122 (show jw_cd cd_122 43 = some (.getfield 49) by decide +kernel) (cgr_0_4 (show jw_fld 0 49 0 = some 4 by decide +kernel)) ?_
      refine jr_1 jm_122 (show jw_cd cd_122 46 = some (.aload_n 0) by decide +kernel) rfl ?_
      refine jr_1 jm_122 (show jw_cd cd_122 47 = some (.getfield 53) by decide +kernel) (cg_0 (e := ((Q : Nat) : Int)) n0 (show jw_fld 0 53 0 = some 5 by decide +kernel)) ?_
      refine jr_1 jm_122 (show jw_cd cd_122 50 = some (.aload_n 1) by decide +kernel) rfl ?_
      refine jr_1 jm_122 (F2 := (52, [some (.ref 0), some (.ref N), some (.int (Int32.ofInt (-1)))], [], (cl_mk h1 (su κ2 11 (((Q : Nat) : Int)) (((N : Nat) : Int)))))) (show jw_cd cd_122 51 = some (.aastore) by decide +kernel) (cs_11 (by omega) (by omega) hcq) ?_
      refine jr_1 jm_122 (show jw_cd cd_122 52 = some (.aload_n 0) by decide +kernel) rfl ?_
      refine jr_1 jm_122 (show jw_cd cd_122 53 = some (.dup) by decide +kernel) rfl ?_
      refine jr_1 jm_122 (show jw_cd cd_122 54 = some (.getfield 53) by decide +kernel) (cg_0 (e := ((Q : Nat) : Int)) ((su_nf (by decide)).trans n0) (show jw_fld 0 53 0 = some 5 by decide +kernel)) ?_
      refine jr_1 jm_122 (show jw_cd cd_122 57 = some (.iconst 1) by decide +kernel) rfl ?_
      refine jr_1 jm_122 (show jw_cd cd_122 58 = some (.iadd) by decide +kernel) (mt_add (c := ((Q : Nat) : Int) + 1) rfl) ?_
      refine jr_1 jm_122 (show jw_cd cd_122 59 = some (.putfield 53) by decide +kernel) (cp_0 (x := ((Q : Nat) : Int) + 1) (show jw_fld 0 53 0 = some 5 by decide +kernel) (show jw_fm 0 0 5 = some false by decide +kernel)) ?_
      refine jr_1 jm_122 (show jw_cd cd_122 62 = some (.aload_n 0) by decide +kernel) rfl ?_
      refine jr_1 jm_122 (show jw_cd cd_122 63 = some (.getfield 53) by decide +kernel) (cg_0 (e := ((Q : Nat) : Int) + 1) (su_eq _ _ _ _) (show jw_fld 0 53 0 = some 5 by decide +kernel)) ?_
      refine jr_1 jm_122 (show jw_cd cd_122 66 = some (.iconst 1) by decide +kernel) rfl ?_
      refine jr_1 jm_122 (show jw_cd cd_122 67 = some (.isub) by decide +kernel) (mt_sub (c := ((Q : Nat) : Int)) (by omega)) ?_
      exact jr_v jm_122 (show jw_cd cd_122 68 = some (.ireturn) by decide +kernel) rfl
    · injection hh with hh
      rw [← hh]
      exact hqy
