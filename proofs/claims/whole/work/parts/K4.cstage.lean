/-! ===== the class: readWordOrKey, the loop of readStage (printed by program: gen116.py) ===== -/
theorem jm_128 : jw_M 128 = some (7, 3, ((Option.some (Jvm.ClassFile.FieldType.object "PickDesk$Stage")), false), jw_cd cd_128, fun _ _ => none) := rfl
theorem jm_130 : jw_M 130 = some (7, 4, (none, false), jw_cd cd_130, fun _ _ => none) := rfl
def sWk (T : Int → Int) (n p : Int) (k : Nat) : Int ⊕ ((sT ⊕ List sE) × Int) := match sKey T n p with
  | .inl e => .inl e
  | .inr (s, q) => if tH T n q = 40 then (match sWrd T n s p q with
      | .inl e => .inl e
      | .inr (st, q2) => .inr (.inl st, q2)) else if k = 12 then .inl p else .inr (.inr [(0, s, nnu, 0, nsd, nsd)], q)
theorem jc_wok {β : Bool} {d : Nat} {h : jx_H} {κ : mS} (hl : 50 ≤ h.length) {X : Nat → Prop} {N0 sa la kk : Nat} {f : Nat → Value} (hU : sgU h X N0 sa la (jx_big + 53) 0 f []) (hb32 : h.length < 2600000000) {T : Int → Int} {n p : Int} (hP : cP κ T n p) (hsc : 0 ≤ κ 7 0 ∧ κ 7 0 ≤ 16) (e9 : κ 9 0 = ((kk : Nat) : Int)) (hk : kk ≤ 12) : ∃ (κ' : mS) (h' : jx_H) (cap' : Nat) (w : Value) (t' : Nat), jx_r (jz β) jw_M (d + 10) 130 (0, [some (.ref 6), some (.ref sa), none, none], [], (cl_mk h κ)) (cl_mk h' (κ'), .inl none) ∧ h'[sa]? = some (.inr (13, [w, .ref t', .ref la])) ∧ (w = .null ∨ ∃ r, w = .ref r) ∧ (∀ (c : Nat) (y : jx_C), ¬ c = sa → ¬ c = la → h[c]? = some y → h'[c]? = some y) ∧ (h.length ≤ h'.length ∧ h'.length ≤ h.length + 65) ∧ cvol h' ≤ cvol h + 4 * cap' + 250 ∧ cap' ≤ 10 ∧ mEq [4, 5, 7, 8, 9, 15] κ κ' ∧ (0 ≤ κ' 7 0 ∧ κ' 7 0 ≤ 16) ∧ (∀ st q2, sWk T n p kk = .inr (.inl st, q2) → sgR h' X sa st ∧ (∃ r, w = .ref r) ∧ cP κ' T n q2 ∧ κ' 9 0 = ((kk : Nat) : Int)) ∧ (∀ acc q2, sWk T n p kk = .inr (.inr acc, q2) → w = .null ∧ ∃ (ea' : Nat) (f' : Nat → Value), sgU h' X N0 sa la ea' cap' f' acc ∧ cP κ' T n q2 ∧ κ' 9 0 = ((kk + acc.length : Nat) : Int)) ∧ (∀ e, sWk T n p kk = .inl e → cE κ' T n e) := by
  have hT := hP.1.2.2
  have hp0 := hP.2.2.2.1
  have hpn := hP.2.2.2.2
  have hn160 := hT.2.1
  obtain ⟨l0, l1, l2, l3⟩ := sgU_lt hU
  have hx := sgU_x hU
  have hbig : jx_big = 4294967296 := rfl
  obtain ⟨u1, u2, u3, u4, u5, u6⟩ := id hU
  obtain ⟨z4, ⟨md, oL⟩, -⟩ := id u4
  obtain ⟨κ1, L0, s', c1, y1, y2, y3, yt, y4, y5, y6, y7⟩ := jc_readKey (β := β) (d := d + 3) (x := gX X sa la (jx_big + 53)) hl rfl (by omega) hx hP hsc
  obtain ⟨h0, eh0⟩ : ∃ h0, h0 = h ++ L0 := ⟨_, rfl⟩
  have hN0 : h0.length = h.length + 2 := by rw [eh0, List.length_append, y1]
  have hl0 : 50 ≤ h0.length := by omega
  have q0 : ∀ (c : Nat) (y : jx_C), h[c]? = some y → h0[c]? = some y := fun c y hy => by rw [eh0, List.getElem?_append_left (List.getElem?_eq_some_iff.mp hy).1]; exact hy
  have v0 : cvol h0 ≤ cvol h + 11 := by rw [eh0, cvol_app]; omega
  rw [← eh0] at c1 y3
  obtain ⟨t, et⟩ : ∃ t, t = h.length := ⟨_, rfl⟩
  rw [← et] at c1 y3
  have u30 := q0 _ _ u3
  have m1 : mEq [4, 5, 7, 8, 9, 15] κ κ1 := mEq_sub y4 (by decide)
  have n1 : κ1 9 0 = ((kk : Nat) : Int) := by rw [y4 9 (by decide)]; exact e9
  -- no word: the step of a key
  have key : ∀ κ3 : mS, jx_r (jz β) jw_M (d + 9) 64 (0, [some (.ref 1), some (.int (Int32.ofInt (40)))], [], (cl_mk h0 κ1)) (cl_mk h0 (κ1), .inl (some (.int (Int32.ofInt (0))))) → jx_r (jz β) jw_M (d + 9) 133 (0, [some (.ref 6), some (.int (Int32.ofInt (p)))], [], (cl_mk h0 κ1)) (cl_mk h0 (κ3), .inl none) → ∃ (h' : jx_H) (ea' cap' : Nat) (f' : Nat → Value), jx_r (jz β) jw_M (d + 10) 130 (0, [some (.ref 6), some (.ref sa), none, none], [], (cl_mk h κ)) (cl_mk h' (κ3), .inl none) ∧ (∀ (c : Nat) (y : jx_C), ¬ c = sa → ¬ c = la → h[c]? = some y → h'[c]? = some y) ∧ (h.length ≤ h'.length ∧ h'.length ≤ h.length + 65) ∧ cvol h' ≤ cvol h + 4 * cap' + 250 ∧ cap' ≤ 10 ∧ sgU h' X N0 sa la ea' cap' f' [(0, s', nnu, 0, nsd, nsd)] := by
    intro κ3 c2 c3
    have c4 := jc_stKey (β := β) (d := d + 8) (κ := κ3) (t := t) hl0 hN0 (by omega)
    obtain ⟨h1, eh1⟩ : ∃ h1, h1 = h0 ++ [.inr (14, [.int (Int32.ofInt (0)), .ref t, .int (Int32.ofInt (0)), .int (Int32.ofInt (1000000)), .int (Int32.ofInt (1)), .null, .int (Int32.ofInt (0)), .null])] := ⟨_, rfl⟩
    have e1 : h1 = h ++ (L0 ++ [.inr (14, [.int (Int32.ofInt (0)), .ref t, .int (Int32.ofInt (0)), .int (Int32.ofInt (1000000)), .int (Int32.ofInt (1)), .null, .int (Int32.ofInt (0)), .null])]) := by rw [eh1, eh0, List.append_assoc]
    have q01 : ∀ (c : Nat) (y : jx_C), h0[c]? = some y → h1[c]? = some y := fun c y hy => by rw [eh1, List.getElem?_append_left (List.getElem?_eq_some_iff.mp hy).1]; exact hy
    have q1 : ∀ (c : Nat) (y : jx_C), h[c]? = some y → h1[c]? = some y := fun c y hy => q01 c y (q0 c y hy)
    have hN1 : h1.length = h.length + 3 := by rw [eh1, List.length_append, hN0]; rfl
    have hl1 : 50 ≤ h1.length := by omega
    have oL1 := q1 _ _ oL
    have hC : h1[h.length + 2]? = some (.inr (14, [.int (Int32.ofInt (0)), .ref t, .int (Int32.ofInt (0)), .int (Int32.ofInt (1000000)), .int (Int32.ofInt (1)), .null, .int (Int32.ofInt (0)), .null])) := by rw [eh1]; exact newc hN0
    obtain ⟨b, eb⟩ : ∃ b, b = h.length + 2 := ⟨_, rfl⟩
    rw [← eb] at hC c4
    rw [← eh1] at c4
    obtain ⟨h', ea', cap', f', ra, p1, p2, p3, p4, p5⟩ := sg_put (β := β) (d := d + 4) (κ := κ3) (L := L0 ++ [.inr (14, [.int (Int32.ofInt (0)), .ref t, .int (Int32.ofInt (0)), .int (Int32.ofInt (1000000)), .int (Int32.ofInt (1)), .null, .int (Int32.ofInt (0)), .null])]) hl (by rw [List.length_append, y1]; show h.length + (2 + 1) < _; omega) hU (by decide) (by rw [← e1]; exact hC) ⟨by omega, by omega⟩
    rw [← e1] at ra p5
    rw [List.length_append, y1] at p2
    rw [cvol_app] at p3
    have p2 : h.length ≤ h'.length ∧ h'.length ≤ h.length + (2 + 1) + 1 := p2
    have p3 : cvol h' + 4 * 0 ≤ cvol h + (cvol L0 + 8) + 4 * cap' := p3
    have p4 : cap' ≤ 10 := p4.2
    refine ⟨h', ea', cap', f', ?_, fun c y cs cl hy => p1 c y cl (by have := (List.getElem?_eq_some_iff.mp hy).1; omega) hy, ⟨by omega, by omega⟩, by omega, p4, p5 _ ⟨⟨by omega, by omega, hx b (by omega)⟩, t, .null, .null, hC.trans rfl, strR_fr (fun c y z hy => ⟨z, q01 c y hy⟩) y3, fun z => absurd z (show ¬ (0 : Int) = 4 by decide)⟩⟩
    refine jr_1 jm_130 (show jw_cd cd_130 0 = some (.aload_n 0) by decide +kernel) rfl ?_
    refine jr_1 jm_130 (show jw_cd cd_130 1 = some (.getfield 9) by decide +kernel) (cgr_6_0 (show jw_fld 7 9 4 = some 0 by decide +kernel)) ?_
    refine jr_1 jm_130 (show jw_cd cd_130 4 = some (.getfield 74) by decide +kernel) (cg_4 (e := p) hP.2.1 (show jw_fld 7 74 1 = some 2 by decide +kernel)) ?_
    refine jr_1 jm_130 (F2 := (8, [some (.ref 6), some (.ref sa), some (.int (Int32.ofInt (p))), none], [], (cl_mk h κ))) (show jw_cd cd_130 7 = some (.istore_n 2) by decide +kernel) rfl ?_
    refine jr_1 jm_130 (show jw_cd cd_130 8 = some (.aload_n 0) by decide +kernel) rfl ?_
    refine jr_1 jm_130 (show jw_cd cd_130 9 = some (.getfield 9) by decide +kernel) (cgr_6_0 (show jw_fld 7 9 4 = some 0 by decide +kernel)) ?_
    refine jr_c jm_130 (show jw_cd cd_130 12 = some (.invokevirtual 77) by decide +kernel) (ccv (n := 0) (m2 := 98) (ci := 1) (a := 1) (bs := []) (r := []) (js_cls cl_c1 (by decide)) (show jw_find jw_cvT 7 77 = some (0, [(1, 98)]) by decide +kernel) (by decide) rfl rfl rfl) jm_98 ⟨Nat.le_of_ble_eq_true rfl, by decide⟩ c1 ?_
    refine jr_1 jm_130 (F2 := (16, [some (.ref 6), some (.ref sa), some (.int (Int32.ofInt (p))), some (.ref t)], [], (cl_mk h0 κ1))) (show jw_cd cd_130 15 = some (.astore_n 3) by decide +kernel) rfl ?_
    refine jr_1 jm_130 (show jw_cd cd_130 16 = some (.aload_n 0) by decide +kernel) rfl ?_
    refine jr_1 jm_130 (show jw_cd cd_130 17 = some (.getfield 9) by decide +kernel) (cgr_6_0 (show jw_fld 7 9 4 = some 0 by decide +kernel)) ?_
    refine jr_1 jm_130 (show jw_cd cd_130 20 = some (.bipush 40) by decide +kernel) (mt_bi (by decide)) ?_
    refine jr_c jm_130 (show jw_cd cd_130 22 = some (.invokevirtual 36) by decide +kernel) (ccv (n := 1) (m2 := 64) (ci := 1) (a := 1) (bs := [.int (Int32.ofInt (40))]) (r := []) (js_cls cl_c1 (by decide)) (show jw_find jw_cvT 7 36 = some (1, [(1, 64)]) by decide +kernel) (by decide) rfl rfl rfl) jm_64 ⟨Nat.le_of_ble_eq_true rfl, by decide⟩ c2 ?_
    refine jr_1 jm_130 (show jw_cd cd_130 25 = some (.ifCond .eq 13) by decide +kernel) (mz_t (q := .eq) (a := 0) (t := 38) (by show 0 = 0; omega) ⟨by omega, by omega⟩ (by decide) (by decide)) ?_
    refine jr_1 jm_130 (show jw_cd cd_130 38 = some (.aload_n 0) by decide +kernel) rfl ?_
    refine jr_1 jm_130 (show jw_cd cd_130 39 = some (.iload_n 2) by decide +kernel) rfl ?_
    refine jr_c jm_130 (show jw_cd cd_130 40 = some (.invokevirtual 85) by decide +kernel) (ccv (n := 1) (m2 := 133) (ci := 4) (a := 6) (bs := [.int (Int32.ofInt (p))]) (r := []) (js_cls cl_c6 (by decide)) (show jw_find jw_cvT 7 85 = some (1, [(4, 133)]) by decide +kernel) (by decide) rfl rfl rfl) jm_133 ⟨Nat.le_of_ble_eq_true rfl, by decide⟩ c3 ?_
    refine jr_1 jm_130 (show jw_cd cd_130 43 = some (.aload_n 1) by decide +kernel) rfl ?_
    refine jr_1 jm_130 (show jw_cd cd_130 44 = some (.getfield 88) by decide +kernel) (js_getf (cl_old hl0 ⟨by omega, u30⟩) (jbg (by omega)) (show jw_fld 7 88 13 = some 2 by decide +kernel) rfl) ?_
    refine jr_1 jm_130 (show jw_cd cd_130 47 = some (.aload_n 3) by decide +kernel) rfl ?_
    refine jr_c jm_130 (show jw_cd cd_130 48 = some (.invokestatic 90) by decide +kernel) (mc_s (n := 1) (m2 := 134) (bs := [.ref t]) (r := [.ref la]) (by decide) (show jw_find jw_csT 7 90 = some (134, 1) by decide +kernel) rfl rfl rfl) jm_134 ⟨Nat.le_of_ble_eq_true rfl, by decide⟩ c4 ?_
    refine jr_c jm_130 (show jw_cd cd_130 51 = some (.invokevirtual 30) by decide +kernel) (ccv (n := 1) (m2 := 136) (ci := 12) (a := la) (bs := [.ref b]) (r := []) (js_cls (cl_old hl1 ⟨by omega, oL1⟩) (jbg (by omega))) (show jw_find jw_cvT 7 30 = some (1, [(12, 136)]) by decide +kernel) (by decide) rfl rfl rfl) jm_136 ⟨Nat.le_of_ble_eq_true rfl, by decide⟩ ra ?_
    refine jr_1 jm_130 (show jw_cd cd_130 54 = some (.pop) by decide +kernel) rfl ?_
    exact jr_v jm_130 (show jw_cd cd_130 55 = some (.return_) by decide +kernel) rfl
  cases hs : sKey T n p with
  | inl e' =>
    have e0 : sWk T n p kk = .inl e' := by unfold sWk; rw [hs]
    have hE := y7 e' hs
    have c2 := jc_takeW (β := β) (d := d + 8) (c := 40) hl0 hE.2.1 (by decide)
    obtain ⟨c3, hE3⟩ := jc_countW (β := β) (d := d + 8) (p := p) hl0 hE n1 hk
    obtain ⟨h', ea', cap', f', hr, p1, p2, p3, p4, p5⟩ := key _ c2 c3
    exact ⟨_, h', cap', .null, jx_big + 9, hr, p5.2.2.1, Or.inl rfl, p1, p2, p3, p4, mEq_su m1 (by decide), by rw [su_nf (by decide)]; exact y5, fun st q2 hh => (by rw [e0] at hh; cases hh), fun acc q2 hh => (by rw [e0] at hh; cases hh), fun e hh => by rw [e0] at hh; injection hh with hh; rw [← hh]; exact hE3⟩
  | inr x =>
    obtain ⟨s, q⟩ := x
    obtain ⟨x1, hPq⟩ := y6 s q hs
    have hq0 := hPq.2.2.2.1
    have hqn := hPq.2.2.2.2
    by_cases h40 : tH T n q = 40
    · have hqn2 : q < n := (tH_r hT hq0).2.2.2 (by rw [h40]; decide)
      have c2 := jc_takeT (β := β) (d := d + 8) hl0 hPq ((tC_eq hPq.1.2.2 hPq.2.2.2.1 (by decide)).mpr h40) (by decide)
      obtain ⟨κ2, ek2⟩ : ∃ κ2, κ2 = su κ1 4 0 (q + 1) := ⟨_, rfl⟩
      have hP2 : cP κ2 T n (q + 1) := by rw [ek2]; exact cP_mv hPq (by omega) (by omega)
      rw [← ek2] at c2
      have m2 : mEq [4, 5, 7, 8, 9, 15] κ κ2 := by rw [ek2]; exact mEq_su m1 (by decide)
      have s2 : κ2 7 0 = κ1 7 0 := by rw [ek2, su_nf (by decide)]
      have n2 : κ2 9 0 = ((kk : Nat) : Int) := by rw [ek2, su_nf (by decide)]; exact n1
      rw [x1] at y3 yt
      obtain ⟨κ3, h', w, t', c3, w1, w2, w3, w4, w5, w6, w7, w8, w9⟩ := jc_word (β := β) (d := d + 2) (X := X) (p := p) hl0 hN0 (by omega) (fun c hc => u2 c (by omega)) (u2 sa (by omega)) ⟨by omega, by omega⟩ u30 y3 yt hP2 ⟨hp0, hpn⟩ (by rw [s2]; exact y5)
      have hsp : sWk T n p kk = (match sWrd T n s p q with
        | .inl e => .inl e
        | .inr (st, q2) => .inr (.inl st, q2)) := by unfold sWk; rw [hs]; exact if_pos h40
      refine ⟨κ3, h', 0, w, t', ?_, w1, w2, fun c y cs cl hy => w3 c y cs (q0 c y hy), ⟨by omega, by omega⟩, by omega, by decide, mEq_trans m2 (mEq_sub w6 (by decide)), w7, fun st q2 hh => ?_, fun acc q2 hh => ?_, fun e hh => ?_⟩
      refine jr_1 jm_130 (show jw_cd cd_130 0 = some (.aload_n 0) by decide +kernel) rfl ?_
      refine jr_1 jm_130 (show jw_cd cd_130 1 = some (.getfield 9) by decide +kernel) (cgr_6_0 (show jw_fld 7 9 4 = some 0 by decide +kernel)) ?_
      refine jr_1 jm_130 (show jw_cd cd_130 4 = some (.getfield 74) by decide +kernel) (cg_4 (e := p) hP.2.1 (show jw_fld 7 74 1 = some 2 by decide +kernel)) ?_
      refine jr_1 jm_130 (F2 := (8, [some (.ref 6), some (.ref sa), some (.int (Int32.ofInt (p))), none], [], (cl_mk h κ))) (show jw_cd cd_130 7 = some (.istore_n 2) by decide +kernel) rfl ?_
      refine jr_1 jm_130 (show jw_cd cd_130 8 = some (.aload_n 0) by decide +kernel) rfl ?_
      refine jr_1 jm_130 (show jw_cd cd_130 9 = some (.getfield 9) by decide +kernel) (cgr_6_0 (show jw_fld 7 9 4 = some 0 by decide +kernel)) ?_
      refine jr_c jm_130 (show jw_cd cd_130 12 = some (.invokevirtual 77) by decide +kernel) (ccv (n := 0) (m2 := 98) (ci := 1) (a := 1) (bs := []) (r := []) (js_cls cl_c1 (by decide)) (show jw_find jw_cvT 7 77 = some (0, [(1, 98)]) by decide +kernel) (by decide) rfl rfl rfl) jm_98 ⟨Nat.le_of_ble_eq_true rfl, by decide⟩ c1 ?_
      refine jr_1 jm_130 (F2 := (16, [some (.ref 6), some (.ref sa), some (.int (Int32.ofInt (p))), some (.ref t)], [], (cl_mk h0 κ1))) (show jw_cd cd_130 15 = some (.astore_n 3) by decide +kernel) rfl ?_
      refine jr_1 jm_130 (show jw_cd cd_130 16 = some (.aload_n 0) by decide +kernel) rfl ?_
      refine jr_1 jm_130 (show jw_cd cd_130 17 = some (.getfield 9) by decide +kernel) (cgr_6_0 (show jw_fld 7 9 4 = some 0 by decide +kernel)) ?_
      refine jr_1 jm_130 (show jw_cd cd_130 20 = some (.bipush 40) by decide +kernel) (mt_bi (by decide)) ?_
      refine jr_c jm_130 (show jw_cd cd_130 22 = some (.invokevirtual 36) by decide +kernel) (ccv (n := 1) (m2 := 64) (ci := 1) (a := 1) (bs := [.int (Int32.ofInt (40))]) (r := []) (js_cls cl_c1 (by decide)) (show jw_find jw_cvT 7 36 = some (1, [(1, 64)]) by decide +kernel) (by decide) rfl rfl rfl) jm_64 ⟨Nat.le_of_ble_eq_true rfl, by decide⟩ c2 ?_
      refine jr_1 jm_130 (show jw_cd cd_130 25 = some (.ifCond .eq 13) by decide +kernel) (mz_f (q := .eq) (a := 1) (by show ¬ (1 = 0); omega) ⟨by omega, by omega⟩ (by decide)) ?_
      refine jr_1 jm_130 (show jw_cd cd_130 28 = some (.aload_n 0) by decide +kernel) rfl ?_
      refine jr_1 jm_130 (show jw_cd cd_130 29 = some (.aload_n 1) by decide +kernel) rfl ?_
      refine jr_1 jm_130 (show jw_cd cd_130 30 = some (.aload_n 3) by decide +kernel) rfl ?_
      refine jr_1 jm_130 (show jw_cd cd_130 31 = some (.iload_n 2) by decide +kernel) rfl ?_
      refine jr_c jm_130 (show jw_cd cd_130 32 = some (.invokevirtual 81) by decide +kernel) (ccv (n := 3) (m2 := 131) (ci := 4) (a := 6) (bs := [.ref sa, .ref t, .int (Int32.ofInt (p))]) (r := []) (js_cls cl_c6 (by decide)) (show jw_find jw_cvT 7 81 = some (3, [(4, 131)]) by decide +kernel) (by decide) rfl rfl rfl) jm_131 ⟨Nat.le_of_ble_eq_true rfl, by decide⟩ c3 ?_
      refine jr_1 jm_130 (show jw_cd cd_130 35 = some (.goto 20) by decide +kernel) (ju_go (t := 55) (by decide)) ?_
      exact jr_v jm_130 (show jw_cd cd_130 55 = some (.return_) by decide +kernel) rfl
      · cases hw : sWrd T n s p q with
        | inl e' => rw [hsp, hw] at hh; cases hh
        | inr y =>
          obtain ⟨st', q'⟩ := y
          rw [hsp, hw] at hh
          injection hh with hh
          injection hh with z1 z2
          injection z1 with z1
          rw [← z1, ← z2]
          obtain ⟨⟨a1, a2, a3⟩, a4⟩ := w8 st' q' hw
          exact ⟨⟨⟨by omega, by omega, u2 sa (by omega)⟩, t', la, w, w1, Or.inr ⟨a1, a2, a3⟩⟩, ⟨_, a2⟩, a4, by rw [w6 9 (by decide)]; exact n2⟩
      · cases hw : sWrd T n s p q with
        | inl e' => rw [hsp, hw] at hh; cases hh
        | inr y =>
          obtain ⟨st', q'⟩ := y
          rw [hsp, hw] at hh
          injection hh with hh
          injection hh with z1 z2
          cases z1
      · cases hw : sWrd T n s p q with
        | inl e' =>
          rw [hsp, hw] at hh
          injection hh with hh
          rw [← hh]
          exact w9 e' hw
        | inr y =>
          obtain ⟨st', q'⟩ := y
          rw [hsp, hw] at hh
          cases hh
    · have c2 := jc_takeF (β := β) (d := d + 8) hl0 hPq (fun e => h40 ((tC_eq hPq.1.2.2 hPq.2.2.2.1 (by decide)).mp e)) (by decide)
      by_cases h12 : kk = 12
      · have e0 : sWk T n p kk = .inl p := by unfold sWk; rw [hs]; exact (if_neg h40).trans (if_pos h12)
        obtain ⟨c3, hE3⟩ := (jc_count (β := β) (d := d + 8) hl0 hPq ⟨hp0, hpn⟩ n1).2 h12
        obtain ⟨h', ea', cap', f', hr, p1, p2, p3, p4, p5⟩ := key _ c2 c3
        exact ⟨_, h', cap', .null, jx_big + 9, hr, p5.2.2.1, Or.inl rfl, p1, p2, p3, p4, mEq_su (mEq_su m1 (by decide)) (by decide), by rw [su_nf (by decide), su_nf (by decide)]; exact y5, fun st q2 hh => (by rw [e0] at hh; cases hh), fun acc q2 hh => (by rw [e0] at hh; cases hh), fun e hh => by rw [e0] at hh; injection hh with hh; rw [← hh]; exact hE3⟩
      · have e0 : sWk T n p kk = .inr (.inr [(0, s, nnu, 0, nsd, nsd)], q) := by unfold sWk; rw [hs]; exact (if_neg h40).trans (if_neg h12)
        obtain ⟨c3, hP3⟩ := (jc_count (β := β) (d := d + 8) (p := p) hl0 hPq ⟨hp0, hpn⟩ n1).1 (by omega)
        obtain ⟨h', ea', cap', f', hr, p1, p2, p3, p4, p5⟩ := key _ c2 c3
        refine ⟨_, h', cap', .null, jx_big + 9, hr, p5.2.2.1, Or.inl rfl, p1, p2, p3, p4, mEq_su m1 (by decide), by rw [su_nf (by decide)]; exact y5, fun st q2 hh => ?_, fun acc q2 hh => ?_, fun e hh => (by rw [e0] at hh; cases hh)⟩
        · rw [e0] at hh
          injection hh with hh
          injection hh with z1 z2
          cases z1
        · rw [e0] at hh
          injection hh with hh
          injection hh with z1 z2
          injection z1 with z1
          rw [← z1, ← z2]
          rw [x1] at p5
          exact ⟨rfl, ea', f', p5, hP3, by rw [su_eq]; rfl⟩
theorem jc_stX {β : Bool} {d : Nat} {h : jx_H} {κ : mS} (hl : 50 ≤ h.length) {sa la t i : Nat} (hsa : 50 ≤ sa ∧ sa < 4000000000) (hi : i < 160) (oA : h[sa]? = some (.inr (13, [.null, .ref t, .ref la]))) {v : Int} (c1 : jx_r (jz β) jw_M (d) 58 (0, [some (.ref 1)], [], (cl_mk h κ)) (cl_mk h (κ), .inl (some (.int (Int32.ofInt (v)))))) (hv : 0 ≤ v ∧ v ≤ 126 ∧ ¬ v = 91 ∧ ¬ v = 46) : jx_r (jz β) jw_M (d + 1) 128 (52, [some (.ref 6), some (.ref sa), some (.int (Int32.ofInt (((i : Nat) : Int))))], [], (cl_mk h κ)) (cl_mk h (κ), .inl (some (.ref (sa)))) := by
  refine jr_1 jm_128 (show jw_cd cd_128 52 = some (.iload_n 2) by decide +kernel) rfl ?_
  refine jr_1 jm_128 (show jw_cd cd_128 53 = some (.sipush 160) by decide +kernel) (mt_si (by decide)) ?_
  refine jr_1 jm_128 (show jw_cd cd_128 56 = some (.if_icmp .ge 53) by decide +kernel) (mb_f (q := .ge) (a := ((i : Nat) : Int)) (b := 160) (by show ¬ (160 ≤ ((i : Nat) : Int)); omega) ⟨by omega, by omega⟩ ⟨by omega, by omega⟩ (by decide)) ?_
  refine jr_1 jm_128 (show jw_cd cd_128 59 = some (.aload_n 1) by decide +kernel) rfl ?_
  refine jr_1 jm_128 (show jw_cd cd_128 60 = some (.getfield 60) by decide +kernel) (js_getf (cl_old hl ⟨by omega, oA⟩) (jbg (by omega)) (show jw_fld 7 60 13 = some 0 by decide +kernel) rfl) ?_
  refine jr_1 jm_128 (show jw_cd cd_128 63 = some (.ifnonnull 46) by decide +kernel) (cnn_n (by decide)) ?_
  refine jr_1 jm_128 (show jw_cd cd_128 66 = some (.aload_n 0) by decide +kernel) rfl ?_
  refine jr_1 jm_128 (show jw_cd cd_128 67 = some (.getfield 9) by decide +kernel) (cgr_6_0 (show jw_fld 7 9 4 = some 0 by decide +kernel)) ?_
  refine jr_c jm_128 (show jw_cd cd_128 70 = some (.invokevirtual 45) by decide +kernel) (ccv (n := 0) (m2 := 58) (ci := 1) (a := 1) (bs := []) (r := []) (js_cls cl_c1 (by decide)) (show jw_find jw_cvT 7 45 = some (0, [(1, 58)]) by decide +kernel) (by decide) rfl rfl rfl) jm_58 ⟨Nat.le_of_ble_eq_true rfl, by decide⟩ c1 ?_
  refine jr_1 jm_128 (show jw_cd cd_128 73 = some (.bipush 91) by decide +kernel) (mt_bi (by decide)) ?_
  refine jr_1 jm_128 (show jw_cd cd_128 75 = some (.if_icmp .ne 11) by decide +kernel) (mb_t (q := .ne) (a := v) (b := 91) (t := 86) (by show ¬ v = 91; omega) ⟨by omega, by omega⟩ ⟨by omega, by omega⟩ (by decide) (by decide)) ?_
  refine jr_1 jm_128 (show jw_cd cd_128 86 = some (.aload_n 0) by decide +kernel) rfl ?_
  refine jr_1 jm_128 (show jw_cd cd_128 87 = some (.getfield 9) by decide +kernel) (cgr_6_0 (show jw_fld 7 9 4 = some 0 by decide +kernel)) ?_
  refine jr_c jm_128 (show jw_cd cd_128 90 = some (.invokevirtual 45) by decide +kernel) (ccv (n := 0) (m2 := 58) (ci := 1) (a := 1) (bs := []) (r := []) (js_cls cl_c1 (by decide)) (show jw_find jw_cvT 7 45 = some (0, [(1, 58)]) by decide +kernel) (by decide) rfl rfl rfl) jm_58 ⟨Nat.le_of_ble_eq_true rfl, by decide⟩ c1 ?_
  refine jr_1 jm_128 (show jw_cd cd_128 93 = some (.bipush 46) by decide +kernel) (mt_bi (by decide)) ?_
  refine jr_1 jm_128 (show jw_cd cd_128 95 = some (.if_icmp .ne 14) by decide +kernel) (mb_t (q := .ne) (a := v) (b := 46) (t := 109) (by show ¬ v = 46; omega) ⟨by omega, by omega⟩ ⟨by omega, by omega⟩ (by decide) (by decide)) ?_
  refine jr_1 jm_128 (show jw_cd cd_128 109 = some (.aload_n 1) by decide +kernel) rfl ?_
  exact jr_v jm_128 (show jw_cd cd_128 110 = some (.areturn) by decide +kernel) rfl
theorem jc_stWd {β : Bool} {d : Nat} {h : jx_H} {κ : mS} (hl : 50 ≤ h.length) {sa la t w i : Nat} (hsa : 50 ≤ sa ∧ sa < 4000000000) (hi : i < 160) (oA : h[sa]? = some (.inr (13, [.ref w, .ref t, .ref la]))) : jx_r (jz β) jw_M (d) 128 (52, [some (.ref 6), some (.ref sa), some (.int (Int32.ofInt (((i : Nat) : Int))))], [], (cl_mk h κ)) (cl_mk h (κ), .inl (some (.ref (sa)))) := by
  refine jr_1 jm_128 (show jw_cd cd_128 52 = some (.iload_n 2) by decide +kernel) rfl ?_
  refine jr_1 jm_128 (show jw_cd cd_128 53 = some (.sipush 160) by decide +kernel) (mt_si (by decide)) ?_
  refine jr_1 jm_128 (show jw_cd cd_128 56 = some (.if_icmp .ge 53) by decide +kernel) (mb_f (q := .ge) (a := ((i : Nat) : Int)) (b := 160) (by show ¬ (160 ≤ ((i : Nat) : Int)); omega) ⟨by omega, by omega⟩ ⟨by omega, by omega⟩ (by decide)) ?_
  refine jr_1 jm_128 (show jw_cd cd_128 59 = some (.aload_n 1) by decide +kernel) rfl ?_
  refine jr_1 jm_128 (show jw_cd cd_128 60 = some (.getfield 60) by decide +kernel) (js_getf (cl_old hl ⟨by omega, oA⟩) (jbg (by omega)) (show jw_fld 7 60 13 = some 0 by decide +kernel) rfl) ?_
  refine jr_1 jm_128 (show jw_cd cd_128 63 = some (.ifnonnull 46) by decide +kernel) (cnn_r (t := 109) (by decide) (by decide)) ?_
  refine jr_1 jm_128 (show jw_cd cd_128 109 = some (.aload_n 1) by decide +kernel) rfl ?_
  exact jr_v jm_128 (show jw_cd cd_128 110 = some (.areturn) by decide +kernel) rfl
theorem jc_stB {β : Bool} {d : Nat} {h h1 : jx_H} {κ κ1 : mS} (hl : 50 ≤ h.length) {sa la t i : Nat} (hsa : 50 ≤ sa ∧ sa < 4000000000) (hi : i < 160) (oA : h[sa]? = some (.inr (13, [.null, .ref t, .ref la]))) (c1 : jx_r (jz β) jw_M (d) 58 (0, [some (.ref 1)], [], (cl_mk h κ)) (cl_mk h (κ), .inl (some (.int (Int32.ofInt (91)))))) (c2 : jx_r (jz β) jw_M (d) 142 (0, [some (.ref 6), some (.ref sa)], [], (cl_mk h κ)) (cl_mk h1 (κ1), .inl none)) {res : jx_H × (Option Value ⊕ Nat)} (kk : jx_r (jz β) jw_M (d + 1) 128 (52, [some (.ref 6), some (.ref sa), some (.int (Int32.ofInt (((i + 1 : Nat) : Int))))], [], (cl_mk h1 κ1)) res) : jx_r (jz β) jw_M (d + 1) 128 (52, [some (.ref 6), some (.ref sa), some (.int (Int32.ofInt (((i : Nat) : Int))))], [], (cl_mk h κ)) res := by
  refine jr_1 jm_128 (show jw_cd cd_128 52 = some (.iload_n 2) by decide +kernel) rfl ?_
  refine jr_1 jm_128 (show jw_cd cd_128 53 = some (.sipush 160) by decide +kernel) (mt_si (by decide)) ?_
  refine jr_1 jm_128 (show jw_cd cd_128 56 = some (.if_icmp .ge 53) by decide +kernel) (mb_f (q := .ge) (a := ((i : Nat) : Int)) (b := 160) (by show ¬ (160 ≤ ((i : Nat) : Int)); omega) ⟨by omega, by omega⟩ ⟨by omega, by omega⟩ (by decide)) ?_
  refine jr_1 jm_128 (show jw_cd cd_128 59 = some (.aload_n 1) by decide +kernel) rfl ?_
  refine jr_1 jm_128 (show jw_cd cd_128 60 = some (.getfield 60) by decide +kernel) (js_getf (cl_old hl ⟨by omega, oA⟩) (jbg (by omega)) (show jw_fld 7 60 13 = some 0 by decide +kernel) rfl) ?_
  refine jr_1 jm_128 (show jw_cd cd_128 63 = some (.ifnonnull 46) by decide +kernel) (cnn_n (by decide)) ?_
  refine jr_1 jm_128 (show jw_cd cd_128 66 = some (.aload_n 0) by decide +kernel) rfl ?_
  refine jr_1 jm_128 (show jw_cd cd_128 67 = some (.getfield 9) by decide +kernel) (cgr_6_0 (show jw_fld 7 9 4 = some 0 by decide +kernel)) ?_
  refine jr_c jm_128 (show jw_cd cd_128 70 = some (.invokevirtual 45) by decide +kernel) (ccv (n := 0) (m2 := 58) (ci := 1) (a := 1) (bs := []) (r := []) (js_cls cl_c1 (by decide)) (show jw_find jw_cvT 7 45 = some (0, [(1, 58)]) by decide +kernel) (by decide) rfl rfl rfl) jm_58 ⟨Nat.le_of_ble_eq_true rfl, by decide⟩ c1 ?_
  refine jr_1 jm_128 (show jw_cd cd_128 73 = some (.bipush 91) by decide +kernel) (mt_bi (by decide)) ?_
  refine jr_1 jm_128 (show jw_cd cd_128 75 = some (.if_icmp .ne 11) by decide +kernel) (mb_f (q := .ne) (a := 91) (b := 91) (by show ¬ (¬ (91 = 91)); omega) ⟨by omega, by omega⟩ ⟨by omega, by omega⟩ (by decide)) ?_
  refine jr_1 jm_128 (show jw_cd cd_128 78 = some (.aload_n 0) by decide +kernel) rfl ?_
  refine jr_1 jm_128 (show jw_cd cd_128 79 = some (.aload_n 1) by decide +kernel) rfl ?_
  refine jr_c jm_128 (show jw_cd cd_128 80 = some (.invokevirtual 64) by decide +kernel) (ccv (n := 1) (m2 := 142) (ci := 4) (a := 6) (bs := [.ref sa]) (r := []) (js_cls cl_c6 (by decide)) (show jw_find jw_cvT 7 64 = some (1, [(4, 142)]) by decide +kernel) (by decide) rfl rfl rfl) jm_142 ⟨Nat.le_of_ble_eq_true rfl, by decide⟩ c2 ?_
  refine jr_1 jm_128 (show jw_cd cd_128 83 = some (.goto 20) by decide +kernel) (ju_go (t := 103) (by decide)) ?_
  refine jr_1 jm_128 (F2 := (106, [some (.ref 6), some (.ref sa), some (.int (Int32.ofInt (((i : Nat) : Int) + 1)))], [], (cl_mk h1 κ1))) (show jw_cd cd_128 103 = some (.iinc 2 1) by decide +kernel) (mt_inc (a := ((i : Nat) : Int)) (c := ((i : Nat) : Int) + 1) rfl (by omega) rfl) ?_
  refine jr_1 jm_128 (show jw_cd cd_128 106 = some (.goto (-54)) by decide +kernel) (ju_go (t := 52) (by decide)) ?_
  exact kk
theorem jc_stD {β : Bool} {d : Nat} {h h1 : jx_H} {κ κ1 : mS} (hl : 50 ≤ h.length) {sa la t i : Nat} (hsa : 50 ≤ sa ∧ sa < 4000000000) (hi : i < 160) (oA : h[sa]? = some (.inr (13, [.null, .ref t, .ref la]))) (c1 : jx_r (jz β) jw_M (d) 58 (0, [some (.ref 1)], [], (cl_mk h κ)) (cl_mk h (κ), .inl (some (.int (Int32.ofInt (46)))))) (c2 : jx_r (jz β) jw_M (d) 155 (0, [some (.ref 6), some (.ref sa)], [], (cl_mk h κ)) (cl_mk h1 (κ1), .inl none)) {res : jx_H × (Option Value ⊕ Nat)} (kk : jx_r (jz β) jw_M (d + 1) 128 (52, [some (.ref 6), some (.ref sa), some (.int (Int32.ofInt (((i + 1 : Nat) : Int))))], [], (cl_mk h1 κ1)) res) : jx_r (jz β) jw_M (d + 1) 128 (52, [some (.ref 6), some (.ref sa), some (.int (Int32.ofInt (((i : Nat) : Int))))], [], (cl_mk h κ)) res := by
  refine jr_1 jm_128 (show jw_cd cd_128 52 = some (.iload_n 2) by decide +kernel) rfl ?_
  refine jr_1 jm_128 (show jw_cd cd_128 53 = some (.sipush 160) by decide +kernel) (mt_si (by decide)) ?_
  refine jr_1 jm_128 (show jw_cd cd_128 56 = some (.if_icmp .ge 53) by decide +kernel) (mb_f (q := .ge) (a := ((i : Nat) : Int)) (b := 160) (by show ¬ (160 ≤ ((i : Nat) : Int)); omega) ⟨by omega, by omega⟩ ⟨by omega, by omega⟩ (by decide)) ?_
  refine jr_1 jm_128 (show jw_cd cd_128 59 = some (.aload_n 1) by decide +kernel) rfl ?_
  refine jr_1 jm_128 (show jw_cd cd_128 60 = some (.getfield 60) by decide +kernel) (js_getf (cl_old hl ⟨by omega, oA⟩) (jbg (by omega)) (show jw_fld 7 60 13 = some 0 by decide +kernel) rfl) ?_
  refine jr_1 jm_128 (show jw_cd cd_128 63 = some (.ifnonnull 46) by decide +kernel) (cnn_n (by decide)) ?_
  refine jr_1 jm_128 (show jw_cd cd_128 66 = some (.aload_n 0) by decide +kernel) rfl ?_
  refine jr_1 jm_128 (show jw_cd cd_128 67 = some (.getfield 9) by decide +kernel) (cgr_6_0 (show jw_fld 7 9 4 = some 0 by decide +kernel)) ?_
  refine jr_c jm_128 (show jw_cd cd_128 70 = some (.invokevirtual 45) by decide +kernel) (ccv (n := 0) (m2 := 58) (ci := 1) (a := 1) (bs := []) (r := []) (js_cls cl_c1 (by decide)) (show jw_find jw_cvT 7 45 = some (0, [(1, 58)]) by decide +kernel) (by decide) rfl rfl rfl) jm_58 ⟨Nat.le_of_ble_eq_true rfl, by decide⟩ c1 ?_
  refine jr_1 jm_128 (show jw_cd cd_128 73 = some (.bipush 91) by decide +kernel) (mt_bi (by decide)) ?_
  refine jr_1 jm_128 (show jw_cd cd_128 75 = some (.if_icmp .ne 11) by decide +kernel) (mb_t (q := .ne) (a := 46) (b := 91) (t := 86) (by show ¬ (46 = 91); omega) ⟨by omega, by omega⟩ ⟨by omega, by omega⟩ (by decide) (by decide)) ?_
  refine jr_1 jm_128 (show jw_cd cd_128 86 = some (.aload_n 0) by decide +kernel) rfl ?_
  refine jr_1 jm_128 (show jw_cd cd_128 87 = some (.getfield 9) by decide +kernel) (cgr_6_0 (show jw_fld 7 9 4 = some 0 by decide +kernel)) ?_
  refine jr_c jm_128 (show jw_cd cd_128 90 = some (.invokevirtual 45) by decide +kernel) (ccv (n := 0) (m2 := 58) (ci := 1) (a := 1) (bs := []) (r := []) (js_cls cl_c1 (by decide)) (show jw_find jw_cvT 7 45 = some (0, [(1, 58)]) by decide +kernel) (by decide) rfl rfl rfl) jm_58 ⟨Nat.le_of_ble_eq_true rfl, by decide⟩ c1 ?_
  refine jr_1 jm_128 (show jw_cd cd_128 93 = some (.bipush 46) by decide +kernel) (mt_bi (by decide)) ?_
  refine jr_1 jm_128 (show jw_cd cd_128 95 = some (.if_icmp .ne 14) by decide +kernel) (mb_f (q := .ne) (a := 46) (b := 46) (by show ¬ (¬ (46 = 46)); omega) ⟨by omega, by omega⟩ ⟨by omega, by omega⟩ (by decide)) ?_
  refine jr_1 jm_128 (show jw_cd cd_128 98 = some (.aload_n 0) by decide +kernel) rfl ?_
  refine jr_1 jm_128 (show jw_cd cd_128 99 = some (.aload_n 1) by decide +kernel) rfl ?_
  refine jr_c jm_128 (show jw_cd cd_128 100 = some (.invokevirtual 67) by decide +kernel) (ccv (n := 1) (m2 := 155) (ci := 4) (a := 6) (bs := [.ref sa]) (r := []) (js_cls cl_c6 (by decide)) (show jw_find jw_cvT 7 67 = some (1, [(4, 155)]) by decide +kernel) (by decide) rfl rfl rfl) jm_155 ⟨Nat.le_of_ble_eq_true rfl, by decide⟩ c2 ?_
  refine jr_1 jm_128 (F2 := (106, [some (.ref 6), some (.ref sa), some (.int (Int32.ofInt (((i : Nat) : Int) + 1)))], [], (cl_mk h1 κ1))) (show jw_cd cd_128 103 = some (.iinc 2 1) by decide +kernel) (mt_inc (a := ((i : Nat) : Int)) (c := ((i : Nat) : Int) + 1) rfl (by omega) rfl) ?_
  refine jr_1 jm_128 (show jw_cd cd_128 106 = some (.goto (-54)) by decide +kernel) (ju_go (t := 52) (by decide)) ?_
  exact kk
