/-! ===== the class: a stage that steps come to; readDot, readBrackets (printed by program: gen113.py) ===== -/
theorem jm_142 : jw_M 142 = some (7, 2, (none, false), jw_cd cd_142, fun _ _ => none) := rfl
theorem jm_155 : jw_M 155 = some (7, 2, (none, false), jw_cd cd_155, fun _ _ => none) := rfl
def gX (X : Nat → Prop) (sa la ea : Nat) : Nat → Prop := fun c => X c ∨ c = sa ∨ c = la ∨ (c = ea ∧ c < 4000000000)
theorem gX_o {X : Nat → Prop} {sa la ea c : Nat} (h : ¬ gX X sa la ea c) : ¬ X c ∧ ¬ c = sa ∧ ¬ c = la ∧ (c < 4000000000 → ¬ c = ea) := ⟨fun z => h (Or.inl z), fun z => h (Or.inr (Or.inl z)), fun z => h (Or.inr (Or.inr (Or.inl z))), fun y z => h (Or.inr (Or.inr (Or.inr ⟨z, y⟩)))⟩
/-- a stage that steps come to -/
def sgU (h : jx_H) (X : Nat → Prop) (N0 sa la ea cap : Nat) (f : Nat → Value) (acc : List sE) : Prop := (50 ≤ N0 ∧ N0 ≤ sa ∧ N0 ≤ la ∧ ¬ sa = la ∧ ¬ sa = ea ∧ (ea = jx_big + 53 ∨ N0 ≤ ea) ∧ sa < 4000000000) ∧ (∀ c, N0 ≤ c → ¬ X c) ∧ h[sa]? = some (.inr (13, [.null, .ref (jx_big + 9), .ref la])) ∧ alC h X la ea cap acc.length f ∧ spL h (gX X sa la ea) f acc ∧ cap ≤ 10 + acc.length + acc.length / 2
theorem sgU_fr {h h' : jx_H} {X : Nat → Prop} {N0 sa la ea cap : Nat} {f : Nat → Value} {acc : List sE} (hq : ∀ (c : Nat) (y : jx_C), h[c]? = some y → h'[c]? = some y) (hU : sgU h X N0 sa la ea cap f acc) : sgU h' X N0 sa la ea cap f acc := by
  obtain ⟨u1, u2, u3, u4, u5, u6⟩ := hU
  exact ⟨u1, u2, hq _ _ u3, alC_fr (fun c y z hy => ⟨z, hq c y hy⟩) u4, spL_fr (fun c y z hy => ⟨z, hq c y hy⟩) u5, u6⟩
theorem sgU_lt {h : jx_H} {X : Nat → Prop} {N0 sa la ea cap : Nat} {f : Nat → Value} {acc : List sE} (hU : sgU h X N0 sa la ea cap f acc) : N0 ≤ h.length ∧ sa < h.length ∧ la < h.length ∧ (ea < 4000000000 → ea < h.length) := by
  obtain ⟨u1, u2, u3, ⟨u4, ⟨md, u4b⟩, u4c⟩, u5, u6⟩ := hU
  have a1 := (List.getElem?_eq_some_iff.mp u3).1
  have a2 := (List.getElem?_eq_some_iff.mp u4b).1
  refine ⟨by omega, a1, a2, fun z => ?_⟩
  rcases u4c with ⟨e, -⟩ | ⟨z1, z2, z3, -⟩
  · have hb : jx_big = 4294967296 := rfl
    omega
  · exact (List.getElem?_eq_some_iff.mp z3).1
theorem sgU_x {h : jx_H} {X : Nat → Prop} {N0 sa la ea cap : Nat} {f : Nat → Value} {acc : List sE} (hU : sgU h X N0 sa la ea cap f acc) : ∀ c, h.length ≤ c → ¬ gX X sa la ea c := fun c hc z => by
  obtain ⟨l0, l1, l2, l3⟩ := sgU_lt hU
  rcases z with z | z | z | ⟨z, y⟩
  · exact hU.2.1 c (by omega) z
  · omega
  · omega
  · have := l3 (by omega)
    omega
theorem sg_put {β : Bool} {d : Nat} {κ : mS} {h : jx_H} {L : List jx_C} {X : Nat → Prop} {N0 sa la ea cap b : Nat} {f : Nat → Value} {acc : List sE} {fs : List Value} (hl : 50 ≤ h.length) (hb32 : h.length + L.length < 2800000000) (hU : sgU h X N0 sa la ea cap f acc) (hacc : acc.length ≤ 20) (hS : (h ++ L)[b]? = some (.inr (14, fs))) (hb1 : 50 ≤ b ∧ b < 4000000000) : ∃ (h' : jx_H) (ea' cap' : Nat) (f' : Nat → Value), jx_r (jz β) jw_M (d + 5) 136 (0, [some (.ref la), some (.ref b)], [], (cl_mk (h ++ L) κ)) (cl_mk h' (κ), .inl (some (.int (Int32.ofInt (1))))) ∧ (∀ (c : Nat) (y : jx_C), ¬ c = la → ¬ c = ea → h[c]? = some y → h'[c]? = some y) ∧ (h.length ≤ h'.length ∧ h'.length ≤ h.length + L.length + 1) ∧ cvol h' + 4 * cap ≤ cvol h + cvol L + 4 * cap' ∧ (cap ≤ cap' ∧ cap' ≤ 10 + acc.length + acc.length / 2) ∧ (∀ e, spR (h ++ L) (gX X sa la ea) b e → sgU h' X N0 sa la ea' cap' f' (acc ++ [e])) := by
  have q0 : ∀ (c : Nat) (y : jx_C), h[c]? = some y → (h ++ L)[c]? = some y := fun c y hy => by rw [List.getElem?_append_left (List.getElem?_eq_some_iff.mp hy).1]; exact hy
  have hU1 := sgU_fr q0 hU
  have ln : (h ++ L).length = h.length + L.length := List.length_append
  obtain ⟨l0, l1, l2, l3⟩ := sgU_lt hU
  obtain ⟨u1, u2, u3, u4, u5, u6⟩ := id hU1
  obtain ⟨h', ea', cap', f', hr, hm⟩ := jc_alAdd (β := β) (d := d) (κ := κ) (by omega) ln (by omega) (spL_U u4 u5) ⟨by omega, by omega⟩ hb1 hS (Or.inr rfl)
  have hC := alN_C u4 (fun c hc => u2 c (by omega)) hm
  obtain ⟨m1, m2, m3, m4, m5, m6, m7, m8, m9, m10⟩ := hm
  rw [cvol_app] at m8
  rw [ln] at m7
  refine ⟨h', ea', cap', f', hr, fun c y c1 c2 hy => m5 c y c1 c2 (q0 c y hy), ⟨by omega, by omega⟩, m8, ⟨m9, by omega⟩, fun e he => ?_⟩
  have hbig : jx_big = 4294967296 := rfl
  have fr : ∀ (c : Nat) (y : jx_C), zc (gX X sa la ea) c → (h ++ L)[c]? = some y → zc (gX X sa la ea') c ∧ h'[c]? = some y := fun c y z hy => by
    obtain ⟨g1, g2, g3, g4⟩ := gX_o z.2.2
    have c4 := g4 z.2.1
    refine ⟨⟨z.1, z.2.1, fun w => ?_⟩, m5 c y g3 c4 hy⟩
    rcases w with w | w | w | ⟨w, -⟩
    · exact g1 w
    · exact g2 w
    · exact g3 w
    · rcases m7 with e | e
      · exact c4 (by omega)
      · have := (List.getElem?_eq_some_iff.mp hy).1
        omega
  refine ⟨⟨u1.1, u1.2.1, u1.2.2.1, u1.2.2.2.1, ?_, ?_, u1.2.2.2.2.2.2⟩, u2, m5 _ _ u1.2.2.2.1 u1.2.2.2.2.1 u3, by rw [List.length_append]; exact hC, fun i e' hi => ?_, by rw [List.length_append]; show cap' ≤ 10 + (acc.length + 1) + (acc.length + 1) / 2; omega⟩
  · rcases m7 with e | e
    · rw [e]; exact u1.2.2.2.2.1
    · omega
  · rcases m7 with e | e
    · rw [e]; exact u1.2.2.2.2.2.1
    · exact Or.inr (by omega)
  · by_cases hik : i < acc.length
    · rw [List.getElem?_append_left hik] at hi
      obtain ⟨b', b1, b2⟩ := u5 i e' hi
      exact ⟨b', (m3 i hik).trans b1, spR_fr fr b2⟩
    · rw [List.getElem?_append_right (by omega)] at hi
      have hi0 : i - acc.length = 0 := by
        have := (List.getElem?_eq_some_iff.mp hi).1
        simp only [List.length_cons, List.length_nil] at this
        omega
      rw [hi0] at hi
      injection hi with hi
      obtain rfl : i = acc.length := by omega
      refine ⟨b, m4, ?_⟩
      rw [← hi]
      exact spR_fr fr he
def sBrA (T : Int → Int) (n p : Int) : Int ⊕ (sE × Int) := if tH T n p = 93 then .inr ((6, [], nnu, 0, nsd, nsd), p) else if tH T n p = 42 then .inr ((2, [], nnu, 0, nsd, nsd), p + 1) else if tH T n p = 63 then sCnA T n (p + 1) else sNmA T n p
theorem sBrA_c (T : Int → Int) (n p : Int) (k : Nat) : sBr T n p k = if k = 12 then .inl p else cl93 T n (sBrA T n (p + 1)) := by
  unfold sBr sBrA
  by_cases hk : k = 12
  · rw [if_pos hk, if_pos hk]
  rw [if_neg hk, if_neg hk]
  by_cases h1 : tH T n (p + 1) = 93
  · rw [if_pos h1, if_pos h1]
    show _ = (if tH T n (p + 1) = 93 then _ else _)
    rw [if_pos h1]
  rw [if_neg h1, if_neg h1]
  by_cases h2 : tH T n (p + 1) = 42
  · rw [if_pos h2, if_pos h2]
    rfl
  rw [if_neg h2, if_neg h2]
  by_cases h3 : tH T n (p + 1) = 63
  · rw [if_pos h3, if_pos h3]
    exact sCnA_c _ _ _
  rw [if_neg h3, if_neg h3]
  exact sNmA_c _ _ _
theorem jc_brM {β : Bool} {d : Nat} {h : jx_H} {κ : mS} (hl : 50 ≤ h.length) {N : Nat} (hN : h.length = N) (hb32 : N < 2700000000) {X : Nat → Prop} (hx : ∀ c, N ≤ c → ¬ X c) {T : Int → Int} {n p : Int} {sa la ea acc : Nat} {md : Int} (hsa : 50 ≤ sa ∧ sa < 4000000000) (hla : 50 ≤ la ∧ la < 4000000000) (oA : h[sa]? = some (.inr (13, [.null, .ref (jx_big + 9), .ref la]))) (oL : h[la]? = some (.inr (12, [.ref ea, .int (Int32.ofInt (((acc : Nat) : Int))), .int (Int32.ofInt (md))]))) (hP : cP κ T n p) (hsc : 0 ≤ κ 7 0 ∧ κ 7 0 ≤ 16) : ∃ (κ' : mS) (L : List jx_C) (b : Nat) (fs : List Value), (∀ (h' : jx_H) (κ2 : mS), jx_r (jz β) jw_M (d + 9) 136 (0, [some (.ref la), some (.ref b)], [], (cl_mk (h ++ L) κ')) (cl_mk h' (κ'), .inl (some (.int (Int32.ofInt (1))))) → jx_r (jz β) jw_M (d + 9) 96 (0, [some (.ref 1), some (.int (Int32.ofInt (93)))], [], (cl_mk h' κ')) (cl_mk h' (κ2), .inl none) → jx_r (jz β) jw_M (d + 10) 142 (20, [some (.ref 6), some (.ref sa)], [], (cl_mk h κ)) (cl_mk h' (κ2), .inl none)) ∧ (h ++ L)[b]? = some (.inr (14, fs)) ∧ (50 ≤ b ∧ b < 4000000000) ∧ L.length ≤ 64 ∧ cvol L ≤ 250 ∧ mEq [4, 5, 7, 8, 15] κ κ' ∧ (0 ≤ κ' 7 0 ∧ κ' 7 0 ≤ 16) ∧ (∀ e q, sBrA T n p = .inr (e, q) → spR (h ++ L) X b e ∧ cP κ' T n q) ∧ (∀ e, sBrA T n p = .inl e → cE κ' T n e) := by
  have ht := hP.1.2.2
  have hp0 := hP.2.2.2.1
  have hr0 : 0 ≤ tC T n p ∧ tC T n p ≤ 126 := (tC_H ht hp0).2.2
  have c3 := jc_here (β := β) (d := d + 9) hl hP
  obtain ⟨v, ev⟩ : ∃ v, v = tC T n p := ⟨_, rfl⟩
  rw [← ev] at c3 hr0
  by_cases h93 : tH T n p = 93
  · have hv : v = 93 := ev.trans ((tC_eq hP.1.2.2 hP.2.2.2.1 (by decide)).mpr h93)
    have e0 : sBrA T n p = .inr ((6, [], nnu, 0, nsd, nsd), p) := if_pos h93
    have c4 := jc_stK (β := β) (d := d + 8) (κ := κ) (kd := 5) hl hN (by omega)
    refine ⟨κ, [.inr (14, [.int (Int32.ofInt (5)), .ref (jx_big + 9), .int (Int32.ofInt (0)), .int (Int32.ofInt (1000000)), .int (Int32.ofInt (1)), .null, .int (Int32.ofInt (0)), .null])], N, _, fun h' κ2 ra rm => ?_, newc hN, ⟨by omega, by omega⟩, (by show (1 : Nat) ≤ 64; decide), (by show (8 : Nat) ≤ 250; decide), mEq_refl _ _, hsc, fun e q hh => by rw [e0] at hh; injection hh with hh; injection hh with z1 z2; rw [← z1, ← z2]; exact ⟨⟨⟨by omega, by omega, hx N (Nat.le_refl _)⟩, jx_big + 9, .null, .null, (newc hN).trans rfl, emp_str, fun z => absurd z (show ¬ (6 : Int) = 4 by decide)⟩, hP⟩, fun e hh => (by rw [e0] at hh; cases hh)⟩
    refine jr_1 jm_142 (show jw_cd cd_142 20 = some (.aload_n 0) by decide +kernel) rfl ?_
    refine jr_1 jm_142 (show jw_cd cd_142 21 = some (.getfield 9) by decide +kernel) (cgr_6_0 (show jw_fld 7 9 4 = some 0 by decide +kernel)) ?_
    refine jr_c jm_142 (show jw_cd cd_142 24 = some (.invokevirtual 45) by decide +kernel) (ccv (n := 0) (m2 := 58) (ci := 1) (a := 1) (bs := []) (r := []) (js_cls cl_c1 (by decide)) (show jw_find jw_cvT 7 45 = some (0, [(1, 58)]) by decide +kernel) (by decide) rfl rfl rfl) jm_58 ⟨Nat.le_of_ble_eq_true rfl, by decide⟩ c3 ?_
    refine jr_1 jm_142 (show jw_cd cd_142 27 = some (.bipush 93) by decide +kernel) (mt_bi (by decide)) ?_
    refine jr_1 jm_142 (show jw_cd cd_142 29 = some (.if_icmp .ne 18) by decide +kernel) (mb_f (q := .ne) (a := v) (b := 93) (by show ¬ (¬ v = 93); exact fun z => z hv) ⟨by omega, by omega⟩ ⟨by omega, by omega⟩ (by decide)) ?_
    refine jr_1 jm_142 (show jw_cd cd_142 32 = some (.aload_n 1) by decide +kernel) rfl ?_
    refine jr_1 jm_142 (show jw_cd cd_142 33 = some (.getfield 88) by decide +kernel) (js_getf (cl_old hl ⟨by omega, oA⟩) (jbg (by omega)) (show jw_fld 7 88 13 = some 2 by decide +kernel) rfl) ?_
    refine jr_1 jm_142 (show jw_cd cd_142 36 = some (.iconst 5) by decide +kernel) rfl ?_
    refine jr_c jm_142 (show jw_cd cd_142 37 = some (.invokestatic 109) by decide +kernel) (mc_s (n := 1) (m2 := 143) (bs := [.int (Int32.ofInt (5))]) (r := [.ref la]) (by decide) (show jw_find jw_csT 7 109 = some (143, 1) by decide +kernel) rfl rfl rfl) jm_143 ⟨Nat.le_of_ble_eq_true rfl, by decide⟩ c4 ?_
    refine jr_c jm_142 (show jw_cd cd_142 40 = some (.invokevirtual 30) by decide +kernel) (ccv (n := 1) (m2 := 136) (ci := 12) (a := la) (bs := [.ref N]) (r := []) (js_cls (ap_old hl ⟨by omega, oL⟩) (jbg (by omega))) (show jw_find jw_cvT 7 30 = some (1, [(12, 136)]) by decide +kernel) (by decide) rfl rfl rfl) jm_136 ⟨Nat.le_of_ble_eq_true rfl, by decide⟩ ra ?_
    refine jr_1 jm_142 (show jw_cd cd_142 43 = some (.pop) by decide +kernel) rfl ?_
    refine jr_1 jm_142 (show jw_cd cd_142 44 = some (.goto 69) by decide +kernel) (ju_go (t := 113) (by decide)) ?_
    refine jr_1 jm_142 (show jw_cd cd_142 113 = some (.aload_n 0) by decide +kernel) rfl ?_
    refine jr_1 jm_142 (show jw_cd cd_142 114 = some (.getfield 9) by decide +kernel) (cgr_6_0 (show jw_fld 7 9 4 = some 0 by decide +kernel)) ?_
    refine jr_1 jm_142 (show jw_cd cd_142 117 = some (.bipush 93) by decide +kernel) (mt_bi (by decide)) ?_
    refine jr_c jm_142 (show jw_cd cd_142 119 = some (.invokevirtual 56) by decide +kernel) (ccv (n := 1) (m2 := 96) (ci := 1) (a := 1) (bs := [.int (Int32.ofInt (93))]) (r := []) (js_cls cl_c1 (by decide)) (show jw_find jw_cvT 7 56 = some (1, [(1, 96)]) by decide +kernel) (by decide) rfl rfl rfl) jm_96 ⟨Nat.le_of_ble_eq_true rfl, by decide⟩ rm ?_
    exact jr_v jm_142 (show jw_cd cd_142 122 = some (.return_) by decide +kernel) rfl
  have hv : ¬ v = 93 := fun e => h93 ((tC_eq ht hp0 (by decide)).mp (ev.symm.trans e))
  by_cases h42 : tH T n p = 42
  · have hpn : p < n := (tH_r ht hp0).2.2.2 (by rw [h42]; decide)
    have e0 : sBrA T n p = .inr ((2, [], nnu, 0, nsd, nsd), p + 1) := (if_neg h93).trans (if_pos h42)
    have c4 := jc_takeT (β := β) (d := d + 8) hl hP ((tC_eq hP.1.2.2 hP.2.2.2.1 (by decide)).mpr h42) (by decide)
    have c5 := jc_stK (β := β) (d := d + 8) (κ := su κ 4 0 (p + 1)) (kd := 2) hl hN (by omega)
    refine ⟨su κ 4 0 (p + 1), [.inr (14, [.int (Int32.ofInt (2)), .ref (jx_big + 9), .int (Int32.ofInt (0)), .int (Int32.ofInt (1000000)), .int (Int32.ofInt (1)), .null, .int (Int32.ofInt (0)), .null])], N, _, fun h' κ2 ra rm => ?_, newc hN, ⟨by omega, by omega⟩, (by show (1 : Nat) ≤ 64; decide), (by show (8 : Nat) ≤ 250; decide), mEq_su (mEq_refl _ _) (by decide), by rw [su_nf (by decide)]; exact hsc, fun e q hh => by rw [e0] at hh; injection hh with hh; injection hh with z1 z2; rw [← z1, ← z2]; exact ⟨⟨⟨by omega, by omega, hx N (Nat.le_refl _)⟩, jx_big + 9, .null, .null, (newc hN).trans rfl, emp_str, fun z => absurd z (show ¬ (2 : Int) = 4 by decide)⟩, cP_mv hP (by omega) (by omega)⟩, fun e hh => (by rw [e0] at hh; cases hh)⟩
    refine jr_1 jm_142 (show jw_cd cd_142 20 = some (.aload_n 0) by decide +kernel) rfl ?_
    refine jr_1 jm_142 (show jw_cd cd_142 21 = some (.getfield 9) by decide +kernel) (cgr_6_0 (show jw_fld 7 9 4 = some 0 by decide +kernel)) ?_
    refine jr_c jm_142 (show jw_cd cd_142 24 = some (.invokevirtual 45) by decide +kernel) (ccv (n := 0) (m2 := 58) (ci := 1) (a := 1) (bs := []) (r := []) (js_cls cl_c1 (by decide)) (show jw_find jw_cvT 7 45 = some (0, [(1, 58)]) by decide +kernel) (by decide) rfl rfl rfl) jm_58 ⟨Nat.le_of_ble_eq_true rfl, by decide⟩ c3 ?_
    refine jr_1 jm_142 (show jw_cd cd_142 27 = some (.bipush 93) by decide +kernel) (mt_bi (by decide)) ?_
    refine jr_1 jm_142 (show jw_cd cd_142 29 = some (.if_icmp .ne 18) by decide +kernel) (mb_t (q := .ne) (a := v) (b := 93) (t := 47) (by show ¬ v = 93; exact hv) ⟨by omega, by omega⟩ ⟨by omega, by omega⟩ (by decide) (by decide)) ?_
    refine jr_1 jm_142 (show jw_cd cd_142 47 = some (.aload_n 0) by decide +kernel) rfl ?_
    refine jr_1 jm_142 (show jw_cd cd_142 48 = some (.getfield 9) by decide +kernel) (cgr_6_0 (show jw_fld 7 9 4 = some 0 by decide +kernel)) ?_
    refine jr_1 jm_142 (show jw_cd cd_142 51 = some (.bipush 42) by decide +kernel) (mt_bi (by decide)) ?_
    refine jr_c jm_142 (show jw_cd cd_142 53 = some (.invokevirtual 36) by decide +kernel) (ccv (n := 1) (m2 := 64) (ci := 1) (a := 1) (bs := [.int (Int32.ofInt (42))]) (r := []) (js_cls cl_c1 (by decide)) (show jw_find jw_cvT 7 36 = some (1, [(1, 64)]) by decide +kernel) (by decide) rfl rfl rfl) jm_64 ⟨Nat.le_of_ble_eq_true rfl, by decide⟩ c4 ?_
    refine jr_1 jm_142 (show jw_cd cd_142 56 = some (.ifCond .eq 18) by decide +kernel) (mz_f (q := .eq) (a := 1) (by show ¬ (1 = 0); omega) ⟨by omega, by omega⟩ (by decide)) ?_
    refine jr_1 jm_142 (show jw_cd cd_142 59 = some (.aload_n 1) by decide +kernel) rfl ?_
    refine jr_1 jm_142 (show jw_cd cd_142 60 = some (.getfield 88) by decide +kernel) (js_getf (cl_old hl ⟨by omega, oA⟩) (jbg (by omega)) (show jw_fld 7 88 13 = some 2 by decide +kernel) rfl) ?_
    refine jr_1 jm_142 (show jw_cd cd_142 63 = some (.iconst 2) by decide +kernel) rfl ?_
    refine jr_c jm_142 (show jw_cd cd_142 64 = some (.invokestatic 109) by decide +kernel) (mc_s (n := 1) (m2 := 143) (bs := [.int (Int32.ofInt (2))]) (r := [.ref la]) (by decide) (show jw_find jw_csT 7 109 = some (143, 1) by decide +kernel) rfl rfl rfl) jm_143 ⟨Nat.le_of_ble_eq_true rfl, by decide⟩ c5 ?_
    refine jr_c jm_142 (show jw_cd cd_142 67 = some (.invokevirtual 30) by decide +kernel) (ccv (n := 1) (m2 := 136) (ci := 12) (a := la) (bs := [.ref N]) (r := []) (js_cls (ap_old hl ⟨by omega, oL⟩) (jbg (by omega))) (show jw_find jw_cvT 7 30 = some (1, [(12, 136)]) by decide +kernel) (by decide) rfl rfl rfl) jm_136 ⟨Nat.le_of_ble_eq_true rfl, by decide⟩ ra ?_
    refine jr_1 jm_142 (show jw_cd cd_142 70 = some (.pop) by decide +kernel) rfl ?_
    refine jr_1 jm_142 (show jw_cd cd_142 71 = some (.goto 42) by decide +kernel) (ju_go (t := 113) (by decide)) ?_
    refine jr_1 jm_142 (show jw_cd cd_142 113 = some (.aload_n 0) by decide +kernel) rfl ?_
    refine jr_1 jm_142 (show jw_cd cd_142 114 = some (.getfield 9) by decide +kernel) (cgr_6_0 (show jw_fld 7 9 4 = some 0 by decide +kernel)) ?_
    refine jr_1 jm_142 (show jw_cd cd_142 117 = some (.bipush 93) by decide +kernel) (mt_bi (by decide)) ?_
    refine jr_c jm_142 (show jw_cd cd_142 119 = some (.invokevirtual 56) by decide +kernel) (ccv (n := 1) (m2 := 96) (ci := 1) (a := 1) (bs := [.int (Int32.ofInt (93))]) (r := []) (js_cls cl_c1 (by decide)) (show jw_find jw_cvT 7 56 = some (1, [(1, 96)]) by decide +kernel) (by decide) rfl rfl rfl) jm_96 ⟨Nat.le_of_ble_eq_true rfl, by decide⟩ rm ?_
    exact jr_v jm_142 (show jw_cd cd_142 122 = some (.return_) by decide +kernel) rfl
  have c4 := jc_takeF (β := β) (d := d + 8) hl hP (fun e => h42 ((tC_eq hP.1.2.2 hP.2.2.2.1 (by decide)).mp e)) (by decide)
  by_cases h63 : tH T n p = 63
  · have hpn : p < n := (tH_r ht hp0).2.2.2 (by rw [h63]; decide)
    have e0 : sBrA T n p = sCnA T n (p + 1) := (if_neg h93).trans ((if_neg h42).trans (if_pos h63))
    have c5 := jc_takeT (β := β) (d := d + 8) hl hP ((tC_eq hP.1.2.2 hP.2.2.2.1 (by decide)).mpr h63) (by decide)
    obtain ⟨κ1, ek1⟩ : ∃ κ1, κ1 = su κ 4 0 (p + 1) := ⟨_, rfl⟩
    have hP1 : cP κ1 T n (p + 1) := by rw [ek1]; exact cP_mv hP (by omega) (by omega)
    have m1 : mEq [4, 5, 7, 8, 15] κ κ1 := by rw [ek1]; exact mEq_su (mEq_refl _ _) (by decide)
    rw [← ek1] at c5
    obtain ⟨κ', L, b, fs, c6, w1, w2, w3, w4, w5, w6, w7, w8⟩ := jc_cnd (β := β) (d := d) hl hN hb32 hx hP1 (by rw [ek1, su_nf (by decide)]; exact hsc)
    rw [e0]
    refine ⟨κ', L, b, fs, fun h' κ2 ra rm => ?_, w1, w2, w3, w4, mEq_trans m1 w5, w6, w7, w8⟩
    refine jr_1 jm_142 (show jw_cd cd_142 20 = some (.aload_n 0) by decide +kernel) rfl ?_
    refine jr_1 jm_142 (show jw_cd cd_142 21 = some (.getfield 9) by decide +kernel) (cgr_6_0 (show jw_fld 7 9 4 = some 0 by decide +kernel)) ?_
    refine jr_c jm_142 (show jw_cd cd_142 24 = some (.invokevirtual 45) by decide +kernel) (ccv (n := 0) (m2 := 58) (ci := 1) (a := 1) (bs := []) (r := []) (js_cls cl_c1 (by decide)) (show jw_find jw_cvT 7 45 = some (0, [(1, 58)]) by decide +kernel) (by decide) rfl rfl rfl) jm_58 ⟨Nat.le_of_ble_eq_true rfl, by decide⟩ c3 ?_
    refine jr_1 jm_142 (show jw_cd cd_142 27 = some (.bipush 93) by decide +kernel) (mt_bi (by decide)) ?_
    refine jr_1 jm_142 (show jw_cd cd_142 29 = some (.if_icmp .ne 18) by decide +kernel) (mb_t (q := .ne) (a := v) (b := 93) (t := 47) (by show ¬ v = 93; exact hv) ⟨by omega, by omega⟩ ⟨by omega, by omega⟩ (by decide) (by decide)) ?_
    refine jr_1 jm_142 (show jw_cd cd_142 47 = some (.aload_n 0) by decide +kernel) rfl ?_
    refine jr_1 jm_142 (show jw_cd cd_142 48 = some (.getfield 9) by decide +kernel) (cgr_6_0 (show jw_fld 7 9 4 = some 0 by decide +kernel)) ?_
    refine jr_1 jm_142 (show jw_cd cd_142 51 = some (.bipush 42) by decide +kernel) (mt_bi (by decide)) ?_
    refine jr_c jm_142 (show jw_cd cd_142 53 = some (.invokevirtual 36) by decide +kernel) (ccv (n := 1) (m2 := 64) (ci := 1) (a := 1) (bs := [.int (Int32.ofInt (42))]) (r := []) (js_cls cl_c1 (by decide)) (show jw_find jw_cvT 7 36 = some (1, [(1, 64)]) by decide +kernel) (by decide) rfl rfl rfl) jm_64 ⟨Nat.le_of_ble_eq_true rfl, by decide⟩ c4 ?_
    refine jr_1 jm_142 (show jw_cd cd_142 56 = some (.ifCond .eq 18) by decide +kernel) (mz_t (q := .eq) (a := 0) (t := 74) (by show 0 = 0; omega) ⟨by omega, by omega⟩ (by decide) (by decide)) ?_
    refine jr_1 jm_142 (show jw_cd cd_142 74 = some (.aload_n 0) by decide +kernel) rfl ?_
    refine jr_1 jm_142 (show jw_cd cd_142 75 = some (.getfield 9) by decide +kernel) (cgr_6_0 (show jw_fld 7 9 4 = some 0 by decide +kernel)) ?_
    refine jr_1 jm_142 (show jw_cd cd_142 78 = some (.bipush 63) by decide +kernel) (mt_bi (by decide)) ?_
    refine jr_c jm_142 (show jw_cd cd_142 80 = some (.invokevirtual 36) by decide +kernel) (ccv (n := 1) (m2 := 64) (ci := 1) (a := 1) (bs := [.int (Int32.ofInt (63))]) (r := []) (js_cls cl_c1 (by decide)) (show jw_find jw_cvT 7 36 = some (1, [(1, 64)]) by decide +kernel) (by decide) rfl rfl rfl) jm_64 ⟨Nat.le_of_ble_eq_true rfl, by decide⟩ c5 ?_
    refine jr_1 jm_142 (show jw_cd cd_142 83 = some (.ifCond .eq 18) by decide +kernel) (mz_f (q := .eq) (a := 1) (by show ¬ (1 = 0); omega) ⟨by omega, by omega⟩ (by decide)) ?_
    refine jr_1 jm_142 (show jw_cd cd_142 86 = some (.aload_n 1) by decide +kernel) rfl ?_
    refine jr_1 jm_142 (show jw_cd cd_142 87 = some (.getfield 88) by decide +kernel) (js_getf (cl_old hl ⟨by omega, oA⟩) (jbg (by omega)) (show jw_fld 7 88 13 = some 2 by decide +kernel) rfl) ?_
    refine jr_1 jm_142 (show jw_cd cd_142 90 = some (.aload_n 0) by decide +kernel) rfl ?_
    refine jr_c jm_142 (show jw_cd cd_142 91 = some (.invokevirtual 113) by decide +kernel) (ccv (n := 0) (m2 := 144) (ci := 4) (a := 6) (bs := []) (r := [.ref la]) (js_cls cl_c6 (by decide)) (show jw_find jw_cvT 7 113 = some (0, [(4, 144)]) by decide +kernel) (by decide) rfl rfl rfl) jm_144 ⟨Nat.le_of_ble_eq_true rfl, by decide⟩ c6 ?_
    refine jr_c jm_142 (show jw_cd cd_142 94 = some (.invokevirtual 30) by decide +kernel) (ccv (n := 1) (m2 := 136) (ci := 12) (a := la) (bs := [.ref b]) (r := []) (js_cls (ap_old hl ⟨by omega, oL⟩) (jbg (by omega))) (show jw_find jw_cvT 7 30 = some (1, [(12, 136)]) by decide +kernel) (by decide) rfl rfl rfl) jm_136 ⟨Nat.le_of_ble_eq_true rfl, by decide⟩ ra ?_
    refine jr_1 jm_142 (show jw_cd cd_142 97 = some (.pop) by decide +kernel) rfl ?_
    refine jr_1 jm_142 (show jw_cd cd_142 98 = some (.goto 15) by decide +kernel) (ju_go (t := 113) (by decide)) ?_
    refine jr_1 jm_142 (show jw_cd cd_142 113 = some (.aload_n 0) by decide +kernel) rfl ?_
    refine jr_1 jm_142 (show jw_cd cd_142 114 = some (.getfield 9) by decide +kernel) (cgr_6_0 (show jw_fld 7 9 4 = some 0 by decide +kernel)) ?_
    refine jr_1 jm_142 (show jw_cd cd_142 117 = some (.bipush 93) by decide +kernel) (mt_bi (by decide)) ?_
    refine jr_c jm_142 (show jw_cd cd_142 119 = some (.invokevirtual 56) by decide +kernel) (ccv (n := 1) (m2 := 96) (ci := 1) (a := 1) (bs := [.int (Int32.ofInt (93))]) (r := []) (js_cls cl_c1 (by decide)) (show jw_find jw_cvT 7 56 = some (1, [(1, 96)]) by decide +kernel) (by decide) rfl rfl rfl) jm_96 ⟨Nat.le_of_ble_eq_true rfl, by decide⟩ rm ?_
    exact jr_v jm_142 (show jw_cd cd_142 122 = some (.return_) by decide +kernel) rfl
  · have e0 : sBrA T n p = sNmA T n p := (if_neg h93).trans ((if_neg h42).trans (if_neg h63))
    have c5 := jc_takeF (β := β) (d := d + 8) hl hP (fun e => h63 ((tC_eq hP.1.2.2 hP.2.2.2.1 (by decide)).mp e)) (by decide)
    obtain ⟨κ', L, b, fs, c6, w1, w2, w3, w4, w5, w6, w7, w8⟩ := jc_ix (β := β) (d := d) hl hN hb32 hx hP hsc
    rw [e0]
    refine ⟨κ', L, b, fs, fun h' κ2 ra rm => ?_, w1, w2, w3, w4, w5, w6, w7, w8⟩
    refine jr_1 jm_142 (show jw_cd cd_142 20 = some (.aload_n 0) by decide +kernel) rfl ?_
    refine jr_1 jm_142 (show jw_cd cd_142 21 = some (.getfield 9) by decide +kernel) (cgr_6_0 (show jw_fld 7 9 4 = some 0 by decide +kernel)) ?_
    refine jr_c jm_142 (show jw_cd cd_142 24 = some (.invokevirtual 45) by decide +kernel) (ccv (n := 0) (m2 := 58) (ci := 1) (a := 1) (bs := []) (r := []) (js_cls cl_c1 (by decide)) (show jw_find jw_cvT 7 45 = some (0, [(1, 58)]) by decide +kernel) (by decide) rfl rfl rfl) jm_58 ⟨Nat.le_of_ble_eq_true rfl, by decide⟩ c3 ?_
    refine jr_1 jm_142 (show jw_cd cd_142 27 = some (.bipush 93) by decide +kernel) (mt_bi (by decide)) ?_
    refine jr_1 jm_142 (show jw_cd cd_142 29 = some (.if_icmp .ne 18) by decide +kernel) (mb_t (q := .ne) (a := v) (b := 93) (t := 47) (by show ¬ v = 93; exact hv) ⟨by omega, by omega⟩ ⟨by omega, by omega⟩ (by decide) (by decide)) ?_
    refine jr_1 jm_142 (show jw_cd cd_142 47 = some (.aload_n 0) by decide +kernel) rfl ?_
    refine jr_1 jm_142 (show jw_cd cd_142 48 = some (.getfield 9) by decide +kernel) (cgr_6_0 (show jw_fld 7 9 4 = some 0 by decide +kernel)) ?_
    refine jr_1 jm_142 (show jw_cd cd_142 51 = some (.bipush 42) by decide +kernel) (mt_bi (by decide)) ?_
    refine jr_c jm_142 (show jw_cd cd_142 53 = some (.invokevirtual 36) by decide +kernel) (ccv (n := 1) (m2 := 64) (ci := 1) (a := 1) (bs := [.int (Int32.ofInt (42))]) (r := []) (js_cls cl_c1 (by decide)) (show jw_find jw_cvT 7 36 = some (1, [(1, 64)]) by decide +kernel) (by decide) rfl rfl rfl) jm_64 ⟨Nat.le_of_ble_eq_true rfl, by decide⟩ c4 ?_
    refine jr_1 jm_142 (show jw_cd cd_142 56 = some (.ifCond .eq 18) by decide +kernel) (mz_t (q := .eq) (a := 0) (t := 74) (by show 0 = 0; omega) ⟨by omega, by omega⟩ (by decide) (by decide)) ?_
    refine jr_1 jm_142 (show jw_cd cd_142 74 = some (.aload_n 0) by decide +kernel) rfl ?_
    refine jr_1 jm_142 (show jw_cd cd_142 75 = some (.getfield 9) by decide +kernel) (cgr_6_0 (show jw_fld 7 9 4 = some 0 by decide +kernel)) ?_
    refine jr_1 jm_142 (show jw_cd cd_142 78 = some (.bipush 63) by decide +kernel) (mt_bi (by decide)) ?_
    refine jr_c jm_142 (show jw_cd cd_142 80 = some (.invokevirtual 36) by decide +kernel) (ccv (n := 1) (m2 := 64) (ci := 1) (a := 1) (bs := [.int (Int32.ofInt (63))]) (r := []) (js_cls cl_c1 (by decide)) (show jw_find jw_cvT 7 36 = some (1, [(1, 64)]) by decide +kernel) (by decide) rfl rfl rfl) jm_64 ⟨Nat.le_of_ble_eq_true rfl, by decide⟩ c5 ?_
    refine jr_1 jm_142 (show jw_cd cd_142 83 = some (.ifCond .eq 18) by decide +kernel) (mz_t (q := .eq) (a := 0) (t := 101) (by show 0 = 0; omega) ⟨by omega, by omega⟩ (by decide) (by decide)) ?_
    refine jr_1 jm_142 (show jw_cd cd_142 101 = some (.aload_n 1) by decide +kernel) rfl ?_
    refine jr_1 jm_142 (show jw_cd cd_142 102 = some (.getfield 88) by decide +kernel) (js_getf (cl_old hl ⟨by omega, oA⟩) (jbg (by omega)) (show jw_fld 7 88 13 = some 2 by decide +kernel) rfl) ?_
    refine jr_1 jm_142 (show jw_cd cd_142 105 = some (.aload_n 0) by decide +kernel) rfl ?_
    refine jr_c jm_142 (show jw_cd cd_142 106 = some (.invokevirtual 117) by decide +kernel) (ccv (n := 0) (m2 := 151) (ci := 4) (a := 6) (bs := []) (r := [.ref la]) (js_cls cl_c6 (by decide)) (show jw_find jw_cvT 7 117 = some (0, [(4, 151)]) by decide +kernel) (by decide) rfl rfl rfl) jm_151 ⟨Nat.le_of_ble_eq_true rfl, by decide⟩ c6 ?_
    refine jr_c jm_142 (show jw_cd cd_142 109 = some (.invokevirtual 30) by decide +kernel) (ccv (n := 1) (m2 := 136) (ci := 12) (a := la) (bs := [.ref b]) (r := []) (js_cls (ap_old hl ⟨by omega, oL⟩) (jbg (by omega))) (show jw_find jw_cvT 7 30 = some (1, [(12, 136)]) by decide +kernel) (by decide) rfl rfl rfl) jm_136 ⟨Nat.le_of_ble_eq_true rfl, by decide⟩ ra ?_
    refine jr_1 jm_142 (show jw_cd cd_142 112 = some (.pop) by decide +kernel) rfl ?_
    refine jr_1 jm_142 (show jw_cd cd_142 113 = some (.aload_n 0) by decide +kernel) rfl ?_
    refine jr_1 jm_142 (show jw_cd cd_142 114 = some (.getfield 9) by decide +kernel) (cgr_6_0 (show jw_fld 7 9 4 = some 0 by decide +kernel)) ?_
    refine jr_1 jm_142 (show jw_cd cd_142 117 = some (.bipush 93) by decide +kernel) (mt_bi (by decide)) ?_
    refine jr_c jm_142 (show jw_cd cd_142 119 = some (.invokevirtual 56) by decide +kernel) (ccv (n := 1) (m2 := 96) (ci := 1) (a := 1) (bs := [.int (Int32.ofInt (93))]) (r := []) (js_cls cl_c1 (by decide)) (show jw_find jw_cvT 7 56 = some (1, [(1, 96)]) by decide +kernel) (by decide) rfl rfl rfl) jm_96 ⟨Nat.le_of_ble_eq_true rfl, by decide⟩ rm ?_
    exact jr_v jm_142 (show jw_cd cd_142 122 = some (.return_) by decide +kernel) rfl
theorem jc_ixW {β : Bool} {d : Nat} {h : jx_H} {κ : mS} (hl : 50 ≤ h.length) {N : Nat} (hN : h.length = N) (hb32 : N < 2700000000) {e : Int} (hW : cW κ e) : jx_r (jz β) jw_M (d + 2) 151 (0, [some (.ref 6), none, none, none, none, none, none, none], [], (cl_mk h κ)) (cl_mk (h ++ [.inr (14, [.int (Int32.ofInt (1)), .ref (jx_big + 9), .int (Int32.ofInt (0)), .int (Int32.ofInt (1000000)), .int (Int32.ofInt (1)), .null, .int (Int32.ofInt (0)), .null])]) (κ), .inl (some (.ref (N)))) := by
  refine jr_1 jm_151 (show jw_cd cd_151 0 = some (.aload_n 0) by decide +kernel) rfl ?_
  refine jr_1 jm_151 (show jw_cd cd_151 1 = some (.getfield 9) by decide +kernel) (cgr_6_0 (show jw_fld 7 9 4 = some 0 by decide +kernel)) ?_
  refine jr_c jm_151 (show jw_cd cd_151 4 = some (.invokevirtual 45) by decide +kernel) (ccv (n := 0) (m2 := 58) (ci := 1) (a := 1) (bs := []) (r := []) (js_cls cl_c1 (by decide)) (show jw_find jw_cvT 7 45 = some (0, [(1, 58)]) by decide +kernel) (by decide) rfl rfl rfl) jm_58 ⟨Nat.le_of_ble_eq_true rfl, by decide⟩ (jc_hereW hl hW) ?_
  refine jr_1 jm_151 (show jw_cd cd_151 7 = some (.bipush 58) by decide +kernel) (mt_bi (by decide)) ?_
  refine jr_1 jm_151 (show jw_cd cd_151 9 = some (.if_icmp .eq 7) by decide +kernel) (mb_f (q := .eq) (a := 0) (b := 58) (by show ¬ (0 = 58); omega) ⟨by omega, by omega⟩ ⟨by omega, by omega⟩ (by decide)) ?_
  refine jr_1 jm_151 (show jw_cd cd_151 12 = some (.iconst 1) by decide +kernel) rfl ?_
  refine jr_1 jm_151 (show jw_cd cd_151 13 = some (.goto 4) by decide +kernel) (ju_go (t := 17) (by decide)) ?_
  refine jr_1 jm_151 (F2 := (18, [some (.ref 6), some (.int (Int32.ofInt (1))), none, none, none, none, none, none], [], (cl_mk h κ))) (show jw_cd cd_151 17 = some (.istore_n 1) by decide +kernel) rfl ?_
  refine jr_1 jm_151 (show jw_cd cd_151 18 = some (.iload_n 1) by decide +kernel) rfl ?_
  refine jr_1 jm_151 (show jw_cd cd_151 19 = some (.ifCond .eq 13) by decide +kernel) (mz_f (q := .eq) (a := 1) (by show ¬ (1 = 0); omega) ⟨by omega, by omega⟩ (by decide)) ?_
  refine jr_1 jm_151 (show jw_cd cd_151 22 = some (.aload_n 0) by decide +kernel) rfl ?_
  refine jr_1 jm_151 (show jw_cd cd_151 23 = some (.getfield 9) by decide +kernel) (cgr_6_0 (show jw_fld 7 9 4 = some 0 by decide +kernel)) ?_
  refine jr_c jm_151 (show jw_cd cd_151 26 = some (.invokevirtual 120) by decide +kernel) (ccv (n := 0) (m2 := 60) (ci := 1) (a := 1) (bs := []) (r := []) (js_cls cl_c1 (by decide)) (show jw_find jw_cvT 7 120 = some (0, [(1, 60)]) by decide +kernel) (by decide) rfl rfl rfl) jm_60 ⟨Nat.le_of_ble_eq_true rfl, by decide⟩ (jc_numW hl hW) ?_
  refine jr_1 jm_151 (show jw_cd cd_151 29 = some (.goto 4) by decide +kernel) (ju_go (t := 33) (by decide)) ?_
  refine jr_1 jm_151 (F2 := (34, [some (.ref 6), some (.int (Int32.ofInt (1))), some (.int (Int32.ofInt (0))), none, none, none, none, none], [], (cl_mk h κ))) (show jw_cd cd_151 33 = some (.istore_n 2) by decide +kernel) rfl ?_
  exact jc_ixIW hl hN hb32 hW
theorem jc_brW {β : Bool} {d : Nat} {h : jx_H} {κ : mS} (hl : 50 ≤ h.length) {N : Nat} (hN : h.length = N) (hb32 : N < 2700000000) {sa la ea acc : Nat} {md : Int} (hsa : 50 ≤ sa ∧ sa < 4000000000) (hla : 50 ≤ la ∧ la < 4000000000) (oA : h[sa]? = some (.inr (13, [.null, .ref (jx_big + 9), .ref la]))) (oL : h[la]? = some (.inr (12, [.ref ea, .int (Int32.ofInt (((acc : Nat) : Int))), .int (Int32.ofInt (md))]))) {e : Int} (hW : cW κ e) (h' : jx_H) (κ2 : mS) (ra : jx_r (jz β) jw_M (d + 9) 136 (0, [some (.ref la), some (.ref N)], [], (cl_mk (h ++ [.inr (14, [.int (Int32.ofInt (1)), .ref (jx_big + 9), .int (Int32.ofInt (0)), .int (Int32.ofInt (1000000)), .int (Int32.ofInt (1)), .null, .int (Int32.ofInt (0)), .null])]) κ)) (cl_mk h' (κ), .inl (some (.int (Int32.ofInt (1)))))) (rm : jx_r (jz β) jw_M (d + 9) 96 (0, [some (.ref 1), some (.int (Int32.ofInt (93)))], [], (cl_mk h' κ)) (cl_mk h' (κ2), .inl none)) : jx_r (jz β) jw_M (d + 10) 142 (20, [some (.ref 6), some (.ref sa)], [], (cl_mk h κ)) (cl_mk h' (κ2), .inl none) := by
  have c3 := jc_hereW (β := β) (d := d + 9) hl hW
  obtain ⟨v, ev⟩ : ∃ v : Int, v = 0 := ⟨_, rfl⟩
  rw [← ev] at c3
  have hv : ¬ v = 93 := by omega
  have c4 := jc_takeW (β := β) (d := d + 8) (c := 42) hl hW (by decide)
  have c5 := jc_takeW (β := β) (d := d + 8) (c := 63) hl hW (by decide)
  have c6 := jc_ixW (β := β) (d := d + 7) hl hN hb32 hW
  refine jr_1 jm_142 (show jw_cd cd_142 20 = some (.aload_n 0) by decide +kernel) rfl ?_
  refine jr_1 jm_142 (show jw_cd cd_142 21 = some (.getfield 9) by decide +kernel) (cgr_6_0 (show jw_fld 7 9 4 = some 0 by decide +kernel)) ?_
  refine jr_c jm_142 (show jw_cd cd_142 24 = some (.invokevirtual 45) by decide +kernel) (ccv (n := 0) (m2 := 58) (ci := 1) (a := 1) (bs := []) (r := []) (js_cls cl_c1 (by decide)) (show jw_find jw_cvT 7 45 = some (0, [(1, 58)]) by decide +kernel) (by decide) rfl rfl rfl) jm_58 ⟨Nat.le_of_ble_eq_true rfl, by decide⟩ c3 ?_
  refine jr_1 jm_142 (show jw_cd cd_142 27 = some (.bipush 93) by decide +kernel) (mt_bi (by decide)) ?_
  refine jr_1 jm_142 (show jw_cd cd_142 29 = some (.if_icmp .ne 18) by decide +kernel) (mb_t (q := .ne) (a := v) (b := 93) (t := 47) (by show ¬ v = 93; exact hv) ⟨by omega, by omega⟩ ⟨by omega, by omega⟩ (by decide) (by decide)) ?_
  refine jr_1 jm_142 (show jw_cd cd_142 47 = some (.aload_n 0) by decide +kernel) rfl ?_
  refine jr_1 jm_142 (show jw_cd cd_142 48 = some (.getfield 9) by decide +kernel) (cgr_6_0 (show jw_fld 7 9 4 = some 0 by decide +kernel)) ?_
  refine jr_1 jm_142 (show jw_cd cd_142 51 = some (.bipush 42) by decide +kernel) (mt_bi (by decide)) ?_
  refine jr_c jm_142 (show jw_cd cd_142 53 = some (.invokevirtual 36) by decide +kernel) (ccv (n := 1) (m2 := 64) (ci := 1) (a := 1) (bs := [.int (Int32.ofInt (42))]) (r := []) (js_cls cl_c1 (by decide)) (show jw_find jw_cvT 7 36 = some (1, [(1, 64)]) by decide +kernel) (by decide) rfl rfl rfl) jm_64 ⟨Nat.le_of_ble_eq_true rfl, by decide⟩ c4 ?_
  refine jr_1 jm_142 (show jw_cd cd_142 56 = some (.ifCond .eq 18) by decide +kernel) (mz_t (q := .eq) (a := 0) (t := 74) (by show 0 = 0; omega) ⟨by omega, by omega⟩ (by decide) (by decide)) ?_
  refine jr_1 jm_142 (show jw_cd cd_142 74 = some (.aload_n 0) by decide +kernel) rfl ?_
  refine jr_1 jm_142 (show jw_cd cd_142 75 = some (.getfield 9) by decide +kernel) (cgr_6_0 (show jw_fld 7 9 4 = some 0 by decide +kernel)) ?_
  refine jr_1 jm_142 (show jw_cd cd_142 78 = some (.bipush 63) by decide +kernel) (mt_bi (by decide)) ?_
  refine jr_c jm_142 (show jw_cd cd_142 80 = some (.invokevirtual 36) by decide +kernel) (ccv (n := 1) (m2 := 64) (ci := 1) (a := 1) (bs := [.int (Int32.ofInt (63))]) (r := []) (js_cls cl_c1 (by decide)) (show jw_find jw_cvT 7 36 = some (1, [(1, 64)]) by decide +kernel) (by decide) rfl rfl rfl) jm_64 ⟨Nat.le_of_ble_eq_true rfl, by decide⟩ c5 ?_
  refine jr_1 jm_142 (show jw_cd cd_142 83 = some (.ifCond .eq 18) by decide +kernel) (mz_t (q := .eq) (a := 0) (t := 101) (by show 0 = 0; omega) ⟨by omega, by omega⟩ (by decide) (by decide)) ?_
  refine jr_1 jm_142 (show jw_cd cd_142 101 = some (.aload_n 1) by decide +kernel) rfl ?_
  refine jr_1 jm_142 (show jw_cd cd_142 102 = some (.getfield 88) by decide +kernel) (js_getf (cl_old hl ⟨by omega, oA⟩) (jbg (by omega)) (show jw_fld 7 88 13 = some 2 by decide +kernel) rfl) ?_
  refine jr_1 jm_142 (show jw_cd cd_142 105 = some (.aload_n 0) by decide +kernel) rfl ?_
  refine jr_c jm_142 (show jw_cd cd_142 106 = some (.invokevirtual 117) by decide +kernel) (ccv (n := 0) (m2 := 151) (ci := 4) (a := 6) (bs := []) (r := [.ref la]) (js_cls cl_c6 (by decide)) (show jw_find jw_cvT 7 117 = some (0, [(4, 151)]) by decide +kernel) (by decide) rfl rfl rfl) jm_151 ⟨Nat.le_of_ble_eq_true rfl, by decide⟩ c6 ?_
  refine jr_c jm_142 (show jw_cd cd_142 109 = some (.invokevirtual 30) by decide +kernel) (ccv (n := 1) (m2 := 136) (ci := 12) (a := la) (bs := [.ref N]) (r := []) (js_cls (ap_old hl ⟨by omega, oL⟩) (jbg (by omega))) (show jw_find jw_cvT 7 30 = some (1, [(12, 136)]) by decide +kernel) (by decide) rfl rfl rfl) jm_136 ⟨Nat.le_of_ble_eq_true rfl, by decide⟩ ra ?_
  refine jr_1 jm_142 (show jw_cd cd_142 112 = some (.pop) by decide +kernel) rfl ?_
  refine jr_1 jm_142 (show jw_cd cd_142 113 = some (.aload_n 0) by decide +kernel) rfl ?_
  refine jr_1 jm_142 (show jw_cd cd_142 114 = some (.getfield 9) by decide +kernel) (cgr_6_0 (show jw_fld 7 9 4 = some 0 by decide +kernel)) ?_
  refine jr_1 jm_142 (show jw_cd cd_142 117 = some (.bipush 93) by decide +kernel) (mt_bi (by decide)) ?_
  refine jr_c jm_142 (show jw_cd cd_142 119 = some (.invokevirtual 56) by decide +kernel) (ccv (n := 1) (m2 := 96) (ci := 1) (a := 1) (bs := [.int (Int32.ofInt (93))]) (r := []) (js_cls cl_c1 (by decide)) (show jw_find jw_cvT 7 56 = some (1, [(1, 96)]) by decide +kernel) (by decide) rfl rfl rfl) jm_96 ⟨Nat.le_of_ble_eq_true rfl, by decide⟩ rm ?_
  exact jr_v jm_142 (show jw_cd cd_142 122 = some (.return_) by decide +kernel) rfl
