/-! ===== the class: give (printed by program: gen134.py) ===== -/
theorem jm_180 : jw_M 180 = some (10, 4, ((Option.some (Jvm.ClassFile.FieldType.object "PickDesk$Value")), false), jw_cd cd_180, fun _ _ => none) := rfl
theorem swA {β : Bool} {H : jx_H} : jx_arr (jz β) H (jx_big + 50) = some (0, 9, fun i => .int (jw_SW.getD i 0)) := rfl
theorem vF_kth {h : jx_H} {X : Nat → Prop} : ∀ (F : FT) (f g : Nat → Value) (j k : Nat) (y : vT), vF h X F true f g j → (kys F)[k]? = some y → ∃ a, g (j + k) = .ref a ∧ vN h X a y.1 y.2
  | .leaf, _, _, _, _, _, _, hy => by cases hy
  | .inner _ i _ c n, f, g, j, 0, y, hv, hy => by
    obtain ⟨-, b, -⟩ := hv
    obtain ⟨a, b2, b3⟩ := b rfl
    have hy : some (((4, 0, i.2.2.2, []), Std.DTreeMap.Internal.Impl.leaf) : vT) = some y := hy
    cases hy
    exact ⟨a, b2, vNd_fr (fun _ _ z w => ⟨z, w⟩) (fun _ _ _ => trivial) b3⟩
  | .inner _ i _ c n, f, g, j, k + 1, y, hv, hy => by
    obtain ⟨-, -, c1⟩ := hv
    obtain ⟨a, a1, a2⟩ := vF_kth n f g (j + 1) k y c1 hy
    exact ⟨a, by rw [show j + (k + 1) = j + 1 + k by omega]; exact a1, a2⟩
theorem fit_k {w k : Int} (h : fitS w k = true) : w = 8 ∨ (w = 0 ∧ 4 ≤ k) ∨ ((w = 1 ∨ w = 2) ∧ k = 6) ∨ (w = 4 ∧ (k = 4 ∨ k = 5)) ∨ ((w = 3 ∨ w = 5 ∨ w = 6 ∨ w = 7) ∧ k = 5) := of_decide_eq_true h
theorem doFt {w : Int} {s : List Int} {v : vT} (h0 : (doS w s v).1 = 0) : fitS w v.1.1 = true := by
  by_cases hf : fitS w v.1.1 = true
  · exact hf
  · unfold doS at h0
    rw [if_neg hf] at h0
    exact absurd h0 (by decide)
theorem dS_8 {s : List Int} {v : vT} (h0 : (doS 8 s v).1 = 0) : (doS 8 s v).2 = some ((4, 0, tyS v.1.1, []), .leaf) := by
  unfold doS
  rw [if_pos (doFt h0)]
  rfl
theorem dS_0 {s : List Int} {v : vT} (h0 : (doS 0 s v).1 = 0) : (doS 0 s v).2 = some ((3, lenS v.1 v.2, [], []), .leaf) := by
  unfold doS
  rw [if_pos (doFt h0)]
  rfl
theorem dS_1 {s : List Int} {v : vT} (h0 : (doS 1 s v).1 = 0) : (doS 1 s v).2 = some (lsV (kys v.2)) := by
  unfold doS
  rw [if_pos (doFt h0)]
  rfl
theorem dS_2 {s : List Int} {v : vT} (h0 : (doS 2 s v).1 = 0) : (doS 2 s v).2 = some (lsV (sib v.2)) := by
  unfold doS
  rw [if_pos (doFt h0)]
  rfl
theorem dS_4 {s : List Int} {v : vT} (h0 : (doS 4 s v).1 = 0) : (v.1.1 = 4 → (doS 4 s v).2 = some ((4, 0, v.1.2.2.1.reverse, []), .leaf)) ∧ (¬ v.1.1 = 4 → (doS 4 s v).2 = some (lsV (sib v.2).reverse)) := by
  unfold doS
  rw [if_pos (doFt h0)]
  refine ⟨fun e => ?_, fun e => ?_⟩
  · show (if v.1.1 = 4 then _ else _ : Int × Option vT).2 = _
    rw [if_pos e]
  · show (if v.1.1 = 4 then _ else _ : Int × Option vT).2 = _
    rw [if_neg e]
theorem dS_5 {s : List Int} {v : vT} (h0 : (doS 5 s v).1 = 0) : (doS 5 s v).2 = some ((3, wr32 (ftot 0 v.2), [], []), .leaf) := by
  have hf := doFt h0
  unfold doS at h0 ⊢
  rw [if_pos hf] at h0 ⊢
  have h0 : (if fnum v.2 = true then (0, some ((3, wr32 (ftot 0 v.2), [], []), .leaf)) else (2, none) : Int × Option vT).1 = 0 := h0
  show (if fnum v.2 = true then (0, some ((3, wr32 (ftot 0 v.2), [], []), .leaf)) else (2, none) : Int × Option vT).2 = _
  by_cases e : fnum v.2 = true
  · rw [if_pos e]
  · rw [if_neg e] at h0
    exact absurd h0 (by decide)
theorem dS_3 {s : List Int} {v : vT} (h0 : (doS 3 s v).1 = 0) : ¬ fsort s 0 v.2 = -1 ∧ (doS 3 s v).2 = some (lsV (srt s v.2)) := by
  have hf := doFt h0
  unfold doS at h0 ⊢
  rw [if_pos hf] at h0 ⊢
  have h0 : (if fsort s 0 v.2 = -1 then (2, none) else (0, some (lsV (srt s v.2))) : Int × Option vT).1 = 0 := h0
  show _ ∧ (if fsort s 0 v.2 = -1 then (2, none) else (0, some (lsV (srt s v.2))) : Int × Option vT).2 = _
  by_cases e : fsort s 0 v.2 = -1
  · rw [if_pos e] at h0
    exact absurd h0 (by decide)
  · rw [if_neg e]
    exact ⟨e, rfl⟩
theorem dS_6 {s : List Int} {v : vT} (h0 : (doS 6 s v).1 = 0) : ¬ fsort s 0 v.2 = -1 ∧ (doS 6 s v).2 = fbest0 true v.2 := by
  have hf := doFt h0
  unfold doS at h0 ⊢
  rw [if_pos hf] at h0 ⊢
  have h0 : (if fsort s 0 v.2 = -1 then (2, none) else (0, fbest0 true v.2) : Int × Option vT).1 = 0 := h0
  show _ ∧ (if fsort s 0 v.2 = -1 then (2, none) else (0, fbest0 true v.2) : Int × Option vT).2 = _
  by_cases e : fsort s 0 v.2 = -1
  · rw [if_pos e] at h0
    exact absurd h0 (by decide)
  · rw [if_neg e]
    exact ⟨e, rfl⟩
theorem dS_7 {s : List Int} {v : vT} (h0 : (doS 7 s v).1 = 0) : ¬ fsort s 0 v.2 = -1 ∧ (doS 7 s v).2 = fbest0 false v.2 := by
  have hf := doFt h0
  unfold doS at h0 ⊢
  rw [if_pos hf] at h0 ⊢
  have h0 : (if fsort s 0 v.2 = -1 then (2, none) else (0, fbest0 false v.2) : Int × Option vT).1 = 0 := h0
  show _ ∧ (if fsort s 0 v.2 = -1 then (2, none) else (0, fbest0 false v.2) : Int × Option vT).2 = _
  by_cases e : fsort s 0 v.2 = -1
  · rw [if_pos e] at h0
    exact absurd h0 (by decide)
  · rw [if_neg e]
    exact ⟨e, rfl⟩
theorem vR_N {h : jx_H} {X : Nat → Prop} {v : Nat} {i : tI} {F : FT} (hv : vR h X v (i, F)) (hk : ¬ i.1 = 0) : vN h X v i F := by
  rcases hv with ⟨-, e, -⟩ | hv
  · exact absurd e hk
  · exact hv
theorem vN_row {h : jx_H} {X : Nat → Prop} {v : Nat} {i : tI} {F : FT} (hv : vN h X v i F) : rowR h X v (sib F) := by
  obtain ⟨z1, t, ka, ia, kc, ic, f, g, z2, z3, o1, oT, oK, oI, hsz, hkc, hF⟩ := hv
  refine ⟨z1, i.1, i.2.1, t, ka, ia, ic, f, z3, by rw [sib_len]; exact o1, oI, by rw [sib_len]; exact hsz, fun q y hy => ?_⟩
  obtain ⟨a, a1, a2⟩ := vF_nth F _ f g 0 q y hF hy
  rw [Nat.zero_add] at a1
  exact ⟨a, a1, a2⟩
theorem jc_gv0 {β : Bool} {d : Nat} {h : jx_H} {κ : mS} (hl : 50 ≤ h.length) {N : Nat} (hN : h.length = N) (hb32 : N < 2800000000) {X : Nat → Prop} (hx : ∀ c, N ≤ c → ¬ X c) {v t0 : Nat} {i : tI} {F : FT} {s : List Int} (hv : vR h X v (i, F)) (hi : iok i) (hwf : fwf F) (hL : fsz F ≤ 1000) (ht : strR h X t0 s) (hs : tx s) (h0 : (doS 0 s (i, F)).1 = 0) : ∃ (h' : jx_H) (c : Nat), jx_r (jz β) jw_M (d + 7) 180 (0, [some (.ref 11), some (.ref (jx_big + 0)), some (.ref v), some (.ref t0)], [], (cl_mk h κ)) (cl_mk h' (κ), .inl (some (.ref (c)))) ∧ vQ h' X c (doS 0 s (i, F)).2 ∧ (∀ (c : Nat) (y : jx_C), h[c]? = some y → h'[c]? = some y) ∧ N ≤ h'.length ∧ h'.length ≤ N + 6 ∧ cvol h' ≤ cvol h + (24 + fsz F) := by
  have hfit := fit_k (doFt h0)
  dsimp only at hfit
  have hvN := vR_N hv (by omega)
  obtain ⟨z1, t, ka, ia, kc, ic, f, g, z2, z3, o1, oT, oK, oI, hsz, hkc, hF⟩ := id hvN
  have hA := cl_old (κ := κ) hl ⟨by have := z1.1; omega, o1⟩
  have hvb := z1.2.1
  have cE := jc_ext (β := β) (d := d + 4) (κ := κ) hl (vN_O hl hvN) hi
  obtain ⟨ln, eln, c0⟩ : ∃ ln : Int, ln = lenS i F ∧ jx_r (jz β) jw_M (d + 4 + 2) 108 (0, [some (.ref v)], [], (cl_mk h κ)) (cl_mk h (κ), .inl (some (.int (Int32.ofInt (ln))))) := by
    by_cases h4 : i.1 = 4
    · exact ⟨_, by unfold lenS; rw [if_pos h4], cE.1 h4⟩
    · exact ⟨_, by unfold lenS; rw [if_neg h4], cE.2 h4⟩
  refine ⟨h ++ [.inr (5, [.int (Int32.ofInt (3)), .int (Int32.ofInt (ln)), .ref (jx_big + 9), .ref (N + 1), .ref (N + 2), .int (Int32.ofInt (0))]), .inl (4, 0, fun _ => .null), .inl (4, 0, fun _ => .null)], N, ?_, by rw [dS_0 h0, ← eln]; exact Or.inr (ofV_vN hl hN (by omega) hx emp_str (by decide)), fun c y hy => by rw [List.getElem?_append_left (List.getElem?_eq_some_iff.mp hy).1]; exact hy, by rw [List.length_append]; omega, by rw [List.length_append, hN]; show N + 3 ≤ _; omega, by rw [cvol_app]; show _ + (6 + (0 + (0 + 0))) ≤ _; omega⟩
  refine jr_1 jm_180 (show jw_cd cd_180 0 = some (.getstatic 65) by decide +kernel) (cgs (v := .ref (jx_big + 50)) (by decide) rfl) ?_
  refine jr_1 jm_180 (show jw_cd cd_180 3 = some (.aload_n 1) by decide +kernel) rfl ?_
  refine jr_c jm_180 (show jw_cd cd_180 4 = some (.invokevirtual 71) by decide +kernel) (ccv (n := 0) (m2 := 181) (ci := 17) (a := jx_big + 0) (bs := []) (r := [.ref (jx_big + 50)]) (jw_wc (by decide)) (show jw_find jw_cvT 10 71 = some (0, [(17, 181)]) by decide +kernel) (by decide) rfl rfl rfl) jm_181 ⟨Nat.le_of_ble_eq_true rfl, by decide⟩ (jc_ord (w := 0) hl (by decide)) ?_
  refine jr_1 jm_180 (show jw_cd cd_180 7 = some (.iaload) by decide +kernel) (cal_i (e := .int (Int32.ofInt (1))) swA (by decide) (by decide) (by decide) rfl) ?_
  refine jr_1 jm_180 (show jw_cd cd_180 8 = some (.tableswitch 140 1 8 #[48, 56, 69, 82, 89, 117, 126, 133]) by decide +kernel) (mt_ts (t := 56) (off := 48) ⟨by omega, by omega⟩ (by decide) (by rfl) (by decide)) ?_
  refine jr_1 jm_180 (show jw_cd cd_180 56 = some (.aload_n 2) by decide +kernel) rfl ?_
  refine jr_c jm_180 (show jw_cd cd_180 57 = some (.invokevirtual 75) by decide +kernel) (ccv (n := 0) (m2 := 108) (ci := 5) (a := v) (bs := []) (r := []) (js_cls hA (jbg (by omega))) (show jw_find jw_cvT 10 75 = some (0, [(5, 108)]) by decide +kernel) (by decide) rfl rfl rfl) jm_108 ⟨Nat.le_of_ble_eq_true rfl, by decide⟩ c0 ?_
  refine jr_c jm_180 (show jw_cd cd_180 60 = some (.invokestatic 78) by decide +kernel) (mc_s (n := 1) (m2 := 63) (bs := [.int (Int32.ofInt (ln))]) (r := []) (by decide) (show jw_find jw_csT 10 78 = some (63, 1) by decide +kernel) rfl rfl rfl) jm_63 ⟨Nat.le_of_ble_eq_true rfl, by decide⟩ (jc_ofN (d := d + 5) (nm := ln) hl hN (by omega)) ?_
  exact jr_v jm_180 (show jw_cd cd_180 63 = some (.areturn) by decide +kernel) rfl
theorem jc_gv1 {β : Bool} {d : Nat} {h : jx_H} {κ : mS} (hl : 50 ≤ h.length) {N : Nat} (hN : h.length = N) (hb32 : N < 2800000000) {X : Nat → Prop} (hx : ∀ c, N ≤ c → ¬ X c) {v t0 : Nat} {i : tI} {F : FT} {s : List Int} (hv : vR h X v (i, F)) (hi : iok i) (hwf : fwf F) (hL : fsz F ≤ 1000) (ht : strR h X t0 s) (hs : tx s) (h0 : (doS 1 s (i, F)).1 = 0) : ∃ (h' : jx_H) (c : Nat), jx_r (jz β) jw_M (d + 7) 180 (0, [some (.ref 11), some (.ref (jx_big + 1)), some (.ref v), some (.ref t0)], [], (cl_mk h κ)) (cl_mk h' (κ), .inl (some (.ref (c)))) ∧ vQ h' X c (doS 1 s (i, F)).2 ∧ (∀ (c : Nat) (y : jx_C), h[c]? = some y → h'[c]? = some y) ∧ N ≤ h'.length ∧ h'.length ≤ N + 6 ∧ cvol h' ≤ cvol h + (24 + fsz F) := by
  have hfit := fit_k (doFt h0)
  dsimp only at hfit
  have hvN := vR_N hv (by omega)
  obtain ⟨z1, t, ka, ia, kc, ic, f, g, z2, z3, o1, oT, oK, oI, hsz, hkc, hF⟩ := id hvN
  have hA := cl_old (κ := κ) hl ⟨by have := z1.1; omega, o1⟩
  have hvb := z1.2.1
  have hkk : fsz F ≤ kc ∧ kc ≤ 1000000 := by
    rcases hkc with ⟨-, q⟩ | ⟨q, -⟩
    · exact q
    · exact absurd (by omega) q
  have eK : (kys F).length = fsz F := by unfold kys; rw [List.length_map, sib_len]
  have har : arR h X ka kc (kys F) := by
    refine ⟨z2, g, oK, by rw [eK]; exact hkk, fun q y hy => ?_⟩
    have hF : vF h X F true f g 0 := by
      have e : decide (i.1 = 6) = true := decide_eq_true (by omega)
      rw [e] at hF
      exact hF
    obtain ⟨a, a1, a2⟩ := vF_kth F f g 0 q y hF hy
    rw [Nat.zero_add] at a1
    exact ⟨a, a1, a2⟩
  obtain ⟨h', c0, p1, p2, p3, p4⟩ := jc_listOf (β := β) (d := d + 4) (κ := κ) hl hN hb32 hx (by omega) har
  rw [eK] at c0 p4
  refine ⟨h', N, ?_, by rw [dS_1 h0]; exact Or.inr p1, p2, by omega, by omega, by omega⟩
  refine jr_1 jm_180 (show jw_cd cd_180 0 = some (.getstatic 65) by decide +kernel) (cgs (v := .ref (jx_big + 50)) (by decide) rfl) ?_
  refine jr_1 jm_180 (show jw_cd cd_180 3 = some (.aload_n 1) by decide +kernel) rfl ?_
  refine jr_c jm_180 (show jw_cd cd_180 4 = some (.invokevirtual 71) by decide +kernel) (ccv (n := 0) (m2 := 181) (ci := 17) (a := jx_big + 1) (bs := []) (r := [.ref (jx_big + 50)]) (jw_wc (by decide)) (show jw_find jw_cvT 10 71 = some (0, [(17, 181)]) by decide +kernel) (by decide) rfl rfl rfl) jm_181 ⟨Nat.le_of_ble_eq_true rfl, by decide⟩ (jc_ord (w := 1) hl (by decide)) ?_
  refine jr_1 jm_180 (show jw_cd cd_180 7 = some (.iaload) by decide +kernel) (cal_i (e := .int (Int32.ofInt (2))) swA (by decide) (by decide) (by decide) rfl) ?_
  refine jr_1 jm_180 (show jw_cd cd_180 8 = some (.tableswitch 140 1 8 #[48, 56, 69, 82, 89, 117, 126, 133]) by decide +kernel) (mt_ts (t := 64) (off := 56) ⟨by omega, by omega⟩ (by decide) (by rfl) (by decide)) ?_
  refine jr_1 jm_180 (show jw_cd cd_180 64 = some (.aload_n 0) by decide +kernel) rfl ?_
  refine jr_1 jm_180 (show jw_cd cd_180 65 = some (.aload_n 2) by decide +kernel) rfl ?_
  refine jr_1 jm_180 (show jw_cd cd_180 66 = some (.getfield 82) by decide +kernel) (js_getf hA (jbg (by omega)) (show jw_fld 10 82 5 = some 3 by decide +kernel) rfl) ?_
  refine jr_1 jm_180 (show jw_cd cd_180 69 = some (.aload_n 2) by decide +kernel) rfl ?_
  refine jr_1 jm_180 (show jw_cd cd_180 70 = some (.getfield 44) by decide +kernel) (js_getf hA (jbg (by omega)) (show jw_fld 10 44 5 = some 5 by decide +kernel) rfl) ?_
  refine jr_c jm_180 (show jw_cd cd_180 73 = some (.invokevirtual 85) by decide +kernel) (ccv (n := 2) (m2 := 182) (ci := 7) (a := 11) (bs := [.ref ka, .int (Int32.ofInt (((fsz F : Nat) : Int)))]) (r := []) (js_cls cl_c11 (by decide)) (show jw_find jw_cvT 10 85 = some (2, [(7, 182)]) by decide +kernel) (by decide) rfl rfl rfl) jm_182 ⟨Nat.le_of_ble_eq_true rfl, by decide⟩ c0 ?_
  exact jr_v jm_180 (show jw_cd cd_180 76 = some (.areturn) by decide +kernel) rfl
theorem jc_gv2 {β : Bool} {d : Nat} {h : jx_H} {κ : mS} (hl : 50 ≤ h.length) {N : Nat} (hN : h.length = N) (hb32 : N < 2800000000) {X : Nat → Prop} (hx : ∀ c, N ≤ c → ¬ X c) {v t0 : Nat} {i : tI} {F : FT} {s : List Int} (hv : vR h X v (i, F)) (hi : iok i) (hwf : fwf F) (hL : fsz F ≤ 1000) (ht : strR h X t0 s) (hs : tx s) (h0 : (doS 2 s (i, F)).1 = 0) : ∃ (h' : jx_H) (c : Nat), jx_r (jz β) jw_M (d + 7) 180 (0, [some (.ref 11), some (.ref (jx_big + 2)), some (.ref v), some (.ref t0)], [], (cl_mk h κ)) (cl_mk h' (κ), .inl (some (.ref (c)))) ∧ vQ h' X c (doS 2 s (i, F)).2 ∧ (∀ (c : Nat) (y : jx_C), h[c]? = some y → h'[c]? = some y) ∧ N ≤ h'.length ∧ h'.length ≤ N + 6 ∧ cvol h' ≤ cvol h + (24 + fsz F) := by
  have hfit := fit_k (doFt h0)
  dsimp only at hfit
  have hvN := vR_N hv (by omega)
  obtain ⟨z1, t, ka, ia, kc, ic, f, g, z2, z3, o1, oT, oK, oI, hsz, hkc, hF⟩ := id hvN
  have hA := cl_old (κ := κ) hl ⟨by have := z1.1; omega, o1⟩
  have hvb := z1.2.1
  have eK : (sib F).length = fsz F := sib_len F
  have har : arR h X ia ic (sib F) := by
    refine ⟨z3, f, oI, by rw [eK]; exact hsz, fun q y hy => ?_⟩
    obtain ⟨a, a1, a2⟩ := vF_nth F _ f g 0 q y hF hy
    rw [Nat.zero_add] at a1
    exact ⟨a, a1, a2⟩
  obtain ⟨h', c0, p1, p2, p3, p4⟩ := jc_listOf (β := β) (d := d + 4) (κ := κ) hl hN hb32 hx (by omega) har
  rw [eK] at c0 p4
  refine ⟨h', N, ?_, by rw [dS_2 h0]; exact Or.inr p1, p2, by omega, by omega, by omega⟩
  refine jr_1 jm_180 (show jw_cd cd_180 0 = some (.getstatic 65) by decide +kernel) (cgs (v := .ref (jx_big + 50)) (by decide) rfl) ?_
  refine jr_1 jm_180 (show jw_cd cd_180 3 = some (.aload_n 1) by decide +kernel) rfl ?_
  refine jr_c jm_180 (show jw_cd cd_180 4 = some (.invokevirtual 71) by decide +kernel) (ccv (n := 0) (m2 := 181) (ci := 17) (a := jx_big + 2) (bs := []) (r := [.ref (jx_big + 50)]) (jw_wc (by decide)) (show jw_find jw_cvT 10 71 = some (0, [(17, 181)]) by decide +kernel) (by decide) rfl rfl rfl) jm_181 ⟨Nat.le_of_ble_eq_true rfl, by decide⟩ (jc_ord (w := 2) hl (by decide)) ?_
  refine jr_1 jm_180 (show jw_cd cd_180 7 = some (.iaload) by decide +kernel) (cal_i (e := .int (Int32.ofInt (3))) swA (by decide) (by decide) (by decide) rfl) ?_
  refine jr_1 jm_180 (show jw_cd cd_180 8 = some (.tableswitch 140 1 8 #[48, 56, 69, 82, 89, 117, 126, 133]) by decide +kernel) (mt_ts (t := 77) (off := 69) ⟨by omega, by omega⟩ (by decide) (by rfl) (by decide)) ?_
  refine jr_1 jm_180 (show jw_cd cd_180 77 = some (.aload_n 0) by decide +kernel) rfl ?_
  refine jr_1 jm_180 (show jw_cd cd_180 78 = some (.aload_n 2) by decide +kernel) rfl ?_
  refine jr_1 jm_180 (show jw_cd cd_180 79 = some (.getfield 47) by decide +kernel) (js_getf hA (jbg (by omega)) (show jw_fld 10 47 5 = some 4 by decide +kernel) rfl) ?_
  refine jr_1 jm_180 (show jw_cd cd_180 82 = some (.aload_n 2) by decide +kernel) rfl ?_
  refine jr_1 jm_180 (show jw_cd cd_180 83 = some (.getfield 44) by decide +kernel) (js_getf hA (jbg (by omega)) (show jw_fld 10 44 5 = some 5 by decide +kernel) rfl) ?_
  refine jr_c jm_180 (show jw_cd cd_180 86 = some (.invokevirtual 85) by decide +kernel) (ccv (n := 2) (m2 := 182) (ci := 7) (a := 11) (bs := [.ref ia, .int (Int32.ofInt (((fsz F : Nat) : Int)))]) (r := []) (js_cls cl_c11 (by decide)) (show jw_find jw_cvT 10 85 = some (2, [(7, 182)]) by decide +kernel) (by decide) rfl rfl rfl) jm_182 ⟨Nat.le_of_ble_eq_true rfl, by decide⟩ c0 ?_
  exact jr_v jm_180 (show jw_cd cd_180 89 = some (.areturn) by decide +kernel) rfl
theorem jc_gv3 {β : Bool} {d : Nat} {h : jx_H} {κ : mS} (hl : 50 ≤ h.length) {N : Nat} (hN : h.length = N) (hb32 : N < 2800000000) {X : Nat → Prop} (hx : ∀ c, N ≤ c → ¬ X c) {v t0 : Nat} {i : tI} {F : FT} {s : List Int} (hv : vR h X v (i, F)) (hi : iok i) (hwf : fwf F) (hL : fsz F ≤ 1000) (ht : strR h X t0 s) (hs : tx s) (h0 : (doS 3 s (i, F)).1 = 0) : ∃ (h' : jx_H) (c : Nat), jx_r (jz β) jw_M (d + 7) 180 (0, [some (.ref 11), some (.ref (jx_big + 3)), some (.ref v), some (.ref t0)], [], (cl_mk h κ)) (cl_mk h' (κ), .inl (some (.ref (c)))) ∧ vQ h' X c (doS 3 s (i, F)).2 ∧ (∀ (c : Nat) (y : jx_C), h[c]? = some y → h'[c]? = some y) ∧ N ≤ h'.length ∧ h'.length ≤ N + 6 ∧ cvol h' ≤ cvol h + (24 + fsz F) := by
  have hfit := fit_k (doFt h0)
  dsimp only at hfit
  have hvN := vR_N hv (by omega)
  obtain ⟨z1, t, ka, ia, kc, ic, f, g, z2, z3, o1, oT, oK, oI, hsz, hkc, hF⟩ := id hvN
  have hA := cl_old (κ := κ) hl ⟨by have := z1.1; omega, o1⟩
  have hvb := z1.2.1
  obtain ⟨hK, hR⟩ := dS_3 h0
  obtain ⟨h', c0, p1, p2, p3, p4⟩ := jc_sorted (β := β) (d := d) (κ := κ) hl hN hb32 hx hL hwf hK hs (vN_row hvN) ht
  refine ⟨h', N, ?_, by rw [hR]; exact Or.inr p1, p2, by omega, by omega, by omega⟩
  refine jr_1 jm_180 (show jw_cd cd_180 0 = some (.getstatic 65) by decide +kernel) (cgs (v := .ref (jx_big + 50)) (by decide) rfl) ?_
  refine jr_1 jm_180 (show jw_cd cd_180 3 = some (.aload_n 1) by decide +kernel) rfl ?_
  refine jr_c jm_180 (show jw_cd cd_180 4 = some (.invokevirtual 71) by decide +kernel) (ccv (n := 0) (m2 := 181) (ci := 17) (a := jx_big + 3) (bs := []) (r := [.ref (jx_big + 50)]) (jw_wc (by decide)) (show jw_find jw_cvT 10 71 = some (0, [(17, 181)]) by decide +kernel) (by decide) rfl rfl rfl) jm_181 ⟨Nat.le_of_ble_eq_true rfl, by decide⟩ (jc_ord (w := 3) hl (by decide)) ?_
  refine jr_1 jm_180 (show jw_cd cd_180 7 = some (.iaload) by decide +kernel) (cal_i (e := .int (Int32.ofInt (4))) swA (by decide) (by decide) (by decide) rfl) ?_
  refine jr_1 jm_180 (show jw_cd cd_180 8 = some (.tableswitch 140 1 8 #[48, 56, 69, 82, 89, 117, 126, 133]) by decide +kernel) (mt_ts (t := 90) (off := 82) ⟨by omega, by omega⟩ (by decide) (by rfl) (by decide)) ?_
  refine jr_1 jm_180 (show jw_cd cd_180 90 = some (.aload_n 0) by decide +kernel) rfl ?_
  refine jr_1 jm_180 (show jw_cd cd_180 91 = some (.aload_n 2) by decide +kernel) rfl ?_
  refine jr_1 jm_180 (show jw_cd cd_180 92 = some (.aload_n 3) by decide +kernel) rfl ?_
  refine jr_c jm_180 (show jw_cd cd_180 93 = some (.invokevirtual 89) by decide +kernel) (ccv (n := 2) (m2 := 183) (ci := 7) (a := 11) (bs := [.ref v, .ref t0]) (r := []) (js_cls cl_c11 (by decide)) (show jw_find jw_cvT 10 89 = some (2, [(7, 183)]) by decide +kernel) (by decide) rfl rfl rfl) jm_183 ⟨Nat.le_of_ble_eq_true rfl, by decide⟩ c0 ?_
  exact jr_v jm_180 (show jw_cd cd_180 96 = some (.areturn) by decide +kernel) rfl
theorem jc_gv4 {β : Bool} {d : Nat} {h : jx_H} {κ : mS} (hl : 50 ≤ h.length) {N : Nat} (hN : h.length = N) (hb32 : N < 2800000000) {X : Nat → Prop} (hx : ∀ c, N ≤ c → ¬ X c) {v t0 : Nat} {i : tI} {F : FT} {s : List Int} (hv : vR h X v (i, F)) (hi : iok i) (hwf : fwf F) (hL : fsz F ≤ 1000) (ht : strR h X t0 s) (hs : tx s) (h0 : (doS 4 s (i, F)).1 = 0) : ∃ (h' : jx_H) (c : Nat), jx_r (jz β) jw_M (d + 7) 180 (0, [some (.ref 11), some (.ref (jx_big + 4)), some (.ref v), some (.ref t0)], [], (cl_mk h κ)) (cl_mk h' (κ), .inl (some (.ref (c)))) ∧ vQ h' X c (doS 4 s (i, F)).2 ∧ (∀ (c : Nat) (y : jx_C), h[c]? = some y → h'[c]? = some y) ∧ N ≤ h'.length ∧ h'.length ≤ N + 6 ∧ cvol h' ≤ cvol h + (24 + fsz F) := by
  have hfit := fit_k (doFt h0)
  dsimp only at hfit
  have hvN := vR_N hv (by omega)
  obtain ⟨z1, t, ka, ia, kc, ic, f, g, z2, z3, o1, oT, oK, oI, hsz, hkc, hF⟩ := id hvN
  have hA := cl_old (κ := κ) hl ⟨by have := z1.1; omega, o1⟩
  have hvb := z1.2.1
  obtain ⟨hR4, hR5⟩ := dS_4 h0
  by_cases h4 : i.1 = 4
  · have t7 := hi.2.2.2.1.1
    obtain ⟨h', c0, ⟨L, eL, l1, l2⟩, p2⟩ := jc_rev (β := β) (d := d + 2) (κ := κ) hl hN (by omega) hx oT (by have := hi.2.2.2.1.1; omega) (fun c hc => by have := hi.2.2.2.1.2 c hc; omega)
    obtain ⟨M, eM⟩ : ∃ M, h'.length = M := ⟨_, rfl⟩
    have hM : M = N + L.length := by rw [← eM, eL, List.length_append, hN]
    have hl' : 50 ≤ h'.length := by omega
    have c1 := jc_ofT (β := β) (d := d + 5) (κ := κ) (t := N + 1) hl' eM (by omega)
    have cv : cvol h' = cvol h + cvol L := by rw [eL, cvol_app]
    refine ⟨h' ++ [.inr (5, [.int (Int32.ofInt (4)), .int (Int32.ofInt (0)), .ref (N + 1), .ref (M + 1), .ref (M + 2), .int (Int32.ofInt (0))]), .inl (4, 0, fun _ => .null), .inl (4, 0, fun _ => .null)], M, ?_, by rw [hR4 h4]; exact Or.inr (ofV_vN hl' eM (by omega) (fun c hc => hx c (by omega)) p2 (by decide)), fun c y hy => ?_, by rw [List.length_append]; omega, by rw [List.length_append, eM]; show M + 3 ≤ _; omega, by rw [cvol_app, cv]; show _ + (6 + (0 + (0 + 0))) ≤ _; omega⟩
    rotate_left
    · have e1 : h'[c]? = some y := by rw [eL, List.getElem?_append_left (List.getElem?_eq_some_iff.mp hy).1]; exact hy
      rw [List.getElem?_append_left (List.getElem?_eq_some_iff.mp e1).1]
      exact e1
    refine jr_1 jm_180 (show jw_cd cd_180 0 = some (.getstatic 65) by decide +kernel) (cgs (v := .ref (jx_big + 50)) (by decide) rfl) ?_
    refine jr_1 jm_180 (show jw_cd cd_180 3 = some (.aload_n 1) by decide +kernel) rfl ?_
    refine jr_c jm_180 (show jw_cd cd_180 4 = some (.invokevirtual 71) by decide +kernel) (ccv (n := 0) (m2 := 181) (ci := 17) (a := jx_big + 4) (bs := []) (r := [.ref (jx_big + 50)]) (jw_wc (by decide)) (show jw_find jw_cvT 10 71 = some (0, [(17, 181)]) by decide +kernel) (by decide) rfl rfl rfl) jm_181 ⟨Nat.le_of_ble_eq_true rfl, by decide⟩ (jc_ord (w := 4) hl (by decide)) ?_
    refine jr_1 jm_180 (show jw_cd cd_180 7 = some (.iaload) by decide +kernel) (cal_i (e := .int (Int32.ofInt (5))) swA (by decide) (by decide) (by decide) rfl) ?_
    refine jr_1 jm_180 (show jw_cd cd_180 8 = some (.tableswitch 140 1 8 #[48, 56, 69, 82, 89, 117, 126, 133]) by decide +kernel) (mt_ts (t := 97) (off := 89) ⟨by omega, by omega⟩ (by decide) (by rfl) (by decide)) ?_
    refine jr_1 jm_180 (show jw_cd cd_180 97 = some (.aload_n 2) by decide +kernel) rfl ?_
    refine jr_1 jm_180 (show jw_cd cd_180 98 = some (.getfield 15) by decide +kernel) (js_getf hA (jbg (by omega)) (show jw_fld 10 15 5 = some 0 by decide +kernel) rfl) ?_
    refine jr_1 jm_180 (show jw_cd cd_180 101 = some (.iconst 4) by decide +kernel) rfl ?_
    refine jr_1 jm_180 (show jw_cd cd_180 102 = some (.if_icmp .ne 17) by decide +kernel) (mb_f (q := .ne) (a := i.1) (b := 4) (by show ¬ (¬ (i.1 = 4)); omega) ⟨by omega, by omega⟩ ⟨by omega, by omega⟩ (by decide)) ?_
    refine jr_1 jm_180 (show jw_cd cd_180 105 = some (.aload_n 0) by decide +kernel) rfl ?_
    refine jr_1 jm_180 (show jw_cd cd_180 106 = some (.aload_n 2) by decide +kernel) rfl ?_
    refine jr_1 jm_180 (show jw_cd cd_180 107 = some (.getfield 92) by decide +kernel) (js_getf hA (jbg (by omega)) (show jw_fld 10 92 5 = some 2 by decide +kernel) rfl) ?_
    refine jr_c jm_180 (show jw_cd cd_180 110 = some (.invokevirtual 96) by decide +kernel) (ccv (n := 1) (m2 := 192) (ci := 7) (a := 11) (bs := [.ref t]) (r := []) (js_cls cl_c11 (by decide)) (show jw_find jw_cvT 10 96 = some (1, [(7, 192)]) by decide +kernel) (by decide) rfl rfl rfl) jm_192 ⟨Nat.le_of_ble_eq_true rfl, by decide⟩ c0 ?_
    refine jr_c jm_180 (show jw_cd cd_180 113 = some (.invokestatic 100) by decide +kernel) (mc_s (n := 1) (m2 := 91) (bs := [.ref (N + 1)]) (r := []) (by decide) (show jw_find jw_csT 10 100 = some (91, 1) by decide +kernel) rfl rfl rfl) jm_91 ⟨Nat.le_of_ble_eq_true rfl, by decide⟩ c1 ?_
    refine jr_1 jm_180 (show jw_cd cd_180 116 = some (.goto 8) by decide +kernel) (ju_go (t := 124) (by decide)) ?_
    exact jr_v jm_180 (show jw_cd cd_180 124 = some (.areturn) by decide +kernel) rfl
  obtain ⟨h', c0, p1, p2, p3, p4⟩ := jc_revL (β := β) (d := d + 4) (κ := κ) hl hN hb32 hx (by rw [sib_len]; exact hL) (vN_row hvN)
  rw [sib_len] at p4
  refine ⟨h', N, ?_, by rw [hR5 h4]; exact Or.inr p1, p2, by omega, by omega, by omega⟩
  refine jr_1 jm_180 (show jw_cd cd_180 0 = some (.getstatic 65) by decide +kernel) (cgs (v := .ref (jx_big + 50)) (by decide) rfl) ?_
  refine jr_1 jm_180 (show jw_cd cd_180 3 = some (.aload_n 1) by decide +kernel) rfl ?_
  refine jr_c jm_180 (show jw_cd cd_180 4 = some (.invokevirtual 71) by decide +kernel) (ccv (n := 0) (m2 := 181) (ci := 17) (a := jx_big + 4) (bs := []) (r := [.ref (jx_big + 50)]) (jw_wc (by decide)) (show jw_find jw_cvT 10 71 = some (0, [(17, 181)]) by decide +kernel) (by decide) rfl rfl rfl) jm_181 ⟨Nat.le_of_ble_eq_true rfl, by decide⟩ (jc_ord (w := 4) hl (by decide)) ?_
  refine jr_1 jm_180 (show jw_cd cd_180 7 = some (.iaload) by decide +kernel) (cal_i (e := .int (Int32.ofInt (5))) swA (by decide) (by decide) (by decide) rfl) ?_
  refine jr_1 jm_180 (show jw_cd cd_180 8 = some (.tableswitch 140 1 8 #[48, 56, 69, 82, 89, 117, 126, 133]) by decide +kernel) (mt_ts (t := 97) (off := 89) ⟨by omega, by omega⟩ (by decide) (by rfl) (by decide)) ?_
  refine jr_1 jm_180 (show jw_cd cd_180 97 = some (.aload_n 2) by decide +kernel) rfl ?_
  refine jr_1 jm_180 (show jw_cd cd_180 98 = some (.getfield 15) by decide +kernel) (js_getf hA (jbg (by omega)) (show jw_fld 10 15 5 = some 0 by decide +kernel) rfl) ?_
  refine jr_1 jm_180 (show jw_cd cd_180 101 = some (.iconst 4) by decide +kernel) rfl ?_
  refine jr_1 jm_180 (show jw_cd cd_180 102 = some (.if_icmp .ne 17) by decide +kernel) (mb_t (q := .ne) (a := i.1) (b := 4) (t := 119) (by show ¬ (i.1 = 4); omega) ⟨by omega, by omega⟩ ⟨by omega, by omega⟩ (by decide) (by decide)) ?_
  refine jr_1 jm_180 (show jw_cd cd_180 119 = some (.aload_n 0) by decide +kernel) rfl ?_
  refine jr_1 jm_180 (show jw_cd cd_180 120 = some (.aload_n 2) by decide +kernel) rfl ?_
  refine jr_c jm_180 (show jw_cd cd_180 121 = some (.invokevirtual 104) by decide +kernel) (ccv (n := 1) (m2 := 203) (ci := 7) (a := 11) (bs := [.ref v]) (r := []) (js_cls cl_c11 (by decide)) (show jw_find jw_cvT 10 104 = some (1, [(7, 203)]) by decide +kernel) (by decide) rfl rfl rfl) jm_203 ⟨Nat.le_of_ble_eq_true rfl, by decide⟩ c0 ?_
  exact jr_v jm_180 (show jw_cd cd_180 124 = some (.areturn) by decide +kernel) rfl
theorem jc_gv5 {β : Bool} {d : Nat} {h : jx_H} {κ : mS} (hl : 50 ≤ h.length) {N : Nat} (hN : h.length = N) (hb32 : N < 2800000000) {X : Nat → Prop} (hx : ∀ c, N ≤ c → ¬ X c) {v t0 : Nat} {i : tI} {F : FT} {s : List Int} (hv : vR h X v (i, F)) (hi : iok i) (hwf : fwf F) (hL : fsz F ≤ 1000) (ht : strR h X t0 s) (hs : tx s) (h0 : (doS 5 s (i, F)).1 = 0) : ∃ (h' : jx_H) (c : Nat), jx_r (jz β) jw_M (d + 7) 180 (0, [some (.ref 11), some (.ref (jx_big + 5)), some (.ref v), some (.ref t0)], [], (cl_mk h κ)) (cl_mk h' (κ), .inl (some (.ref (c)))) ∧ vQ h' X c (doS 5 s (i, F)).2 ∧ (∀ (c : Nat) (y : jx_C), h[c]? = some y → h'[c]? = some y) ∧ N ≤ h'.length ∧ h'.length ≤ N + 6 ∧ cvol h' ≤ cvol h + (24 + fsz F) := by
  have hfit := fit_k (doFt h0)
  dsimp only at hfit
  have hvN := vR_N hv (by omega)
  obtain ⟨z1, t, ka, ia, kc, ic, f, g, z2, z3, o1, oT, oK, oI, hsz, hkc, hF⟩ := id hvN
  have hA := cl_old (κ := κ) hl ⟨by have := z1.1; omega, o1⟩
  have hvb := z1.2.1
  have c0 := jc_sum (β := β) (d := d + 6) (κ := κ) hl (vN_O (κ := κ) hl hvN)
  rw [← wr32_e] at c0
  refine ⟨h ++ [.inr (5, [.int (Int32.ofInt (3)), .int (Int32.ofInt (wr32 (ftot 0 F))), .ref (jx_big + 9), .ref (N + 1), .ref (N + 2), .int (Int32.ofInt (0))]), .inl (4, 0, fun _ => .null), .inl (4, 0, fun _ => .null)], N, ?_, by rw [dS_5 h0]; exact Or.inr (ofV_vN hl hN (by omega) hx emp_str (by decide)), fun c y hy => by rw [List.getElem?_append_left (List.getElem?_eq_some_iff.mp hy).1]; exact hy, by rw [List.length_append]; omega, by rw [List.length_append, hN]; show N + 3 ≤ _; omega, by rw [cvol_app]; show _ + (6 + (0 + (0 + 0))) ≤ _; omega⟩
  refine jr_1 jm_180 (show jw_cd cd_180 0 = some (.getstatic 65) by decide +kernel) (cgs (v := .ref (jx_big + 50)) (by decide) rfl) ?_
  refine jr_1 jm_180 (show jw_cd cd_180 3 = some (.aload_n 1) by decide +kernel) rfl ?_
  refine jr_c jm_180 (show jw_cd cd_180 4 = some (.invokevirtual 71) by decide +kernel) (ccv (n := 0) (m2 := 181) (ci := 17) (a := jx_big + 5) (bs := []) (r := [.ref (jx_big + 50)]) (jw_wc (by decide)) (show jw_find jw_cvT 10 71 = some (0, [(17, 181)]) by decide +kernel) (by decide) rfl rfl rfl) jm_181 ⟨Nat.le_of_ble_eq_true rfl, by decide⟩ (jc_ord (w := 5) hl (by decide)) ?_
  refine jr_1 jm_180 (show jw_cd cd_180 7 = some (.iaload) by decide +kernel) (cal_i (e := .int (Int32.ofInt (6))) swA (by decide) (by decide) (by decide) rfl) ?_
  refine jr_1 jm_180 (show jw_cd cd_180 8 = some (.tableswitch 140 1 8 #[48, 56, 69, 82, 89, 117, 126, 133]) by decide +kernel) (mt_ts (t := 125) (off := 117) ⟨by omega, by omega⟩ (by decide) (by rfl) (by decide)) ?_
  refine jr_1 jm_180 (show jw_cd cd_180 125 = some (.aload_n 0) by decide +kernel) rfl ?_
  refine jr_1 jm_180 (show jw_cd cd_180 126 = some (.aload_n 2) by decide +kernel) rfl ?_
  refine jr_c jm_180 (show jw_cd cd_180 127 = some (.invokevirtual 108) by decide +kernel) (ccv (n := 1) (m2 := 204) (ci := 7) (a := 11) (bs := [.ref v]) (r := []) (js_cls cl_c11 (by decide)) (show jw_find jw_cvT 10 108 = some (1, [(7, 204)]) by decide +kernel) (by decide) rfl rfl rfl) jm_204 ⟨Nat.le_of_ble_eq_true rfl, by decide⟩ c0 ?_
  refine jr_c jm_180 (show jw_cd cd_180 130 = some (.invokestatic 78) by decide +kernel) (mc_s (n := 1) (m2 := 63) (bs := [.int (Int32.ofInt (wr32 (ftot 0 F)))]) (r := []) (by decide) (show jw_find jw_csT 10 78 = some (63, 1) by decide +kernel) rfl rfl rfl) jm_63 ⟨Nat.le_of_ble_eq_true rfl, by decide⟩ (jc_ofN (d := d + 5) (nm := wr32 (ftot 0 F)) hl hN (by omega)) ?_
  exact jr_v jm_180 (show jw_cd cd_180 133 = some (.areturn) by decide +kernel) rfl
theorem jc_gv6 {β : Bool} {d : Nat} {h : jx_H} {κ : mS} (hl : 50 ≤ h.length) {N : Nat} (hN : h.length = N) (hb32 : N < 2800000000) {X : Nat → Prop} (hx : ∀ c, N ≤ c → ¬ X c) {v t0 : Nat} {i : tI} {F : FT} {s : List Int} (hv : vR h X v (i, F)) (hi : iok i) (hwf : fwf F) (hL : fsz F ≤ 1000) (ht : strR h X t0 s) (hs : tx s) (hky : s = []) (h0 : (doS 6 s (i, F)).1 = 0) : ∃ (h' : jx_H) (c : Nat), jx_r (jz β) jw_M (d + 7) 180 (0, [some (.ref 11), some (.ref (jx_big + 6)), some (.ref v), some (.ref t0)], [], (cl_mk h κ)) (cl_mk h' (κ), .inl (some (.ref (c)))) ∧ vQ h' X c (doS 6 s (i, F)).2 ∧ (∀ (c : Nat) (y : jx_C), h[c]? = some y → h'[c]? = some y) ∧ N ≤ h'.length ∧ h'.length ≤ N + 6 ∧ cvol h' ≤ cvol h + (24 + fsz F) := by
  have hfit := fit_k (doFt h0)
  dsimp only at hfit
  have hvN := vR_N hv (by omega)
  obtain ⟨z1, t, ka, ia, kc, ic, f, g, z2, z3, o1, oT, oK, oI, hsz, hkc, hF⟩ := id hvN
  have hA := cl_old (κ := κ) hl ⟨by have := z1.1; omega, o1⟩
  have hvb := z1.2.1
  obtain ⟨hK, hR⟩ := dS_6 h0
  rw [hky] at hK
  obtain ⟨c, c0, p1⟩ := jc_outer (β := β) (d := d + 1) (κ := κ) (most := true) (dr := 1) hl (vN_O hl hvN) hwf rfl hK
  refine ⟨h, c, ?_, by rw [hR]; exact p1, fun _ _ hy => hy, by omega, by omega, by omega⟩
  refine jr_1 jm_180 (show jw_cd cd_180 0 = some (.getstatic 65) by decide +kernel) (cgs (v := .ref (jx_big + 50)) (by decide) rfl) ?_
  refine jr_1 jm_180 (show jw_cd cd_180 3 = some (.aload_n 1) by decide +kernel) rfl ?_
  refine jr_c jm_180 (show jw_cd cd_180 4 = some (.invokevirtual 71) by decide +kernel) (ccv (n := 0) (m2 := 181) (ci := 17) (a := jx_big + 6) (bs := []) (r := [.ref (jx_big + 50)]) (jw_wc (by decide)) (show jw_find jw_cvT 10 71 = some (0, [(17, 181)]) by decide +kernel) (by decide) rfl rfl rfl) jm_181 ⟨Nat.le_of_ble_eq_true rfl, by decide⟩ (jc_ord (w := 6) hl (by decide)) ?_
  refine jr_1 jm_180 (show jw_cd cd_180 7 = some (.iaload) by decide +kernel) (cal_i (e := .int (Int32.ofInt (7))) swA (by decide) (by decide) (by decide) rfl) ?_
  refine jr_1 jm_180 (show jw_cd cd_180 8 = some (.tableswitch 140 1 8 #[48, 56, 69, 82, 89, 117, 126, 133]) by decide +kernel) (mt_ts (t := 134) (off := 126) ⟨by omega, by omega⟩ (by decide) (by rfl) (by decide)) ?_
  refine jr_1 jm_180 (show jw_cd cd_180 134 = some (.aload_n 0) by decide +kernel) rfl ?_
  refine jr_1 jm_180 (show jw_cd cd_180 135 = some (.aload_n 2) by decide +kernel) rfl ?_
  refine jr_1 jm_180 (show jw_cd cd_180 136 = some (.iconst 1) by decide +kernel) rfl ?_
  refine jr_c jm_180 (show jw_cd cd_180 137 = some (.invokevirtual 112) by decide +kernel) (ccv (n := 2) (m2 := 205) (ci := 7) (a := 11) (bs := [.ref v, .int (Int32.ofInt (1))]) (r := []) (js_cls cl_c11 (by decide)) (show jw_find jw_cvT 10 112 = some (2, [(7, 205)]) by decide +kernel) (by decide) rfl rfl rfl) jm_205 ⟨Nat.le_of_ble_eq_true rfl, by decide⟩ c0 ?_
  exact jr_v jm_180 (show jw_cd cd_180 140 = some (.areturn) by decide +kernel) rfl
theorem jc_gv7 {β : Bool} {d : Nat} {h : jx_H} {κ : mS} (hl : 50 ≤ h.length) {N : Nat} (hN : h.length = N) (hb32 : N < 2800000000) {X : Nat → Prop} (hx : ∀ c, N ≤ c → ¬ X c) {v t0 : Nat} {i : tI} {F : FT} {s : List Int} (hv : vR h X v (i, F)) (hi : iok i) (hwf : fwf F) (hL : fsz F ≤ 1000) (ht : strR h X t0 s) (hs : tx s) (hky : s = []) (h0 : (doS 7 s (i, F)).1 = 0) : ∃ (h' : jx_H) (c : Nat), jx_r (jz β) jw_M (d + 7) 180 (0, [some (.ref 11), some (.ref (jx_big + 7)), some (.ref v), some (.ref t0)], [], (cl_mk h κ)) (cl_mk h' (κ), .inl (some (.ref (c)))) ∧ vQ h' X c (doS 7 s (i, F)).2 ∧ (∀ (c : Nat) (y : jx_C), h[c]? = some y → h'[c]? = some y) ∧ N ≤ h'.length ∧ h'.length ≤ N + 6 ∧ cvol h' ≤ cvol h + (24 + fsz F) := by
  have hfit := fit_k (doFt h0)
  dsimp only at hfit
  have hvN := vR_N hv (by omega)
  obtain ⟨z1, t, ka, ia, kc, ic, f, g, z2, z3, o1, oT, oK, oI, hsz, hkc, hF⟩ := id hvN
  have hA := cl_old (κ := κ) hl ⟨by have := z1.1; omega, o1⟩
  have hvb := z1.2.1
  obtain ⟨hK, hR⟩ := dS_7 h0
  rw [hky] at hK
  obtain ⟨c, c0, p1⟩ := jc_outer (β := β) (d := d + 1) (κ := κ) (most := false) (dr := -1) hl (vN_O hl hvN) hwf rfl hK
  refine ⟨h, c, ?_, by rw [hR]; exact p1, fun _ _ hy => hy, by omega, by omega, by omega⟩
  refine jr_1 jm_180 (show jw_cd cd_180 0 = some (.getstatic 65) by decide +kernel) (cgs (v := .ref (jx_big + 50)) (by decide) rfl) ?_
  refine jr_1 jm_180 (show jw_cd cd_180 3 = some (.aload_n 1) by decide +kernel) rfl ?_
  refine jr_c jm_180 (show jw_cd cd_180 4 = some (.invokevirtual 71) by decide +kernel) (ccv (n := 0) (m2 := 181) (ci := 17) (a := jx_big + 7) (bs := []) (r := [.ref (jx_big + 50)]) (jw_wc (by decide)) (show jw_find jw_cvT 10 71 = some (0, [(17, 181)]) by decide +kernel) (by decide) rfl rfl rfl) jm_181 ⟨Nat.le_of_ble_eq_true rfl, by decide⟩ (jc_ord (w := 7) hl (by decide)) ?_
  refine jr_1 jm_180 (show jw_cd cd_180 7 = some (.iaload) by decide +kernel) (cal_i (e := .int (Int32.ofInt (8))) swA (by decide) (by decide) (by decide) rfl) ?_
  refine jr_1 jm_180 (show jw_cd cd_180 8 = some (.tableswitch 140 1 8 #[48, 56, 69, 82, 89, 117, 126, 133]) by decide +kernel) (mt_ts (t := 141) (off := 133) ⟨by omega, by omega⟩ (by decide) (by rfl) (by decide)) ?_
  refine jr_1 jm_180 (show jw_cd cd_180 141 = some (.aload_n 0) by decide +kernel) rfl ?_
  refine jr_1 jm_180 (show jw_cd cd_180 142 = some (.aload_n 2) by decide +kernel) rfl ?_
  refine jr_1 jm_180 (show jw_cd cd_180 143 = some (.iconst (-1)) by decide +kernel) rfl ?_
  refine jr_c jm_180 (show jw_cd cd_180 144 = some (.invokevirtual 112) by decide +kernel) (ccv (n := 2) (m2 := 205) (ci := 7) (a := 11) (bs := [.ref v, .int (Int32.ofInt (-1))]) (r := []) (js_cls cl_c11 (by decide)) (show jw_find jw_cvT 10 112 = some (2, [(7, 205)]) by decide +kernel) (by decide) rfl rfl rfl) jm_205 ⟨Nat.le_of_ble_eq_true rfl, by decide⟩ c0 ?_
  exact jr_v jm_180 (show jw_cd cd_180 147 = some (.areturn) by decide +kernel) rfl
theorem jc_gv8 {β : Bool} {d : Nat} {h : jx_H} {κ : mS} (hl : 50 ≤ h.length) {N : Nat} (hN : h.length = N) (hb32 : N < 2800000000) {X : Nat → Prop} (hx : ∀ c, N ≤ c → ¬ X c) {v t0 : Nat} {i : tI} {F : FT} {s : List Int} (hv : vR h X v (i, F)) (hi : iok i) (hwf : fwf F) (hL : fsz F ≤ 1000) (ht : strR h X t0 s) (hs : tx s) (h0 : (doS 8 s (i, F)).1 = 0) : ∃ (h' : jx_H) (c : Nat), jx_r (jz β) jw_M (d + 7) 180 (0, [some (.ref 11), some (.ref (jx_big + 8)), some (.ref v), some (.ref t0)], [], (cl_mk h κ)) (cl_mk h' (κ), .inl (some (.ref (c)))) ∧ vQ h' X c (doS 8 s (i, F)).2 ∧ (∀ (c : Nat) (y : jx_C), h[c]? = some y → h'[c]? = some y) ∧ N ≤ h'.length ∧ h'.length ≤ N + 6 ∧ cvol h' ≤ cvol h + (24 + fsz F) := by
  obtain ⟨hvb, t, ka, ia, kc, ic, f, g, -, hA, -⟩ := vR_O (κ := κ) hl hv
  dsimp only at hA
  obtain ⟨c, c0, p1⟩ := jc_type (β := β) (d := d + 6) (h := h) (κ := κ) (X := X) (kd := i.1) hl ⟨hi.1, hi.2.1⟩
  refine ⟨h ++ [.inr (5, [.int (Int32.ofInt (4)), .int (Int32.ofInt (0)), .ref c, .ref (N + 1), .ref (N + 2), .int (Int32.ofInt (0))]), .inl (4, 0, fun _ => .null), .inl (4, 0, fun _ => .null)], N, ?_, by rw [dS_8 h0]; exact Or.inr (ofV_vN hl hN (by omega) hx p1 (by decide)), fun c y hy => by rw [List.getElem?_append_left (List.getElem?_eq_some_iff.mp hy).1]; exact hy, by rw [List.length_append]; omega, by rw [List.length_append, hN]; show N + 3 ≤ _; omega, by rw [cvol_app]; show _ + (6 + (0 + (0 + 0))) ≤ _; omega⟩
  refine jr_1 jm_180 (show jw_cd cd_180 0 = some (.getstatic 65) by decide +kernel) (cgs (v := .ref (jx_big + 50)) (by decide) rfl) ?_
  refine jr_1 jm_180 (show jw_cd cd_180 3 = some (.aload_n 1) by decide +kernel) rfl ?_
  refine jr_c jm_180 (show jw_cd cd_180 4 = some (.invokevirtual 71) by decide +kernel) (ccv (n := 0) (m2 := 181) (ci := 17) (a := jx_big + 8) (bs := []) (r := [.ref (jx_big + 50)]) (jw_wc (by decide)) (show jw_find jw_cvT 10 71 = some (0, [(17, 181)]) by decide +kernel) (by decide) rfl rfl rfl) jm_181 ⟨Nat.le_of_ble_eq_true rfl, by decide⟩ (jc_ord (w := 8) hl (by decide)) ?_
  refine jr_1 jm_180 (show jw_cd cd_180 7 = some (.iaload) by decide +kernel) (cal_i (e := .int (Int32.ofInt (0))) swA (by decide) (by decide) (by decide) rfl) ?_
  refine jr_1 jm_180 (show jw_cd cd_180 8 = some (.tableswitch 140 1 8 #[48, 56, 69, 82, 89, 117, 126, 133]) by decide +kernel) (mt_td (t := 148) ⟨by omega, by omega⟩ (by decide) (by decide)) ?_
  refine jr_1 jm_180 (show jw_cd cd_180 148 = some (.aload_n 0) by decide +kernel) rfl ?_
  refine jr_1 jm_180 (show jw_cd cd_180 149 = some (.aload_n 2) by decide +kernel) rfl ?_
  refine jr_1 jm_180 (show jw_cd cd_180 150 = some (.getfield 15) by decide +kernel) (js_getf hA (jbg (by omega)) (show jw_fld 10 15 5 = some 0 by decide +kernel) rfl) ?_
  refine jr_c jm_180 (show jw_cd cd_180 153 = some (.invokevirtual 116) by decide +kernel) (ccv (n := 1) (m2 := 206) (ci := 7) (a := 11) (bs := [.int (Int32.ofInt (i.1))]) (r := []) (js_cls cl_c11 (by decide)) (show jw_find jw_cvT 10 116 = some (1, [(7, 206)]) by decide +kernel) (by decide) rfl rfl rfl) jm_206 ⟨Nat.le_of_ble_eq_true rfl, by decide⟩ c0 ?_
  refine jr_c jm_180 (show jw_cd cd_180 156 = some (.invokestatic 100) by decide +kernel) (mc_s (n := 1) (m2 := 91) (bs := [.ref c]) (r := []) (by decide) (show jw_find jw_csT 10 100 = some (91, 1) by decide +kernel) rfl rfl rfl) jm_91 ⟨Nat.le_of_ble_eq_true rfl, by decide⟩ (jc_ofT (d := d + 5) (t := c) hl hN (by omega)) ?_
  exact jr_v jm_180 (show jw_cd cd_180 159 = some (.areturn) by decide +kernel) rfl
theorem jc_give {β : Bool} {d : Nat} {h : jx_H} {κ : mS} (hl : 50 ≤ h.length) {N : Nat} (hN : h.length = N) (hb32 : N < 2800000000) {X : Nat → Prop} (hx : ∀ c, N ≤ c → ¬ X c) {v t0 : Nat} {i : tI} {F : FT} {s : List Int} (hv : vR h X v (i, F)) (hi : iok i) (hwf : fwf F) (hL : fsz F ≤ 1000) (ht : strR h X t0 s) (hs : tx s) {w : Nat} (hw9 : w < 9) (hky : ¬ w = 3 → s = []) (h0 : (doS (w : Int) s (i, F)).1 = 0) : ∃ (h' : jx_H) (c : Nat), jx_r (jz β) jw_M (d + 7) 180 (0, [some (.ref 11), some (.ref (jx_big + w)), some (.ref v), some (.ref t0)], [], (cl_mk h κ)) (cl_mk h' (κ), .inl (some (.ref (c)))) ∧ vQ h' X c (doS (w : Int) s (i, F)).2 ∧ (∀ (c : Nat) (y : jx_C), h[c]? = some y → h'[c]? = some y) ∧ N ≤ h'.length ∧ h'.length ≤ N + 6 ∧ cvol h' ≤ cvol h + (24 + fsz F) := by
  obtain rfl | rfl | rfl | rfl | rfl | rfl | rfl | rfl | rfl : w = 0 ∨ w = 1 ∨ w = 2 ∨ w = 3 ∨ w = 4 ∨ w = 5 ∨ w = 6 ∨ w = 7 ∨ w = 8 := by omega
  · exact jc_gv0 hl hN hb32 hx hv hi hwf hL ht hs h0
  · exact jc_gv1 hl hN hb32 hx hv hi hwf hL ht hs h0
  · exact jc_gv2 hl hN hb32 hx hv hi hwf hL ht hs h0
  · exact jc_gv3 hl hN hb32 hx hv hi hwf hL ht hs h0
  · exact jc_gv4 hl hN hb32 hx hv hi hwf hL ht hs h0
  · exact jc_gv5 hl hN hb32 hx hv hi hwf hL ht hs h0
  · exact jc_gv6 hl hN hb32 hx hv hi hwf hL ht hs (hky (by decide)) h0
  · exact jc_gv7 hl hN hb32 hx hv hi hwf hL ht hs (hky (by decide)) h0
  · exact jc_gv8 hl hN hb32 hx hv hi hwf hL ht hs h0
