/-! ===== the class: readValue against sP: equations, statements (printed by program: gen90.py) ===== -/
section SPE
variable {T : Int → Int} {n p : Int} {f a : Nat}
theorem sP_c4 (h : tH T n p = 91 ∨ tH T n p = 123) : sP T n (f + 1) (.inl (4, p)) = .inl p := by
  unfold sP
  rw [if_pos h, if_pos rfl]
theorem sP_plk {i : tI} {q : Int} (h : ¬ (tH T n p = 91 ∨ tH T n p = 123)) (hs : sPlain T n p = .inr (i, q)) : sP T n (f + 1) (.inl (a, p)) = .inr (i, .leaf, q) := by
  unfold sP
  rw [if_neg h, hs]
theorem sP_ple {e : Int} (h : ¬ (tH T n p = 91 ∨ tH T n p = 123)) (hs : sPlain T n p = .inl e) : sP T n (f + 1) (.inl (a, p)) = .inl e := by
  unfold sP
  rw [if_neg h, hs]
theorem sP_91n (h : tH T n p = 91) (ha : ¬ a = 4) (h2 : tH T n (p + 1) = 93) : sP T n (f + 1) (.inl (a, p)) = .inr ((5, 0, [], []), .leaf, p + 1 + 1) := by
  unfold sP
  have e1 : (if tH T n p = 91 then (93 : Int) else 125) = 93 := if_pos h
  have e2 : (if tH T n p = 91 then (5 : Int) else 6) = 5 := if_pos h
  rw [if_pos (Or.inl h), if_neg ha, if_pos (by rw [e1]; exact h2), e2]
theorem sP_91k {w : tI} {F : FT} {q : Int} (h : tH T n p = 91) (ha : ¬ a = 4) (h2 : ¬ tH T n (p + 1) = 93) (hs : sP T n f (.inr (false, a, .leaf, p + 1)) = .inr (w, F, q)) : sP T n (f + 1) (.inl (a, p)) = .inr ((5, 0, [], []), F, q) := by
  unfold sP
  have e1 : (if tH T n p = 91 then (93 : Int) else 125) = 93 := if_pos h
  have e2 : (if tH T n p = 91 then (5 : Int) else 6) = 5 := if_pos h
  have e3 : decide (tH T n p = 123) = false := by rw [h]; rfl
  rw [if_pos (Or.inl h), if_neg ha, if_neg (by rw [e1]; exact h2), e3, hs, e2]
theorem sP_91e {e : Int} (h : tH T n p = 91) (ha : ¬ a = 4) (h2 : ¬ tH T n (p + 1) = 93) (hs : sP T n f (.inr (false, a, .leaf, p + 1)) = .inl e) : sP T n (f + 1) (.inl (a, p)) = .inl e := by
  unfold sP
  have e1 : (if tH T n p = 91 then (93 : Int) else 125) = 93 := if_pos h
  have e3 : decide (tH T n p = 123) = false := by rw [h]; rfl
  rw [if_pos (Or.inl h), if_neg ha, if_neg (by rw [e1]; exact h2), e3, hs]
theorem sP_123n (h : tH T n p = 123) (ha : ¬ a = 4) (h2 : tH T n (p + 1) = 125) : sP T n (f + 1) (.inl (a, p)) = .inr ((6, 0, [], []), .leaf, p + 1 + 1) := by
  unfold sP
  have e1 : (if tH T n p = 91 then (93 : Int) else 125) = 125 := if_neg (show ¬ tH T n p = 91 by omega)
  have e2 : (if tH T n p = 91 then (5 : Int) else 6) = 6 := if_neg (show ¬ tH T n p = 91 by omega)
  rw [if_pos (Or.inr h), if_neg ha, if_pos (by rw [e1]; exact h2), e2]
theorem sP_123k {w : tI} {F : FT} {q : Int} (h : tH T n p = 123) (ha : ¬ a = 4) (h2 : ¬ tH T n (p + 1) = 125) (hs : sP T n f (.inr (true, a, .leaf, p + 1)) = .inr (w, F, q)) : sP T n (f + 1) (.inl (a, p)) = .inr ((6, 0, [], []), F, q) := by
  unfold sP
  have e1 : (if tH T n p = 91 then (93 : Int) else 125) = 125 := if_neg (show ¬ tH T n p = 91 by omega)
  have e2 : (if tH T n p = 91 then (5 : Int) else 6) = 6 := if_neg (show ¬ tH T n p = 91 by omega)
  have e3 : decide (tH T n p = 123) = true := by rw [h]; rfl
  rw [if_pos (Or.inr h), if_neg ha, if_neg (by rw [e1]; exact h2), e3, hs, e2]
theorem sP_123e {e : Int} (h : tH T n p = 123) (ha : ¬ a = 4) (h2 : ¬ tH T n (p + 1) = 125) (hs : sP T n f (.inr (true, a, .leaf, p + 1)) = .inl e) : sP T n (f + 1) (.inl (a, p)) = .inl e := by
  unfold sP
  have e1 : (if tH T n p = 91 then (93 : Int) else 125) = 125 := if_neg (show ¬ tH T n p = 91 by omega)
  have e3 : decide (tH T n p = 123) = true := by rw [h]; rfl
  rw [if_pos (Or.inr h), if_neg ha, if_neg (by rw [e1]; exact h2), e3, hs]
variable {ob : Bool} {F : FT} {s : List Int} {p1 : Int}
theorem sPi_e1 {e : Int} (h : sName ob T n p = .inl e) : sP T n (f + 1) (.inr (ob, a, F, p)) = .inl e := by
  unfold sP
  rw [h]
theorem sPi_e2 {e : Int} (h : sName ob T n p = .inr (s, p1)) (hs : sP T n f (.inl (a + 1, p1)) = .inl e) : sP T n (f + 1) (.inr (ob, a, F, p)) = .inl e := by
  unfold sP
  rw [h]
  simp only [hs]
theorem sPi_44 {i : tI} {c : FT} {q : Int} (h : sName ob T n p = .inr (s, p1)) (hs : sP T n f (.inl (a + 1, p1)) = .inr (i, c, q)) (hc : tH T n q = 44) : sP T n (f + 1) (.inr (ob, a, F, p)) = sP T n f (.inr (ob, a, fput ob (wk i s) c F, q + 1)) := by
  conv => lhs; unfold sP
  rw [h]
  simp only [hs]
  rw [if_pos hc]
theorem sPi_cl {i : tI} {c : FT} {q : Int} (h : sName ob T n p = .inr (s, p1)) (hs : sP T n f (.inl (a + 1, p1)) = .inr (i, c, q)) (hc : ¬ tH T n q = 44) (hc2 : tH T n q = (if ob = true then 125 else 93)) : sP T n (f + 1) (.inr (ob, a, F, p)) = .inr ((0, 0, [], []), fput ob (wk i s) c F, q + 1) := by
  unfold sP
  rw [h]
  simp only [hs]
  rw [if_neg hc, if_pos hc2]
theorem sPi_no {i : tI} {c : FT} {q : Int} (h : sName ob T n p = .inr (s, p1)) (hs : sP T n f (.inl (a + 1, p1)) = .inr (i, c, q)) (hc : ¬ tH T n q = 44) (hc2 : ¬ tH T n q = (if ob = true then 125 else 93)) : sP T n (f + 1) (.inr (ob, a, F, p)) = .inl q := by
  unfold sP
  rw [h]
  simp only [hs]
  rw [if_neg hc, if_neg hc2]
end SPE
theorem ext_of {h h' : jx_H} (hle : h.length ≤ h'.length) (hq : ∀ (c : Nat) (y : jx_C), h[c]? = some y → h'[c]? = some y) : ∃ L, h' = h ++ L := by
  refine ⟨h'.drop h.length, List.ext_getElem? (fun c => ?_)⟩
  by_cases hc : c < h.length
  · rw [List.getElem?_append_left hc, hq c _ (List.getElem?_eq_getElem hc), List.getElem?_eq_getElem hc]
  · rw [List.getElem?_append_right (by omega), List.getElem?_drop]
    congr 1
    omega
theorem jc_rl0A {β : Bool} {d : Nat} {h : jx_H} {κ : mS} (hl : 50 ≤ h.length) {N : Nat} (hN : h.length = N) (hb32 : N < 3000000000) {a : Nat} {T : Int → Int} {n p : Int} (hP : cP κ T n p) (hc : tH T n p = 93) : jx_r (jz β) jw_M (d + 2) 92 (0, [some (.ref 5), some (.int (Int32.ofInt ((a : Int)))), none, none], [], (cl_mk h κ)) (cl_mk (h ++ [.inr (5, [.int (Int32.ofInt (5)), .int (Int32.ofInt (0)), .ref (jx_big + 9), .ref (N + 1), .ref (N + 2), .int (Int32.ofInt (0))]), .inl (4, 0, fun _ => .null), .inl (4, 0, fun _ => .null)]) (su κ 4 0 (p + 1)), .inl (some (.ref (N)))) := by
  have hl2 : ∀ L : List jx_C, 50 ≤ (h ++ L).length := fun L => by rw [List.length_append]; omega
  refine jr_1 jm_92 (show jw_cd cd_92 0 = some (.iconst 0) by decide +kernel) rfl ?_
  refine jr_c jm_92 (show jw_cd cd_92 1 = some (.invokestatic 63) by decide +kernel) (mc_s (n := 1) (m2 := 93) (bs := [.int (Int32.ofInt (0))]) (r := []) (by decide) (show jw_find jw_csT 6 63 = some (93, 1) by decide +kernel) rfl rfl rfl) jm_93 ⟨Nat.le_of_ble_eq_true rfl, by decide⟩ (jc_ofL hl hN hb32 ⟨by decide, by decide⟩) ?_
  refine jr_1 jm_92 (F2 := (5, [some (.ref 5), some (.int (Int32.ofInt ((a : Int)))), some (.ref N), none], [], (cl_mk (h ++ [.inr (5, [.int (Int32.ofInt (5)), .int (Int32.ofInt (0)), .ref (jx_big + 9), .ref (N + 1), .ref (N + 2), .int (Int32.ofInt (0))]), .inl (4, 0, fun _ => .null), .inl (4, 0, fun _ => .null)]) κ))) (show jw_cd cd_92 4 = some (.astore_n 2) by decide +kernel) rfl ?_
  refine jr_1 jm_92 (show jw_cd cd_92 5 = some (.aload_n 0) by decide +kernel) rfl ?_
  refine jr_1 jm_92 (show jw_cd cd_92 6 = some (.getfield 9) by decide +kernel) (cgr_5_0 (show jw_fld 6 9 3 = some 0 by decide +kernel)) ?_
  refine jr_1 jm_92 (show jw_cd cd_92 9 = some (.bipush 93) by decide +kernel) (mt_bi (by decide)) ?_
  refine jr_c jm_92 (show jw_cd cd_92 11 = some (.invokevirtual 35) by decide +kernel) (ccv (n := 1) (m2 := 64) (ci := 1) (a := 1) (bs := [.int (Int32.ofInt (93))]) (r := []) (js_cls cl_c1 (by decide)) (show jw_find jw_cvT 6 35 = some (1, [(1, 64)]) by decide +kernel) (by decide) rfl rfl rfl) jm_64 ⟨Nat.le_of_ble_eq_true rfl, by decide⟩ (jc_takeT (hl2 _) hP ((tC_eq hP.1.2.2 hP.2.2.2.1 (by decide)).mpr hc) ⟨by decide, by decide⟩) ?_
  refine jr_1 jm_92 (show jw_cd cd_92 14 = some (.ifCond .eq 5) by decide +kernel) (mz_f (q := .eq) (a := 1) (by show ¬ (1 = 0); omega) ⟨by omega, by omega⟩ (by decide)) ?_
  refine jr_1 jm_92 (show jw_cd cd_92 17 = some (.aload_n 2) by decide +kernel) rfl ?_
  exact jr_v jm_92 (show jw_cd cd_92 18 = some (.areturn) by decide +kernel) rfl
theorem jc_rl0B {β : Bool} {d : Nat} {h : jx_H} {κ : mS} (hl : 50 ≤ h.length) {N : Nat} (hN : h.length = N) (hb32 : N < 3000000000) {a : Nat} {T : Int → Int} {n p : Int} (hP : cP κ T n p) (hc : ¬ tH T n p = 93) {res : jx_H × (Option Value ⊕ Nat)} (hr : jx_r (jz β) jw_M (d + 2) 92 (21, [some (.ref 5), some (.int (Int32.ofInt ((a : Int)))), some (.ref N), some (.int (Int32.ofInt (((0 : Nat) : Int))))], [], (cl_mk (h ++ [.inr (5, [.int (Int32.ofInt (5)), .int (Int32.ofInt (0)), .ref (jx_big + 9), .ref (N + 1), .ref (N + 2), .int (Int32.ofInt (0))]), .inl (4, 0, fun _ => .null), .inl (4, 0, fun _ => .null)]) κ)) res) : jx_r (jz β) jw_M (d + 2) 92 (0, [some (.ref 5), some (.int (Int32.ofInt ((a : Int)))), none, none], [], (cl_mk h κ)) res := by
  have hl2 : ∀ L : List jx_C, 50 ≤ (h ++ L).length := fun L => by rw [List.length_append]; omega
  refine jr_1 jm_92 (show jw_cd cd_92 0 = some (.iconst 0) by decide +kernel) rfl ?_
  refine jr_c jm_92 (show jw_cd cd_92 1 = some (.invokestatic 63) by decide +kernel) (mc_s (n := 1) (m2 := 93) (bs := [.int (Int32.ofInt (0))]) (r := []) (by decide) (show jw_find jw_csT 6 63 = some (93, 1) by decide +kernel) rfl rfl rfl) jm_93 ⟨Nat.le_of_ble_eq_true rfl, by decide⟩ (jc_ofL hl hN hb32 ⟨by decide, by decide⟩) ?_
  refine jr_1 jm_92 (F2 := (5, [some (.ref 5), some (.int (Int32.ofInt ((a : Int)))), some (.ref N), none], [], (cl_mk (h ++ [.inr (5, [.int (Int32.ofInt (5)), .int (Int32.ofInt (0)), .ref (jx_big + 9), .ref (N + 1), .ref (N + 2), .int (Int32.ofInt (0))]), .inl (4, 0, fun _ => .null), .inl (4, 0, fun _ => .null)]) κ))) (show jw_cd cd_92 4 = some (.astore_n 2) by decide +kernel) rfl ?_
  refine jr_1 jm_92 (show jw_cd cd_92 5 = some (.aload_n 0) by decide +kernel) rfl ?_
  refine jr_1 jm_92 (show jw_cd cd_92 6 = some (.getfield 9) by decide +kernel) (cgr_5_0 (show jw_fld 6 9 3 = some 0 by decide +kernel)) ?_
  refine jr_1 jm_92 (show jw_cd cd_92 9 = some (.bipush 93) by decide +kernel) (mt_bi (by decide)) ?_
  refine jr_c jm_92 (show jw_cd cd_92 11 = some (.invokevirtual 35) by decide +kernel) (ccv (n := 1) (m2 := 64) (ci := 1) (a := 1) (bs := [.int (Int32.ofInt (93))]) (r := []) (js_cls cl_c1 (by decide)) (show jw_find jw_cvT 6 35 = some (1, [(1, 64)]) by decide +kernel) (by decide) rfl rfl rfl) jm_64 ⟨Nat.le_of_ble_eq_true rfl, by decide⟩ (jc_takeF (hl2 _) hP (by rw [tC_eq hP.1.2.2 hP.2.2.2.1 (by decide)]; omega) ⟨by decide, by decide⟩) ?_
  refine jr_1 jm_92 (show jw_cd cd_92 14 = some (.ifCond .eq 5) by decide +kernel) (mz_t (q := .eq) (a := 0) (t := 19) (by show 0 = 0; omega) ⟨by omega, by omega⟩ (by decide) (by decide)) ?_
  refine jr_1 jm_92 (show jw_cd cd_92 19 = some (.iconst 0) by decide +kernel) rfl ?_
  refine jr_1 jm_92 (F2 := (21, [some (.ref 5), some (.int (Int32.ofInt ((a : Int)))), some (.ref N), some (.int (Int32.ofInt (0)))], [], (cl_mk (h ++ [.inr (5, [.int (Int32.ofInt (5)), .int (Int32.ofInt (0)), .ref (jx_big + 9), .ref (N + 1), .ref (N + 2), .int (Int32.ofInt (0))]), .inl (4, 0, fun _ => .null), .inl (4, 0, fun _ => .null)]) κ))) (show jw_cd cd_92 20 = some (.istore_n 3) by decide +kernel) rfl ?_
  exact hr
theorem jc_ro0A {β : Bool} {d : Nat} {h : jx_H} {κ : mS} (hl : 50 ≤ h.length) {N : Nat} (hN : h.length = N) (hb32 : N < 3000000000) {a : Nat} {T : Int → Int} {n p : Int} (hP : cP κ T n p) (hc : tH T n p = 125) : jx_r (jz β) jw_M (d + 2) 97 (0, [some (.ref 5), some (.int (Int32.ofInt ((a : Int)))), none, none, none], [], (cl_mk h κ)) (cl_mk (h ++ [.inr (5, [.int (Int32.ofInt (6)), .int (Int32.ofInt (0)), .ref (jx_big + 9), .ref (N + 1), .ref (N + 2), .int (Int32.ofInt (0))]), .inl (4, 0, fun _ => .null), .inl (4, 0, fun _ => .null)]) (su κ 4 0 (p + 1)), .inl (some (.ref (N)))) := by
  have hl2 : ∀ L : List jx_C, 50 ≤ (h ++ L).length := fun L => by rw [List.length_append]; omega
  refine jr_1 jm_97 (show jw_cd cd_97 0 = some (.bipush 6) by decide +kernel) (mt_bi (by decide)) ?_
  refine jr_c jm_97 (show jw_cd cd_97 2 = some (.invokestatic 56) by decide +kernel) (mc_s (n := 1) (m2 := 9) (bs := [.int (Int32.ofInt (6))]) (r := []) (by decide) (show jw_find jw_csT 6 56 = some (9, 1) by decide +kernel) rfl rfl rfl) jm_9 ⟨Nat.le_of_ble_eq_true rfl, by decide⟩ (jc_ofK6 hl hN hb32) ?_
  refine jr_1 jm_97 (F2 := (6, [some (.ref 5), some (.int (Int32.ofInt ((a : Int)))), some (.ref N), none, none], [], (cl_mk (h ++ [.inr (5, [.int (Int32.ofInt (6)), .int (Int32.ofInt (0)), .ref (jx_big + 9), .ref (N + 1), .ref (N + 2), .int (Int32.ofInt (0))]), .inl (4, 0, fun _ => .null), .inl (4, 0, fun _ => .null)]) κ))) (show jw_cd cd_97 5 = some (.astore_n 2) by decide +kernel) rfl ?_
  refine jr_1 jm_97 (show jw_cd cd_97 6 = some (.aload_n 0) by decide +kernel) rfl ?_
  refine jr_1 jm_97 (show jw_cd cd_97 7 = some (.getfield 9) by decide +kernel) (cgr_5_0 (show jw_fld 6 9 3 = some 0 by decide +kernel)) ?_
  refine jr_1 jm_97 (show jw_cd cd_97 10 = some (.bipush 125) by decide +kernel) (mt_bi (by decide)) ?_
  refine jr_c jm_97 (show jw_cd cd_97 12 = some (.invokevirtual 35) by decide +kernel) (ccv (n := 1) (m2 := 64) (ci := 1) (a := 1) (bs := [.int (Int32.ofInt (125))]) (r := []) (js_cls cl_c1 (by decide)) (show jw_find jw_cvT 6 35 = some (1, [(1, 64)]) by decide +kernel) (by decide) rfl rfl rfl) jm_64 ⟨Nat.le_of_ble_eq_true rfl, by decide⟩ (jc_takeT (hl2 _) hP ((tC_eq hP.1.2.2 hP.2.2.2.1 (by decide)).mpr hc) ⟨by decide, by decide⟩) ?_
  refine jr_1 jm_97 (show jw_cd cd_97 15 = some (.ifCond .eq 5) by decide +kernel) (mz_f (q := .eq) (a := 1) (by show ¬ (1 = 0); omega) ⟨by omega, by omega⟩ (by decide)) ?_
  refine jr_1 jm_97 (show jw_cd cd_97 18 = some (.aload_n 2) by decide +kernel) rfl ?_
  exact jr_v jm_97 (show jw_cd cd_97 19 = some (.areturn) by decide +kernel) rfl
theorem jc_ro0B {β : Bool} {d : Nat} {h : jx_H} {κ : mS} (hl : 50 ≤ h.length) {N : Nat} (hN : h.length = N) (hb32 : N < 3000000000) {a : Nat} {T : Int → Int} {n p : Int} (hP : cP κ T n p) (hc : ¬ tH T n p = 125) {res : jx_H × (Option Value ⊕ Nat)} (hr : jx_r (jz β) jw_M (d + 2) 97 (22, [some (.ref 5), some (.int (Int32.ofInt ((a : Int)))), some (.ref N), some (.int (Int32.ofInt (((0 : Nat) : Int)))), none], [], (cl_mk (h ++ [.inr (5, [.int (Int32.ofInt (6)), .int (Int32.ofInt (0)), .ref (jx_big + 9), .ref (N + 1), .ref (N + 2), .int (Int32.ofInt (0))]), .inl (4, 0, fun _ => .null), .inl (4, 0, fun _ => .null)]) κ)) res) : jx_r (jz β) jw_M (d + 2) 97 (0, [some (.ref 5), some (.int (Int32.ofInt ((a : Int)))), none, none, none], [], (cl_mk h κ)) res := by
  have hl2 : ∀ L : List jx_C, 50 ≤ (h ++ L).length := fun L => by rw [List.length_append]; omega
  refine jr_1 jm_97 (show jw_cd cd_97 0 = some (.bipush 6) by decide +kernel) (mt_bi (by decide)) ?_
  refine jr_c jm_97 (show jw_cd cd_97 2 = some (.invokestatic 56) by decide +kernel) (mc_s (n := 1) (m2 := 9) (bs := [.int (Int32.ofInt (6))]) (r := []) (by decide) (show jw_find jw_csT 6 56 = some (9, 1) by decide +kernel) rfl rfl rfl) jm_9 ⟨Nat.le_of_ble_eq_true rfl, by decide⟩ (jc_ofK6 hl hN hb32) ?_
  refine jr_1 jm_97 (F2 := (6, [some (.ref 5), some (.int (Int32.ofInt ((a : Int)))), some (.ref N), none, none], [], (cl_mk (h ++ [.inr (5, [.int (Int32.ofInt (6)), .int (Int32.ofInt (0)), .ref (jx_big + 9), .ref (N + 1), .ref (N + 2), .int (Int32.ofInt (0))]), .inl (4, 0, fun _ => .null), .inl (4, 0, fun _ => .null)]) κ))) (show jw_cd cd_97 5 = some (.astore_n 2) by decide +kernel) rfl ?_
  refine jr_1 jm_97 (show jw_cd cd_97 6 = some (.aload_n 0) by decide +kernel) rfl ?_
  refine jr_1 jm_97 (show jw_cd cd_97 7 = some (.getfield 9) by decide +kernel) (cgr_5_0 (show jw_fld 6 9 3 = some 0 by decide +kernel)) ?_
  refine jr_1 jm_97 (show jw_cd cd_97 10 = some (.bipush 125) by decide +kernel) (mt_bi (by decide)) ?_
  refine jr_c jm_97 (show jw_cd cd_97 12 = some (.invokevirtual 35) by decide +kernel) (ccv (n := 1) (m2 := 64) (ci := 1) (a := 1) (bs := [.int (Int32.ofInt (125))]) (r := []) (js_cls cl_c1 (by decide)) (show jw_find jw_cvT 6 35 = some (1, [(1, 64)]) by decide +kernel) (by decide) rfl rfl rfl) jm_64 ⟨Nat.le_of_ble_eq_true rfl, by decide⟩ (jc_takeF (hl2 _) hP (by rw [tC_eq hP.1.2.2 hP.2.2.2.1 (by decide)]; omega) ⟨by decide, by decide⟩) ?_
  refine jr_1 jm_97 (show jw_cd cd_97 15 = some (.ifCond .eq 5) by decide +kernel) (mz_t (q := .eq) (a := 0) (t := 20) (by show 0 = 0; omega) ⟨by omega, by omega⟩ (by decide) (by decide)) ?_
  refine jr_1 jm_97 (show jw_cd cd_97 20 = some (.iconst 0) by decide +kernel) rfl ?_
  refine jr_1 jm_97 (F2 := (22, [some (.ref 5), some (.int (Int32.ofInt ((a : Int)))), some (.ref N), some (.int (Int32.ofInt (0))), none], [], (cl_mk (h ++ [.inr (5, [.int (Int32.ofInt (6)), .int (Int32.ofInt (0)), .ref (jx_big + 9), .ref (N + 1), .ref (N + 2), .int (Int32.ofInt (0))]), .inl (4, 0, fun _ => .null), .inl (4, 0, fun _ => .null)]) κ))) (show jw_cd cd_97 21 = some (.istore_n 3) by decide +kernel) rfl ?_
  exact hr
/-- readValue does as sP says -/
def cv_V (β : Bool) (T : Int → Int) (n : Int) (f : Nat) : Prop := ∀ (a m D : Nat) (p : Int) (h : jx_H) (κ : mS) (X : Nat → Prop) (N : Nat), a + m = 4 → 7 + 2 * m ≤ D → 50 ≤ h.length → h.length = N → (N : Int) + 12 * (n - p) + 300 ≤ 2800000000 → (∀ c, N ≤ c → ¬ X c) → cP κ T n p → 0 ≤ κ 7 0 ∧ κ 7 0 ≤ 16 → 2 * (n - p) + 2 ≤ (f : Int) →
  ∃ (κ' : mS) (L : List jx_C) (b : Nat) (i : tI) (F : FT), jx_r (jz β) jw_M (D) 57 (0, [some (.ref 5), some (.int (Int32.ofInt ((a : Int)))), none], [], (cl_mk h κ)) (cl_mk (h ++ L) (κ'), .inl (some (.ref (b)))) ∧ vN (h ++ L) X b i F ∧ (iok i ∧ i.2.2.2 = [] ∧ fwf F) ∧ mEq [4, 5, 7, 8, 15] κ κ' ∧ (0 ≤ κ' 7 0 ∧ κ' 7 0 ≤ 16) ∧ (∀ i' F' q, sP T n f (.inl (a, p)) = .inr (i', F', q) → i = i' ∧ F = F' ∧ cP κ' T n q ∧ (L.length : Int) ≤ 12 * (q - p) ∧ (cvol L : Int) ≤ 30 * (q - p)) ∧ (∀ e, sP T n f (.inl (a, p)) = .inl e → cE κ' T n e ∧ (L.length : Int) ≤ 12 * (n - p) + 20 * (6 - (a : Int)) ∧ (cvol L : Int) ≤ 30 * (n - p) + 40 * (6 - (a : Int)))
def cv_L (β : Bool) (T : Int → Int) (n : Int) (f : Nat) : Prop := ∀ (a m D : Nat) (p : Int) (h : jx_H) (κ : mS) (X : Nat → Prop) (N N0 lst ka ia kc ic j : Nat) (fr gr : Nat → Value) (E : FT), a + m = 3 → 7 + 2 * m ≤ D → 50 ≤ h.length → h.length = N → (N : Int) + 12 * (n - p) + 300 ≤ 2800000000 → cP κ T n p → 0 ≤ κ 7 0 ∧ κ 7 0 ≤ 16 → 2 * (n - p) + 3 ≤ (f : Int) → bL h X N0 lst ka ia kc ic fr gr 5 E → fwf E → ic ≤ 2 * fsz E ∧ kc ≤ 2 * fsz E → fsz E ≤ j → (j : Int) < p →
  ∃ (κ' : mS) (h' : jx_H) (ka' ia' kc' ic' : Nat) (fr' gr' : Nat → Value) (E' : FT), jx_r (jz β) jw_M (D + 1) 92 (21, [some (.ref 5), some (.int (Int32.ofInt ((a : Int)))), some (.ref lst), some (.int (Int32.ofInt ((j : Int))))], [], (cl_mk h κ)) (cl_mk h' (κ'), .inl (some (.ref (lst)))) ∧ bL h' X N0 lst ka' ia' kc' ic' fr' gr' 5 E' ∧ fwf E' ∧ (ic' ≤ 2 * fsz E' ∧ kc' ≤ 2 * fsz E') ∧ (∀ (c : Nat) (y : jx_C), c < N0 → h[c]? = some y → h'[c]? = some y) ∧ N ≤ h'.length ∧ mEq [4, 5, 7, 8, 15] κ κ' ∧ (0 ≤ κ' 7 0 ∧ κ' 7 0 ≤ 16) ∧ (∀ w F' q, sP T n f (.inr (false, a, E, p)) = .inr (w, F', q) → E' = F' ∧ cP κ' T n q ∧ (h'.length : Int) ≤ N + 12 * (q - p) ∧ (cvol h' : Int) + 2 * ic + 2 * kc + 8 * fsz E' ≤ cvol h + 2 * ic' + 2 * kc' + 8 * fsz E + 30 * (q - p)) ∧ (∀ e, sP T n f (.inr (false, a, E, p)) = .inl e → cE κ' T n e ∧ (h'.length : Int) ≤ N + 12 * (n - p) + 20 * (5 - (a : Int)) + 15 ∧ (cvol h' : Int) + 2 * ic + 2 * kc + 8 * fsz E' ≤ cvol h + 2 * ic' + 2 * kc' + 8 * fsz E + 30 * (n - p) + 40 * (5 - (a : Int)) + 33)
def cv_O (β : Bool) (T : Int → Int) (n : Int) (f : Nat) : Prop := ∀ (a m D : Nat) (p : Int) (h : jx_H) (κ : mS) (X : Nat → Prop) (N N0 lst ka ia kc ic j : Nat) (fr gr : Nat → Value) (E : FT) (t4 : Option Value), a + m = 3 → 7 + 2 * m ≤ D → 50 ≤ h.length → h.length = N → (N : Int) + 12 * (n - p) + 300 ≤ 2800000000 → cP κ T n p → 0 ≤ κ 7 0 ∧ κ 7 0 ≤ 16 → 2 * (n - p) + 3 ≤ (f : Int) → bL h X N0 lst ka ia kc ic fr gr 6 E → fwf E → ic ≤ 2 * fsz E ∧ kc ≤ 2 * fsz E → fsz E ≤ j → (j : Int) < p →
  ∃ (κ' : mS) (h' : jx_H) (ka' ia' kc' ic' : Nat) (fr' gr' : Nat → Value) (E' : FT), jx_r (jz β) jw_M (D + 1) 97 (22, [some (.ref 5), some (.int (Int32.ofInt ((a : Int)))), some (.ref lst), some (.int (Int32.ofInt ((j : Int)))), t4], [], (cl_mk h κ)) (cl_mk h' (κ'), .inl (some (.ref (lst)))) ∧ bL h' X N0 lst ka' ia' kc' ic' fr' gr' 6 E' ∧ fwf E' ∧ (ic' ≤ 2 * fsz E' ∧ kc' ≤ 2 * fsz E') ∧ (∀ (c : Nat) (y : jx_C), c < N0 → h[c]? = some y → h'[c]? = some y) ∧ N ≤ h'.length ∧ mEq [4, 5, 7, 8, 15] κ κ' ∧ (0 ≤ κ' 7 0 ∧ κ' 7 0 ≤ 16) ∧ (∀ w F' q, sP T n f (.inr (true, a, E, p)) = .inr (w, F', q) → E' = F' ∧ cP κ' T n q ∧ (h'.length : Int) ≤ N + 12 * (q - p) ∧ (cvol h' : Int) + 2 * ic + 2 * kc + 8 * fsz E' ≤ cvol h + 2 * ic' + 2 * kc' + 8 * fsz E + 30 * (q - p)) ∧ (∀ e, sP T n f (.inr (true, a, E, p)) = .inl e → cE κ' T n e ∧ (h'.length : Int) ≤ N + 12 * (n - p) + 20 * (5 - (a : Int)) + 15 ∧ (cvol h' : Int) + 2 * ic + 2 * kc + 8 * fsz E' ≤ cvol h + 2 * ic' + 2 * kc' + 8 * fsz E + 30 * (n - p) + 40 * (5 - (a : Int)) + 33)
