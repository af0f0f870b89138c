/-! ===== the model's sideOf and holds (printed by program: gen46.py) ===== -/
/-- a side of a condition: what it is (0 none, 1 keys, 2 a number, 3 a text), the number, the text, the keys -/
abbrev sD : Type := Int × Int × List Int × List (List Int)
def sdR (σ : mS) (dd : Int) (s : sD) : Prop := σ 23 dd = s.1 ∧ (1 ≤ s.1 ∧ s.1 ≤ 3) ∧ (s.1 = 1 → σ 24 dd = s.2.2.2.length ∧ s.2.2.2.length ≤ 3 ∧ pthR σ dd 0 s.2.2.2) ∧ (s.1 = 2 → σ 26 dd = s.2.1 ∧ mr s.2.1) ∧ (s.1 = 3 → σ 27 dd = pk s.2.2.1 ∧ tx s.2.2.1)
def sval (s : sD) (e : tI × FT) : Option (tI × FT) := if s.1 = 2 then some ((3, s.2.1, [], []), .leaf) else if s.1 = 3 then some ((4, 0, s.2.2.1, []), .leaf) else vpath s.2.2.2 (some e)
/-- new nodes from N on -/
def nwF (σ τ : mS) (N : Int) : Prop := (∀ f v, 3 ≤ f → f ≤ 7 → v < N → τ f v = σ f v) ∧ (∀ f, f ∉ [3, 4, 5, 6, 7, 11] → τ f = σ f) ∧ (∀ v, ¬ v = 4 → τ 11 v = σ 11 v)
theorem nwF_refl (σ : mS) (N : Int) : nwF σ σ N := ⟨fun _ _ _ _ _ => rfl, fun _ _ => rfl, fun _ _ => rfl⟩
theorem nwF_trans {σ τ υ : mS} {N N' : Int} (h : nwF σ τ N) (h2 : nwF τ υ N') (hN : N ≤ N') : nwF σ υ N := ⟨fun f v f1 f2 hv => (h2.1 f v f1 f2 (by omega)).trans (h.1 f v f1 f2 hv), fun f hf => (h2.2.1 f hf).trans (h.2.1 f hf), fun v hv => (h2.2.2 v hv).trans (h.2.2 v hv)⟩
theorem nwF_mono {σ τ : mS} {N N' : Int} (h : nwF σ τ N') (hN : N ≤ N') : nwF σ τ N := ⟨fun f v f1 f2 hv => h.1 f v f1 f2 (by omega), h.2⟩
theorem mNode_nw {σ : mS} {k x t N : Int} (hN : 170 * 4 + σ 11 4 = N) : nwF σ (mNode σ 4 k x t) N := by
  refine ⟨fun f v f1 f2 hv => ?_, fun f hf => mNode_o hf, fun v hv => by rw [mNode_11, if_neg hv]⟩
  have hv : ¬ v = N := by omega
  obtain rfl | rfl | rfl | rfl | rfl : f = 3 ∨ f = 4 ∨ f = 5 ∨ f = 6 ∨ f = 7 := by omega
  · rw [mNode_3, hN, if_neg hv]
  · rw [mNode_4, hN, if_neg hv]
  · rw [mNode_5, hN, if_neg hv]
  · rw [mNode_6, hN, if_neg hv]
  · rw [mNode_7, hN, if_neg hv]
theorem mV_nw {σ τ : mS} {A B : Int → Prop} {N w : Int} {i : tI} {c : FT} (hq : nwF σ τ N) (hA : ∀ v, A v → v < N) (h : mV σ A B w i c) : mV τ A B w i c := by
  obtain ⟨q1, q2, q3⟩ := hq
  have hA3 : ∀ v, A v → τ 3 v = σ 3 v ∧ τ 4 v = σ 4 v ∧ τ 5 v = σ 5 v ∧ τ 6 v = σ 6 v ∧ τ 7 v = σ 7 v := fun v hv => by
    have hv := hA v hv
    exact ⟨q1 3 v (by decide) (by decide) hv, q1 4 v (by decide) (by decide) hv, q1 5 v (by decide) (by decide) hv, q1 6 v (by decide) (by decide) hv, q1 7 v (by decide) (by decide) hv⟩
  obtain ⟨a1, ⟨n1, n2, n3, n4⟩, hF⟩ := h
  obtain ⟨x1, x2, x3, x4, x5⟩ := hA3 w a1
  exact ⟨a1, ⟨x1.trans n1, x2.trans n2, x3.trans n3, x5.trans n4⟩, by rw [x4]; exact mF_frame hA3 (fun x _ => by rw [q2 8 (by decide), q2 9 (by decide), q2 10 (by decide)]; exact ⟨rfl, rfl, rfl⟩) c _ hF⟩
theorem mO_nw {σ τ : mS} {A B : Int → Prop} {N w : Int} {x : Option (tI × FT)} (hq : nwF σ τ N) (hA : ∀ v, A v → v < N) (h : mO σ A B w x) : mO τ A B w x := by
  cases x with
  | none => exact h
  | some y => exact mV_nw hq hA h
theorem mV_mono {σ : mS} {A B A' B' : Int → Prop} {w : Int} {i : tI} {c : FT} (hA : ∀ v, A v → A' v) (hB : ∀ x, B x → B' x) (h : mV σ A B w i c) : mV σ A' B' w i c := ⟨hA _ h.1, h.2.1, mF_mono hA hB c _ h.2.2⟩
theorem mO_mono {σ : mS} {A B A' B' : Int → Prop} {w : Int} {x : Option (tI × FT)} (hA : ∀ v, A v → A' v) (hB : ∀ x, B x → B' x) (h : mO σ A B w x) : mO σ A' B' w x := by
  cases x with
  | none => exact h
  | some y => exact mV_mono hA hB h
/-- the node that has just been made -/
theorem mV_mk {σ : mS} {A B : Int → Prop} {k x t N : Int} {s : List Int} (hN : 170 * 4 + σ 11 4 = N) (hA : A N) (ht : t = pk s) : mV (mNode σ 4 k x t) A B N (k, x, s, []) .leaf := by
  refine ⟨hA, ⟨?_, ?_, ?_, ?_⟩, ?_⟩
  · rw [mNode_3, hN, if_pos rfl]
  · rw [mNode_4, hN, if_pos rfl]
  · rw [mNode_5, hN, if_pos rfl]; exact ht
  · rw [mNode_7, hN, if_pos rfl]; rfl
  · show mNode σ 4 k x t 6 N = -1
    rw [mNode_6, hN, if_pos rfl]
theorem iok_n {x : Int} (h : mr x) : iok (3, x, [], []) := ⟨Int.le_of_lt (by decide : (0 : Int) < 3), by show (3 : Int) ≤ 6; decide, h, tx_nil, tx_nil⟩
theorem iok_t {s : List Int} (h : tx s) : iok (4, 0, s, []) := ⟨by show (0 : Int) ≤ 4; decide, by show (4 : Int) ≤ 6; decide, ⟨by show (-2147483648 : Int) ≤ 0; decide, by show (0 : Int) ≤ 2147483647; decide⟩, h, tx_nil⟩
def vokO (x : Option (tI × FT)) : Prop := ∀ i F, x = some (i, F) → iok i ∧ fwf F
theorem sval_ok {s : sD} {e : tI × FT} (hm : s.1 = 2 → mr s.2.1) (ht : s.1 = 3 → tx s.2.2.1) (hp : vokO (vpath s.2.2.2 (some e))) : vokO (sval s e) := by
  unfold sval
  by_cases h2 : s.1 = 2
  · rw [if_pos h2]
    intro i F h
    cases h
    exact ⟨iok_n (hm h2), trivial⟩
  · rw [if_neg h2]
    by_cases h3 : s.1 = 3
    · rw [if_pos h3]
      intro i F h
      cases h
      exact ⟨iok_t (ht h3), trivial⟩
    · rw [if_neg h3]
      exact hp
theorem jn_sideOf {β : Bool} {d : Nat} {h : jx_H} {σ : mS} (hl : 49 ≤ h.length) {A B : Int → Prop} {dd e nn N : Int} {s : sD} (hd : 0 ≤ dd ∧ dd < 288) (hA : ∀ v, A v → 0 ≤ v ∧ v < N) (hB : mIx B) (hs : sdR σ dd s) (e11 : σ 11 4 = nn) (hn0 : 0 ≤ nn) (hN : N = 170 * 4 + nn) (hn1 : N < 1740) {i : tI} {F : FT} (hV : mV σ A B e i F) (hi : iok i) (hF : fwf F) : ∃ (τ : mS) (w nn' : Int), jx_r (jz β) jw_M (d + 1) 271 (0, [some (.ref 15), some (.int (Int32.ofInt (dd))), some (.int (Int32.ofInt (e))), none, none], [], ml_mk h σ) (ml_mk h (τ), .inl (some (.int (Int32.ofInt (w))))) ∧ mO τ (fun v => A v ∨ In N (170 * 4 + nn') v) B w (sval s (i, F)) ∧ vokO (sval s (i, F)) ∧ τ 11 4 = nn' ∧ nn ≤ nn' ∧ nn' ≤ nn + 1 ∧ nwF σ τ N := by
  obtain ⟨d0, d1⟩ := hd
  obtain ⟨q1, ⟨s0, s1⟩, qp, qn, qt⟩ := hs
  have hAx : mIx A := fun v hv => ⟨(hA v hv).1, by have := (hA v hv).2; omega⟩
  have hNN : 170 * 4 + σ 11 4 = N := by rw [e11, hN]
  obtain hs1 | hs1 | hs1 : s.1 = 2 ∨ s.1 = 3 ∨ s.1 = 1 := by omega
  · have e2 : σ 23 dd = 2 := q1.trans hs1
    obtain ⟨q26, hm⟩ := qn hs1
    have hsv : sval s (i, F) = some ((3, s.2.1, [], []), .leaf) := by unfold sval; rw [if_pos hs1]
    refine ⟨mNode σ 4 3 s.2.1 0, 170 * 4 + nn, nn + 1, ?_, ?_, ?_, by rw [mNode_11, if_pos rfl, e11], by omega, by omega, mNode_nw hNN⟩
    rotate_left
    · rw [hsv]
      exact mV_mk (σ := σ) (A := fun v => A v ∨ In N (170 * 4 + (nn + 1)) v) (N := 170 * 4 + nn) (by rw [e11]) (Or.inr ⟨by omega, by omega⟩) rfl
    · rw [hsv]
      intro j E hj
      cases hj
      exact ⟨iok_n hm, trivial⟩
    refine jr_1 jm_271 (show jw_cd cd_271 0 = some (.aload_n 0) by decide +kernel) rfl ?_
    refine jr_1 jm_271 (show jw_cd cd_271 1 = some (.getfield 65) by decide +kernel) (mg_a hl (a := 34) (show jw_fld 34 65 16 = some 23 by decide +kernel) (by decide) (by decide)) ?_
    refine jr_1 jm_271 (show jw_cd cd_271 4 = some (.iload_n 1) by decide +kernel) rfl ?_
    refine jr_1 jm_271 (show jw_cd cd_271 5 = some (.iaload) by decide +kernel) (ma_i hl (i := dd) (e := 2) 23 (by omega) (by show _ < ((288 : Nat) : Int); omega) e2 (by decide) (by decide) (by decide)) ?_
    refine jr_1 jm_271 (show jw_cd cd_271 6 = some (.iconst 2) by decide +kernel) rfl ?_
    refine jr_1 jm_271 (show jw_cd cd_271 7 = some (.if_icmp .ne 17) by decide +kernel) (mb_f (q := .ne) (a := 2) (b := 2) (by show ¬ (¬ (2 = 2)); omega) ⟨by omega, by omega⟩ ⟨by omega, by omega⟩ (by decide)) ?_
    refine jr_1 jm_271 (show jw_cd cd_271 10 = some (.aload_n 0) by decide +kernel) rfl ?_
    refine jr_1 jm_271 (show jw_cd cd_271 11 = some (.iconst 4) by decide +kernel) rfl ?_
    refine jr_1 jm_271 (show jw_cd cd_271 12 = some (.iconst 3) by decide +kernel) rfl ?_
    refine jr_1 jm_271 (show jw_cd cd_271 13 = some (.aload_n 0) by decide +kernel) rfl ?_
    refine jr_1 jm_271 (show jw_cd cd_271 14 = some (.getfield 74) by decide +kernel) (mg_a hl (a := 37) (show jw_fld 34 74 16 = some 26 by decide +kernel) (by decide) (by decide)) ?_
    refine jr_1 jm_271 (show jw_cd cd_271 17 = some (.iload_n 1) by decide +kernel) rfl ?_
    refine jr_1 jm_271 (show jw_cd cd_271 18 = some (.iaload) by decide +kernel) (ma_i hl (i := dd) (e := s.2.1) 26 (by omega) (by show _ < ((288 : Nat) : Int); omega) q26 (by decide) (by decide) (by decide)) ?_
    refine jr_1 jm_271 (F2 := (20, [some (.ref 15), some (.int (Int32.ofInt (dd))), some (.int (Int32.ofInt (e))), none, none], [.long (Int64.ofInt (0)), .int (Int32.ofInt (s.2.1)), .int (Int32.ofInt (3)), .int (Int32.ofInt (4)), .ref 15], ml_mk h σ)) (show jw_cd cd_271 19 = some (.lconst 0) by decide +kernel) rfl ?_
    refine jr_c jm_271 (show jw_cd cd_271 20 = some (.invokevirtual 110) by decide +kernel) (mc_v hl (n := 4) (m2 := 208) (bs := [.int (Int32.ofInt (4)), .int (Int32.ofInt (3)), .int (Int32.ofInt (s.2.1)), .long (Int64.ofInt (0))]) (r := []) (show jw_find jw_cvT 34 110 = some (4, [(16, 208)]) by decide +kernel) (by decide) rfl rfl rfl) jm_208 ⟨Nat.le_of_ble_eq_true rfl, by decide⟩ (jn_nodeM hl ⟨by decide, by decide⟩ (m := nn) e11 hn0 (by omega)) ?_
    exact jr_v jm_271 (show jw_cd cd_271 23 = some (.ireturn) by decide +kernel) rfl
  · have e2 : σ 23 dd = 3 := q1.trans hs1
    obtain ⟨q27, htx⟩ := qt hs1
    have hsv : sval s (i, F) = some ((4, 0, s.2.2.1, []), .leaf) := by unfold sval; rw [if_neg (by omega), if_pos hs1]
    refine ⟨mNode σ 4 4 0 (pk s.2.2.1), 170 * 4 + nn, nn + 1, ?_, ?_, ?_, by rw [mNode_11, if_pos rfl, e11], by omega, by omega, mNode_nw hNN⟩
    rotate_left
    · rw [hsv]
      exact mV_mk (σ := σ) (A := fun v => A v ∨ In N (170 * 4 + (nn + 1)) v) (N := 170 * 4 + nn) (by rw [e11]) (Or.inr ⟨by omega, by omega⟩) rfl
    · rw [hsv]
      intro j E hj
      cases hj
      exact ⟨iok_t htx, trivial⟩
    refine jr_1 jm_271 (show jw_cd cd_271 0 = some (.aload_n 0) by decide +kernel) rfl ?_
    refine jr_1 jm_271 (show jw_cd cd_271 1 = some (.getfield 65) by decide +kernel) (mg_a hl (a := 34) (show jw_fld 34 65 16 = some 23 by decide +kernel) (by decide) (by decide)) ?_
    refine jr_1 jm_271 (show jw_cd cd_271 4 = some (.iload_n 1) by decide +kernel) rfl ?_
    refine jr_1 jm_271 (show jw_cd cd_271 5 = some (.iaload) by decide +kernel) (ma_i hl (i := dd) (e := 3) 23 (by omega) (by show _ < ((288 : Nat) : Int); omega) e2 (by decide) (by decide) (by decide)) ?_
    refine jr_1 jm_271 (show jw_cd cd_271 6 = some (.iconst 2) by decide +kernel) rfl ?_
    refine jr_1 jm_271 (show jw_cd cd_271 7 = some (.if_icmp .ne 17) by decide +kernel) (mb_t (q := .ne) (a := 3) (b := 2) (t := 24) (by show ¬ (3 = 2); omega) ⟨by omega, by omega⟩ ⟨by omega, by omega⟩ (by decide) (by decide)) ?_
    refine jr_1 jm_271 (show jw_cd cd_271 24 = some (.aload_n 0) by decide +kernel) rfl ?_
    refine jr_1 jm_271 (show jw_cd cd_271 25 = some (.getfield 65) by decide +kernel) (mg_a hl (a := 34) (show jw_fld 34 65 16 = some 23 by decide +kernel) (by decide) (by decide)) ?_
    refine jr_1 jm_271 (show jw_cd cd_271 28 = some (.iload_n 1) by decide +kernel) rfl ?_
    refine jr_1 jm_271 (show jw_cd cd_271 29 = some (.iaload) by decide +kernel) (ma_i hl (i := dd) (e := 3) 23 (by omega) (by show _ < ((288 : Nat) : Int); omega) e2 (by decide) (by decide) (by decide)) ?_
    refine jr_1 jm_271 (show jw_cd cd_271 30 = some (.iconst 3) by decide +kernel) rfl ?_
    refine jr_1 jm_271 (show jw_cd cd_271 31 = some (.if_icmp .ne 17) by decide +kernel) (mb_f (q := .ne) (a := 3) (b := 3) (by show ¬ (¬ (3 = 3)); omega) ⟨by omega, by omega⟩ ⟨by omega, by omega⟩ (by decide)) ?_
    refine jr_1 jm_271 (show jw_cd cd_271 34 = some (.aload_n 0) by decide +kernel) rfl ?_
    refine jr_1 jm_271 (show jw_cd cd_271 35 = some (.iconst 4) by decide +kernel) rfl ?_
    refine jr_1 jm_271 (show jw_cd cd_271 36 = some (.iconst 4) by decide +kernel) rfl ?_
    refine jr_1 jm_271 (show jw_cd cd_271 37 = some (.iconst 0) by decide +kernel) rfl ?_
    refine jr_1 jm_271 (show jw_cd cd_271 38 = some (.aload_n 0) by decide +kernel) rfl ?_
    refine jr_1 jm_271 (show jw_cd cd_271 39 = some (.getfield 77) by decide +kernel) (mg_a hl (a := 38) (show jw_fld 34 77 16 = some 27 by decide +kernel) (by decide) (by decide)) ?_
    refine jr_1 jm_271 (show jw_cd cd_271 42 = some (.iload_n 1) by decide +kernel) rfl ?_
    refine jr_1 jm_271 (show jw_cd cd_271 43 = some (.laload) by decide +kernel) (ma_j hl (i := dd) (e := pk s.2.2.1) 27 (by omega) (by show _ < ((288 : Nat) : Int); omega) q27 (by decide) (by decide) (by decide)) ?_
    refine jr_c jm_271 (show jw_cd cd_271 44 = some (.invokevirtual 110) by decide +kernel) (mc_v hl (n := 4) (m2 := 208) (bs := [.int (Int32.ofInt (4)), .int (Int32.ofInt (4)), .int (Int32.ofInt (0)), .long (Int64.ofInt (pk s.2.2.1))]) (r := []) (show jw_find jw_cvT 34 110 = some (4, [(16, 208)]) by decide +kernel) (by decide) rfl rfl rfl) jm_208 ⟨Nat.le_of_ble_eq_true rfl, by decide⟩ (jn_nodeM hl ⟨by decide, by decide⟩ (m := nn) e11 hn0 (by omega)) ?_
    exact jr_v jm_271 (show jw_cd cd_271 47 = some (.ireturn) by decide +kernel) rfl
  · have e2 : σ 23 dd = 1 := q1.trans hs1
    obtain ⟨q24, ql, qr⟩ := qp hs1
    have hsv : sval s (i, F) = vpath s.2.2.2 (some (i, F)) := by unfold sval; rw [if_neg (by omega), if_neg (by omega)]
    obtain ⟨w2, z1, z2, z3⟩ := jn_path (β := β) (d := d) (e := e) hl hAx hB ⟨d0, d1⟩ q24 ⟨by omega, by omega⟩ s.2.2.2 0 e (some (i, F)) hV (fun j E hj => by cases hj; exact ⟨hi, hF⟩) qr (by omega) (by omega)
    refine ⟨σ, w2, nn, ?_, ?_, ?_, e11, by omega, by omega, nwF_refl _ _⟩
    rotate_left
    · rw [hsv]
      exact mO_mono (fun v hv => Or.inl hv) (fun _ h => h) z2
    · rw [hsv]
      exact z3
    refine jr_1 jm_271 (show jw_cd cd_271 0 = some (.aload_n 0) by decide +kernel) rfl ?_
    refine jr_1 jm_271 (show jw_cd cd_271 1 = some (.getfield 65) by decide +kernel) (mg_a hl (a := 34) (show jw_fld 34 65 16 = some 23 by decide +kernel) (by decide) (by decide)) ?_
    refine jr_1 jm_271 (show jw_cd cd_271 4 = some (.iload_n 1) by decide +kernel) rfl ?_
    refine jr_1 jm_271 (show jw_cd cd_271 5 = some (.iaload) by decide +kernel) (ma_i hl (i := dd) (e := 1) 23 (by omega) (by show _ < ((288 : Nat) : Int); omega) e2 (by decide) (by decide) (by decide)) ?_
    refine jr_1 jm_271 (show jw_cd cd_271 6 = some (.iconst 2) by decide +kernel) rfl ?_
    refine jr_1 jm_271 (show jw_cd cd_271 7 = some (.if_icmp .ne 17) by decide +kernel) (mb_t (q := .ne) (a := 1) (b := 2) (t := 24) (by show ¬ (1 = 2); omega) ⟨by omega, by omega⟩ ⟨by omega, by omega⟩ (by decide) (by decide)) ?_
    refine jr_1 jm_271 (show jw_cd cd_271 24 = some (.aload_n 0) by decide +kernel) rfl ?_
    refine jr_1 jm_271 (show jw_cd cd_271 25 = some (.getfield 65) by decide +kernel) (mg_a hl (a := 34) (show jw_fld 34 65 16 = some 23 by decide +kernel) (by decide) (by decide)) ?_
    refine jr_1 jm_271 (show jw_cd cd_271 28 = some (.iload_n 1) by decide +kernel) rfl ?_
    refine jr_1 jm_271 (show jw_cd cd_271 29 = some (.iaload) by decide +kernel) (ma_i hl (i := dd) (e := 1) 23 (by omega) (by show _ < ((288 : Nat) : Int); omega) e2 (by decide) (by decide) (by decide)) ?_
    refine jr_1 jm_271 (show jw_cd cd_271 30 = some (.iconst 3) by decide +kernel) rfl ?_
    refine jr_1 jm_271 (show jw_cd cd_271 31 = some (.if_icmp .ne 17) by decide +kernel) (mb_t (q := .ne) (a := 1) (b := 3) (t := 48) (by show ¬ (1 = 3); omega) ⟨by omega, by omega⟩ ⟨by omega, by omega⟩ (by decide) (by decide)) ?_
    refine jr_1 jm_271 (show jw_cd cd_271 48 = some (.iload_n 2) by decide +kernel) rfl ?_
    refine jr_1 jm_271 (F2 := (50, [some (.ref 15), some (.int (Int32.ofInt (dd))), some (.int (Int32.ofInt (e))), some (.int (Int32.ofInt (e))), none], [], ml_mk h σ)) (show jw_cd cd_271 49 = some (.istore_n 3) by decide +kernel) rfl ?_
    refine jr_1 jm_271 (show jw_cd cd_271 50 = some (.iconst 0) by decide +kernel) rfl ?_
    refine jr_1 jm_271 (F2 := (53, [some (.ref 15), some (.int (Int32.ofInt (dd))), some (.int (Int32.ofInt (e))), some (.int (Int32.ofInt (e))), some (.int (Int32.ofInt (0)))], [], ml_mk h σ)) (show jw_cd cd_271 51 = some (.istore 4) by decide +kernel) rfl ?_
    exact z1
