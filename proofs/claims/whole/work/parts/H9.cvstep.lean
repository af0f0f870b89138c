/-! ===== the class: readValue as sP says, the step of the value (printed by program: gen91.py) ===== -/
theorem cv_V_s {β : Bool} {T : Int → Int} {n : Int} {f : Nat} (ht : tOK T n) (hL : cv_L β T n f) (hO : cv_O β T n f) : cv_V β T n (f + 1) := by
  intro a m D p h κ X N ham hD hl hN hb hx hP hsc hf
  have h0 := hP.2.2.2.1
  have hp1 := hP.2.2.2.2
  have t0 : tx ([] : List Int) := ⟨by decide, fun c hc => absurd hc List.not_mem_nil⟩
  by_cases hcc : tH T n p = 91 ∨ tH T n p = 123
  · by_cases h4 : a = 4
    · subst h4
      obtain ⟨D', rfl⟩ : ∃ D', D = D' + 7 := ⟨D - 7, by omega⟩
      obtain ⟨κ', L, b, i, r1, r2, r3, r4, r5, r6, r7, r8, r9, r10⟩ := jc_valP (β := β) (d := D') (X := X) hl hN (by omega) hx hP hsc (a := 4) (by omega) (fun z => absurd z (by omega))
      have hsp : sPlain T n p = .inl p := by
        unfold sPlain
        rcases hcc with e | e
        · rw [e, if_neg (by decide), if_neg (by decide), if_neg (by decide), if_neg (by decide), if_neg (by decide)]
        · rw [e, if_neg (by decide), if_neg (by decide), if_neg (by decide), if_neg (by decide), if_neg (by decide)]
      refine ⟨κ', L, b, i, .leaf, r1, r2, ⟨r3, r4, trivial⟩, r7, r8, fun i' F' q hh => (by rw [sP_c4 hcc] at hh; cases hh), fun e hh => ?_⟩
      rw [sP_c4 hcc] at hh
      injection hh with hh
      rw [← hh]
      exact ⟨r10 p hsp, by omega, by omega⟩
    · have hpn : p < n := (tH_r ht h0).2.2.2 (by omega)
      obtain ⟨m', rfl⟩ : ∃ m', m = m' + 1 := ⟨m - 1, by omega⟩
      obtain ⟨D3, rfl⟩ : ∃ D3, D = D3 + 3 := ⟨D - 3, by omega⟩
      rcases hcc with hc | hc
      · have hP1 : cP (su κ 4 0 (p + 1)) T n (p + 1) := cP_mv hP (by omega) (by omega)
        obtain ⟨κ1, ek⟩ : ∃ κ1, κ1 = su κ 4 0 (p + 1) := ⟨_, rfl⟩
        have mk1 : mEq [4, 5, 7, 8, 15] κ κ1 := fun f hf => by rw [ek]; exact su_row (fun e => hf (by rw [e]; decide))
        have sk1 : 0 ≤ κ1 7 0 ∧ κ1 7 0 ≤ 16 := by rw [ek, su_nf (by decide)]; exact hsc
        by_cases h2 : tH T n (p + 1) = 93
        · have hr := jc_rl0A (β := β) (d := D3) (a := a) hl hN (by omega) hP1 h2
          have hp2 : p + 1 < n := (tH_r ht (by omega)).2.2.2 (by rw [h2]; decide)
          have e0 := sP_91n (f := f) hc h4 h2
          refine ⟨_, [.inr (5, [.int (Int32.ofInt (5)), .int (Int32.ofInt (0)), .ref (jx_big + 9), .ref (N + 1), .ref (N + 2), .int (Int32.ofInt (0))]), .inl (4, 0, fun _ => .null), .inl (4, 0, fun _ => .null)], N, (5, 0, [], []), .leaf, jc_val91 hl hP (by omega) hc hr, bL_done (by rw [List.length_append]; show h.length + 3 ≤ _; omega) (bL_new (rm := 0) hl hN hx (by decide) (by decide)), ⟨⟨by show (0 : Int) ≤ 5; decide, by show (5 : Int) ≤ 6; decide, ⟨by show -2147483648 ≤ (0 : Int); decide, by show (0 : Int) ≤ 2147483647; decide⟩, t0, t0⟩, rfl, trivial⟩, fun f hf => (su_row (fun e => hf (by rw [e]; decide))).trans (by rw [← ek]; exact mk1 f hf), by rw [su_nf (by decide), ← ek]; exact sk1, fun i' F' q hh => ?_, fun e hh => (by rw [e0] at hh; cases hh)⟩
          rw [e0] at hh
          injection hh with hh
          injection hh with z1 hh
          injection hh with z2 z3
          rw [← z3]
          exact ⟨z1, z2, cP_mv hP1 (by omega) (by omega), by show (3 : Int) ≤ _; omega, by show (6 : Int) ≤ _; omega⟩
        · rw [← ek] at hP1
          have hlen : (h ++ [.inr (5, [.int (Int32.ofInt (5)), .int (Int32.ofInt (0)), .ref (jx_big + 9), .ref (N + 1), .ref (N + 2), .int (Int32.ofInt (0))]), .inl (4, 0, fun _ => .null), .inl (4, 0, fun _ => .null)] : jx_H).length = N + 3 := by rw [List.length_append]; show h.length + 3 = _; omega
          have hvol : cvol (h ++ [.inr (5, [.int (Int32.ofInt (5)), .int (Int32.ofInt (0)), .ref (jx_big + 9), .ref (N + 1), .ref (N + 2), .int (Int32.ofInt (0))]), .inl (4, 0, fun _ => .null), .inl (4, 0, fun _ => .null)]) = cvol h + 6 := cvol_app _ _
          obtain ⟨κ', h', ka', ia', kc', ic', fr', gr', E', q1, q2, q3, q4, q5, q6, q7, q8, q9, q10⟩ := hL a m' (D3 + 1) (p + 1) (h ++ [.inr (5, [.int (Int32.ofInt (5)), .int (Int32.ofInt (0)), .ref (jx_big + 9), .ref (N + 1), .ref (N + 2), .int (Int32.ofInt (0))]), .inl (4, 0, fun _ => .null), .inl (4, 0, fun _ => .null)]) κ1 X (N + 3) N N (N + 1) (N + 2) 0 0 0 _ _ .leaf (by omega) (by omega) (by omega) hlen (by omega) hP1 sk1 (by omega) (bL_new (rm := 0) hl hN hx (by decide) (by decide)) trivial ⟨Nat.zero_le _, Nat.zero_le _⟩ (Nat.le_refl 0) (by omega)
          have hr := jc_val91 (β := β) (d := D3 + 1) hl hP (a := a) (by omega) hc (by rw [← ek]; exact jc_rl0B hl hN (by omega) hP1 h2 q1)
          obtain ⟨L, eL⟩ := ext_of (h := h) (h' := h') (by omega) (fun c y hy => q5 c y (by have := (List.getElem?_eq_some_iff.mp hy).1; omega) (by rw [List.getElem?_append_left (List.getElem?_eq_some_iff.mp hy).1]; exact hy))
          have eln : h'.length = N + L.length := by rw [eL, List.length_append, hN]
          have evl : cvol h' = cvol h + cvol L := by rw [eL, cvol_app]
          have hfin : h'.length ≤ 3000000000 := by
            cases hs : sP T n f (.inr (false, a, .leaf, p + 1)) with
            | inl e =>
              have := (q10 e hs).2.1
              omega
            | inr x =>
              obtain ⟨w, F, q⟩ := x
              obtain ⟨y1, y2, y3, y4⟩ := q9 w F q hs
              have := y2.2.2.2.2
              omega
          have hdone := bL_done (s := []) hfin q2
          rw [eL] at hr hdone
          have hmq : mEq [4, 5, 7, 8, 15] κ κ' := fun f hf => (q7 f hf).trans (mk1 f hf)
          have fl0 : fsz (.leaf : FT) = 0 := rfl
          refine ⟨κ', L, N, (5, 0, [], []), E', hr, hdone, ⟨⟨by show (0 : Int) ≤ 5; decide, by show (5 : Int) ≤ 6; decide, ⟨by show -2147483648 ≤ (0 : Int); decide, by show (0 : Int) ≤ 2147483647; decide⟩, t0, t0⟩, rfl, q3⟩, hmq, q8, fun i' F' q hh => ?_, fun e hh => ?_⟩
          · cases hs : sP T n f (.inr (false, a, .leaf, p + 1)) with
            | inl e => rw [sP_91e hc h4 h2 hs] at hh; cases hh
            | inr x =>
              obtain ⟨w, F, q'⟩ := x
              rw [sP_91k hc h4 h2 hs] at hh
              injection hh with hh
              injection hh with z1 hh
              injection hh with z2 z3
              obtain ⟨y1, y2, y3, y4⟩ := q9 w F q' hs
              rw [← z3]
              exact ⟨z1, y1.trans z2, y2, by omega, by omega⟩
          · cases hs : sP T n f (.inr (false, a, .leaf, p + 1)) with
            | inr x =>
              obtain ⟨w, F, q'⟩ := x
              rw [sP_91k hc h4 h2 hs] at hh
              cases hh
            | inl e' =>
              rw [sP_91e hc h4 h2 hs] at hh
              injection hh with hh
              obtain ⟨y1, y2, y3⟩ := q10 e' hs
              rw [← hh]
              exact ⟨y1, by omega, by omega⟩
      · have hP1 : cP (su κ 4 0 (p + 1)) T n (p + 1) := cP_mv hP (by omega) (by omega)
        obtain ⟨κ1, ek⟩ : ∃ κ1, κ1 = su κ 4 0 (p + 1) := ⟨_, rfl⟩
        have mk1 : mEq [4, 5, 7, 8, 15] κ κ1 := fun f hf => by rw [ek]; exact su_row (fun e => hf (by rw [e]; decide))
        have sk1 : 0 ≤ κ1 7 0 ∧ κ1 7 0 ≤ 16 := by rw [ek, su_nf (by decide)]; exact hsc
        by_cases h2 : tH T n (p + 1) = 125
        · have hr := jc_ro0A (β := β) (d := D3) (a := a) hl hN (by omega) hP1 h2
          have hp2 : p + 1 < n := (tH_r ht (by omega)).2.2.2 (by rw [h2]; decide)
          have e0 := sP_123n (f := f) hc h4 h2
          refine ⟨_, [.inr (5, [.int (Int32.ofInt (6)), .int (Int32.ofInt (0)), .ref (jx_big + 9), .ref (N + 1), .ref (N + 2), .int (Int32.ofInt (0))]), .inl (4, 0, fun _ => .null), .inl (4, 0, fun _ => .null)], N, (6, 0, [], []), .leaf, jc_val123 hl hP (by omega) hc hr, bL_done (by rw [List.length_append]; show h.length + 3 ≤ _; omega) (bL_new6 hl hN hx), ⟨⟨by show (0 : Int) ≤ 6; decide, by show (6 : Int) ≤ 6; decide, ⟨by show -2147483648 ≤ (0 : Int); decide, by show (0 : Int) ≤ 2147483647; decide⟩, t0, t0⟩, rfl, trivial⟩, fun f hf => (su_row (fun e => hf (by rw [e]; decide))).trans (by rw [← ek]; exact mk1 f hf), by rw [su_nf (by decide), ← ek]; exact sk1, fun i' F' q hh => ?_, fun e hh => (by rw [e0] at hh; cases hh)⟩
          rw [e0] at hh
          injection hh with hh
          injection hh with z1 hh
          injection hh with z2 z3
          rw [← z3]
          exact ⟨z1, z2, cP_mv hP1 (by omega) (by omega), by show (3 : Int) ≤ _; omega, by show (6 : Int) ≤ _; omega⟩
        · rw [← ek] at hP1
          have hlen : (h ++ [.inr (5, [.int (Int32.ofInt (6)), .int (Int32.ofInt (0)), .ref (jx_big + 9), .ref (N + 1), .ref (N + 2), .int (Int32.ofInt (0))]), .inl (4, 0, fun _ => .null), .inl (4, 0, fun _ => .null)] : jx_H).length = N + 3 := by rw [List.length_append]; show h.length + 3 = _; omega
          have hvol : cvol (h ++ [.inr (5, [.int (Int32.ofInt (6)), .int (Int32.ofInt (0)), .ref (jx_big + 9), .ref (N + 1), .ref (N + 2), .int (Int32.ofInt (0))]), .inl (4, 0, fun _ => .null), .inl (4, 0, fun _ => .null)]) = cvol h + 6 := cvol_app _ _
          obtain ⟨κ', h', ka', ia', kc', ic', fr', gr', E', q1, q2, q3, q4, q5, q6, q7, q8, q9, q10⟩ := hO a m' (D3 + 1) (p + 1) (h ++ [.inr (5, [.int (Int32.ofInt (6)), .int (Int32.ofInt (0)), .ref (jx_big + 9), .ref (N + 1), .ref (N + 2), .int (Int32.ofInt (0))]), .inl (4, 0, fun _ => .null), .inl (4, 0, fun _ => .null)]) κ1 X (N + 3) N N (N + 1) (N + 2) 0 0 0 _ _ .leaf none (by omega) (by omega) (by omega) hlen (by omega) hP1 sk1 (by omega) (bL_new6 hl hN hx) trivial ⟨Nat.zero_le _, Nat.zero_le _⟩ (Nat.le_refl 0) (by omega)
          have hr := jc_val123 (β := β) (d := D3 + 1) hl hP (a := a) (by omega) hc (by rw [← ek]; exact jc_ro0B hl hN (by omega) hP1 h2 q1)
          obtain ⟨L, eL⟩ := ext_of (h := h) (h' := h') (by omega) (fun c y hy => q5 c y (by have := (List.getElem?_eq_some_iff.mp hy).1; omega) (by rw [List.getElem?_append_left (List.getElem?_eq_some_iff.mp hy).1]; exact hy))
          have eln : h'.length = N + L.length := by rw [eL, List.length_append, hN]
          have evl : cvol h' = cvol h + cvol L := by rw [eL, cvol_app]
          have hfin : h'.length ≤ 3000000000 := by
            cases hs : sP T n f (.inr (true, a, .leaf, p + 1)) with
            | inl e =>
              have := (q10 e hs).2.1
              omega
            | inr x =>
              obtain ⟨w, F, q⟩ := x
              obtain ⟨y1, y2, y3, y4⟩ := q9 w F q hs
              have := y2.2.2.2.2
              omega
          have hdone := bL_done (s := []) hfin q2
          rw [eL] at hr hdone
          have hmq : mEq [4, 5, 7, 8, 15] κ κ' := fun f hf => (q7 f hf).trans (mk1 f hf)
          have fl0 : fsz (.leaf : FT) = 0 := rfl
          refine ⟨κ', L, N, (6, 0, [], []), E', hr, hdone, ⟨⟨by show (0 : Int) ≤ 6; decide, by show (6 : Int) ≤ 6; decide, ⟨by show -2147483648 ≤ (0 : Int); decide, by show (0 : Int) ≤ 2147483647; decide⟩, t0, t0⟩, rfl, q3⟩, hmq, q8, fun i' F' q hh => ?_, fun e hh => ?_⟩
          · cases hs : sP T n f (.inr (true, a, .leaf, p + 1)) with
            | inl e => rw [sP_123e hc h4 h2 hs] at hh; cases hh
            | inr x =>
              obtain ⟨w, F, q'⟩ := x
              rw [sP_123k hc h4 h2 hs] at hh
              injection hh with hh
              injection hh with z1 hh
              injection hh with z2 z3
              obtain ⟨y1, y2, y3, y4⟩ := q9 w F q' hs
              rw [← z3]
              exact ⟨z1, y1.trans z2, y2, by omega, by omega⟩
          · cases hs : sP T n f (.inr (true, a, .leaf, p + 1)) with
            | inr x =>
              obtain ⟨w, F, q'⟩ := x
              rw [sP_123k hc h4 h2 hs] at hh
              cases hh
            | inl e' =>
              rw [sP_123e hc h4 h2 hs] at hh
              injection hh with hh
              obtain ⟨y1, y2, y3⟩ := q10 e' hs
              rw [← hh]
              exact ⟨y1, by omega, by omega⟩
  · obtain ⟨D', rfl⟩ : ∃ D', D = D' + 7 := ⟨D - 7, by omega⟩
    obtain ⟨κ', L, b, i, r1, r2, r3, r4, r5, r6, r7, r8, r9, r10⟩ := jc_valP (β := β) (d := D') (X := X) hl hN (by omega) hx hP hsc (a := a) (by omega) (fun z => by omega)
    refine ⟨κ', L, b, i, .leaf, r1, r2, ⟨r3, r4, trivial⟩, r7, r8, fun i' F' q hh => ?_, fun e hh => ?_⟩
    · have hq := ((sP_ok ht (f + 1)).1 a p h0 hp1).1 i' F' q hh
      cases hs : sPlain T n p with
      | inl e => rw [sP_ple hcc hs] at hh; cases hh
      | inr x =>
        obtain ⟨i2, q2⟩ := x
        rw [sP_plk hcc hs] at hh
        injection hh with hh
        injection hh with z1 hh
        injection hh with z2 z3
        obtain ⟨y1, y2⟩ := r9 i2 q2 hs
        rw [← z3] at hq ⊢
        exact ⟨y1.trans z1, z2, y2, by omega, by omega⟩
    · cases hs : sPlain T n p with
      | inr x =>
        obtain ⟨i2, q2⟩ := x
        rw [sP_plk hcc hs] at hh
        cases hh
      | inl e' =>
        rw [sP_ple hcc hs] at hh
        injection hh with hh
        rw [← hh]
        exact ⟨r10 e' hs, by omega, by omega⟩
